theorem dX8_whole_6 : decode cX8_whole 6 = .ok (.iload_n 1, 1) := by decide +kernel
theorem dX8_whole_7 : decode cX8_whole 7 = .ok (.putfield 131, 3) := by decide +kernel
theorem dX8_whole_10 : decode cX8_whole 10 = .ok (.return_, 1) := by decide +kernel
theorem dX8_row_0 : decode cX8_row 0 = .ok (.aload_n 0, 1) := by decide +kernel
theorem dX8_row_1 : decode cX8_row 1 = .ok (.iconst 1, 1) := by decide +kernel
theorem dX8_row_2 : decode cX8_row 2 = .ok (.putfield 128, 3) := by decide +kernel
theorem dX8_row_5 : decode cX8_row 5 = .ok (.aload_n 0, 1) := by decide +kernel
theorem dX8_row_6 : decode cX8_row 6 = .ok (.iload_n 1, 1) := by decide +kernel
theorem dX8_row_7 : decode cX8_row 7 = .ok (.putfield 131, 3) := by decide +kernel
theorem dX8_row_10 : decode cX8_row 10 = .ok (.aload_n 0, 1) := by decide +kernel
theorem dX8_row_11 : decode cX8_row 11 = .ok (.iconst 3, 1) := by decide +kernel
theorem dX8_row_12 : decode cX8_row 12 = .ok (.aload_n 0, 1) := by decide +kernel
theorem dX8_row_13 : decode cX8_row 13 = .ok (.getfield 144, 3) := by decide +kernel
theorem dX8_row_16 : decode cX8_row 16 = .ok (.iadd, 1) := by decide +kernel
theorem dX8_row_17 : decode cX8_row 17 = .ok (.putfield 134, 3) := by decide +kernel
theorem dX8_row_20 : decode cX8_row 20 = .ok (.aload_n 0, 1) := by decide +kernel
theorem dX8_row_21 : decode cX8_row 21 = .ok (.dup, 1) := by decide +kernel
theorem dX8_row_22 : decode cX8_row 22 = .ok (.getfield 144, 3) := by decide +kernel
theorem dX8_row_25 : decode cX8_row 25 = .ok (.iconst 1, 1) := by decide +kernel
theorem dX8_row_26 : decode cX8_row 26 = .ok (.iadd, 1) := by decide +kernel
theorem dX8_row_27 : decode cX8_row 27 = .ok (.putfield 144, 3) := by decide +kernel
theorem dX8_row_30 : decode cX8_row 30 = .ok (.bipush 16, 2) := by decide +kernel
theorem dX8_row_32 : decode cX8_row 32 = .ok (.aload_n 0, 1) := by decide +kernel
theorem dX8_row_33 : decode cX8_row 33 = .ok (.getfield 134, 3) := by decide +kernel
theorem dX8_row_36 : decode cX8_row 36 = .ok (.imul, 1) := by decide +kernel
theorem dX8_row_37 : decode cX8_row 37 = .ok (.ireturn, 1) := by decide +kernel
theorem dX8_end_0 : decode cX8_end 0 = .ok (.iconst 3, 1) := by decide +kernel
theorem dX8_end_1 : decode cX8_end 1 = .ok (.iload_n 2, 1) := by decide +kernel
theorem dX8_end_2 : decode cX8_end 2 = .ok (.imul, 1) := by decide +kernel
theorem dX8_end_3 : decode cX8_end 3 = .ok (.istore_n 3, 1) := by decide +kernel
theorem dX8_end_4 : decode cX8_end 4 = .ok (.aload_n 0, 1) := by decide +kernel
theorem dX8_end_5 : decode cX8_end 5 = .ok (.getfield 7, 3) := by decide +kernel
theorem dX8_end_8 : decode cX8_end 8 = .ok (.iload_n 1, 1) := by decide +kernel
theorem dX8_end_9 : decode cX8_end 9 = .ok (.iaload, 1) := by decide +kernel
theorem dX8_end_10 : decode cX8_end 10 = .ok (.istore 4, 2) := by decide +kernel
theorem dX8_end_12 : decode cX8_end 12 = .ok (.iload 4, 2) := by decide +kernel
theorem dX8_end_14 : decode cX8_end 14 = .ok (.ifCond .ne 16, 3) := by decide +kernel
theorem dX8_end_17 : decode cX8_end 17 = .ok (.aload_n 0, 1) := by decide +kernel
theorem dX8_end_18 : decode cX8_end 18 = .ok (.aload_n 0, 1) := by decide +kernel
theorem dX8_end_19 : decode cX8_end 19 = .ok (.getfield 22, 3) := by decide +kernel
theorem dX8_end_22 : decode cX8_end 22 = .ok (.iload_n 1, 1) := by decide +kernel
theorem dX8_end_23 : decode cX8_end 23 = .ok (.iaload, 1) := by decide +kernel
theorem dX8_end_24 : decode cX8_end 24 = .ok (.invokevirtual 147, 3) := by decide +kernel
theorem dX8_end_27 : decode cX8_end 27 = .ok (.goto 142, 3) := by decide +kernel
theorem dX8_end_30 : decode cX8_end 30 = .ok (.iload 4, 2) := by decide +kernel
theorem dX8_end_32 : decode cX8_end 32 = .ok (.iconst 1, 1) := by decide +kernel
theorem dX8_end_33 : decode cX8_end 33 = .ok (.if_icmp .ne 16, 3) := by decide +kernel
theorem dX8_end_36 : decode cX8_end 36 = .ok (.aload_n 0, 1) := by decide +kernel
theorem dX8_end_37 : decode cX8_end 37 = .ok (.aload_n 0, 1) := by decide +kernel
theorem dX8_end_38 : decode cX8_end 38 = .ok (.getfield 22, 3) := by decide +kernel
theorem dX8_end_41 : decode cX8_end 41 = .ok (.iload_n 1, 1) := by decide +kernel
theorem dX8_end_42 : decode cX8_end 42 = .ok (.iaload, 1) := by decide +kernel
theorem dX8_end_43 : decode cX8_end 43 = .ok (.invokevirtual 149, 3) := by decide +kernel
theorem dX8_end_46 : decode cX8_end 46 = .ok (.goto 123, 3) := by decide +kernel
theorem dX8_end_49 : decode cX8_end 49 = .ok (.iload 4, 2) := by decide +kernel
theorem dX8_end_51 : decode cX8_end 51 = .ok (.iconst 2, 1) := by decide +kernel
theorem dX8_end_52 : decode cX8_end 52 = .ok (.if_icmp .ne 11, 3) := by decide +kernel
theorem dX8_end_55 : decode cX8_end 55 = .ok (.aload_n 0, 1) := by decide +kernel
theorem dX8_end_56 : decode cX8_end 56 = .ok (.iconst 2, 1) := by decide +kernel
theorem dX8_end_57 : decode cX8_end 57 = .ok (.putfield 128, 3) := by decide +kernel
theorem dX8_end_60 : decode cX8_end 60 = .ok (.goto 109, 3) := by decide +kernel
theorem dX8_end_63 : decode cX8_end 63 = .ok (.iload 4, 2) := by decide +kernel
theorem dX8_end_65 : decode cX8_end 65 = .ok (.bipush 9, 2) := by decide +kernel
theorem dX8_end_67 : decode cX8_end 67 = .ok (.if_icmp .ge 13, 3) := by decide +kernel
theorem dX8_end_70 : decode cX8_end 70 = .ok (.aload_n 0, 1) := by decide +kernel
theorem dX8_end_71 : decode cX8_end 71 = .ok (.iload 4, 2) := by decide +kernel
theorem dX8_end_73 : decode cX8_end 73 = .ok (.iload_n 3, 1) := by decide +kernel
theorem dX8_end_74 : decode cX8_end 74 = .ok (.invokevirtual 152, 3) := by decide +kernel
theorem dX8_end_77 : decode cX8_end 77 = .ok (.goto 92, 3) := by decide +kernel
theorem dX8_end_80 : decode cX8_end 80 = .ok (.iload 4, 2) := by decide +kernel
theorem dX8_end_82 : decode cX8_end 82 = .ok (.bipush 9, 2) := by decide +kernel
theorem dX8_end_84 : decode cX8_end 84 = .ok (.if_icmp .ne 11, 3) := by decide +kernel
theorem dX8_end_87 : decode cX8_end 87 = .ok (.aload_n 0, 1) := by decide +kernel
theorem dX8_end_88 : decode cX8_end 88 = .ok (.iload_n 3, 1) := by decide +kernel
theorem dX8_end_89 : decode cX8_end 89 = .ok (.invokevirtual 155, 3) := by decide +kernel
theorem dX8_end_92 : decode cX8_end 92 = .ok (.goto 77, 3) := by decide +kernel
theorem dX8_end_95 : decode cX8_end 95 = .ok (.iload 4, 2) := by decide +kernel
theorem dX8_end_97 : decode cX8_end 97 = .ok (.bipush 19, 2) := by decide +kernel
theorem dX8_end_99 : decode cX8_end 99 = .ok (.if_icmp .ne 42, 3) := by decide +kernel
theorem dX8_end_102 : decode cX8_end 102 = .ok (.aload_n 0, 1) := by decide +kernel
theorem dX8_end_103 : decode cX8_end 103 = .ok (.aload_n 0, 1) := by decide +kernel
theorem dX8_end_104 : decode cX8_end 104 = .ok (.getfield 40, 3) := by decide +kernel
theorem dX8_end_107 : decode cX8_end 107 = .ok (.iload_n 3, 1) := by decide +kernel
theorem dX8_end_108 : decode cX8_end 108 = .ok (.iconst 1, 1) := by decide +kernel
theorem dX8_end_109 : decode cX8_end 109 = .ok (.iadd, 1) := by decide +kernel
theorem dX8_end_110 : decode cX8_end 110 = .ok (.iaload, 1) := by decide +kernel
theorem dX8_end_111 : decode cX8_end 111 = .ok (.putfield 128, 3) := by decide +kernel
theorem dX8_end_114 : decode cX8_end 114 = .ok (.aload_n 0, 1) := by decide +kernel
theorem dX8_end_115 : decode cX8_end 115 = .ok (.aload_n 0, 1) := by decide +kernel
theorem dX8_end_116 : decode cX8_end 116 = .ok (.getfield 43, 3) := by decide +kernel
theorem dX8_end_119 : decode cX8_end 119 = .ok (.iload_n 3, 1) := by decide +kernel
theorem dX8_end_120 : decode cX8_end 120 = .ok (.iconst 1, 1) := by decide +kernel
theorem dX8_end_121 : decode cX8_end 121 = .ok (.iadd, 1) := by decide +kernel
theorem dX8_end_122 : decode cX8_end 122 = .ok (.iaload, 1) := by decide +kernel
theorem dX8_end_123 : decode cX8_end 123 = .ok (.putfield 131, 3) := by decide +kernel
theorem dX8_end_126 : decode cX8_end 126 = .ok (.aload_n 0, 1) := by decide +kernel
theorem dX8_end_127 : decode cX8_end 127 = .ok (.aload_n 0, 1) := by decide +kernel
theorem dX8_end_128 : decode cX8_end 128 = .ok (.getfield 46, 3) := by decide +kernel
theorem dX8_end_131 : decode cX8_end 131 = .ok (.iload_n 3, 1) := by decide +kernel
theorem dX8_end_132 : decode cX8_end 132 = .ok (.iconst 1, 1) := by decide +kernel
theorem dX8_end_133 : decode cX8_end 133 = .ok (.iadd, 1) := by decide +kernel
theorem dX8_end_134 : decode cX8_end 134 = .ok (.iaload, 1) := by decide +kernel
theorem dX8_end_135 : decode cX8_end 135 = .ok (.putfield 134, 3) := by decide +kernel
theorem dX8_end_138 : decode cX8_end 138 = .ok (.goto 31, 3) := by decide +kernel
theorem dX8_end_141 : decode cX8_end 141 = .ok (.iload 4, 2) := by decide +kernel
theorem dX8_end_143 : decode cX8_end 143 = .ok (.bipush 20, 2) := by decide +kernel
theorem dX8_end_145 : decode cX8_end 145 = .ok (.if_icmp .ne 17, 3) := by decide +kernel
theorem dX8_end_148 : decode cX8_end 148 = .ok (.aload_n 0, 1) := by decide +kernel
theorem dX8_end_149 : decode cX8_end 149 = .ok (.iload_n 3, 1) := by decide +kernel
theorem dX8_end_150 : decode cX8_end 150 = .ok (.aload_n 0, 1) := by decide +kernel
theorem dX8_end_151 : decode cX8_end 151 = .ok (.getfield 37, 3) := by decide +kernel
theorem dX8_end_154 : decode cX8_end 154 = .ok (.iload_n 2, 1) := by decide +kernel
theorem dX8_end_155 : decode cX8_end 155 = .ok (.iaload, 1) := by decide +kernel
theorem dX8_end_156 : decode cX8_end 156 = .ok (.invokevirtual 158, 3) := by decide +kernel
theorem dX8_end_159 : decode cX8_end 159 = .ok (.goto 10, 3) := by decide +kernel
theorem dX8_end_162 : decode cX8_end 162 = .ok (.aload_n 0, 1) := by decide +kernel
theorem dX8_end_163 : decode cX8_end 163 = .ok (.iload 4, 2) := by decide +kernel
theorem dX8_end_165 : decode cX8_end 165 = .ok (.iload_n 3, 1) := by decide +kernel
theorem dX8_end_166 : decode cX8_end 166 = .ok (.invokevirtual 161, 3) := by decide +kernel
theorem dX8_end_169 : decode cX8_end 169 = .ok (.return_, 1) := by decide +kernel
theorem dX8_input_0 : decode cX8_input 0 = .ok (.aload_n 0, 1) := by decide +kernel
theorem dX8_input_1 : decode cX8_input 1 = .ok (.getfield 25, 3) := by decide +kernel
theorem dX8_input_4 : decode cX8_input 4 = .ok (.iload_n 1, 1) := by decide +kernel
theorem dX8_input_5 : decode cX8_input 5 = .ok (.iaload, 1) := by decide +kernel
theorem dX8_input_6 : decode cX8_input 6 = .ok (.ifCond .ge 9, 3) := by decide +kernel
theorem dX8_input_9 : decode cX8_input 9 = .ok (.aload_n 0, 1) := by decide +kernel
theorem dX8_input_10 : decode cX8_input 10 = .ok (.iconst 2, 1) := by decide +kernel
theorem dX8_input_11 : decode cX8_input 11 = .ok (.putfield 128, 3) := by decide +kernel
theorem dX8_input_14 : decode cX8_input 14 = .ok (.return_, 1) := by decide +kernel
theorem dX8_input_15 : decode cX8_input 15 = .ok (.aload_n 0, 1) := by decide +kernel
theorem dX8_input_16 : decode cX8_input 16 = .ok (.aload_n 0, 1) := by decide +kernel
theorem dX8_input_17 : decode cX8_input 17 = .ok (.getfield 25, 3) := by decide +kernel
theorem dX8_input_20 : decode cX8_input 20 = .ok (.iload_n 1, 1) := by decide +kernel
theorem dX8_input_21 : decode cX8_input 21 = .ok (.iaload, 1) := by decide +kernel
theorem dX8_input_22 : decode cX8_input 22 = .ok (.putfield 128, 3) := by decide +kernel
theorem dX8_input_25 : decode cX8_input 25 = .ok (.aload_n 0, 1) := by decide +kernel
theorem dX8_input_26 : decode cX8_input 26 = .ok (.aload_n 0, 1) := by decide +kernel
theorem dX8_input_27 : decode cX8_input 27 = .ok (.getfield 28, 3) := by decide +kernel
theorem dX8_input_30 : decode cX8_input 30 = .ok (.iload_n 1, 1) := by decide +kernel
theorem dX8_input_31 : decode cX8_input 31 = .ok (.iaload, 1) := by decide +kernel
theorem dX8_input_32 : decode cX8_input 32 = .ok (.putfield 131, 3) := by decide +kernel
theorem dX8_input_35 : decode cX8_input 35 = .ok (.aload_n 0, 1) := by decide +kernel
theorem dX8_input_36 : decode cX8_input 36 = .ok (.iload_n 1, 1) := by decide +kernel
theorem dX8_input_37 : decode cX8_input 37 = .ok (.putfield 134, 3) := by decide +kernel
theorem dX8_input_40 : decode cX8_input 40 = .ok (.return_, 1) := by decide +kernel
theorem dX8_numbers_0 : decode cX8_numbers 0 = .ok (.aload_n 0, 1) := by decide +kernel
theorem dX8_numbers_1 : decode cX8_numbers 1 = .ok (.aload_n 0, 1) := by decide +kernel
theorem dX8_numbers_2 : decode cX8_numbers 2 = .ok (.iload_n 2, 1) := by decide +kernel
theorem dX8_numbers_3 : decode cX8_numbers 3 = .ok (.iconst 0, 1) := by decide +kernel
theorem dX8_numbers_4 : decode cX8_numbers 4 = .ok (.invokevirtual 141, 3) := by decide +kernel
theorem dX8_numbers_7 : decode cX8_numbers 7 = .ok (.putfield 110, 3) := by decide +kernel
theorem dX8_numbers_10 : decode cX8_numbers 10 = .ok (.aload_n 0, 1) := by decide +kernel
theorem dX8_numbers_11 : decode cX8_numbers 11 = .ok (.aload_n 0, 1) := by decide +kernel
theorem dX8_numbers_12 : decode cX8_numbers 12 = .ok (.getfield 110, 3) := by decide +kernel
theorem dX8_numbers_15 : decode cX8_numbers 15 = .ok (.ifCond .eq 10, 3) := by decide +kernel
theorem dX8_numbers_18 : decode cX8_numbers 18 = .ok (.aload_n 0, 1) := by decide +kernel
theorem dX8_numbers_19 : decode cX8_numbers 19 = .ok (.getfield 110, 3) := by decide +kernel
theorem dX8_numbers_22 : decode cX8_numbers 22 = .ok (.goto 11, 3) := by decide +kernel
theorem dX8_numbers_25 : decode cX8_numbers 25 = .ok (.aload_n 0, 1) := by decide +kernel
theorem dX8_numbers_26 : decode cX8_numbers 26 = .ok (.iload_n 2, 1) := by decide +kernel
theorem dX8_numbers_27 : decode cX8_numbers 27 = .ok (.iconst 1, 1) := by decide +kernel
theorem dX8_numbers_28 : decode cX8_numbers 28 = .ok (.iadd, 1) := by decide +kernel
theorem dX8_numbers_29 : decode cX8_numbers 29 = .ok (.iconst 0, 1) := by decide +kernel
theorem dX8_numbers_30 : decode cX8_numbers 30 = .ok (.invokevirtual 141, 3) := by decide +kernel
theorem dX8_numbers_33 : decode cX8_numbers 33 = .ok (.putfield 110, 3) := by decide +kernel
theorem dX8_numbers_36 : decode cX8_numbers 36 = .ok (.aload_n 0, 1) := by decide +kernel
theorem dX8_numbers_37 : decode cX8_numbers 37 = .ok (.aload_n 0, 1) := by decide +kernel
theorem dX8_numbers_38 : decode cX8_numbers 38 = .ok (.getfield 110, 3) := by decide +kernel
theorem dX8_numbers_41 : decode cX8_numbers 41 = .ok (.ifCond .eq 10, 3) := by decide +kernel
theorem dX8_numbers_44 : decode cX8_numbers 44 = .ok (.aload_n 0, 1) := by decide +kernel
theorem dX8_numbers_45 : decode cX8_numbers 45 = .ok (.getfield 110, 3) := by decide +kernel
theorem dX8_numbers_48 : decode cX8_numbers 48 = .ok (.goto 31, 3) := by decide +kernel
theorem dX8_numbers_51 : decode cX8_numbers 51 = .ok (.iload_n 1, 1) := by decide +kernel
theorem dX8_numbers_52 : decode cX8_numbers 52 = .ok (.bipush 6, 2) := by decide +kernel
theorem dX8_numbers_54 : decode cX8_numbers 54 = .ok (.if_icmp .eq 9, 3) := by decide +kernel
theorem dX8_numbers_57 : decode cX8_numbers 57 = .ok (.iload_n 1, 1) := by decide +kernel
theorem dX8_numbers_58 : decode cX8_numbers 58 = .ok (.bipush 7, 2) := by decide +kernel
theorem dX8_numbers_60 : decode cX8_numbers 60 = .ok (.if_icmp .ne 18, 3) := by decide +kernel
theorem dX8_numbers_63 : decode cX8_numbers 63 = .ok (.aload_n 0, 1) := by decide +kernel
theorem dX8_numbers_64 : decode cX8_numbers 64 = .ok (.getfield 43, 3) := by decide +kernel
theorem dX8_numbers_67 : decode cX8_numbers 67 = .ok (.iload_n 2, 1) := by decide +kernel
theorem dX8_numbers_68 : decode cX8_numbers 68 = .ok (.iconst 1, 1) := by decide +kernel
theorem dX8_numbers_69 : decode cX8_numbers 69 = .ok (.iadd, 1) := by decide +kernel
theorem dX8_numbers_70 : decode cX8_numbers 70 = .ok (.iaload, 1) := by decide +kernel
theorem dX8_numbers_71 : decode cX8_numbers 71 = .ok (.ifCond .ne 7, 3) := by decide +kernel
theorem dX8_numbers_74 : decode cX8_numbers 74 = .ok (.iconst 5, 1) := by decide +kernel
theorem dX8_numbers_75 : decode cX8_numbers 75 = .ok (.goto 4, 3) := by decide +kernel
theorem dX8_numbers_78 : decode cX8_numbers 78 = .ok (.iconst 0, 1) := by decide +kernel
theorem dX8_numbers_79 : decode cX8_numbers 79 = .ok (.putfield 110, 3) := by decide +kernel
theorem dX8_numbers_82 : decode cX8_numbers 82 = .ok (.aload_n 0, 1) := by decide +kernel
theorem dX8_numbers_83 : decode cX8_numbers 83 = .ok (.getfield 110, 3) := by decide +kernel
theorem dX8_numbers_86 : decode cX8_numbers 86 = .ok (.ifCond .eq 4, 3) := by decide +kernel
theorem dX8_numbers_89 : decode cX8_numbers 89 = .ok (.return_, 1) := by decide +kernel
theorem dX8_numbers_90 : decode cX8_numbers 90 = .ok (.aload_n 0, 1) := by decide +kernel
theorem dX8_numbers_91 : decode cX8_numbers 91 = .ok (.getfield 43, 3) := by decide +kernel
theorem dX8_numbers_94 : decode cX8_numbers 94 = .ok (.iload_n 2, 1) := by decide +kernel
theorem dX8_numbers_95 : decode cX8_numbers 95 = .ok (.iaload, 1) := by decide +kernel
theorem dX8_numbers_96 : decode cX8_numbers 96 = .ok (.istore_n 3, 1) := by decide +kernel
theorem dX8_numbers_97 : decode cX8_numbers 97 = .ok (.aload_n 0, 1) := by decide +kernel
theorem dX8_numbers_98 : decode cX8_numbers 98 = .ok (.getfield 43, 3) := by decide +kernel
theorem dX8_numbers_101 : decode cX8_numbers 101 = .ok (.iload_n 2, 1) := by decide +kernel
theorem dX8_numbers_102 : decode cX8_numbers 102 = .ok (.iconst 1, 1) := by decide +kernel
theorem dX8_numbers_103 : decode cX8_numbers 103 = .ok (.iadd, 1) := by decide +kernel
theorem dX8_numbers_104 : decode cX8_numbers 104 = .ok (.iaload, 1) := by decide +kernel
theorem dX8_numbers_105 : decode cX8_numbers 105 = .ok (.istore 4, 2) := by decide +kernel
theorem dX8_numbers_107 : decode cX8_numbers 107 = .ok (.aload_n 0, 1) := by decide +kernel
theorem dX8_numbers_108 : decode cX8_numbers 108 = .ok (.iload_n 1, 1) := by decide +kernel
theorem dX8_numbers_109 : decode cX8_numbers 109 = .ok (.iconst 3, 1) := by decide +kernel
theorem dX8_numbers_110 : decode cX8_numbers 110 = .ok (.if_icmp .ne 10, 3) := by decide +kernel
theorem dX8_numbers_113 : decode cX8_numbers 113 = .ok (.iload_n 3, 1) := by decide +kernel
theorem dX8_numbers_114 : decode cX8_numbers 114 = .ok (.iload 4, 2) := by decide +kernel
theorem dX8_numbers_116 : decode cX8_numbers 116 = .ok (.iadd, 1) := by decide +kernel
theorem dX8_numbers_117 : decode cX8_numbers 117 = .ok (.goto 64, 3) := by decide +kernel
theorem dX8_numbers_120 : decode cX8_numbers 120 = .ok (.iload_n 1, 1) := by decide +kernel
theorem dX8_numbers_121 : decode cX8_numbers 121 = .ok (.iconst 4, 1) := by decide +kernel
theorem dX8_numbers_122 : decode cX8_numbers 122 = .ok (.if_icmp .ne 10, 3) := by decide +kernel
theorem dX8_numbers_125 : decode cX8_numbers 125 = .ok (.iload_n 3, 1) := by decide +kernel
theorem dX8_numbers_126 : decode cX8_numbers 126 = .ok (.iload 4, 2) := by decide +kernel
theorem dX8_numbers_128 : decode cX8_numbers 128 = .ok (.isub, 1) := by decide +kernel
theorem dX8_numbers_129 : decode cX8_numbers 129 = .ok (.goto 52, 3) := by decide +kernel
theorem dX8_numbers_132 : decode cX8_numbers 132 = .ok (.iload_n 1, 1) := by decide +kernel
theorem dX8_numbers_133 : decode cX8_numbers 133 = .ok (.iconst 5, 1) := by decide +kernel
theorem dX8_numbers_134 : decode cX8_numbers 134 = .ok (.if_icmp .ne 10, 3) := by decide +kernel
theorem dX8_numbers_137 : decode cX8_numbers 137 = .ok (.iload_n 3, 1) := by decide +kernel
theorem dX8_numbers_138 : decode cX8_numbers 138 = .ok (.iload 4, 2) := by decide +kernel
theorem dX8_numbers_140 : decode cX8_numbers 140 = .ok (.imul, 1) := by decide +kernel
theorem dX8_numbers_141 : decode cX8_numbers 141 = .ok (.goto 40, 3) := by decide +kernel
theorem dX8_numbers_144 : decode cX8_numbers 144 = .ok (.iload_n 1, 1) := by decide +kernel
theorem dX8_numbers_145 : decode cX8_numbers 145 = .ok (.bipush 6, 2) := by decide +kernel
theorem dX8_numbers_147 : decode cX8_numbers 147 = .ok (.if_icmp .ne 10, 3) := by decide +kernel
theorem dX8_numbers_150 : decode cX8_numbers 150 = .ok (.iload_n 3, 1) := by decide +kernel
theorem dX8_numbers_151 : decode cX8_numbers 151 = .ok (.iload 4, 2) := by decide +kernel
theorem dX8_numbers_153 : decode cX8_numbers 153 = .ok (.idiv, 1) := by decide +kernel
theorem dX8_numbers_154 : decode cX8_numbers 154 = .ok (.goto 27, 3) := by decide +kernel
theorem dX8_numbers_157 : decode cX8_numbers 157 = .ok (.iload_n 1, 1) := by decide +kernel
theorem dX8_numbers_158 : decode cX8_numbers 158 = .ok (.bipush 7, 2) := by decide +kernel
theorem dX8_numbers_160 : decode cX8_numbers 160 = .ok (.if_icmp .ne 10, 3) := by decide +kernel
theorem dX8_numbers_163 : decode cX8_numbers 163 = .ok (.iload_n 3, 1) := by decide +kernel
theorem dX8_numbers_164 : decode cX8_numbers 164 = .ok (.iload 4, 2) := by decide +kernel
theorem dX8_numbers_166 : decode cX8_numbers 166 = .ok (.irem, 1) := by decide +kernel
theorem dX8_numbers_167 : decode cX8_numbers 167 = .ok (.goto 14, 3) := by decide +kernel
theorem dX8_numbers_170 : decode cX8_numbers 170 = .ok (.iload_n 3, 1) := by decide +kernel
theorem dX8_numbers_171 : decode cX8_numbers 171 = .ok (.iload 4, 2) := by decide +kernel
theorem dX8_numbers_173 : decode cX8_numbers 173 = .ok (.if_icmp .ge 7, 3) := by decide +kernel
theorem dX8_numbers_176 : decode cX8_numbers 176 = .ok (.iconst 1, 1) := by decide +kernel
theorem dX8_numbers_177 : decode cX8_numbers 177 = .ok (.goto 4, 3) := by decide +kernel
theorem dX8_numbers_180 : decode cX8_numbers 180 = .ok (.iconst 0, 1) := by decide +kernel
theorem dX8_numbers_181 : decode cX8_numbers 181 = .ok (.invokevirtual 149, 3) := by decide +kernel
theorem dX8_numbers_184 : decode cX8_numbers 184 = .ok (.return_, 1) := by decide +kernel
theorem dX8_like_0 : decode cX8_like 0 = .ok (.aload_n 0, 1) := by decide +kernel
theorem dX8_like_1 : decode cX8_like 1 = .ok (.aload_n 0, 1) := by decide +kernel
theorem dX8_like_2 : decode cX8_like 2 = .ok (.getfield 40, 3) := by decide +kernel
theorem dX8_like_5 : decode cX8_like 5 = .ok (.iload_n 1, 1) := by decide +kernel
theorem dX8_like_6 : decode cX8_like 6 = .ok (.iaload, 1) := by decide +kernel
theorem dX8_like_7 : decode cX8_like 7 = .ok (.iconst 2, 1) := by decide +kernel
theorem dX8_like_8 : decode cX8_like 8 = .ok (.if_icmp .ne 7, 3) := by decide +kernel
theorem dX8_like_11 : decode cX8_like 11 = .ok (.iconst 1, 1) := by decide +kernel
theorem dX8_like_12 : decode cX8_like 12 = .ok (.goto 16, 3) := by decide +kernel
theorem dX8_like_15 : decode cX8_like 15 = .ok (.aload_n 0, 1) := by decide +kernel
theorem dX8_like_16 : decode cX8_like 16 = .ok (.iload_n 1, 1) := by decide +kernel
theorem dX8_like_17 : decode cX8_like 17 = .ok (.iconst 1, 1) := by decide +kernel
theorem dX8_like_18 : decode cX8_like 18 = .ok (.iadd, 1) := by decide +kernel
theorem dX8_like_19 : decode cX8_like 19 = .ok (.aload_n 0, 1) := by decide +kernel
theorem dX8_like_20 : decode cX8_like 20 = .ok (.getfield 40, 3) := by decide +kernel
theorem dX8_like_23 : decode cX8_like 23 = .ok (.iload_n 1, 1) := by decide +kernel
theorem dX8_like_24 : decode cX8_like 24 = .ok (.iaload, 1) := by decide +kernel
theorem dX8_like_25 : decode cX8_like 25 = .ok (.invokevirtual 141, 3) := by decide +kernel
theorem dX8_like_28 : decode cX8_like 28 = .ok (.putfield 110, 3) := by decide +kernel
theorem dX8_like_31 : decode cX8_like 31 = .ok (.aload_n 0, 1) := by decide +kernel
theorem dX8_like_32 : decode cX8_like 32 = .ok (.getfield 110, 3) := by decide +kernel
theorem dX8_like_35 : decode cX8_like 35 = .ok (.ifCond .eq 4, 3) := by decide +kernel
theorem dX8_like_38 : decode cX8_like 38 = .ok (.return_, 1) := by decide +kernel
theorem dX8_like_39 : decode cX8_like 39 = .ok (.aload_n 0, 1) := by decide +kernel
theorem dX8_like_40 : decode cX8_like 40 = .ok (.getfield 43, 3) := by decide +kernel
theorem dX8_like_43 : decode cX8_like 43 = .ok (.iload_n 1, 1) := by decide +kernel
theorem dX8_like_44 : decode cX8_like 44 = .ok (.iaload, 1) := by decide +kernel
theorem dX8_like_45 : decode cX8_like 45 = .ok (.aload_n 0, 1) := by decide +kernel
theorem dX8_like_46 : decode cX8_like 46 = .ok (.getfield 43, 3) := by decide +kernel
theorem dX8_like_49 : decode cX8_like 49 = .ok (.iload_n 1, 1) := by decide +kernel
theorem dX8_like_50 : decode cX8_like 50 = .ok (.iconst 1, 1) := by decide +kernel
theorem dX8_like_51 : decode cX8_like 51 = .ok (.iadd, 1) := by decide +kernel
theorem dX8_like_52 : decode cX8_like 52 = .ok (.iaload, 1) := by decide +kernel
theorem dX8_like_53 : decode cX8_like 53 = .ok (.if_icmp .ne 7, 3) := by decide +kernel
theorem dX8_like_56 : decode cX8_like 56 = .ok (.iconst 1, 1) := by decide +kernel
theorem dX8_like_57 : decode cX8_like 57 = .ok (.goto 4, 3) := by decide +kernel
theorem dX8_like_60 : decode cX8_like 60 = .ok (.iconst 0, 1) := by decide +kernel
theorem dX8_like_61 : decode cX8_like 61 = .ok (.istore_n 2, 1) := by decide +kernel
theorem dX8_like_62 : decode cX8_like 62 = .ok (.iconst 0, 1) := by decide +kernel
theorem dX8_like_63 : decode cX8_like 63 = .ok (.istore_n 3, 1) := by decide +kernel
theorem dX8_like_64 : decode cX8_like 64 = .ok (.aload_n 0, 1) := by decide +kernel
theorem dX8_like_65 : decode cX8_like 65 = .ok (.getfield 40, 3) := by decide +kernel
theorem dX8_like_68 : decode cX8_like 68 = .ok (.iload_n 1, 1) := by decide +kernel
theorem dX8_like_69 : decode cX8_like 69 = .ok (.iaload, 1) := by decide +kernel
theorem dX8_like_70 : decode cX8_like 70 = .ok (.iconst 1, 1) := by decide +kernel
theorem dX8_like_71 : decode cX8_like 71 = .ok (.if_icmp .ne 66, 3) := by decide +kernel
theorem dX8_like_74 : decode cX8_like 74 = .ok (.iload_n 2, 1) := by decide +kernel
theorem dX8_like_75 : decode cX8_like 75 = .ok (.ifCond .eq 62, 3) := by decide +kernel
theorem dX8_like_78 : decode cX8_like 78 = .ok (.iload_n 3, 1) := by decide +kernel
theorem dX8_like_79 : decode cX8_like 79 = .ok (.aload_n 0, 1) := by decide +kernel
theorem dX8_like_80 : decode cX8_like 80 = .ok (.getfield 43, 3) := by decide +kernel
theorem dX8_like_83 : decode cX8_like 83 = .ok (.iload_n 1, 1) := by decide +kernel
theorem dX8_like_84 : decode cX8_like 84 = .ok (.iaload, 1) := by decide +kernel
theorem dX8_like_85 : decode cX8_like 85 = .ok (.if_icmp .ge 52, 3) := by decide +kernel
theorem dX8_like_88 : decode cX8_like 88 = .ok (.aload_n 0, 1) := by decide +kernel
theorem dX8_like_89 : decode cX8_like 89 = .ok (.getfield 49, 3) := by decide +kernel
theorem dX8_like_92 : decode cX8_like 92 = .ok (.bipush 16, 2) := by decide +kernel
theorem dX8_like_94 : decode cX8_like 94 = .ok (.aload_n 0, 1) := by decide +kernel
theorem dX8_like_95 : decode cX8_like 95 = .ok (.getfield 46, 3) := by decide +kernel
theorem dX8_like_98 : decode cX8_like 98 = .ok (.iload_n 1, 1) := by decide +kernel
theorem dX8_like_99 : decode cX8_like 99 = .ok (.iaload, 1) := by decide +kernel
theorem dX8_like_100 : decode cX8_like 100 = .ok (.imul, 1) := by decide +kernel
theorem dX8_like_101 : decode cX8_like 101 = .ok (.iload_n 3, 1) := by decide +kernel
theorem dX8_like_102 : decode cX8_like 102 = .ok (.iadd, 1) := by decide +kernel
theorem dX8_like_103 : decode cX8_like 103 = .ok (.iaload, 1) := by decide +kernel
theorem dX8_like_104 : decode cX8_like 104 = .ok (.aload_n 0, 1) := by decide +kernel
theorem dX8_like_105 : decode cX8_like 105 = .ok (.getfield 49, 3) := by decide +kernel
theorem dX8_like_108 : decode cX8_like 108 = .ok (.bipush 16, 2) := by decide +kernel
theorem dX8_like_110 : decode cX8_like 110 = .ok (.aload_n 0, 1) := by decide +kernel
theorem dX8_like_111 : decode cX8_like 111 = .ok (.getfield 46, 3) := by decide +kernel
theorem dX8_like_114 : decode cX8_like 114 = .ok (.iload_n 1, 1) := by decide +kernel
theorem dX8_like_115 : decode cX8_like 115 = .ok (.iconst 1, 1) := by decide +kernel
theorem dX8_like_116 : decode cX8_like 116 = .ok (.iadd, 1) := by decide +kernel
theorem dX8_like_117 : decode cX8_like 117 = .ok (.iaload, 1) := by decide +kernel
theorem dX8_like_118 : decode cX8_like 118 = .ok (.imul, 1) := by decide +kernel
theorem dX8_like_119 : decode cX8_like 119 = .ok (.iload_n 3, 1) := by decide +kernel
theorem dX8_like_120 : decode cX8_like 120 = .ok (.iadd, 1) := by decide +kernel
theorem dX8_like_121 : decode cX8_like 121 = .ok (.iaload, 1) := by decide +kernel
theorem dX8_like_122 : decode cX8_like 122 = .ok (.if_icmp .ne 7, 3) := by decide +kernel
theorem dX8_like_125 : decode cX8_like 125 = .ok (.iconst 1, 1) := by decide +kernel
theorem dX8_like_126 : decode cX8_like 126 = .ok (.goto 4, 3) := by decide +kernel
theorem dX8_like_129 : decode cX8_like 129 = .ok (.iconst 0, 1) := by decide +kernel
theorem dX8_like_130 : decode cX8_like 130 = .ok (.istore_n 2, 1) := by decide +kernel
theorem dX8_like_131 : decode cX8_like 131 = .ok (.iinc 3 1, 3) := by decide +kernel
theorem dX8_like_134 : decode cX8_like 134 = .ok (.goto (-70), 3) := by decide +kernel
theorem dX8_like_137 : decode cX8_like 137 = .ok (.aload_n 0, 1) := by decide +kernel
theorem dX8_like_138 : decode cX8_like 138 = .ok (.iload_n 2, 1) := by decide +kernel
theorem dX8_like_139 : decode cX8_like 139 = .ok (.ifCond .eq 7, 3) := by decide +kernel
theorem dX8_like_142 : decode cX8_like 142 = .ok (.iconst 1, 1) := by decide +kernel
theorem dX8_like_143 : decode cX8_like 143 = .ok (.goto 4, 3) := by decide +kernel
theorem dX8_like_146 : decode cX8_like 146 = .ok (.iconst 0, 1) := by decide +kernel
theorem dX8_like_147 : decode cX8_like 147 = .ok (.invokevirtual 149, 3) := by decide +kernel
theorem dX8_like_150 : decode cX8_like 150 = .ok (.return_, 1) := by decide +kernel
theorem dX8_both_0 : decode cX8_both 0 = .ok (.iload_n 2, 1) := by decide +kernel
theorem dX8_both_1 : decode cX8_both 1 = .ok (.iconst 2, 1) := by decide +kernel
theorem dX8_both_2 : decode cX8_both 2 = .ok (.if_icmp .ge 9, 3) := by decide +kernel
theorem dX8_both_5 : decode cX8_both 5 = .ok (.aload_n 0, 1) := by decide +kernel
theorem dX8_both_6 : decode cX8_both 6 = .ok (.iconst 0, 1) := by decide +kernel
theorem dX8_both_7 : decode cX8_both 7 = .ok (.invokevirtual 149, 3) := by decide +kernel
theorem dX8_both_10 : decode cX8_both 10 = .ok (.return_, 1) := by decide +kernel
theorem dX8_both_11 : decode cX8_both 11 = .ok (.aload_n 0, 1) := by decide +kernel
theorem dX8_both_12 : decode cX8_both 12 = .ok (.aload_n 0, 1) := by decide +kernel
theorem dX8_both_13 : decode cX8_both 13 = .ok (.iload_n 1, 1) := by decide +kernel
theorem dX8_both_14 : decode cX8_both 14 = .ok (.iconst 1, 1) := by decide +kernel
theorem dX8_both_15 : decode cX8_both 15 = .ok (.iadd, 1) := by decide +kernel
theorem dX8_both_16 : decode cX8_both 16 = .ok (.iconst 0, 1) := by decide +kernel
theorem dX8_both_17 : decode cX8_both 17 = .ok (.invokevirtual 141, 3) := by decide +kernel
theorem dX8_both_20 : decode cX8_both 20 = .ok (.putfield 110, 3) := by decide +kernel
theorem dX8_both_23 : decode cX8_both 23 = .ok (.aload_n 0, 1) := by decide +kernel
theorem dX8_both_24 : decode cX8_both 24 = .ok (.aload_n 0, 1) := by decide +kernel
theorem dX8_both_25 : decode cX8_both 25 = .ok (.getfield 43, 3) := by decide +kernel
theorem dX8_both_28 : decode cX8_both 28 = .ok (.iload_n 1, 1) := by decide +kernel
theorem dX8_both_29 : decode cX8_both 29 = .ok (.iconst 1, 1) := by decide +kernel
theorem dX8_both_30 : decode cX8_both 30 = .ok (.iadd, 1) := by decide +kernel
theorem dX8_both_31 : decode cX8_both 31 = .ok (.iaload, 1) := by decide +kernel
theorem dX8_both_32 : decode cX8_both 32 = .ok (.ifCond .eq 7, 3) := by decide +kernel
theorem dX8_both_35 : decode cX8_both 35 = .ok (.iconst 1, 1) := by decide +kernel
theorem dX8_both_36 : decode cX8_both 36 = .ok (.goto 4, 3) := by decide +kernel
theorem dX8_both_39 : decode cX8_both 39 = .ok (.iconst 0, 1) := by decide +kernel
theorem dX8_both_40 : decode cX8_both 40 = .ok (.invokevirtual 149, 3) := by decide +kernel
theorem dX8_both_43 : decode cX8_both 43 = .ok (.return_, 1) := by decide +kernel
theorem dX8_rows_0 : decode cX8_rows 0 = .ok (.iload_n 1, 1) := by decide +kernel
theorem dX8_rows_1 : decode cX8_rows 1 = .ok (.invokestatic 99, 3) := by decide +kernel
theorem dX8_rows_4 : decode cX8_rows 4 = .ok (.istore_n 3, 1) := by decide +kernel
theorem dX8_rows_5 : decode cX8_rows 5 = .ok (.aload_n 0, 1) := by decide +kernel
theorem dX8_rows_6 : decode cX8_rows 6 = .ok (.aload_n 0, 1) := by decide +kernel
theorem dX8_rows_7 : decode cX8_rows 7 = .ok (.iload_n 2, 1) := by decide +kernel
theorem dX8_rows_8 : decode cX8_rows 8 = .ok (.iload_n 1, 1) := by decide +kernel
theorem dX8_rows_9 : decode cX8_rows 9 = .ok (.bipush 12, 2) := by decide +kernel
theorem dX8_rows_11 : decode cX8_rows 11 = .ok (.if_icmp .ne 7, 3) := by decide +kernel
theorem dX8_rows_14 : decode cX8_rows 14 = .ok (.iconst 0, 1) := by decide +kernel
theorem dX8_rows_15 : decode cX8_rows 15 = .ok (.goto 4, 3) := by decide +kernel
theorem dX8_rows_18 : decode cX8_rows 18 = .ok (.iconst 1, 1) := by decide +kernel
theorem dX8_rows_19 : decode cX8_rows 19 = .ok (.invokevirtual 141, 3) := by decide +kernel
theorem dX8_rows_22 : decode cX8_rows 22 = .ok (.putfield 110, 3) := by decide +kernel
theorem dX8_rows_25 : decode cX8_rows 25 = .ok (.aload_n 0, 1) := by decide +kernel
theorem dX8_rows_26 : decode cX8_rows 26 = .ok (.aload_n 0, 1) := by decide +kernel
theorem dX8_rows_27 : decode cX8_rows 27 = .ok (.getfield 110, 3) := by decide +kernel
theorem dX8_rows_30 : decode cX8_rows 30 = .ok (.ifCond .ne 8, 3) := by decide +kernel
theorem dX8_rows_33 : decode cX8_rows 33 = .ok (.iload_n 3, 1) := by decide +kernel
theorem dX8_rows_34 : decode cX8_rows 34 = .ok (.iconst 2, 1) := by decide +kernel
theorem dX8_rows_35 : decode cX8_rows 35 = .ok (.if_icmp .ge 10, 3) := by decide +kernel
theorem dX8_rows_38 : decode cX8_rows 38 = .ok (.aload_n 0, 1) := by decide +kernel
theorem dX8_rows_39 : decode cX8_rows 39 = .ok (.getfield 110, 3) := by decide +kernel
theorem dX8_rows_42 : decode cX8_rows 42 = .ok (.goto 21, 3) := by decide +kernel
theorem dX8_rows_45 : decode cX8_rows 45 = .ok (.aload_n 0, 1) := by decide +kernel
theorem dX8_rows_46 : decode cX8_rows 46 = .ok (.iload_n 2, 1) := by decide +kernel
theorem dX8_rows_47 : decode cX8_rows 47 = .ok (.iconst 1, 1) := by decide +kernel
theorem dX8_rows_48 : decode cX8_rows 48 = .ok (.iadd, 1) := by decide +kernel
theorem dX8_rows_49 : decode cX8_rows 49 = .ok (.iload_n 1, 1) := by decide +kernel
theorem dX8_rows_50 : decode cX8_rows 50 = .ok (.bipush 14, 2) := by decide +kernel
theorem dX8_rows_52 : decode cX8_rows 52 = .ok (.if_icmp .ne 7, 3) := by decide +kernel
theorem dX8_rows_55 : decode cX8_rows 55 = .ok (.iconst 1, 1) := by decide +kernel
theorem dX8_rows_56 : decode cX8_rows 56 = .ok (.goto 4, 3) := by decide +kernel
theorem dX8_rows_59 : decode cX8_rows 59 = .ok (.iconst 0, 1) := by decide +kernel
theorem dX8_rows_60 : decode cX8_rows 60 = .ok (.invokevirtual 141, 3) := by decide +kernel
theorem dX8_rows_63 : decode cX8_rows 63 = .ok (.putfield 110, 3) := by decide +kernel
theorem dX8_rows_66 : decode cX8_rows 66 = .ok (.aload_n 0, 1) := by decide +kernel
theorem dX8_rows_67 : decode cX8_rows 67 = .ok (.aload_n 0, 1) := by decide +kernel
theorem dX8_rows_68 : decode cX8_rows 68 = .ok (.getfield 110, 3) := by decide +kernel
theorem dX8_rows_71 : decode cX8_rows 71 = .ok (.ifCond .ne 8, 3) := by decide +kernel
theorem dX8_rows_74 : decode cX8_rows 74 = .ok (.iload_n 3, 1) := by decide +kernel
theorem dX8_rows_75 : decode cX8_rows 75 = .ok (.iconst 3, 1) := by decide +kernel
theorem dX8_rows_76 : decode cX8_rows 76 = .ok (.if_icmp .ge 10, 3) := by decide +kernel
theorem dX8_rows_79 : decode cX8_rows 79 = .ok (.aload_n 0, 1) := by decide +kernel
theorem dX8_rows_80 : decode cX8_rows 80 = .ok (.getfield 110, 3) := by decide +kernel
theorem dX8_rows_83 : decode cX8_rows 83 = .ok (.goto 11, 3) := by decide +kernel
theorem dX8_rows_86 : decode cX8_rows 86 = .ok (.aload_n 0, 1) := by decide +kernel
theorem dX8_rows_87 : decode cX8_rows 87 = .ok (.iload_n 2, 1) := by decide +kernel
theorem dX8_rows_88 : decode cX8_rows 88 = .ok (.iconst 2, 1) := by decide +kernel
theorem dX8_rows_89 : decode cX8_rows 89 = .ok (.iadd, 1) := by decide +kernel
theorem dX8_rows_90 : decode cX8_rows 90 = .ok (.iconst 0, 1) := by decide +kernel
theorem dX8_rows_91 : decode cX8_rows 91 = .ok (.invokevirtual 141, 3) := by decide +kernel
theorem dX8_rows_94 : decode cX8_rows 94 = .ok (.putfield 110, 3) := by decide +kernel
theorem dX8_rows_97 : decode cX8_rows 97 = .ok (.aload_n 0, 1) := by decide +kernel
theorem dX8_rows_98 : decode cX8_rows 98 = .ok (.aload_n 0, 1) := by decide +kernel
theorem dX8_rows_99 : decode cX8_rows 99 = .ok (.getfield 110, 3) := by decide +kernel
theorem dX8_rows_102 : decode cX8_rows 102 = .ok (.ifCond .eq 10, 3) := by decide +kernel
theorem dX8_rows_105 : decode cX8_rows 105 = .ok (.aload_n 0, 1) := by decide +kernel
theorem dX8_rows_106 : decode cX8_rows 106 = .ok (.getfield 110, 3) := by decide +kernel
theorem dX8_rows_109 : decode cX8_rows 109 = .ok (.goto 29, 3) := by decide +kernel
theorem dX8_rows_112 : decode cX8_rows 112 = .ok (.iload_n 1, 1) := by decide +kernel
theorem dX8_rows_113 : decode cX8_rows 113 = .ok (.aload_n 0, 1) := by decide +kernel
theorem dX8_rows_114 : decode cX8_rows 114 = .ok (.getfield 43, 3) := by decide +kernel
theorem dX8_rows_117 : decode cX8_rows 117 = .ok (.iload_n 2, 1) := by decide +kernel
theorem dX8_rows_118 : decode cX8_rows 118 = .ok (.iaload, 1) := by decide +kernel
theorem dX8_rows_119 : decode cX8_rows 119 = .ok (.aload_n 0, 1) := by decide +kernel
theorem dX8_rows_120 : decode cX8_rows 120 = .ok (.getfield 43, 3) := by decide +kernel
theorem dX8_rows_123 : decode cX8_rows 123 = .ok (.iload_n 2, 1) := by decide +kernel
theorem dX8_rows_124 : decode cX8_rows 124 = .ok (.iconst 1, 1) := by decide +kernel
theorem dX8_rows_125 : decode cX8_rows 125 = .ok (.iadd, 1) := by decide +kernel
theorem dX8_rows_126 : decode cX8_rows 126 = .ok (.iaload, 1) := by decide +kernel
theorem dX8_rows_127 : decode cX8_rows 127 = .ok (.aload_n 0, 1) := by decide +kernel
theorem dX8_rows_128 : decode cX8_rows 128 = .ok (.getfield 43, 3) := by decide +kernel
theorem dX8_rows_131 : decode cX8_rows 131 = .ok (.iload_n 2, 1) := by decide +kernel
theorem dX8_rows_132 : decode cX8_rows 132 = .ok (.iconst 2, 1) := by decide +kernel
theorem dX8_rows_133 : decode cX8_rows 133 = .ok (.iadd, 1) := by decide +kernel
theorem dX8_rows_134 : decode cX8_rows 134 = .ok (.iaload, 1) := by decide +kernel
theorem dX8_rows_135 : decode cX8_rows 135 = .ok (.invokestatic 164, 3) := by decide +kernel
theorem dX8_rows_138 : decode cX8_rows 138 = .ok (.putfield 110, 3) := by decide +kernel
theorem dX8_rows_141 : decode cX8_rows 141 = .ok (.aload_n 0, 1) := by decide +kernel
theorem dX8_rows_142 : decode cX8_rows 142 = .ok (.getfield 110, 3) := by decide +kernel
theorem dX8_rows_145 : decode cX8_rows 145 = .ok (.ifCond .eq 4, 3) := by decide +kernel
theorem dX8_rows_148 : decode cX8_rows 148 = .ok (.return_, 1) := by decide +kernel
theorem dX8_rows_149 : decode cX8_rows 149 = .ok (.bipush 16, 2) := by decide +kernel
theorem dX8_rows_151 : decode cX8_rows 151 = .ok (.aload_n 0, 1) := by decide +kernel
theorem dX8_rows_152 : decode cX8_rows 152 = .ok (.getfield 46, 3) := by decide +kernel
theorem dX8_rows_155 : decode cX8_rows 155 = .ok (.iload_n 2, 1) := by decide +kernel
theorem dX8_rows_156 : decode cX8_rows 156 = .ok (.iaload, 1) := by decide +kernel
theorem dX8_rows_157 : decode cX8_rows 157 = .ok (.imul, 1) := by decide +kernel
theorem dX8_rows_158 : decode cX8_rows 158 = .ok (.istore 4, 2) := by decide +kernel
theorem dX8_rows_160 : decode cX8_rows 160 = .ok (.aload_n 0, 1) := by decide +kernel
theorem dX8_rows_161 : decode cX8_rows 161 = .ok (.getfield 43, 3) := by decide +kernel
theorem dX8_rows_164 : decode cX8_rows 164 = .ok (.iload_n 2, 1) := by decide +kernel
theorem dX8_rows_165 : decode cX8_rows 165 = .ok (.iaload, 1) := by decide +kernel
theorem dX8_rows_166 : decode cX8_rows 166 = .ok (.istore 5, 2) := by decide +kernel
theorem dX8_rows_168 : decode cX8_rows 168 = .ok (.iload_n 1, 1) := by decide +kernel
theorem dX8_rows_169 : decode cX8_rows 169 = .ok (.lookupswitch 104 #[(10, 35), (11, 56), (18, 63)], 35) := by decide +kernel
theorem dX8_rows_204 : decode cX8_rows 204 = .ok (.aload_n 0, 1) := by decide +kernel
theorem dX8_rows_205 : decode cX8_rows 205 = .ok (.aload_n 0, 1) := by decide +kernel
theorem dX8_rows_206 : decode cX8_rows 206 = .ok (.getfield 49, 3) := by decide +kernel
theorem dX8_rows_209 : decode cX8_rows 209 = .ok (.iload 4, 2) := by decide +kernel
theorem dX8_rows_211 : decode cX8_rows 211 = .ok (.aload_n 0, 1) := by decide +kernel
theorem dX8_rows_212 : decode cX8_rows 212 = .ok (.getfield 43, 3) := by decide +kernel
theorem dX8_rows_215 : decode cX8_rows 215 = .ok (.iload_n 2, 1) := by decide +kernel
theorem dX8_rows_216 : decode cX8_rows 216 = .ok (.iconst 1, 1) := by decide +kernel
theorem dX8_rows_217 : decode cX8_rows 217 = .ok (.iadd, 1) := by decide +kernel
theorem dX8_rows_218 : decode cX8_rows 218 = .ok (.iaload, 1) := by decide +kernel
theorem dX8_rows_219 : decode cX8_rows 219 = .ok (.iadd, 1) := by decide +kernel
theorem dX8_rows_220 : decode cX8_rows 220 = .ok (.iaload, 1) := by decide +kernel
theorem dX8_rows_221 : decode cX8_rows 221 = .ok (.invokevirtual 149, 3) := by decide +kernel
theorem dX8_rows_224 : decode cX8_rows 224 = .ok (.return_, 1) := by decide +kernel
theorem dX8_rows_225 : decode cX8_rows 225 = .ok (.aload_n 0, 1) := by decide +kernel
theorem dX8_rows_226 : decode cX8_rows 226 = .ok (.iload 5, 2) := by decide +kernel
theorem dX8_rows_228 : decode cX8_rows 228 = .ok (.invokevirtual 149, 3) := by decide +kernel
theorem dX8_rows_231 : decode cX8_rows 231 = .ok (.return_, 1) := by decide +kernel
theorem dX8_rows_232 : decode cX8_rows 232 = .ok (.iconst 0, 1) := by decide +kernel
theorem dX8_rows_233 : decode cX8_rows 233 = .ok (.istore 6, 2) := by decide +kernel
theorem dX8_rows_235 : decode cX8_rows 235 = .ok (.iconst 0, 1) := by decide +kernel
theorem dX8_rows_236 : decode cX8_rows 236 = .ok (.istore 7, 2) := by decide +kernel
theorem dX8_rows_238 : decode cX8_rows 238 = .ok (.iload 7, 2) := by decide +kernel
theorem dX8_rows_240 : decode cX8_rows 240 = .ok (.iload 5, 2) := by decide +kernel
theorem dX8_rows_242 : decode cX8_rows 242 = .ok (.if_icmp .ge 24, 3) := by decide +kernel
theorem dX8_rows_245 : decode cX8_rows 245 = .ok (.iload 6, 2) := by decide +kernel
theorem dX8_rows_247 : decode cX8_rows 247 = .ok (.aload_n 0, 1) := by decide +kernel
theorem dX8_rows_248 : decode cX8_rows 248 = .ok (.getfield 49, 3) := by decide +kernel
theorem dX8_rows_251 : decode cX8_rows 251 = .ok (.iload 4, 2) := by decide +kernel
theorem dX8_rows_253 : decode cX8_rows 253 = .ok (.iload 7, 2) := by decide +kernel
theorem dX8_rows_255 : decode cX8_rows 255 = .ok (.iadd, 1) := by decide +kernel
theorem dX8_rows_256 : decode cX8_rows 256 = .ok (.iaload, 1) := by decide +kernel
theorem dX8_rows_257 : decode cX8_rows 257 = .ok (.iadd, 1) := by decide +kernel
theorem dX8_rows_258 : decode cX8_rows 258 = .ok (.istore 6, 2) := by decide +kernel
theorem dX8_rows_260 : decode cX8_rows 260 = .ok (.iinc 7 1, 3) := by decide +kernel
theorem dX8_rows_263 : decode cX8_rows 263 = .ok (.goto (-25), 3) := by decide +kernel
theorem dX8_rows_266 : decode cX8_rows 266 = .ok (.aload_n 0, 1) := by decide +kernel
theorem dX8_rows_267 : decode cX8_rows 267 = .ok (.iload 6, 2) := by decide +kernel
theorem dX8_rows_269 : decode cX8_rows 269 = .ok (.invokevirtual 149, 3) := by decide +kernel
theorem dX8_rows_272 : decode cX8_rows 272 = .ok (.return_, 1) := by decide +kernel
theorem dX8_rows_273 : decode cX8_rows 273 = .ok (.aload_n 0, 1) := by decide +kernel
theorem dX8_rows_274 : decode cX8_rows 274 = .ok (.iload_n 1, 1) := by decide +kernel
theorem dX8_rows_275 : decode cX8_rows 275 = .ok (.iload_n 2, 1) := by decide +kernel
theorem dX8_rows_276 : decode cX8_rows 276 = .ok (.iload 4, 2) := by decide +kernel
theorem dX8_rows_278 : decode cX8_rows 278 = .ok (.iload 5, 2) := by decide +kernel
theorem dX8_rows_280 : decode cX8_rows 280 = .ok (.invokevirtual 168, 3) := by decide +kernel
theorem dX8_rows_283 : decode cX8_rows 283 = .ok (.return_, 1) := by decide +kernel
theorem dX8_refused_0 : decode cX8_refused 0 = .ok (.iload_n 0, 1) := by decide +kernel
theorem dX8_refused_1 : decode cX8_refused 1 = .ok (.tableswitch 126 10 15 #[39, 126, 54, 39, 75, 90], 39) := by decide +kernel
theorem dX8_refused_40 : decode cX8_refused 40 = .ok (.iload_n 2, 1) := by decide +kernel
theorem dX8_refused_41 : decode cX8_refused 41 = .ok (.ifCond .lt 8, 3) := by decide +kernel
theorem dX8_refused_44 : decode cX8_refused 44 = .ok (.iload_n 2, 1) := by decide +kernel
theorem dX8_refused_45 : decode cX8_refused 45 = .ok (.iload_n 1, 1) := by decide +kernel
theorem dX8_refused_46 : decode cX8_refused 46 = .ok (.if_icmp .lt 7, 3) := by decide +kernel
theorem dX8_refused_49 : decode cX8_refused 49 = .ok (.iconst 2, 1) := by decide +kernel
theorem dX8_refused_50 : decode cX8_refused 50 = .ok (.goto 4, 3) := by decide +kernel
theorem dX8_refused_53 : decode cX8_refused 53 = .ok (.iconst 0, 1) := by decide +kernel
theorem dX8_refused_54 : decode cX8_refused 54 = .ok (.ireturn, 1) := by decide +kernel
theorem dX8_refused_55 : decode cX8_refused 55 = .ok (.iload_n 1, 1) := by decide +kernel
theorem dX8_refused_56 : decode cX8_refused 56 = .ok (.ifCond .ge 7, 3) := by decide +kernel
theorem dX8_refused_59 : decode cX8_refused 59 = .ok (.iconst 3, 1) := by decide +kernel
theorem dX8_refused_60 : decode cX8_refused 60 = .ok (.goto 15, 3) := by decide +kernel
theorem dX8_refused_63 : decode cX8_refused 63 = .ok (.iload_n 1, 1) := by decide +kernel
theorem dX8_refused_64 : decode cX8_refused 64 = .ok (.bipush 16, 2) := by decide +kernel
theorem dX8_refused_66 : decode cX8_refused 66 = .ok (.if_icmp .le 8, 3) := by decide +kernel
theorem dX8_refused_69 : decode cX8_refused 69 = .ok (.bipush 6, 2) := by decide +kernel
theorem dX8_refused_71 : decode cX8_refused 71 = .ok (.goto 4, 3) := by decide +kernel
theorem dX8_refused_74 : decode cX8_refused 74 = .ok (.iconst 0, 1) := by decide +kernel
theorem dX8_refused_75 : decode cX8_refused 75 = .ok (.ireturn, 1) := by decide +kernel
theorem dX8_refused_76 : decode cX8_refused 76 = .ok (.iload_n 1, 1) := by decide +kernel
theorem dX8_refused_77 : decode cX8_refused 77 = .ok (.iload_n 2, 1) := by decide +kernel
theorem dX8_refused_78 : decode cX8_refused 78 = .ok (.iadd, 1) := by decide +kernel
theorem dX8_refused_79 : decode cX8_refused 79 = .ok (.bipush 16, 2) := by decide +kernel
theorem dX8_refused_81 : decode cX8_refused 81 = .ok (.if_icmp .le 8, 3) := by decide +kernel
theorem dX8_refused_84 : decode cX8_refused 84 = .ok (.bipush 6, 2) := by decide +kernel
theorem dX8_refused_86 : decode cX8_refused 86 = .ok (.goto 4, 3) := by decide +kernel
theorem dX8_refused_89 : decode cX8_refused 89 = .ok (.iconst 0, 1) := by decide +kernel
theorem dX8_refused_90 : decode cX8_refused 90 = .ok (.ireturn, 1) := by decide +kernel
theorem dX8_refused_91 : decode cX8_refused 91 = .ok (.iload_n 3, 1) := by decide +kernel
theorem dX8_refused_92 : decode cX8_refused 92 = .ok (.ifCond .ge 7, 3) := by decide +kernel
theorem dX8_refused_95 : decode cX8_refused 95 = .ok (.iconst 3, 1) := by decide +kernel
theorem dX8_refused_96 : decode cX8_refused 96 = .ok (.goto 30, 3) := by decide +kernel
theorem dX8_refused_99 : decode cX8_refused 99 = .ok (.iload_n 3, 1) := by decide +kernel
theorem dX8_refused_100 : decode cX8_refused 100 = .ok (.bipush 16, 2) := by decide +kernel
theorem dX8_refused_102 : decode cX8_refused 102 = .ok (.if_icmp .le 8, 3) := by decide +kernel
theorem dX8_refused_105 : decode cX8_refused 105 = .ok (.bipush 6, 2) := by decide +kernel
theorem dX8_refused_107 : decode cX8_refused 107 = .ok (.goto 19, 3) := by decide +kernel
theorem dX8_refused_110 : decode cX8_refused 110 = .ok (.iload_n 2, 1) := by decide +kernel
theorem dX8_refused_111 : decode cX8_refused 111 = .ok (.ifCond .lt 10, 3) := by decide +kernel
theorem dX8_refused_114 : decode cX8_refused 114 = .ok (.iload_n 2, 1) := by decide +kernel
theorem dX8_refused_115 : decode cX8_refused 115 = .ok (.iload_n 1, 1) := by decide +kernel
theorem dX8_refused_116 : decode cX8_refused 116 = .ok (.iload_n 3, 1) := by decide +kernel
theorem dX8_refused_117 : decode cX8_refused 117 = .ok (.isub, 1) := by decide +kernel
theorem dX8_refused_118 : decode cX8_refused 118 = .ok (.if_icmp .le 7, 3) := by decide +kernel
theorem dX8_refused_121 : decode cX8_refused 121 = .ok (.iconst 2, 1) := by decide +kernel
theorem dX8_refused_122 : decode cX8_refused 122 = .ok (.goto 4, 3) := by decide +kernel
theorem dX8_refused_125 : decode cX8_refused 125 = .ok (.iconst 0, 1) := by decide +kernel
theorem dX8_refused_126 : decode cX8_refused 126 = .ok (.ireturn, 1) := by decide +kernel
theorem dX8_refused_127 : decode cX8_refused 127 = .ok (.iconst 0, 1) := by decide +kernel
theorem dX8_refused_128 : decode cX8_refused 128 = .ok (.ireturn, 1) := by decide +kernel
theorem dX8_rowOf_0 : decode cX8_rowOf 0 = .ok (.aload_n 0, 1) := by decide +kernel
theorem dX8_rowOf_1 : decode cX8_rowOf 1 = .ok (.getfield 43, 3) := by decide +kernel
theorem dX8_rowOf_4 : decode cX8_rowOf 4 = .ok (.iload_n 2, 1) := by decide +kernel
theorem dX8_rowOf_5 : decode cX8_rowOf 5 = .ok (.iconst 1, 1) := by decide +kernel
theorem dX8_rowOf_6 : decode cX8_rowOf 6 = .ok (.iadd, 1) := by decide +kernel
theorem dX8_rowOf_7 : decode cX8_rowOf 7 = .ok (.iaload, 1) := by decide +kernel
theorem dX8_rowOf_8 : decode cX8_rowOf 8 = .ok (.istore 5, 2) := by decide +kernel
theorem dX8_rowOf_10 : decode cX8_rowOf 10 = .ok (.aload_n 0, 1) := by decide +kernel
theorem dX8_rowOf_11 : decode cX8_rowOf 11 = .ok (.getfield 43, 3) := by decide +kernel
theorem dX8_rowOf_14 : decode cX8_rowOf 14 = .ok (.iload_n 2, 1) := by decide +kernel
theorem dX8_rowOf_15 : decode cX8_rowOf 15 = .ok (.iconst 2, 1) := by decide +kernel
theorem dX8_rowOf_16 : decode cX8_rowOf 16 = .ok (.iadd, 1) := by decide +kernel
theorem dX8_rowOf_17 : decode cX8_rowOf 17 = .ok (.iaload, 1) := by decide +kernel
theorem dX8_rowOf_18 : decode cX8_rowOf 18 = .ok (.istore 6, 2) := by decide +kernel
theorem dX8_rowOf_20 : decode cX8_rowOf 20 = .ok (.iload_n 1, 1) := by decide +kernel
theorem dX8_rowOf_21 : decode cX8_rowOf 21 = .ok (.bipush 14, 2) := by decide +kernel
theorem dX8_rowOf_23 : decode cX8_rowOf 23 = .ok (.if_icmp .ne 11, 3) := by decide +kernel
theorem dX8_rowOf_26 : decode cX8_rowOf 26 = .ok (.iload 4, 2) := by decide +kernel
theorem dX8_rowOf_28 : decode cX8_rowOf 28 = .ok (.iload 5, 2) := by decide +kernel
theorem dX8_rowOf_30 : decode cX8_rowOf 30 = .ok (.iadd, 1) := by decide +kernel
theorem dX8_rowOf_31 : decode cX8_rowOf 31 = .ok (.goto 16, 3) := by decide +kernel
theorem dX8_rowOf_34 : decode cX8_rowOf 34 = .ok (.iload_n 1, 1) := by decide +kernel
theorem dX8_rowOf_35 : decode cX8_rowOf 35 = .ok (.bipush 15, 2) := by decide +kernel
theorem dX8_rowOf_37 : decode cX8_rowOf 37 = .ok (.if_icmp .ne 8, 3) := by decide +kernel
theorem dX8_rowOf_40 : decode cX8_rowOf 40 = .ok (.iload 6, 2) := by decide +kernel
theorem dX8_rowOf_42 : decode cX8_rowOf 42 = .ok (.goto 5, 3) := by decide +kernel
theorem dX8_rowOf_45 : decode cX8_rowOf 45 = .ok (.iload 4, 2) := by decide +kernel
theorem dX8_rowOf_47 : decode cX8_rowOf 47 = .ok (.istore 7, 2) := by decide +kernel
theorem dX8_rowOf_49 : decode cX8_rowOf 49 = .ok (.bipush 16, 2) := by decide +kernel
theorem dX8_rowOf_51 : decode cX8_rowOf 51 = .ok (.aload_n 0, 1) := by decide +kernel
theorem dX8_rowOf_52 : decode cX8_rowOf 52 = .ok (.getfield 46, 3) := by decide +kernel
theorem dX8_rowOf_55 : decode cX8_rowOf 55 = .ok (.iload_n 2, 1) := by decide +kernel
theorem dX8_rowOf_56 : decode cX8_rowOf 56 = .ok (.iconst 1, 1) := by decide +kernel
theorem dX8_rowOf_57 : decode cX8_rowOf 57 = .ok (.iadd, 1) := by decide +kernel
theorem dX8_rowOf_58 : decode cX8_rowOf 58 = .ok (.iaload, 1) := by decide +kernel
theorem dX8_rowOf_59 : decode cX8_rowOf 59 = .ok (.imul, 1) := by decide +kernel
theorem dX8_rowOf_60 : decode cX8_rowOf 60 = .ok (.istore 8, 2) := by decide +kernel
theorem dX8_rowOf_62 : decode cX8_rowOf 62 = .ok (.aload_n 0, 1) := by decide +kernel
theorem dX8_rowOf_63 : decode cX8_rowOf 63 = .ok (.iload 7, 2) := by decide +kernel
theorem dX8_rowOf_65 : decode cX8_rowOf 65 = .ok (.invokevirtual 172, 3) := by decide +kernel
theorem dX8_rowOf_68 : decode cX8_rowOf 68 = .ok (.istore 9, 2) := by decide +kernel
theorem dX8_rowOf_70 : decode cX8_rowOf 70 = .ok (.iconst 0, 1) := by decide +kernel
theorem dX8_rowOf_71 : decode cX8_rowOf 71 = .ok (.istore 10, 2) := by decide +kernel
theorem dX8_rowOf_73 : decode cX8_rowOf 73 = .ok (.iload 10, 2) := by decide +kernel
theorem dX8_rowOf_75 : decode cX8_rowOf 75 = .ok (.iload 7, 2) := by decide +kernel
theorem dX8_rowOf_77 : decode cX8_rowOf 77 = .ok (.if_icmp .ge 154, 3) := by decide +kernel
theorem dX8_rowOf_80 : decode cX8_rowOf 80 = .ok (.iload_n 1, 1) := by decide +kernel
theorem dX8_rowOf_81 : decode cX8_rowOf 81 = .ok (.bipush 12, 2) := by decide +kernel
theorem dX8_rowOf_83 : decode cX8_rowOf 83 = .ok (.if_icmp .ne 7, 3) := by decide +kernel
theorem dX8_rowOf_86 : decode cX8_rowOf 86 = .ok (.iconst 0, 1) := by decide +kernel
theorem dX8_rowOf_87 : decode cX8_rowOf 87 = .ok (.goto 127, 3) := by decide +kernel
theorem dX8_rowOf_90 : decode cX8_rowOf 90 = .ok (.iload_n 1, 1) := by decide +kernel
theorem dX8_rowOf_91 : decode cX8_rowOf 91 = .ok (.bipush 13, 2) := by decide +kernel
theorem dX8_rowOf_93 : decode cX8_rowOf 93 = .ok (.if_icmp .ne 27, 3) := by decide +kernel
theorem dX8_rowOf_96 : decode cX8_rowOf 96 = .ok (.iload 10, 2) := by decide +kernel
theorem dX8_rowOf_98 : decode cX8_rowOf 98 = .ok (.iload 5, 2) := by decide +kernel
theorem dX8_rowOf_100 : decode cX8_rowOf 100 = .ok (.if_icmp .ne 8, 3) := by decide +kernel
theorem dX8_rowOf_103 : decode cX8_rowOf 103 = .ok (.iload 6, 2) := by decide +kernel
theorem dX8_rowOf_105 : decode cX8_rowOf 105 = .ok (.goto 109, 3) := by decide +kernel
theorem dX8_rowOf_108 : decode cX8_rowOf 108 = .ok (.aload_n 0, 1) := by decide +kernel
theorem dX8_rowOf_109 : decode cX8_rowOf 109 = .ok (.getfield 49, 3) := by decide +kernel
theorem dX8_rowOf_112 : decode cX8_rowOf 112 = .ok (.iload_n 3, 1) := by decide +kernel
theorem dX8_rowOf_113 : decode cX8_rowOf 113 = .ok (.iload 10, 2) := by decide +kernel
theorem dX8_rowOf_115 : decode cX8_rowOf 115 = .ok (.iadd, 1) := by decide +kernel
theorem dX8_rowOf_116 : decode cX8_rowOf 116 = .ok (.iaload, 1) := by decide +kernel
theorem dX8_rowOf_117 : decode cX8_rowOf 117 = .ok (.goto 97, 3) := by decide +kernel
theorem dX8_rowOf_120 : decode cX8_rowOf 120 = .ok (.iload_n 1, 1) := by decide +kernel
theorem dX8_rowOf_121 : decode cX8_rowOf 121 = .ok (.bipush 14, 2) := by decide +kernel
theorem dX8_rowOf_123 : decode cX8_rowOf 123 = .ok (.if_icmp .ne 38, 3) := by decide +kernel
theorem dX8_rowOf_126 : decode cX8_rowOf 126 = .ok (.iload 10, 2) := by decide +kernel
theorem dX8_rowOf_128 : decode cX8_rowOf 128 = .ok (.iload 4, 2) := by decide +kernel
theorem dX8_rowOf_130 : decode cX8_rowOf 130 = .ok (.if_icmp .ge 15, 3) := by decide +kernel
theorem dX8_rowOf_133 : decode cX8_rowOf 133 = .ok (.aload_n 0, 1) := by decide +kernel
theorem dX8_rowOf_134 : decode cX8_rowOf 134 = .ok (.getfield 49, 3) := by decide +kernel
theorem dX8_rowOf_137 : decode cX8_rowOf 137 = .ok (.iload_n 3, 1) := by decide +kernel
theorem dX8_rowOf_138 : decode cX8_rowOf 138 = .ok (.iload 10, 2) := by decide +kernel
theorem dX8_rowOf_140 : decode cX8_rowOf 140 = .ok (.iadd, 1) := by decide +kernel
theorem dX8_rowOf_141 : decode cX8_rowOf 141 = .ok (.iaload, 1) := by decide +kernel
theorem dX8_rowOf_142 : decode cX8_rowOf 142 = .ok (.goto 72, 3) := by decide +kernel
theorem dX8_rowOf_145 : decode cX8_rowOf 145 = .ok (.aload_n 0, 1) := by decide +kernel
theorem dX8_rowOf_146 : decode cX8_rowOf 146 = .ok (.getfield 49, 3) := by decide +kernel
theorem dX8_rowOf_149 : decode cX8_rowOf 149 = .ok (.iload 8, 2) := by decide +kernel
theorem dX8_rowOf_151 : decode cX8_rowOf 151 = .ok (.iload 10, 2) := by decide +kernel
theorem dX8_rowOf_153 : decode cX8_rowOf 153 = .ok (.iadd, 1) := by decide +kernel
theorem dX8_rowOf_154 : decode cX8_rowOf 154 = .ok (.iload 4, 2) := by decide +kernel
theorem dX8_rowOf_156 : decode cX8_rowOf 156 = .ok (.isub, 1) := by decide +kernel
theorem dX8_rowOf_157 : decode cX8_rowOf 157 = .ok (.iaload, 1) := by decide +kernel
theorem dX8_rowOf_158 : decode cX8_rowOf 158 = .ok (.goto 56, 3) := by decide +kernel
theorem dX8_rowOf_161 : decode cX8_rowOf 161 = .ok (.iload_n 1, 1) := by decide +kernel
theorem dX8_rowOf_162 : decode cX8_rowOf 162 = .ok (.bipush 15, 2) := by decide +kernel
theorem dX8_rowOf_164 : decode cX8_rowOf 164 = .ok (.if_icmp .ne 18, 3) := by decide +kernel
theorem dX8_rowOf_167 : decode cX8_rowOf 167 = .ok (.aload_n 0, 1) := by decide +kernel
theorem dX8_rowOf_168 : decode cX8_rowOf 168 = .ok (.getfield 49, 3) := by decide +kernel
theorem dX8_rowOf_171 : decode cX8_rowOf 171 = .ok (.iload_n 3, 1) := by decide +kernel
theorem dX8_rowOf_172 : decode cX8_rowOf 172 = .ok (.iload 5, 2) := by decide +kernel
theorem dX8_rowOf_174 : decode cX8_rowOf 174 = .ok (.iadd, 1) := by decide +kernel
theorem dX8_rowOf_175 : decode cX8_rowOf 175 = .ok (.iload 10, 2) := by decide +kernel
theorem dX8_rowOf_177 : decode cX8_rowOf 177 = .ok (.iadd, 1) := by decide +kernel
theorem dX8_rowOf_178 : decode cX8_rowOf 178 = .ok (.iaload, 1) := by decide +kernel
theorem dX8_rowOf_179 : decode cX8_rowOf 179 = .ok (.goto 35, 3) := by decide +kernel
theorem dX8_rowOf_182 : decode cX8_rowOf 182 = .ok (.iload_n 1, 1) := by decide +kernel
theorem dX8_rowOf_183 : decode cX8_rowOf 183 = .ok (.bipush 17, 2) := by decide +kernel
theorem dX8_rowOf_185 : decode cX8_rowOf 185 = .ok (.if_icmp .ne 20, 3) := by decide +kernel
theorem dX8_rowOf_188 : decode cX8_rowOf 188 = .ok (.aload_n 0, 1) := by decide +kernel
theorem dX8_rowOf_189 : decode cX8_rowOf 189 = .ok (.getfield 49, 3) := by decide +kernel
theorem dX8_rowOf_192 : decode cX8_rowOf 192 = .ok (.iload_n 3, 1) := by decide +kernel
theorem dX8_rowOf_193 : decode cX8_rowOf 193 = .ok (.iload 4, 2) := by decide +kernel
theorem dX8_rowOf_195 : decode cX8_rowOf 195 = .ok (.iadd, 1) := by decide +kernel
theorem dX8_rowOf_196 : decode cX8_rowOf 196 = .ok (.iconst 1, 1) := by decide +kernel
theorem dX8_rowOf_197 : decode cX8_rowOf 197 = .ok (.isub, 1) := by decide +kernel
theorem dX8_rowOf_198 : decode cX8_rowOf 198 = .ok (.iload 10, 2) := by decide +kernel
theorem dX8_rowOf_200 : decode cX8_rowOf 200 = .ok (.isub, 1) := by decide +kernel
theorem dX8_rowOf_201 : decode cX8_rowOf 201 = .ok (.iaload, 1) := by decide +kernel
theorem dX8_rowOf_202 : decode cX8_rowOf 202 = .ok (.goto 12, 3) := by decide +kernel
theorem dX8_rowOf_205 : decode cX8_rowOf 205 = .ok (.aload_n 0, 1) := by decide +kernel
theorem dX8_rowOf_206 : decode cX8_rowOf 206 = .ok (.getfield 49, 3) := by decide +kernel
theorem dX8_rowOf_209 : decode cX8_rowOf 209 = .ok (.iload_n 3, 1) := by decide +kernel
theorem dX8_rowOf_210 : decode cX8_rowOf 210 = .ok (.iload 10, 2) := by decide +kernel
theorem dX8_rowOf_212 : decode cX8_rowOf 212 = .ok (.iadd, 1) := by decide +kernel
theorem dX8_rowOf_213 : decode cX8_rowOf 213 = .ok (.iaload, 1) := by decide +kernel
theorem dX8_rowOf_214 : decode cX8_rowOf 214 = .ok (.istore 11, 2) := by decide +kernel
theorem dX8_rowOf_216 : decode cX8_rowOf 216 = .ok (.aload_n 0, 1) := by decide +kernel
theorem dX8_rowOf_217 : decode cX8_rowOf 217 = .ok (.getfield 52, 3) := by decide +kernel
theorem dX8_rowOf_220 : decode cX8_rowOf 220 = .ok (.iload 10, 2) := by decide +kernel
theorem dX8_rowOf_222 : decode cX8_rowOf 222 = .ok (.iload 11, 2) := by decide +kernel
theorem dX8_rowOf_224 : decode cX8_rowOf 224 = .ok (.iastore, 1) := by decide +kernel
theorem dX8_rowOf_225 : decode cX8_rowOf 225 = .ok (.iinc 10 1, 3) := by decide +kernel
theorem dX8_rowOf_228 : decode cX8_rowOf 228 = .ok (.goto (-155), 3) := by decide +kernel
theorem dX8_rowOf_231 : decode cX8_rowOf 231 = .ok (.iconst 1, 1) := by decide +kernel
theorem dX8_rowOf_232 : decode cX8_rowOf 232 = .ok (.istore 10, 2) := by decide +kernel
theorem dX8_rowOf_234 : decode cX8_rowOf 234 = .ok (.iload_n 1, 1) := by decide +kernel
theorem dX8_rowOf_235 : decode cX8_rowOf 235 = .ok (.bipush 16, 2) := by decide +kernel
theorem dX8_rowOf_237 : decode cX8_rowOf 237 = .ok (.if_icmp .ne 79, 3) := by decide +kernel
theorem dX8_rowOf_240 : decode cX8_rowOf 240 = .ok (.iload 10, 2) := by decide +kernel
theorem dX8_rowOf_242 : decode cX8_rowOf 242 = .ok (.iload 7, 2) := by decide +kernel
theorem dX8_rowOf_244 : decode cX8_rowOf 244 = .ok (.if_icmp .ge 72, 3) := by decide +kernel
theorem dX8_rowOf_247 : decode cX8_rowOf 247 = .ok (.aload_n 0, 1) := by decide +kernel
theorem dX8_rowOf_248 : decode cX8_rowOf 248 = .ok (.getfield 52, 3) := by decide +kernel
theorem dX8_rowOf_251 : decode cX8_rowOf 251 = .ok (.iload 10, 2) := by decide +kernel
theorem dX8_rowOf_253 : decode cX8_rowOf 253 = .ok (.iaload, 1) := by decide +kernel
theorem dX8_rowOf_254 : decode cX8_rowOf 254 = .ok (.istore 11, 2) := by decide +kernel
theorem dX8_rowOf_256 : decode cX8_rowOf 256 = .ok (.iload 10, 2) := by decide +kernel
theorem dX8_rowOf_258 : decode cX8_rowOf 258 = .ok (.istore 12, 2) := by decide +kernel
theorem dX8_rowOf_260 : decode cX8_rowOf 260 = .ok (.iload 12, 2) := by decide +kernel
theorem dX8_rowOf_262 : decode cX8_rowOf 262 = .ok (.ifCond .le 39, 3) := by decide +kernel
theorem dX8_rowOf_265 : decode cX8_rowOf 265 = .ok (.aload_n 0, 1) := by decide +kernel
theorem dX8_rowOf_266 : decode cX8_rowOf 266 = .ok (.getfield 52, 3) := by decide +kernel
theorem dX8_rowOf_269 : decode cX8_rowOf 269 = .ok (.iload 12, 2) := by decide +kernel
theorem dX8_rowOf_271 : decode cX8_rowOf 271 = .ok (.iconst 1, 1) := by decide +kernel
theorem dX8_rowOf_272 : decode cX8_rowOf 272 = .ok (.isub, 1) := by decide +kernel
theorem dX8_rowOf_273 : decode cX8_rowOf 273 = .ok (.iaload, 1) := by decide +kernel
theorem dX8_rowOf_274 : decode cX8_rowOf 274 = .ok (.iload 11, 2) := by decide +kernel
theorem dX8_rowOf_276 : decode cX8_rowOf 276 = .ok (.if_icmp .le 25, 3) := by decide +kernel
theorem dX8_rowOf_279 : decode cX8_rowOf 279 = .ok (.aload_n 0, 1) := by decide +kernel
theorem dX8_rowOf_280 : decode cX8_rowOf 280 = .ok (.getfield 52, 3) := by decide +kernel
theorem dX8_rowOf_283 : decode cX8_rowOf 283 = .ok (.iload 12, 2) := by decide +kernel
theorem dX8_rowOf_285 : decode cX8_rowOf 285 = .ok (.aload_n 0, 1) := by decide +kernel
theorem dX8_rowOf_286 : decode cX8_rowOf 286 = .ok (.getfield 52, 3) := by decide +kernel
theorem dX8_rowOf_289 : decode cX8_rowOf 289 = .ok (.iload 12, 2) := by decide +kernel
theorem dX8_rowOf_291 : decode cX8_rowOf 291 = .ok (.iconst 1, 1) := by decide +kernel
theorem dX8_rowOf_292 : decode cX8_rowOf 292 = .ok (.isub, 1) := by decide +kernel
theorem dX8_rowOf_293 : decode cX8_rowOf 293 = .ok (.iaload, 1) := by decide +kernel
theorem dX8_rowOf_294 : decode cX8_rowOf 294 = .ok (.iastore, 1) := by decide +kernel
theorem dX8_rowOf_295 : decode cX8_rowOf 295 = .ok (.iinc 12 (-1), 3) := by decide +kernel
theorem dX8_rowOf_298 : decode cX8_rowOf 298 = .ok (.goto (-38), 3) := by decide +kernel
theorem dX8_rowOf_301 : decode cX8_rowOf 301 = .ok (.aload_n 0, 1) := by decide +kernel
theorem dX8_rowOf_302 : decode cX8_rowOf 302 = .ok (.getfield 52, 3) := by decide +kernel
theorem dX8_rowOf_305 : decode cX8_rowOf 305 = .ok (.iload 12, 2) := by decide +kernel
theorem dX8_rowOf_307 : decode cX8_rowOf 307 = .ok (.iload 11, 2) := by decide +kernel
theorem dX8_rowOf_309 : decode cX8_rowOf 309 = .ok (.iastore, 1) := by decide +kernel
theorem dX8_rowOf_310 : decode cX8_rowOf 310 = .ok (.iinc 10 1, 3) := by decide +kernel
theorem dX8_rowOf_313 : decode cX8_rowOf 313 = .ok (.goto (-79), 3) := by decide +kernel
theorem dX8_rowOf_316 : decode cX8_rowOf 316 = .ok (.iconst 0, 1) := by decide +kernel
theorem dX8_rowOf_317 : decode cX8_rowOf 317 = .ok (.istore 10, 2) := by decide +kernel
theorem dX8_rowOf_319 : decode cX8_rowOf 319 = .ok (.iload 10, 2) := by decide +kernel
theorem dX8_rowOf_321 : decode cX8_rowOf 321 = .ok (.iload 7, 2) := by decide +kernel
theorem dX8_rowOf_323 : decode cX8_rowOf 323 = .ok (.if_icmp .ge 26, 3) := by decide +kernel
theorem dX8_rowOf_326 : decode cX8_rowOf 326 = .ok (.aload_n 0, 1) := by decide +kernel
theorem dX8_rowOf_327 : decode cX8_rowOf 327 = .ok (.getfield 49, 3) := by decide +kernel
theorem dX8_rowOf_330 : decode cX8_rowOf 330 = .ok (.iload 9, 2) := by decide +kernel
theorem dX8_rowOf_332 : decode cX8_rowOf 332 = .ok (.iload 10, 2) := by decide +kernel
theorem dX8_rowOf_334 : decode cX8_rowOf 334 = .ok (.iadd, 1) := by decide +kernel
theorem dX8_rowOf_335 : decode cX8_rowOf 335 = .ok (.aload_n 0, 1) := by decide +kernel
theorem dX8_rowOf_336 : decode cX8_rowOf 336 = .ok (.getfield 52, 3) := by decide +kernel
theorem dX8_rowOf_339 : decode cX8_rowOf 339 = .ok (.iload 10, 2) := by decide +kernel
theorem dX8_rowOf_341 : decode cX8_rowOf 341 = .ok (.iaload, 1) := by decide +kernel
theorem dX8_rowOf_342 : decode cX8_rowOf 342 = .ok (.iastore, 1) := by decide +kernel
theorem dX8_rowOf_343 : decode cX8_rowOf 343 = .ok (.iinc 10 1, 3) := by decide +kernel
theorem dX8_rowOf_346 : decode cX8_rowOf 346 = .ok (.goto (-27), 3) := by decide +kernel
theorem dX8_rowOf_349 : decode cX8_rowOf 349 = .ok (.return_, 1) := by decide +kernel
theorem dX8_property_0 : decode cX8_property 0 = .ok (.iload_n 1, 1) := by decide +kernel
theorem dX8_property_1 : decode cX8_property 1 = .ok (.iconst (-1), 1) := by decide +kernel
theorem dX8_property_2 : decode cX8_property 2 = .ok (.iconst 1, 1) := by decide +kernel
theorem dX8_property_3 : decode cX8_property 3 = .ok (.invokestatic 95, 3) := by decide +kernel
theorem dX8_property_6 : decode cX8_property 6 = .ok (.ifCond .eq 71, 3) := by decide +kernel
theorem dX8_property_9 : decode cX8_property 9 = .ok (.iload_n 2, 1) := by decide +kernel
theorem dX8_property_10 : decode cX8_property 10 = .ok (.iconst (-1), 1) := by decide +kernel
theorem dX8_property_11 : decode cX8_property 11 = .ok (.iconst 1, 1) := by decide +kernel
theorem dX8_property_12 : decode cX8_property 12 = .ok (.invokestatic 95, 3) := by decide +kernel
theorem dX8_property_15 : decode cX8_property 15 = .ok (.ifCond .eq 62, 3) := by decide +kernel
theorem dX8_property_18 : decode cX8_property 18 = .ok (.iload_n 3, 1) := by decide +kernel
theorem dX8_property_19 : decode cX8_property 19 = .ok (.iconst (-1), 1) := by decide +kernel
theorem dX8_property_20 : decode cX8_property 20 = .ok (.iconst 1, 1) := by decide +kernel
theorem dX8_property_21 : decode cX8_property 21 = .ok (.invokestatic 95, 3) := by decide +kernel
theorem dX8_property_24 : decode cX8_property 24 = .ok (.ifCond .eq 53, 3) := by decide +kernel
theorem dX8_property_27 : decode cX8_property 27 = .ok (.iload 4, 2) := by decide +kernel
theorem dX8_property_29 : decode cX8_property 29 = .ok (.iconst (-1), 1) := by decide +kernel
theorem dX8_property_30 : decode cX8_property 30 = .ok (.if_icmp .eq 12, 3) := by decide +kernel
theorem dX8_property_33 : decode cX8_property 33 = .ok (.aload_n 0, 1) := by decide +kernel
theorem dX8_property_34 : decode cX8_property 34 = .ok (.iload 4, 2) := by decide +kernel
theorem dX8_property_36 : decode cX8_property 36 = .ok (.invokevirtual 103, 3) := by decide +kernel
theorem dX8_property_39 : decode cX8_property 39 = .ok (.ifCond .eq 38, 3) := by decide +kernel
theorem dX8_property_42 : decode cX8_property 42 = .ok (.aload_n 0, 1) := by decide +kernel
theorem dX8_property_43 : decode cX8_property 43 = .ok (.iload 5, 2) := by decide +kernel
theorem dX8_property_45 : decode cX8_property 45 = .ok (.invokevirtual 103, 3) := by decide +kernel
theorem dX8_property_48 : decode cX8_property 48 = .ok (.ifCond .eq 29, 3) := by decide +kernel
theorem dX8_property_51 : decode cX8_property 51 = .ok (.iload 6, 2) := by decide +kernel
theorem dX8_property_53 : decode cX8_property 53 = .ok (.iconst (-1), 1) := by decide +kernel
theorem dX8_property_54 : decode cX8_property 54 = .ok (.if_icmp .eq 12, 3) := by decide +kernel
theorem dX8_property_57 : decode cX8_property 57 = .ok (.aload_n 0, 1) := by decide +kernel
theorem dX8_property_58 : decode cX8_property 58 = .ok (.iload 6, 2) := by decide +kernel
theorem dX8_property_60 : decode cX8_property 60 = .ok (.invokevirtual 103, 3) := by decide +kernel
theorem dX8_property_63 : decode cX8_property 63 = .ok (.ifCond .eq 14, 3) := by decide +kernel
theorem dX8_property_66 : decode cX8_property 66 = .ok (.iload 7, 2) := by decide +kernel
theorem dX8_property_68 : decode cX8_property 68 = .ok (.iconst 0, 1) := by decide +kernel
theorem dX8_property_69 : decode cX8_property 69 = .ok (.bipush 7, 2) := by decide +kernel
theorem dX8_property_71 : decode cX8_property 71 = .ok (.invokestatic 95, 3) := by decide +kernel
theorem dX8_property_74 : decode cX8_property 74 = .ok (.ifCond .ne 5, 3) := by decide +kernel
theorem dX8_property_77 : decode cX8_property 77 = .ok (.iconst (-1), 1) := by decide +kernel
theorem dX8_property_78 : decode cX8_property 78 = .ok (.ireturn, 1) := by decide +kernel
theorem dX8_property_79 : decode cX8_property 79 = .ok (.aload_n 0, 1) := by decide +kernel
theorem dX8_property_80 : decode cX8_property 80 = .ok (.getfield 175, 3) := by decide +kernel
theorem dX8_property_83 : decode cX8_property 83 = .ok (.bipush 8, 2) := by decide +kernel
theorem dX8_property_85 : decode cX8_property 85 = .ok (.if_icmp .ne 6, 3) := by decide +kernel
theorem dX8_property_88 : decode cX8_property 88 = .ok (.bipush (-2), 2) := by decide +kernel
theorem dX8_property_90 : decode cX8_property 90 = .ok (.ireturn, 1) := by decide +kernel
theorem dX8_property_91 : decode cX8_property 91 = .ok (.aload_n 0, 1) := by decide +kernel
theorem dX8_property_92 : decode cX8_property 92 = .ok (.getfield 55, 3) := by decide +kernel
theorem dX8_property_95 : decode cX8_property 95 = .ok (.iconst 3, 1) := by decide +kernel
theorem dX8_property_96 : decode cX8_property 96 = .ok (.aload_n 0, 1) := by decide +kernel
theorem dX8_property_97 : decode cX8_property 97 = .ok (.getfield 175, 3) := by decide +kernel
theorem dX8_property_100 : decode cX8_property 100 = .ok (.imul, 1) := by decide +kernel
theorem dX8_property_101 : decode cX8_property 101 = .ok (.iload_n 1, 1) := by decide +kernel
theorem dX8_property_102 : decode cX8_property 102 = .ok (.iastore, 1) := by decide +kernel
theorem dX8_property_103 : decode cX8_property 103 = .ok (.aload_n 0, 1) := by decide +kernel
theorem dX8_property_104 : decode cX8_property 104 = .ok (.getfield 55, 3) := by decide +kernel
theorem dX8_property_107 : decode cX8_property 107 = .ok (.iconst 3, 1) := by decide +kernel
theorem dX8_property_108 : decode cX8_property 108 = .ok (.aload_n 0, 1) := by decide +kernel
theorem dX8_property_109 : decode cX8_property 109 = .ok (.getfield 175, 3) := by decide +kernel
theorem dX8_property_112 : decode cX8_property 112 = .ok (.imul, 1) := by decide +kernel
theorem dX8_property_113 : decode cX8_property 113 = .ok (.iconst 1, 1) := by decide +kernel
theorem dX8_property_114 : decode cX8_property 114 = .ok (.iadd, 1) := by decide +kernel
theorem dX8_property_115 : decode cX8_property 115 = .ok (.iload_n 2, 1) := by decide +kernel
theorem dX8_property_116 : decode cX8_property 116 = .ok (.iastore, 1) := by decide +kernel
theorem dX8_property_117 : decode cX8_property 117 = .ok (.aload_n 0, 1) := by decide +kernel
theorem dX8_property_118 : decode cX8_property 118 = .ok (.getfield 55, 3) := by decide +kernel
theorem dX8_property_121 : decode cX8_property 121 = .ok (.iconst 3, 1) := by decide +kernel
theorem dX8_property_122 : decode cX8_property 122 = .ok (.aload_n 0, 1) := by decide +kernel
theorem dX8_property_123 : decode cX8_property 123 = .ok (.getfield 175, 3) := by decide +kernel
theorem dX8_property_126 : decode cX8_property 126 = .ok (.imul, 1) := by decide +kernel
theorem dX8_property_127 : decode cX8_property 127 = .ok (.iconst 2, 1) := by decide +kernel
theorem dX8_property_128 : decode cX8_property 128 = .ok (.iadd, 1) := by decide +kernel
theorem dX8_property_129 : decode cX8_property 129 = .ok (.iload_n 3, 1) := by decide +kernel
theorem dX8_property_130 : decode cX8_property 130 = .ok (.iastore, 1) := by decide +kernel
theorem dX8_property_131 : decode cX8_property 131 = .ok (.aload_n 0, 1) := by decide +kernel
theorem dX8_property_132 : decode cX8_property 132 = .ok (.getfield 58, 3) := by decide +kernel
theorem dX8_property_135 : decode cX8_property 135 = .ok (.aload_n 0, 1) := by decide +kernel
theorem dX8_property_136 : decode cX8_property 136 = .ok (.getfield 175, 3) := by decide +kernel
theorem dX8_property_139 : decode cX8_property 139 = .ok (.iload 4, 2) := by decide +kernel
theorem dX8_property_141 : decode cX8_property 141 = .ok (.iastore, 1) := by decide +kernel
theorem dX8_property_142 : decode cX8_property 142 = .ok (.aload_n 0, 1) := by decide +kernel
theorem dX8_property_143 : decode cX8_property 143 = .ok (.getfield 61, 3) := by decide +kernel
theorem dX8_property_146 : decode cX8_property 146 = .ok (.aload_n 0, 1) := by decide +kernel
theorem dX8_property_147 : decode cX8_property 147 = .ok (.getfield 175, 3) := by decide +kernel
theorem dX8_property_150 : decode cX8_property 150 = .ok (.iload 5, 2) := by decide +kernel
theorem dX8_property_152 : decode cX8_property 152 = .ok (.iastore, 1) := by decide +kernel
theorem dX8_property_153 : decode cX8_property 153 = .ok (.aload_n 0, 1) := by decide +kernel
theorem dX8_property_154 : decode cX8_property 154 = .ok (.getfield 64, 3) := by decide +kernel
theorem dX8_property_157 : decode cX8_property 157 = .ok (.aload_n 0, 1) := by decide +kernel
theorem dX8_property_158 : decode cX8_property 158 = .ok (.getfield 175, 3) := by decide +kernel
theorem dX8_property_161 : decode cX8_property 161 = .ok (.iload 6, 2) := by decide +kernel
theorem dX8_property_163 : decode cX8_property 163 = .ok (.iastore, 1) := by decide +kernel
theorem dX8_property_164 : decode cX8_property 164 = .ok (.aload_n 0, 1) := by decide +kernel
theorem dX8_property_165 : decode cX8_property 165 = .ok (.getfield 67, 3) := by decide +kernel
theorem dX8_property_168 : decode cX8_property 168 = .ok (.aload_n 0, 1) := by decide +kernel
theorem dX8_property_169 : decode cX8_property 169 = .ok (.getfield 175, 3) := by decide +kernel
theorem dX8_property_172 : decode cX8_property 172 = .ok (.iload 7, 2) := by decide +kernel
theorem dX8_property_174 : decode cX8_property 174 = .ok (.iastore, 1) := by decide +kernel
theorem dX8_property_175 : decode cX8_property 175 = .ok (.aload_n 0, 1) := by decide +kernel
theorem dX8_property_176 : decode cX8_property 176 = .ok (.dup, 1) := by decide +kernel
theorem dX8_property_177 : decode cX8_property 177 = .ok (.getfield 175, 3) := by decide +kernel
theorem dX8_property_180 : decode cX8_property 180 = .ok (.dup_x1, 1) := by decide +kernel
theorem dX8_property_181 : decode cX8_property 181 = .ok (.iconst 1, 1) := by decide +kernel
theorem dX8_property_182 : decode cX8_property 182 = .ok (.iadd, 1) := by decide +kernel
theorem dX8_property_183 : decode cX8_property 183 = .ok (.putfield 175, 3) := by decide +kernel
theorem dX8_property_186 : decode cX8_property 186 = .ok (.ireturn, 1) := by decide +kernel
theorem dX8_outcome_0 : decode cX8_outcome 0 = .ok (.aload_n 0, 1) := by decide +kernel
theorem dX8_outcome_1 : decode cX8_outcome 1 = .ok (.dup, 1) := by decide +kernel
theorem dX8_outcome_2 : decode cX8_outcome 2 = .ok (.getfield 178, 3) := by decide +kernel
theorem dX8_outcome_5 : decode cX8_outcome 5 = .ok (.iconst 1, 1) := by decide +kernel
theorem dX8_outcome_6 : decode cX8_outcome 6 = .ok (.iadd, 1) := by decide +kernel
theorem dX8_outcome_7 : decode cX8_outcome 7 = .ok (.putfield 178, 3) := by decide +kernel
theorem dX8_outcome_10 : decode cX8_outcome 10 = .ok (.aload_n 0, 1) := by decide +kernel
theorem dX8_outcome_11 : decode cX8_outcome 11 = .ok (.iconst 0, 1) := by decide +kernel
theorem dX8_outcome_12 : decode cX8_outcome 12 = .ok (.putfield 107, 3) := by decide +kernel
theorem dX8_outcome_15 : decode cX8_outcome 15 = .ok (.aload_n 0, 1) := by decide +kernel
theorem dX8_outcome_16 : decode cX8_outcome 16 = .ok (.iconst 0, 1) := by decide +kernel
theorem dX8_outcome_17 : decode cX8_outcome 17 = .ok (.putfield 144, 3) := by decide +kernel
theorem dX8_outcome_20 : decode cX8_outcome 20 = .ok (.iconst 0, 1) := by decide +kernel
theorem dX8_outcome_21 : decode cX8_outcome 21 = .ok (.istore_n 3, 1) := by decide +kernel
theorem dX8_outcome_22 : decode cX8_outcome 22 = .ok (.iload_n 3, 1) := by decide +kernel
theorem dX8_outcome_23 : decode cX8_outcome 23 = .ok (.bipush 48, 2) := by decide +kernel
theorem dX8_outcome_25 : decode cX8_outcome 25 = .ok (.if_icmp .ge 21, 3) := by decide +kernel
theorem dX8_outcome_28 : decode cX8_outcome 28 = .ok (.aload_n 0, 1) := by decide +kernel
theorem dX8_outcome_29 : decode cX8_outcome 29 = .ok (.getfield 49, 3) := by decide +kernel
theorem dX8_outcome_32 : decode cX8_outcome 32 = .ok (.iload_n 3, 1) := by decide +kernel
theorem dX8_outcome_33 : decode cX8_outcome 33 = .ok (.aload_n 0, 1) := by decide +kernel
theorem dX8_outcome_34 : decode cX8_outcome 34 = .ok (.getfield 31, 3) := by decide +kernel
theorem dX8_outcome_37 : decode cX8_outcome 37 = .ok (.iload_n 3, 1) := by decide +kernel
theorem dX8_outcome_38 : decode cX8_outcome 38 = .ok (.iaload, 1) := by decide +kernel
theorem dX8_outcome_39 : decode cX8_outcome 39 = .ok (.iastore, 1) := by decide +kernel
theorem dX8_outcome_40 : decode cX8_outcome 40 = .ok (.iinc 3 1, 3) := by decide +kernel
theorem dX8_outcome_43 : decode cX8_outcome 43 = .ok (.goto (-21), 3) := by decide +kernel
theorem dX8_outcome_46 : decode cX8_outcome 46 = .ok (.iconst 0, 1) := by decide +kernel
theorem dX8_outcome_47 : decode cX8_outcome 47 = .ok (.istore_n 3, 1) := by decide +kernel
theorem dX8_outcome_48 : decode cX8_outcome 48 = .ok (.iload_n 3, 1) := by decide +kernel
theorem dX8_outcome_49 : decode cX8_outcome 49 = .ok (.iconst 3, 1) := by decide +kernel
theorem dX8_outcome_50 : decode cX8_outcome 50 = .ok (.if_icmp .ge 25, 3) := by decide +kernel
theorem dX8_outcome_53 : decode cX8_outcome 53 = .ok (.aload_n 0, 1) := by decide +kernel
theorem dX8_outcome_54 : decode cX8_outcome 54 = .ok (.getfield 25, 3) := by decide +kernel
theorem dX8_outcome_57 : decode cX8_outcome 57 = .ok (.iload_n 3, 1) := by decide +kernel
theorem dX8_outcome_58 : decode cX8_outcome 58 = .ok (.aload_n 0, 1) := by decide +kernel
theorem dX8_outcome_59 : decode cX8_outcome 59 = .ok (.getfield 55, 3) := by decide +kernel
theorem dX8_outcome_62 : decode cX8_outcome 62 = .ok (.iconst 3, 1) := by decide +kernel
theorem dX8_outcome_63 : decode cX8_outcome 63 = .ok (.iload_n 1, 1) := by decide +kernel
theorem dX8_outcome_64 : decode cX8_outcome 64 = .ok (.imul, 1) := by decide +kernel
theorem dX8_outcome_65 : decode cX8_outcome 65 = .ok (.iload_n 3, 1) := by decide +kernel
theorem dX8_outcome_66 : decode cX8_outcome 66 = .ok (.iadd, 1) := by decide +kernel
theorem dX8_outcome_67 : decode cX8_outcome 67 = .ok (.iaload, 1) := by decide +kernel
theorem dX8_outcome_68 : decode cX8_outcome 68 = .ok (.iastore, 1) := by decide +kernel
theorem dX8_outcome_69 : decode cX8_outcome 69 = .ok (.iinc 3 1, 3) := by decide +kernel
theorem dX8_outcome_72 : decode cX8_outcome 72 = .ok (.goto (-24), 3) := by decide +kernel
theorem dX8_outcome_75 : decode cX8_outcome 75 = .ok (.aload_n 0, 1) := by decide +kernel
theorem dX8_outcome_76 : decode cX8_outcome 76 = .ok (.getfield 58, 3) := by decide +kernel
theorem dX8_outcome_79 : decode cX8_outcome 79 = .ok (.iload_n 1, 1) := by decide +kernel
theorem dX8_outcome_80 : decode cX8_outcome 80 = .ok (.iaload, 1) := by decide +kernel
theorem dX8_outcome_81 : decode cX8_outcome 81 = .ok (.ifCond .lt 51, 3) := by decide +kernel
theorem dX8_outcome_84 : decode cX8_outcome 84 = .ok (.aload_n 0, 1) := by decide +kernel
theorem dX8_outcome_85 : decode cX8_outcome 85 = .ok (.aload_n 0, 1) := by decide +kernel
theorem dX8_outcome_86 : decode cX8_outcome 86 = .ok (.getfield 58, 3) := by decide +kernel
theorem dX8_outcome_89 : decode cX8_outcome 89 = .ok (.iload_n 1, 1) := by decide +kernel
theorem dX8_outcome_90 : decode cX8_outcome 90 = .ok (.iaload, 1) := by decide +kernel
theorem dX8_outcome_91 : decode cX8_outcome 91 = .ok (.invokevirtual 181, 3) := by decide +kernel
theorem dX8_outcome_94 : decode cX8_outcome 94 = .ok (.ifCond .ne 8, 3) := by decide +kernel
theorem dX8_outcome_97 : decode cX8_outcome 97 = .ok (.aload_n 0, 1) := by decide +kernel
theorem dX8_outcome_98 : decode cX8_outcome 98 = .ok (.getfield 110, 3) := by decide +kernel
theorem dX8_outcome_101 : decode cX8_outcome 101 = .ok (.ireturn, 1) := by decide +kernel
theorem dX8_outcome_102 : decode cX8_outcome 102 = .ok (.aload_n 0, 1) := by decide +kernel
theorem dX8_outcome_103 : decode cX8_outcome 103 = .ok (.getfield 128, 3) := by decide +kernel
theorem dX8_outcome_106 : decode cX8_outcome 106 = .ok (.ifCond .eq 17, 3) := by decide +kernel
theorem dX8_outcome_109 : decode cX8_outcome 109 = .ok (.aload_n 0, 1) := by decide +kernel
theorem dX8_outcome_110 : decode cX8_outcome 110 = .ok (.getfield 128, 3) := by decide +kernel
theorem dX8_outcome_113 : decode cX8_outcome 113 = .ok (.iconst 1, 1) := by decide +kernel
theorem dX8_outcome_114 : decode cX8_outcome 114 = .ok (.if_icmp .ne 7, 3) := by decide +kernel
theorem dX8_outcome_117 : decode cX8_outcome 117 = .ok (.iconst 4, 1) := by decide +kernel
theorem dX8_outcome_118 : decode cX8_outcome 118 = .ok (.goto 4, 3) := by decide +kernel
theorem dX8_outcome_121 : decode cX8_outcome 121 = .ok (.iconst 1, 1) := by decide +kernel
theorem dX8_outcome_122 : decode cX8_outcome 122 = .ok (.ireturn, 1) := by decide +kernel
theorem dX8_outcome_123 : decode cX8_outcome 123 = .ok (.aload_n 0, 1) := by decide +kernel
theorem dX8_outcome_124 : decode cX8_outcome 124 = .ok (.getfield 131, 3) := by decide +kernel
theorem dX8_outcome_127 : decode cX8_outcome 127 = .ok (.ifCond .ne 5, 3) := by decide +kernel
theorem dX8_outcome_130 : decode cX8_outcome 130 = .ok (.iconst (-1), 1) := by decide +kernel
theorem dX8_outcome_131 : decode cX8_outcome 131 = .ok (.ireturn, 1) := by decide +kernel
theorem dX8_outcome_132 : decode cX8_outcome 132 = .ok (.aload_n 0, 1) := by decide +kernel
theorem dX8_outcome_133 : decode cX8_outcome 133 = .ok (.iload_n 1, 1) := by decide +kernel
theorem dX8_outcome_134 : decode cX8_outcome 134 = .ok (.invokevirtual 184, 3) := by decide +kernel
theorem dX8_outcome_137 : decode cX8_outcome 137 = .ok (.istore_n 3, 1) := by decide +kernel
theorem dX8_outcome_138 : decode cX8_outcome 138 = .ok (.iload_n 3, 1) := by decide +kernel
theorem dX8_outcome_139 : decode cX8_outcome 139 = .ok (.ifCond .ne 79, 3) := by decide +kernel
theorem dX8_outcome_142 : decode cX8_outcome 142 = .ok (.aload_n 0, 1) := by decide +kernel
theorem dX8_outcome_143 : decode cX8_outcome 143 = .ok (.getfield 64, 3) := by decide +kernel
theorem dX8_outcome_146 : decode cX8_outcome 146 = .ok (.iload_n 1, 1) := by decide +kernel
theorem dX8_outcome_147 : decode cX8_outcome 147 = .ok (.iaload, 1) := by decide +kernel
theorem dX8_outcome_148 : decode cX8_outcome 148 = .ok (.ifCond .lt 70, 3) := by decide +kernel
theorem dX8_outcome_151 : decode cX8_outcome 151 = .ok (.aload_n 0, 1) := by decide +kernel
theorem dX8_outcome_152 : decode cX8_outcome 152 = .ok (.aload_n 0, 1) := by decide +kernel
theorem dX8_outcome_153 : decode cX8_outcome 153 = .ok (.getfield 64, 3) := by decide +kernel
theorem dX8_outcome_156 : decode cX8_outcome 156 = .ok (.iload_n 1, 1) := by decide +kernel
theorem dX8_outcome_157 : decode cX8_outcome 157 = .ok (.iaload, 1) := by decide +kernel
theorem dX8_outcome_158 : decode cX8_outcome 158 = .ok (.invokevirtual 181, 3) := by decide +kernel
theorem dX8_outcome_161 : decode cX8_outcome 161 = .ok (.ifCond .eq 27, 3) := by decide +kernel
theorem dX8_outcome_164 : decode cX8_outcome 164 = .ok (.aload_n 0, 1) := by decide +kernel
theorem dX8_outcome_165 : decode cX8_outcome 165 = .ok (.getfield 128, 3) := by decide +kernel
theorem dX8_outcome_168 : decode cX8_outcome 168 = .ok (.ifCond .ne 20, 3) := by decide +kernel
theorem dX8_outcome_171 : decode cX8_outcome 171 = .ok (.aload_n 0, 1) := by decide +kernel
theorem dX8_outcome_172 : decode cX8_outcome 172 = .ok (.getfield 131, 3) := by decide +kernel
theorem dX8_outcome_175 : decode cX8_outcome 175 = .ok (.iconst 0, 1) := by decide +kernel
theorem dX8_outcome_176 : decode cX8_outcome 176 = .ok (.bipush 7, 2) := by decide +kernel
theorem dX8_outcome_178 : decode cX8_outcome 178 = .ok (.invokestatic 95, 3) := by decide +kernel
theorem dX8_outcome_181 : decode cX8_outcome 181 = .ok (.ifCond .eq 7, 3) := by decide +kernel
theorem dX8_outcome_184 : decode cX8_outcome 184 = .ok (.iconst 1, 1) := by decide +kernel
theorem dX8_outcome_185 : decode cX8_outcome 185 = .ok (.goto 4, 3) := by decide +kernel
theorem dX8_outcome_188 : decode cX8_outcome 188 = .ok (.iconst 0, 1) := by decide +kernel
theorem dX8_outcome_189 : decode cX8_outcome 189 = .ok (.istore 4, 2) := by decide +kernel
theorem dX8_outcome_191 : decode cX8_outcome 191 = .ok (.iload_n 2, 1) := by decide +kernel
theorem dX8_outcome_192 : decode cX8_outcome 192 = .ok (.ifCond .eq 26, 3) := by decide +kernel
theorem dX8_outcome_195 : decode cX8_outcome 195 = .ok (.aload_n 0, 1) := by decide +kernel
theorem dX8_outcome_196 : decode cX8_outcome 196 = .ok (.getfield 70, 3) := by decide +kernel
theorem dX8_outcome_199 : decode cX8_outcome 199 = .ok (.iload 4, 2) := by decide +kernel
theorem dX8_outcome_201 : decode cX8_outcome 201 = .ok (.ifCond .eq 10, 3) := by decide +kernel
theorem dX8_outcome_204 : decode cX8_outcome 204 = .ok (.aload_n 0, 1) := by decide +kernel
theorem dX8_outcome_205 : decode cX8_outcome 205 = .ok (.getfield 131, 3) := by decide +kernel
theorem dX8_outcome_208 : decode cX8_outcome 208 = .ok (.goto 5, 3) := by decide +kernel
theorem dX8_outcome_211 : decode cX8_outcome 211 = .ok (.bipush 8, 2) := by decide +kernel
theorem dX8_outcome_213 : decode cX8_outcome 213 = .ok (.dup2, 1) := by decide +kernel
theorem dX8_outcome_214 : decode cX8_outcome 214 = .ok (.iaload, 1) := by decide +kernel
theorem dX8_outcome_215 : decode cX8_outcome 215 = .ok (.iconst 1, 1) := by decide +kernel
theorem dX8_outcome_216 : decode cX8_outcome 216 = .ok (.iadd, 1) := by decide +kernel
theorem dX8_outcome_217 : decode cX8_outcome 217 = .ok (.iastore, 1) := by decide +kernel
theorem dX8_outcome_218 : decode cX8_outcome 218 = .ok (.iload_n 3, 1) := by decide +kernel
theorem dX8_outcome_219 : decode cX8_outcome 219 = .ok (.ireturn, 1) := by decide +kernel
theorem dX8_ended_0 : decode cX8_ended 0 = .ok (.aload_n 0, 1) := by decide +kernel
theorem dX8_ended_1 : decode cX8_ended 1 = .ok (.aload_n 0, 1) := by decide +kernel
theorem dX8_ended_2 : decode cX8_ended 2 = .ok (.getfield 61, 3) := by decide +kernel
theorem dX8_ended_5 : decode cX8_ended 5 = .ok (.iload_n 1, 1) := by decide +kernel
theorem dX8_ended_6 : decode cX8_ended 6 = .ok (.iaload, 1) := by decide +kernel
theorem dX8_ended_7 : decode cX8_ended 7 = .ok (.invokevirtual 181, 3) := by decide +kernel
theorem dX8_ended_10 : decode cX8_ended 10 = .ok (.ifCond .eq 31, 3) := by decide +kernel
theorem dX8_ended_13 : decode cX8_ended 13 = .ok (.aload_n 0, 1) := by decide +kernel
theorem dX8_ended_14 : decode cX8_ended 14 = .ok (.getfield 128, 3) := by decide +kernel
theorem dX8_ended_17 : decode cX8_ended 17 = .ok (.iconst 1, 1) := by decide +kernel
theorem dX8_ended_18 : decode cX8_ended 18 = .ok (.if_icmp .ne 7, 3) := by decide +kernel
theorem dX8_ended_21 : decode cX8_ended 21 = .ok (.iconst 4, 1) := by decide +kernel
theorem dX8_ended_22 : decode cX8_ended 22 = .ok (.goto 23, 3) := by decide +kernel
theorem dX8_ended_25 : decode cX8_ended 25 = .ok (.aload_n 0, 1) := by decide +kernel
theorem dX8_ended_26 : decode cX8_ended 26 = .ok (.getfield 128, 3) := by decide +kernel
theorem dX8_ended_29 : decode cX8_ended 29 = .ok (.iconst 2, 1) := by decide +kernel
theorem dX8_ended_30 : decode cX8_ended 30 = .ok (.if_icmp .ne 7, 3) := by decide +kernel
theorem dX8_ended_33 : decode cX8_ended 33 = .ok (.iconst 1, 1) := by decide +kernel
theorem dX8_ended_34 : decode cX8_ended 34 = .ok (.goto 11, 3) := by decide +kernel
theorem dX8_ended_37 : decode cX8_ended 37 = .ok (.iconst 0, 1) := by decide +kernel
theorem dX8_ended_38 : decode cX8_ended 38 = .ok (.goto 7, 3) := by decide +kernel
theorem dX8_ended_41 : decode cX8_ended 41 = .ok (.aload_n 0, 1) := by decide +kernel
theorem dX8_ended_42 : decode cX8_ended 42 = .ok (.getfield 110, 3) := by decide +kernel
theorem dX8_ended_45 : decode cX8_ended 45 = .ok (.istore_n 2, 1) := by decide +kernel
theorem dX8_ended_46 : decode cX8_ended 46 = .ok (.iload_n 2, 1) := by decide +kernel
theorem dX8_ended_47 : decode cX8_ended 47 = .ok (.ifCond .eq 19, 3) := by decide +kernel
theorem dX8_ended_50 : decode cX8_ended 50 = .ok (.iload_n 2, 1) := by decide +kernel
theorem dX8_ended_51 : decode cX8_ended 51 = .ok (.aload_n 0, 1) := by decide +kernel
theorem dX8_ended_52 : decode cX8_ended 52 = .ok (.getfield 67, 3) := by decide +kernel
theorem dX8_ended_55 : decode cX8_ended 55 = .ok (.iload_n 1, 1) := by decide +kernel
theorem dX8_ended_56 : decode cX8_ended 56 = .ok (.iaload, 1) := by decide +kernel
theorem dX8_ended_57 : decode cX8_ended 57 = .ok (.if_icmp .ne 7, 3) := by decide +kernel
theorem dX8_ended_60 : decode cX8_ended 60 = .ok (.iconst 0, 1) := by decide +kernel
theorem dX8_ended_61 : decode cX8_ended 61 = .ok (.goto 4, 3) := by decide +kernel
theorem dX8_ended_64 : decode cX8_ended 64 = .ok (.iload_n 2, 1) := by decide +kernel
theorem dX8_ended_65 : decode cX8_ended 65 = .ok (.ireturn, 1) := by decide +kernel
theorem dX8_ended_66 : decode cX8_ended 66 = .ok (.aload_n 0, 1) := by decide +kernel
theorem dX8_ended_67 : decode cX8_ended 67 = .ok (.getfield 67, 3) := by decide +kernel
theorem dX8_ended_70 : decode cX8_ended 70 = .ok (.iload_n 1, 1) := by decide +kernel
theorem dX8_ended_71 : decode cX8_ended 71 = .ok (.iaload, 1) := by decide +kernel
theorem dX8_ended_72 : decode cX8_ended 72 = .ok (.ifCond .eq 8, 3) := by decide +kernel
theorem dX8_ended_75 : decode cX8_ended 75 = .ok (.bipush 8, 2) := by decide +kernel
theorem dX8_ended_77 : decode cX8_ended 77 = .ok (.goto 16, 3) := by decide +kernel
theorem dX8_ended_80 : decode cX8_ended 80 = .ok (.aload_n 0, 1) := by decide +kernel
theorem dX8_ended_81 : decode cX8_ended 81 = .ok (.getfield 131, 3) := by decide +kernel
theorem dX8_ended_84 : decode cX8_ended 84 = .ok (.ifCond .eq 7, 3) := by decide +kernel
theorem dX8_ended_87 : decode cX8_ended 87 = .ok (.iconst 0, 1) := by decide +kernel
theorem dX8_ended_88 : decode cX8_ended 88 = .ok (.goto 5, 3) := by decide +kernel
theorem dX8_ended_91 : decode cX8_ended 91 = .ok (.bipush 9, 2) := by decide +kernel
theorem dX8_ended_93 : decode cX8_ended 93 = .ok (.ireturn, 1) := by decide +kernel
theorem dX8_hash_0 : decode cX8_hash 0 = .ok (.iload_n 0, 1) := by decide +kernel
theorem dX8_hash_1 : decode cX8_hash 1 = .ok (.iload_n 1, 1) := by decide +kernel
theorem dX8_hash_2 : decode cX8_hash 2 = .ok (.ldc 187, 2) := by decide +kernel
theorem dX8_hash_4 : decode cX8_hash 4 = .ok (.imul, 1) := by decide +kernel
theorem dX8_hash_5 : decode cX8_hash 5 = .ok (.iadd, 1) := by decide +kernel
theorem dX8_hash_6 : decode cX8_hash 6 = .ok (.istore_n 2, 1) := by decide +kernel
theorem dX8_hash_7 : decode cX8_hash 7 = .ok (.iload_n 2, 1) := by decide +kernel
theorem dX8_hash_8 : decode cX8_hash 8 = .ok (.iload_n 2, 1) := by decide +kernel
theorem dX8_hash_9 : decode cX8_hash 9 = .ok (.bipush 16, 2) := by decide +kernel
theorem dX8_hash_11 : decode cX8_hash 11 = .ok (.iushr, 1) := by decide +kernel
theorem dX8_hash_12 : decode cX8_hash 12 = .ok (.ixor, 1) := by decide +kernel
theorem dX8_hash_13 : decode cX8_hash 13 = .ok (.ldc 188, 2) := by decide +kernel
theorem dX8_hash_15 : decode cX8_hash 15 = .ok (.imul, 1) := by decide +kernel
theorem dX8_hash_16 : decode cX8_hash 16 = .ok (.istore_n 2, 1) := by decide +kernel
theorem dX8_hash_17 : decode cX8_hash 17 = .ok (.iload_n 2, 1) := by decide +kernel
theorem dX8_hash_18 : decode cX8_hash 18 = .ok (.iload_n 2, 1) := by decide +kernel
theorem dX8_hash_19 : decode cX8_hash 19 = .ok (.bipush 13, 2) := by decide +kernel
theorem dX8_hash_21 : decode cX8_hash 21 = .ok (.iushr, 1) := by decide +kernel
theorem dX8_hash_22 : decode cX8_hash 22 = .ok (.ixor, 1) := by decide +kernel
theorem dX8_hash_23 : decode cX8_hash 23 = .ok (.ldc 189, 2) := by decide +kernel
theorem dX8_hash_25 : decode cX8_hash 25 = .ok (.imul, 1) := by decide +kernel
theorem dX8_hash_26 : decode cX8_hash 26 = .ok (.istore_n 2, 1) := by decide +kernel
theorem dX8_hash_27 : decode cX8_hash 27 = .ok (.iload_n 2, 1) := by decide +kernel
theorem dX8_hash_28 : decode cX8_hash 28 = .ok (.iload_n 2, 1) := by decide +kernel
theorem dX8_hash_29 : decode cX8_hash 29 = .ok (.bipush 16, 2) := by decide +kernel
theorem dX8_hash_31 : decode cX8_hash 31 = .ok (.iushr, 1) := by decide +kernel
theorem dX8_hash_32 : decode cX8_hash 32 = .ok (.ixor, 1) := by decide +kernel
theorem dX8_hash_33 : decode cX8_hash 33 = .ok (.ireturn, 1) := by decide +kernel
theorem dX8_modulo_0 : decode cX8_modulo 0 = .ok (.iload_n 0, 1) := by decide +kernel
theorem dX8_modulo_1 : decode cX8_modulo 1 = .ok (.iload_n 1, 1) := by decide +kernel
theorem dX8_modulo_2 : decode cX8_modulo 2 = .ok (.irem, 1) := by decide +kernel
theorem dX8_modulo_3 : decode cX8_modulo 3 = .ok (.istore_n 2, 1) := by decide +kernel
theorem dX8_modulo_4 : decode cX8_modulo 4 = .ok (.iload_n 2, 1) := by decide +kernel
theorem dX8_modulo_5 : decode cX8_modulo 5 = .ok (.ifCond .ge 9, 3) := by decide +kernel
theorem dX8_modulo_8 : decode cX8_modulo 8 = .ok (.iload_n 2, 1) := by decide +kernel
theorem dX8_modulo_9 : decode cX8_modulo 9 = .ok (.iload_n 1, 1) := by decide +kernel
theorem dX8_modulo_10 : decode cX8_modulo 10 = .ok (.iadd, 1) := by decide +kernel
theorem dX8_modulo_11 : decode cX8_modulo 11 = .ok (.goto 4, 3) := by decide +kernel
theorem dX8_modulo_14 : decode cX8_modulo 14 = .ok (.iload_n 2, 1) := by decide +kernel
theorem dX8_modulo_15 : decode cX8_modulo 15 = .ok (.ireturn, 1) := by decide +kernel
theorem dX8_draw_0 : decode cX8_draw 0 = .ok (.iconst 1, 1) := by decide +kernel
theorem dX8_draw_1 : decode cX8_draw 1 = .ok (.iload_n 2, 1) := by decide +kernel
theorem dX8_draw_2 : decode cX8_draw 2 = .ok (.bipush 12, 2) := by decide +kernel
theorem dX8_draw_4 : decode cX8_draw 4 = .ok (.irem, 1) := by decide +kernel
theorem dX8_draw_5 : decode cX8_draw 5 = .ok (.iadd, 1) := by decide +kernel
theorem dX8_draw_6 : decode cX8_draw 6 = .ok (.istore 5, 2) := by decide +kernel
theorem dX8_draw_8 : decode cX8_draw 8 = .ok (.iload_n 1, 1) := by decide +kernel
theorem dX8_draw_9 : decode cX8_draw 9 = .ok (.bipush 16, 2) := by decide +kernel
theorem dX8_draw_11 : decode cX8_draw 11 = .ok (.iload_n 2, 1) := by decide +kernel
theorem dX8_draw_12 : decode cX8_draw 12 = .ok (.imul, 1) := by decide +kernel
theorem dX8_draw_13 : decode cX8_draw 13 = .ok (.iload_n 3, 1) := by decide +kernel
theorem dX8_draw_14 : decode cX8_draw 14 = .ok (.iadd, 1) := by decide +kernel
theorem dX8_draw_15 : decode cX8_draw 15 = .ok (.invokestatic 190, 3) := by decide +kernel
theorem dX8_draw_18 : decode cX8_draw 18 = .ok (.istore 6, 2) := by decide +kernel
theorem dX8_draw_20 : decode cX8_draw 20 = .ok (.aload_n 0, 1) := by decide +kernel
theorem dX8_draw_21 : decode cX8_draw 21 = .ok (.iload 4, 2) := by decide +kernel
theorem dX8_draw_23 : decode cX8_draw 23 = .ok (.ifCond .ne 20, 3) := by decide +kernel
theorem dX8_draw_26 : decode cX8_draw 26 = .ok (.iload 6, 2) := by decide +kernel
theorem dX8_draw_28 : decode cX8_draw 28 = .ok (.iconst 2, 1) := by decide +kernel
theorem dX8_draw_29 : decode cX8_draw 29 = .ok (.iload 5, 2) := by decide +kernel
theorem dX8_draw_31 : decode cX8_draw 31 = .ok (.imul, 1) := by decide +kernel
theorem dX8_draw_32 : decode cX8_draw 32 = .ok (.iconst 1, 1) := by decide +kernel
theorem dX8_draw_33 : decode cX8_draw 33 = .ok (.iadd, 1) := by decide +kernel
theorem dX8_draw_34 : decode cX8_draw 34 = .ok (.invokestatic 193, 3) := by decide +kernel
theorem dX8_draw_37 : decode cX8_draw 37 = .ok (.iload 5, 2) := by decide +kernel
theorem dX8_draw_39 : decode cX8_draw 39 = .ok (.isub, 1) := by decide +kernel
theorem dX8_draw_40 : decode cX8_draw 40 = .ok (.goto 14, 3) := by decide +kernel
theorem dX8_draw_43 : decode cX8_draw 43 = .ok (.iload 6, 2) := by decide +kernel
theorem dX8_draw_45 : decode cX8_draw 45 = .ok (.iload 5, 2) := by decide +kernel
theorem dX8_draw_47 : decode cX8_draw 47 = .ok (.iconst 2, 1) := by decide +kernel
theorem dX8_draw_48 : decode cX8_draw 48 = .ok (.idiv, 1) := by decide +kernel
theorem dX8_draw_49 : decode cX8_draw 49 = .ok (.iconst 1, 1) := by decide +kernel
theorem dX8_draw_50 : decode cX8_draw 50 = .ok (.iadd, 1) := by decide +kernel
theorem dX8_draw_51 : decode cX8_draw 51 = .ok (.invokestatic 193, 3) := by decide +kernel
theorem dX8_draw_54 : decode cX8_draw 54 = .ok (.putfield 196, 3) := by decide +kernel
theorem dX8_draw_57 : decode cX8_draw 57 = .ok (.iconst 0, 1) := by decide +kernel
theorem dX8_draw_58 : decode cX8_draw 58 = .ok (.istore 7, 2) := by decide +kernel
theorem dX8_draw_60 : decode cX8_draw 60 = .ok (.iload 4, 2) := by decide +kernel
theorem dX8_draw_62 : decode cX8_draw 62 = .ok (.iconst 1, 1) := by decide +kernel
theorem dX8_draw_63 : decode cX8_draw 63 = .ok (.if_icmp .ne 46, 3) := by decide +kernel
theorem dX8_draw_66 : decode cX8_draw 66 = .ok (.iload 7, 2) := by decide +kernel
theorem dX8_draw_68 : decode cX8_draw 68 = .ok (.aload_n 0, 1) := by decide +kernel
theorem dX8_draw_69 : decode cX8_draw 69 = .ok (.getfield 196, 3) := by decide +kernel
theorem dX8_draw_72 : decode cX8_draw 72 = .ok (.if_icmp .ge 37, 3) := by decide +kernel
theorem dX8_draw_75 : decode cX8_draw 75 = .ok (.aload_n 0, 1) := by decide +kernel
theorem dX8_draw_76 : decode cX8_draw 76 = .ok (.getfield 73, 3) := by decide +kernel
theorem dX8_draw_79 : decode cX8_draw 79 = .ok (.iload 7, 2) := by decide +kernel
theorem dX8_draw_81 : decode cX8_draw 81 = .ok (.iload 6, 2) := by decide +kernel
theorem dX8_draw_83 : decode cX8_draw 83 = .ok (.iload 7, 2) := by decide +kernel
theorem dX8_draw_85 : decode cX8_draw 85 = .ok (.iconst 1, 1) := by decide +kernel
theorem dX8_draw_86 : decode cX8_draw 86 = .ok (.iadd, 1) := by decide +kernel
theorem dX8_draw_87 : decode cX8_draw 87 = .ok (.invokestatic 190, 3) := by decide +kernel
theorem dX8_draw_90 : decode cX8_draw 90 = .ok (.iconst 2, 1) := by decide +kernel
theorem dX8_draw_91 : decode cX8_draw 91 = .ok (.iload 5, 2) := by decide +kernel
theorem dX8_draw_93 : decode cX8_draw 93 = .ok (.imul, 1) := by decide +kernel
theorem dX8_draw_94 : decode cX8_draw 94 = .ok (.iconst 1, 1) := by decide +kernel
theorem dX8_draw_95 : decode cX8_draw 95 = .ok (.iadd, 1) := by decide +kernel
theorem dX8_draw_96 : decode cX8_draw 96 = .ok (.invokestatic 193, 3) := by decide +kernel
theorem dX8_draw_99 : decode cX8_draw 99 = .ok (.iload 5, 2) := by decide +kernel
theorem dX8_draw_101 : decode cX8_draw 101 = .ok (.isub, 1) := by decide +kernel
theorem dX8_draw_102 : decode cX8_draw 102 = .ok (.iastore, 1) := by decide +kernel
theorem dX8_draw_103 : decode cX8_draw 103 = .ok (.iinc 7 1, 3) := by decide +kernel
theorem dX8_draw_106 : decode cX8_draw 106 = .ok (.goto (-46), 3) := by decide +kernel
theorem dX8_draw_109 : decode cX8_draw 109 = .ok (.return_, 1) := by decide +kernel
theorem dX8_drawn_0 : decode cX8_drawn 0 = .ok (.iload_n 2, 1) := by decide +kernel
theorem dX8_drawn_1 : decode cX8_drawn 1 = .ok (.iconst 0, 1) := by decide +kernel
theorem dX8_drawn_2 : decode cX8_drawn 2 = .ok (.sipush 199, 3) := by decide +kernel
theorem dX8_drawn_5 : decode cX8_drawn 5 = .ok (.invokestatic 95, 3) := by decide +kernel
theorem dX8_drawn_8 : decode cX8_drawn 8 = .ok (.ifCond .eq 22, 3) := by decide +kernel
theorem dX8_drawn_11 : decode cX8_drawn 11 = .ok (.iload_n 3, 1) := by decide +kernel
theorem dX8_drawn_12 : decode cX8_drawn 12 = .ok (.iconst 0, 1) := by decide +kernel
theorem dX8_drawn_13 : decode cX8_drawn 13 = .ok (.iconst 2, 1) := by decide +kernel
theorem dX8_drawn_14 : decode cX8_drawn 14 = .ok (.invokestatic 95, 3) := by decide +kernel
theorem dX8_drawn_17 : decode cX8_drawn 17 = .ok (.ifCond .eq 13, 3) := by decide +kernel
theorem dX8_drawn_20 : decode cX8_drawn 20 = .ok (.iload 4, 2) := by decide +kernel
theorem dX8_drawn_22 : decode cX8_drawn 22 = .ok (.iconst 0, 1) := by decide +kernel
theorem dX8_drawn_23 : decode cX8_drawn 23 = .ok (.iconst 1, 1) := by decide +kernel
theorem dX8_drawn_24 : decode cX8_drawn 24 = .ok (.invokestatic 95, 3) := by decide +kernel
theorem dX8_drawn_27 : decode cX8_drawn 27 = .ok (.ifCond .ne 6, 3) := by decide +kernel
theorem dX8_drawn_30 : decode cX8_drawn 30 = .ok (.ldc 199, 2) := by decide +kernel
theorem dX8_drawn_32 : decode cX8_drawn 32 = .ok (.ireturn, 1) := by decide +kernel
theorem dX8_drawn_33 : decode cX8_drawn 33 = .ok (.aload_n 0, 1) := by decide +kernel
theorem dX8_drawn_34 : decode cX8_drawn 34 = .ok (.iload_n 1, 1) := by decide +kernel
theorem dX8_drawn_35 : decode cX8_drawn 35 = .ok (.iload_n 2, 1) := by decide +kernel
theorem dX8_drawn_36 : decode cX8_drawn 36 = .ok (.iload_n 3, 1) := by decide +kernel
theorem dX8_drawn_37 : decode cX8_drawn 37 = .ok (.iload 4, 2) := by decide +kernel
theorem dX8_drawn_39 : decode cX8_drawn 39 = .ok (.invokevirtual 200, 3) := by decide +kernel
theorem dX8_drawn_42 : decode cX8_drawn 42 = .ok (.iload 5, 2) := by decide +kernel
theorem dX8_drawn_44 : decode cX8_drawn 44 = .ok (.iconst (-1), 1) := by decide +kernel
theorem dX8_drawn_45 : decode cX8_drawn 45 = .ok (.if_icmp .ne 8, 3) := by decide +kernel
theorem dX8_drawn_48 : decode cX8_drawn 48 = .ok (.aload_n 0, 1) := by decide +kernel
theorem dX8_drawn_49 : decode cX8_drawn 49 = .ok (.getfield 196, 3) := by decide +kernel
theorem dX8_drawn_52 : decode cX8_drawn 52 = .ok (.ireturn, 1) := by decide +kernel
theorem dX8_drawn_53 : decode cX8_drawn 53 = .ok (.iload 4, 2) := by decide +kernel
theorem dX8_drawn_55 : decode cX8_drawn 55 = .ok (.iconst 1, 1) := by decide +kernel
theorem dX8_drawn_56 : decode cX8_drawn 56 = .ok (.if_icmp .ne 28, 3) := by decide +kernel
theorem dX8_drawn_59 : decode cX8_drawn 59 = .ok (.iload 5, 2) := by decide +kernel
theorem dX8_drawn_61 : decode cX8_drawn 61 = .ok (.iconst 0, 1) := by decide +kernel
theorem dX8_drawn_62 : decode cX8_drawn 62 = .ok (.aload_n 0, 1) := by decide +kernel
theorem dX8_drawn_63 : decode cX8_drawn 63 = .ok (.getfield 196, 3) := by decide +kernel
theorem dX8_drawn_66 : decode cX8_drawn 66 = .ok (.iconst 1, 1) := by decide +kernel
theorem dX8_drawn_67 : decode cX8_drawn 67 = .ok (.isub, 1) := by decide +kernel
theorem dX8_drawn_68 : decode cX8_drawn 68 = .ok (.invokestatic 95, 3) := by decide +kernel
theorem dX8_drawn_71 : decode cX8_drawn 71 = .ok (.ifCond .eq 13, 3) := by decide +kernel
theorem dX8_drawn_74 : decode cX8_drawn 74 = .ok (.aload_n 0, 1) := by decide +kernel
theorem dX8_drawn_75 : decode cX8_drawn 75 = .ok (.getfield 73, 3) := by decide +kernel
theorem dX8_drawn_78 : decode cX8_drawn 78 = .ok (.iload 5, 2) := by decide +kernel
theorem dX8_drawn_80 : decode cX8_drawn 80 = .ok (.iaload, 1) := by decide +kernel
theorem dX8_drawn_81 : decode cX8_drawn 81 = .ok (.goto 5, 3) := by decide +kernel
theorem dX8_drawn_84 : decode cX8_drawn 84 = .ok (.ldc 199, 2) := by decide +kernel
theorem dX8_drawn_86 : decode cX8_drawn 86 = .ok (.ireturn, 1) := by decide +kernel
theorem dX8_anew_0 : decode cX8_anew 0 = .ok (.aload_n 0, 1) := by decide +kernel
theorem dX8_anew_1 : decode cX8_anew 1 = .ok (.iconst 0, 1) := by decide +kernel
theorem dX8_anew_2 : decode cX8_anew 2 = .ok (.putfield 203, 3) := by decide +kernel
theorem dX8_anew_5 : decode cX8_anew 5 = .ok (.aload_n 0, 1) := by decide +kernel
theorem dX8_anew_6 : decode cX8_anew 6 = .ok (.iconst 0, 1) := by decide +kernel
theorem dX8_anew_7 : decode cX8_anew 7 = .ok (.putfield 206, 3) := by decide +kernel
theorem dX8_anew_10 : decode cX8_anew 10 = .ok (.aload_n 0, 1) := by decide +kernel
theorem dX8_anew_11 : decode cX8_anew 11 = .ok (.iconst 0, 1) := by decide +kernel
theorem dX8_anew_12 : decode cX8_anew 12 = .ok (.putfield 209, 3) := by decide +kernel
theorem dX8_anew_15 : decode cX8_anew 15 = .ok (.aload_n 0, 1) := by decide +kernel
theorem dX8_anew_16 : decode cX8_anew 16 = .ok (.iconst 0, 1) := by decide +kernel
theorem dX8_anew_17 : decode cX8_anew 17 = .ok (.putfield 212, 3) := by decide +kernel
theorem dX8_anew_20 : decode cX8_anew 20 = .ok (.aload_n 0, 1) := by decide +kernel
theorem dX8_anew_21 : decode cX8_anew 21 = .ok (.iconst (-1), 1) := by decide +kernel
theorem dX8_anew_22 : decode cX8_anew 22 = .ok (.putfield 89, 3) := by decide +kernel
theorem dX8_anew_25 : decode cX8_anew 25 = .ok (.aload_n 0, 1) := by decide +kernel
theorem dX8_anew_26 : decode cX8_anew 26 = .ok (.iconst 0, 1) := by decide +kernel
theorem dX8_anew_27 : decode cX8_anew 27 = .ok (.putfield 215, 3) := by decide +kernel
theorem dX8_anew_30 : decode cX8_anew 30 = .ok (.aload_n 0, 1) := by decide +kernel
theorem dX8_anew_31 : decode cX8_anew 31 = .ok (.iconst 0, 1) := by decide +kernel
theorem dX8_anew_32 : decode cX8_anew 32 = .ok (.putfield 218, 3) := by decide +kernel
theorem dX8_anew_35 : decode cX8_anew 35 = .ok (.aload_n 0, 1) := by decide +kernel
theorem dX8_anew_36 : decode cX8_anew 36 = .ok (.iconst 0, 1) := by decide +kernel
theorem dX8_anew_37 : decode cX8_anew 37 = .ok (.putfield 221, 3) := by decide +kernel
theorem dX8_anew_40 : decode cX8_anew 40 = .ok (.aload_n 0, 1) := by decide +kernel
theorem dX8_anew_41 : decode cX8_anew 41 = .ok (.iconst (-1), 1) := by decide +kernel
theorem dX8_anew_42 : decode cX8_anew 42 = .ok (.putfield 76, 3) := by decide +kernel
theorem dX8_anew_45 : decode cX8_anew 45 = .ok (.iconst 0, 1) := by decide +kernel
theorem dX8_anew_46 : decode cX8_anew 46 = .ok (.istore_n 1, 1) := by decide +kernel
theorem dX8_anew_47 : decode cX8_anew 47 = .ok (.iload_n 1, 1) := by decide +kernel
theorem dX8_anew_48 : decode cX8_anew 48 = .ok (.bipush 9, 2) := by decide +kernel
theorem dX8_anew_50 : decode cX8_anew 50 = .ok (.if_icmp .ge 16, 3) := by decide +kernel
theorem dX8_anew_53 : decode cX8_anew 53 = .ok (.aload_n 0, 1) := by decide +kernel
theorem dX8_anew_54 : decode cX8_anew 54 = .ok (.getfield 70, 3) := by decide +kernel
theorem dX8_anew_57 : decode cX8_anew 57 = .ok (.iload_n 1, 1) := by decide +kernel
theorem dX8_anew_58 : decode cX8_anew 58 = .ok (.iconst 0, 1) := by decide +kernel
theorem dX8_anew_59 : decode cX8_anew 59 = .ok (.iastore, 1) := by decide +kernel
theorem dX8_anew_60 : decode cX8_anew 60 = .ok (.iinc 1 1, 3) := by decide +kernel
theorem dX8_anew_63 : decode cX8_anew 63 = .ok (.goto (-16), 3) := by decide +kernel
theorem dX8_anew_66 : decode cX8_anew 66 = .ok (.return_, 1) := by decide +kernel
theorem dX8_isFailed_0 : decode cX8_isFailed 0 = .ok (.aload_n 0, 1) := by decide +kernel
theorem dX8_isFailed_1 : decode cX8_isFailed 1 = .ok (.iload_n 1, 1) := by decide +kernel
theorem dX8_isFailed_2 : decode cX8_isFailed 2 = .ok (.iconst 1, 1) := by decide +kernel
theorem dX8_isFailed_3 : decode cX8_isFailed 3 = .ok (.invokevirtual 224, 3) := by decide +kernel
theorem dX8_isFailed_6 : decode cX8_isFailed 6 = .ok (.istore_n 2, 1) := by decide +kernel
theorem dX8_isFailed_7 : decode cX8_isFailed 7 = .ok (.aload_n 0, 1) := by decide +kernel
theorem dX8_isFailed_8 : decode cX8_isFailed 8 = .ok (.dup, 1) := by decide +kernel
theorem dX8_isFailed_9 : decode cX8_isFailed 9 = .ok (.getfield 203, 3) := by decide +kernel
theorem dX8_isFailed_12 : decode cX8_isFailed 12 = .ok (.iconst 1, 1) := by decide +kernel
theorem dX8_isFailed_13 : decode cX8_isFailed 13 = .ok (.iadd, 1) := by decide +kernel
theorem dX8_isFailed_14 : decode cX8_isFailed 14 = .ok (.putfield 203, 3) := by decide +kernel
theorem dX8_isFailed_17 : decode cX8_isFailed 17 = .ok (.aload_n 0, 1) := by decide +kernel
theorem dX8_isFailed_18 : decode cX8_isFailed 18 = .ok (.dup, 1) := by decide +kernel
theorem dX8_isFailed_19 : decode cX8_isFailed 19 = .ok (.getfield 206, 3) := by decide +kernel
theorem dX8_isFailed_22 : decode cX8_isFailed 22 = .ok (.iload_n 2, 1) := by decide +kernel
theorem dX8_isFailed_23 : decode cX8_isFailed 23 = .ok (.ifCond .ne 7, 3) := by decide +kernel
theorem dX8_isFailed_26 : decode cX8_isFailed 26 = .ok (.iconst 1, 1) := by decide +kernel
theorem dX8_isFailed_27 : decode cX8_isFailed 27 = .ok (.goto 4, 3) := by decide +kernel
theorem dX8_isFailed_30 : decode cX8_isFailed 30 = .ok (.iconst 0, 1) := by decide +kernel
theorem dX8_isFailed_31 : decode cX8_isFailed 31 = .ok (.iadd, 1) := by decide +kernel
theorem dX8_isFailed_32 : decode cX8_isFailed 32 = .ok (.putfield 206, 3) := by decide +kernel
theorem dX8_isFailed_35 : decode cX8_isFailed 35 = .ok (.aload_n 0, 1) := by decide +kernel
theorem dX8_isFailed_36 : decode cX8_isFailed 36 = .ok (.dup, 1) := by decide +kernel
theorem dX8_isFailed_37 : decode cX8_isFailed 37 = .ok (.getfield 209, 3) := by decide +kernel
theorem dX8_isFailed_40 : decode cX8_isFailed 40 = .ok (.iload_n 2, 1) := by decide +kernel
theorem dX8_isFailed_41 : decode cX8_isFailed 41 = .ok (.ifCond .ge 7, 3) := by decide +kernel
theorem dX8_isFailed_44 : decode cX8_isFailed 44 = .ok (.iconst 1, 1) := by decide +kernel
theorem dX8_isFailed_45 : decode cX8_isFailed 45 = .ok (.goto 4, 3) := by decide +kernel
theorem dX8_isFailed_48 : decode cX8_isFailed 48 = .ok (.iconst 0, 1) := by decide +kernel
theorem dX8_isFailed_49 : decode cX8_isFailed 49 = .ok (.iadd, 1) := by decide +kernel
theorem dX8_isFailed_50 : decode cX8_isFailed 50 = .ok (.putfield 209, 3) := by decide +kernel
theorem dX8_isFailed_53 : decode cX8_isFailed 53 = .ok (.iload_n 2, 1) := by decide +kernel
theorem dX8_isFailed_54 : decode cX8_isFailed 54 = .ok (.ifCond .le 23, 3) := by decide +kernel
theorem dX8_isFailed_57 : decode cX8_isFailed 57 = .ok (.aload_n 0, 1) := by decide +kernel
theorem dX8_isFailed_58 : decode cX8_isFailed 58 = .ok (.iload_n 2, 1) := by decide +kernel
theorem dX8_isFailed_59 : decode cX8_isFailed 59 = .ok (.putfield 212, 3) := by decide +kernel
theorem dX8_isFailed_62 : decode cX8_isFailed 62 = .ok (.aload_n 0, 1) := by decide +kernel
theorem dX8_isFailed_63 : decode cX8_isFailed 63 = .ok (.aload_n 0, 1) := by decide +kernel
theorem dX8_isFailed_64 : decode cX8_isFailed 64 = .ok (.getfield 203, 3) := by decide +kernel
theorem dX8_isFailed_67 : decode cX8_isFailed 67 = .ok (.iconst 1, 1) := by decide +kernel
theorem dX8_isFailed_68 : decode cX8_isFailed 68 = .ok (.isub, 1) := by decide +kernel
theorem dX8_isFailed_69 : decode cX8_isFailed 69 = .ok (.putfield 89, 3) := by decide +kernel
theorem dX8_isFailed_72 : decode cX8_isFailed 72 = .ok (.aload_n 0, 1) := by decide +kernel
theorem dX8_isFailed_73 : decode cX8_isFailed 73 = .ok (.iload_n 1, 1) := by decide +kernel
theorem dX8_isFailed_74 : decode cX8_isFailed 74 = .ok (.invokevirtual 228, 3) := by decide +kernel
theorem dX8_isFailed_77 : decode cX8_isFailed 77 = .ok (.iload_n 2, 1) := by decide +kernel
theorem dX8_isFailed_78 : decode cX8_isFailed 78 = .ok (.ifCond .le 7, 3) := by decide +kernel
theorem dX8_isFailed_81 : decode cX8_isFailed 81 = .ok (.iconst 1, 1) := by decide +kernel
theorem dX8_isFailed_82 : decode cX8_isFailed 82 = .ok (.goto 4, 3) := by decide +kernel
theorem dX8_isFailed_85 : decode cX8_isFailed 85 = .ok (.iconst 0, 1) := by decide +kernel
theorem dX8_isFailed_86 : decode cX8_isFailed 86 = .ok (.ireturn, 1) := by decide +kernel
theorem dX8_keep_0 : decode cX8_keep 0 = .ok (.aload_n 0, 1) := by decide +kernel
theorem dX8_keep_1 : decode cX8_keep 1 = .ok (.iload_n 1, 1) := by decide +kernel
theorem dX8_keep_2 : decode cX8_keep 2 = .ok (.putfield 76, 3) := by decide +kernel
theorem dX8_keep_5 : decode cX8_keep 5 = .ok (.iconst 0, 1) := by decide +kernel
theorem dX8_keep_6 : decode cX8_keep 6 = .ok (.istore_n 2, 1) := by decide +kernel
theorem dX8_keep_7 : decode cX8_keep 7 = .ok (.iload_n 2, 1) := by decide +kernel
theorem dX8_keep_8 : decode cX8_keep 8 = .ok (.iconst 3, 1) := by decide +kernel
theorem dX8_keep_9 : decode cX8_keep 9 = .ok (.if_icmp .ge 37, 3) := by decide +kernel
theorem dX8_keep_12 : decode cX8_keep 12 = .ok (.aload_n 0, 1) := by decide +kernel
theorem dX8_keep_13 : decode cX8_keep 13 = .ok (.getfield 80, 3) := by decide +kernel
theorem dX8_keep_16 : decode cX8_keep 16 = .ok (.iload_n 2, 1) := by decide +kernel
theorem dX8_keep_17 : decode cX8_keep 17 = .ok (.aload_n 0, 1) := by decide +kernel
theorem dX8_keep_18 : decode cX8_keep 18 = .ok (.getfield 55, 3) := by decide +kernel
theorem dX8_keep_21 : decode cX8_keep 21 = .ok (.iconst 3, 1) := by decide +kernel
theorem dX8_keep_22 : decode cX8_keep 22 = .ok (.iload_n 1, 1) := by decide +kernel
theorem dX8_keep_23 : decode cX8_keep 23 = .ok (.imul, 1) := by decide +kernel
theorem dX8_keep_24 : decode cX8_keep 24 = .ok (.iload_n 2, 1) := by decide +kernel
theorem dX8_keep_25 : decode cX8_keep 25 = .ok (.iadd, 1) := by decide +kernel
theorem dX8_keep_26 : decode cX8_keep 26 = .ok (.iaload, 1) := by decide +kernel
theorem dX8_keep_27 : decode cX8_keep 27 = .ok (.iastore, 1) := by decide +kernel
theorem dX8_keep_28 : decode cX8_keep 28 = .ok (.aload_n 0, 1) := by decide +kernel
theorem dX8_keep_29 : decode cX8_keep 29 = .ok (.getfield 83, 3) := by decide +kernel
theorem dX8_keep_32 : decode cX8_keep 32 = .ok (.iload_n 2, 1) := by decide +kernel
theorem dX8_keep_33 : decode cX8_keep 33 = .ok (.aload_n 0, 1) := by decide +kernel
theorem dX8_keep_34 : decode cX8_keep 34 = .ok (.getfield 28, 3) := by decide +kernel
theorem dX8_keep_37 : decode cX8_keep 37 = .ok (.iload_n 2, 1) := by decide +kernel
theorem dX8_keep_38 : decode cX8_keep 38 = .ok (.iaload, 1) := by decide +kernel
theorem dX8_keep_39 : decode cX8_keep 39 = .ok (.iastore, 1) := by decide +kernel
theorem dX8_keep_40 : decode cX8_keep 40 = .ok (.iinc 2 1, 3) := by decide +kernel
theorem dX8_keep_43 : decode cX8_keep 43 = .ok (.goto (-36), 3) := by decide +kernel
theorem dX8_keep_46 : decode cX8_keep 46 = .ok (.iconst 0, 1) := by decide +kernel
theorem dX8_keep_47 : decode cX8_keep 47 = .ok (.istore_n 2, 1) := by decide +kernel
theorem dX8_keep_48 : decode cX8_keep 48 = .ok (.iload_n 2, 1) := by decide +kernel
theorem dX8_keep_49 : decode cX8_keep 49 = .ok (.bipush 48, 2) := by decide +kernel
theorem dX8_keep_51 : decode cX8_keep 51 = .ok (.if_icmp .ge 21, 3) := by decide +kernel
theorem dX8_keep_54 : decode cX8_keep 54 = .ok (.aload_n 0, 1) := by decide +kernel
theorem dX8_keep_55 : decode cX8_keep 55 = .ok (.getfield 86, 3) := by decide +kernel
theorem dX8_keep_58 : decode cX8_keep 58 = .ok (.iload_n 2, 1) := by decide +kernel
theorem dX8_keep_59 : decode cX8_keep 59 = .ok (.aload_n 0, 1) := by decide +kernel
theorem dX8_keep_60 : decode cX8_keep 60 = .ok (.getfield 31, 3) := by decide +kernel
theorem dX8_keep_63 : decode cX8_keep 63 = .ok (.iload_n 2, 1) := by decide +kernel
theorem dX8_keep_64 : decode cX8_keep 64 = .ok (.iaload, 1) := by decide +kernel
theorem dX8_keep_65 : decode cX8_keep 65 = .ok (.iastore, 1) := by decide +kernel
theorem dX8_keep_66 : decode cX8_keep 66 = .ok (.iinc 2 1, 3) := by decide +kernel
theorem dX8_keep_69 : decode cX8_keep 69 = .ok (.goto (-21), 3) := by decide +kernel
theorem dX8_keep_72 : decode cX8_keep 72 = .ok (.return_, 1) := by decide +kernel
theorem dX8_takeCounter_0 : decode cX8_takeCounter 0 = .ok (.iconst 0, 1) := by decide +kernel
theorem dX8_takeCounter_1 : decode cX8_takeCounter 1 = .ok (.istore_n 1, 1) := by decide +kernel
theorem dX8_takeCounter_2 : decode cX8_takeCounter 2 = .ok (.iload_n 1, 1) := by decide +kernel
theorem dX8_takeCounter_3 : decode cX8_takeCounter 3 = .ok (.iconst 3, 1) := by decide +kernel
theorem dX8_takeCounter_4 : decode cX8_takeCounter 4 = .ok (.if_icmp .ge 21, 3) := by decide +kernel
theorem dX8_takeCounter_7 : decode cX8_takeCounter 7 = .ok (.aload_n 0, 1) := by decide +kernel
theorem dX8_takeCounter_8 : decode cX8_takeCounter 8 = .ok (.getfield 28, 3) := by decide +kernel
theorem dX8_takeCounter_11 : decode cX8_takeCounter 11 = .ok (.iload_n 1, 1) := by decide +kernel
theorem dX8_takeCounter_12 : decode cX8_takeCounter 12 = .ok (.aload_n 0, 1) := by decide +kernel
theorem dX8_takeCounter_13 : decode cX8_takeCounter 13 = .ok (.getfield 83, 3) := by decide +kernel
theorem dX8_takeCounter_16 : decode cX8_takeCounter 16 = .ok (.iload_n 1, 1) := by decide +kernel
theorem dX8_takeCounter_17 : decode cX8_takeCounter 17 = .ok (.iaload, 1) := by decide +kernel
theorem dX8_takeCounter_18 : decode cX8_takeCounter 18 = .ok (.iastore, 1) := by decide +kernel
theorem dX8_takeCounter_19 : decode cX8_takeCounter 19 = .ok (.iinc 1 1, 3) := by decide +kernel
theorem dX8_takeCounter_22 : decode cX8_takeCounter 22 = .ok (.goto (-20), 3) := by decide +kernel
theorem dX8_takeCounter_25 : decode cX8_takeCounter 25 = .ok (.iconst 0, 1) := by decide +kernel
theorem dX8_takeCounter_26 : decode cX8_takeCounter 26 = .ok (.istore_n 1, 1) := by decide +kernel
theorem dX8_takeCounter_27 : decode cX8_takeCounter 27 = .ok (.iload_n 1, 1) := by decide +kernel
theorem dX8_takeCounter_28 : decode cX8_takeCounter 28 = .ok (.bipush 48, 2) := by decide +kernel
theorem dX8_takeCounter_30 : decode cX8_takeCounter 30 = .ok (.if_icmp .ge 21, 3) := by decide +kernel
theorem dX8_takeCounter_33 : decode cX8_takeCounter 33 = .ok (.aload_n 0, 1) := by decide +kernel
theorem dX8_takeCounter_34 : decode cX8_takeCounter 34 = .ok (.getfield 31, 3) := by decide +kernel
theorem dX8_takeCounter_37 : decode cX8_takeCounter 37 = .ok (.iload_n 1, 1) := by decide +kernel
theorem dX8_takeCounter_38 : decode cX8_takeCounter 38 = .ok (.aload_n 0, 1) := by decide +kernel
theorem dX8_takeCounter_39 : decode cX8_takeCounter 39 = .ok (.getfield 86, 3) := by decide +kernel
theorem dX8_takeCounter_42 : decode cX8_takeCounter 42 = .ok (.iload_n 1, 1) := by decide +kernel
theorem dX8_takeCounter_43 : decode cX8_takeCounter 43 = .ok (.iaload, 1) := by decide +kernel
theorem dX8_takeCounter_44 : decode cX8_takeCounter 44 = .ok (.iastore, 1) := by decide +kernel
theorem dX8_takeCounter_45 : decode cX8_takeCounter 45 = .ok (.iinc 1 1, 3) := by decide +kernel
theorem dX8_takeCounter_48 : decode cX8_takeCounter 48 = .ok (.goto (-21), 3) := by decide +kernel
theorem dX8_takeCounter_51 : decode cX8_takeCounter 51 = .ok (.return_, 1) := by decide +kernel
theorem dX8_isProperty_0 : decode cX8_isProperty 0 = .ok (.iload_n 1, 1) := by decide +kernel
theorem dX8_isProperty_1 : decode cX8_isProperty 1 = .ok (.iconst 0, 1) := by decide +kernel
theorem dX8_isProperty_2 : decode cX8_isProperty 2 = .ok (.aload_n 0, 1) := by decide +kernel
theorem dX8_isProperty_3 : decode cX8_isProperty 3 = .ok (.getfield 175, 3) := by decide +kernel
theorem dX8_isProperty_6 : decode cX8_isProperty 6 = .ok (.iconst 1, 1) := by decide +kernel
theorem dX8_isProperty_7 : decode cX8_isProperty 7 = .ok (.isub, 1) := by decide +kernel
theorem dX8_isProperty_8 : decode cX8_isProperty 8 = .ok (.invokestatic 95, 3) := by decide +kernel
theorem dX8_isProperty_11 : decode cX8_isProperty 11 = .ok (.ireturn, 1) := by decide +kernel
theorem dX8_run_0 : decode cX8_run 0 = .ok (.aload_n 0, 1) := by decide +kernel
theorem dX8_run_1 : decode cX8_run 1 = .ok (.iload_n 1, 1) := by decide +kernel
theorem dX8_run_2 : decode cX8_run 2 = .ok (.invokevirtual 231, 3) := by decide +kernel
theorem dX8_run_5 : decode cX8_run 5 = .ok (.ifCond .eq 14, 3) := by decide +kernel
theorem dX8_run_8 : decode cX8_run 8 = .ok (.iload_n 2, 1) := by decide +kernel
theorem dX8_run_9 : decode cX8_run 9 = .ok (.iconst 1, 1) := by decide +kernel
theorem dX8_run_10 : decode cX8_run 10 = .ok (.sipush 200, 3) := by decide +kernel
theorem dX8_run_13 : decode cX8_run 13 = .ok (.invokestatic 95, 3) := by decide +kernel
theorem dX8_run_16 : decode cX8_run 16 = .ok (.ifCond .ne 5, 3) := by decide +kernel
theorem dX8_run_19 : decode cX8_run 19 = .ok (.iconst (-1), 1) := by decide +kernel
theorem dX8_run_20 : decode cX8_run 20 = .ok (.ireturn, 1) := by decide +kernel
theorem dX8_run_21 : decode cX8_run 21 = .ok (.aload_n 0, 1) := by decide +kernel
theorem dX8_run_22 : decode cX8_run 22 = .ok (.getfield 178, 3) := by decide +kernel
theorem dX8_run_25 : decode cX8_run 25 = .ok (.iload_n 2, 1) := by decide +kernel
theorem dX8_run_26 : decode cX8_run 26 = .ok (.iadd, 1) := by decide +kernel
theorem dX8_run_27 : decode cX8_run 27 = .ok (.sipush 200, 3) := by decide +kernel
theorem dX8_run_30 : decode cX8_run 30 = .ok (.iadd, 1) := by decide +kernel
theorem dX8_run_31 : decode cX8_run 31 = .ok (.sipush 3000, 3) := by decide +kernel
theorem dX8_run_34 : decode cX8_run 34 = .ok (.if_icmp .le 6, 3) := by decide +kernel
theorem dX8_run_37 : decode cX8_run 37 = .ok (.bipush (-2), 2) := by decide +kernel
theorem dX8_run_39 : decode cX8_run 39 = .ok (.ireturn, 1) := by decide +kernel
theorem dX8_run_40 : decode cX8_run 40 = .ok (.aload_n 0, 1) := by decide +kernel
theorem dX8_run_41 : decode cX8_run 41 = .ok (.invokevirtual 234, 3) := by decide +kernel
theorem dX8_run_44 : decode cX8_run 44 = .ok (.iconst 0, 1) := by decide +kernel
theorem dX8_run_45 : decode cX8_run 45 = .ok (.istore 4, 2) := by decide +kernel
theorem dX8_run_47 : decode cX8_run 47 = .ok (.iconst 0, 1) := by decide +kernel
theorem dX8_run_48 : decode cX8_run 48 = .ok (.istore 5, 2) := by decide +kernel
theorem dX8_run_50 : decode cX8_run 50 = .ok (.iload 5, 2) := by decide +kernel
theorem dX8_run_52 : decode cX8_run 52 = .ok (.iload_n 2, 1) := by decide +kernel
theorem dX8_run_53 : decode cX8_run 53 = .ok (.if_icmp .ge 117, 3) := by decide +kernel
theorem dX8_run_56 : decode cX8_run 56 = .ok (.iload 4, 2) := by decide +kernel
theorem dX8_run_58 : decode cX8_run 58 = .ok (.ifCond .ne 112, 3) := by decide +kernel
theorem dX8_run_61 : decode cX8_run 61 = .ok (.iconst 0, 1) := by decide +kernel
theorem dX8_run_62 : decode cX8_run 62 = .ok (.istore 6, 2) := by decide +kernel
theorem dX8_run_64 : decode cX8_run 64 = .ok (.iload 6, 2) := by decide +kernel
