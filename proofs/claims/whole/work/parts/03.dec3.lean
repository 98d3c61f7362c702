theorem dX8_run_66 : decode cX8_run 66 = .ok (.iconst 3, 1) := by decide +kernel
theorem dX8_run_67 : decode cX8_run 67 = .ok (.if_icmp .ge 90, 3) := by decide +kernel
theorem dX8_run_70 : decode cX8_run 70 = .ok (.aload_n 0, 1) := by decide +kernel
theorem dX8_run_71 : decode cX8_run 71 = .ok (.getfield 55, 3) := by decide +kernel
theorem dX8_run_74 : decode cX8_run 74 = .ok (.iconst 3, 1) := by decide +kernel
theorem dX8_run_75 : decode cX8_run 75 = .ok (.iload_n 1, 1) := by decide +kernel
theorem dX8_run_76 : decode cX8_run 76 = .ok (.imul, 1) := by decide +kernel
theorem dX8_run_77 : decode cX8_run 77 = .ok (.iload 6, 2) := by decide +kernel
theorem dX8_run_79 : decode cX8_run 79 = .ok (.iadd, 1) := by decide +kernel
theorem dX8_run_80 : decode cX8_run 80 = .ok (.iaload, 1) := by decide +kernel
theorem dX8_run_81 : decode cX8_run 81 = .ok (.ifCond .lt 70, 3) := by decide +kernel
theorem dX8_run_84 : decode cX8_run 84 = .ok (.aload_n 0, 1) := by decide +kernel
theorem dX8_run_85 : decode cX8_run 85 = .ok (.iload_n 3, 1) := by decide +kernel
theorem dX8_run_86 : decode cX8_run 86 = .ok (.iload 5, 2) := by decide +kernel
theorem dX8_run_88 : decode cX8_run 88 = .ok (.iload 6, 2) := by decide +kernel
theorem dX8_run_90 : decode cX8_run 90 = .ok (.aload_n 0, 1) := by decide +kernel
theorem dX8_run_91 : decode cX8_run 91 = .ok (.getfield 55, 3) := by decide +kernel
theorem dX8_run_94 : decode cX8_run 94 = .ok (.iconst 3, 1) := by decide +kernel
theorem dX8_run_95 : decode cX8_run 95 = .ok (.iload_n 1, 1) := by decide +kernel
theorem dX8_run_96 : decode cX8_run 96 = .ok (.imul, 1) := by decide +kernel
theorem dX8_run_97 : decode cX8_run 97 = .ok (.iload 6, 2) := by decide +kernel
theorem dX8_run_99 : decode cX8_run 99 = .ok (.iadd, 1) := by decide +kernel
theorem dX8_run_100 : decode cX8_run 100 = .ok (.iaload, 1) := by decide +kernel
theorem dX8_run_101 : decode cX8_run 101 = .ok (.invokevirtual 200, 3) := by decide +kernel
theorem dX8_run_104 : decode cX8_run 104 = .ok (.aload_n 0, 1) := by decide +kernel
theorem dX8_run_105 : decode cX8_run 105 = .ok (.getfield 28, 3) := by decide +kernel
theorem dX8_run_108 : decode cX8_run 108 = .ok (.iload 6, 2) := by decide +kernel
theorem dX8_run_110 : decode cX8_run 110 = .ok (.aload_n 0, 1) := by decide +kernel
theorem dX8_run_111 : decode cX8_run 111 = .ok (.getfield 196, 3) := by decide +kernel
theorem dX8_run_114 : decode cX8_run 114 = .ok (.iastore, 1) := by decide +kernel
theorem dX8_run_115 : decode cX8_run 115 = .ok (.iconst 0, 1) := by decide +kernel
theorem dX8_run_116 : decode cX8_run 116 = .ok (.istore 7, 2) := by decide +kernel
theorem dX8_run_118 : decode cX8_run 118 = .ok (.iload 7, 2) := by decide +kernel
theorem dX8_run_120 : decode cX8_run 120 = .ok (.bipush 16, 2) := by decide +kernel
theorem dX8_run_122 : decode cX8_run 122 = .ok (.if_icmp .ge 29, 3) := by decide +kernel
theorem dX8_run_125 : decode cX8_run 125 = .ok (.aload_n 0, 1) := by decide +kernel
theorem dX8_run_126 : decode cX8_run 126 = .ok (.getfield 31, 3) := by decide +kernel
theorem dX8_run_129 : decode cX8_run 129 = .ok (.bipush 16, 2) := by decide +kernel
theorem dX8_run_131 : decode cX8_run 131 = .ok (.iload 6, 2) := by decide +kernel
theorem dX8_run_133 : decode cX8_run 133 = .ok (.imul, 1) := by decide +kernel
theorem dX8_run_134 : decode cX8_run 134 = .ok (.iload 7, 2) := by decide +kernel
theorem dX8_run_136 : decode cX8_run 136 = .ok (.iadd, 1) := by decide +kernel
theorem dX8_run_137 : decode cX8_run 137 = .ok (.aload_n 0, 1) := by decide +kernel
theorem dX8_run_138 : decode cX8_run 138 = .ok (.getfield 73, 3) := by decide +kernel
theorem dX8_run_141 : decode cX8_run 141 = .ok (.iload 7, 2) := by decide +kernel
theorem dX8_run_143 : decode cX8_run 143 = .ok (.iaload, 1) := by decide +kernel
theorem dX8_run_144 : decode cX8_run 144 = .ok (.iastore, 1) := by decide +kernel
theorem dX8_run_145 : decode cX8_run 145 = .ok (.iinc 7 1, 3) := by decide +kernel
theorem dX8_run_148 : decode cX8_run 148 = .ok (.goto (-30), 3) := by decide +kernel
theorem dX8_run_151 : decode cX8_run 151 = .ok (.iinc 6 1, 3) := by decide +kernel
theorem dX8_run_154 : decode cX8_run 154 = .ok (.goto (-90), 3) := by decide +kernel
theorem dX8_run_157 : decode cX8_run 157 = .ok (.aload_n 0, 1) := by decide +kernel
theorem dX8_run_158 : decode cX8_run 158 = .ok (.iload_n 1, 1) := by decide +kernel
theorem dX8_run_159 : decode cX8_run 159 = .ok (.invokevirtual 237, 3) := by decide +kernel
theorem dX8_run_162 : decode cX8_run 162 = .ok (.istore 4, 2) := by decide +kernel
theorem dX8_run_164 : decode cX8_run 164 = .ok (.iinc 5 1, 3) := by decide +kernel
theorem dX8_run_167 : decode cX8_run 167 = .ok (.goto (-117), 3) := by decide +kernel
theorem dX8_run_170 : decode cX8_run 170 = .ok (.iload 4, 2) := by decide +kernel
theorem dX8_run_172 : decode cX8_run 172 = .ok (.ifCond .eq 10, 3) := by decide +kernel
theorem dX8_run_175 : decode cX8_run 175 = .ok (.aload_n 0, 1) := by decide +kernel
theorem dX8_run_176 : decode cX8_run 176 = .ok (.iload_n 1, 1) := by decide +kernel
theorem dX8_run_177 : decode cX8_run 177 = .ok (.invokevirtual 240, 3) := by decide +kernel
theorem dX8_run_180 : decode cX8_run 180 = .ok (.iconst 0, 1) := by decide +kernel
theorem dX8_run_181 : decode cX8_run 181 = .ok (.ireturn, 1) := by decide +kernel
theorem dX8_run_182 : decode cX8_run 182 = .ok (.bipush 10, 2) := by decide +kernel
theorem dX8_run_184 : decode cX8_run 184 = .ok (.aload_n 0, 1) := by decide +kernel
theorem dX8_run_185 : decode cX8_run 185 = .ok (.getfield 206, 3) := by decide +kernel
theorem dX8_run_188 : decode cX8_run 188 = .ok (.imul, 1) := by decide +kernel
theorem dX8_run_189 : decode cX8_run 189 = .ok (.iload_n 2, 1) := by decide +kernel
theorem dX8_run_190 : decode cX8_run 190 = .ok (.if_icmp .ge 7, 3) := by decide +kernel
theorem dX8_run_193 : decode cX8_run 193 = .ok (.iconst 2, 1) := by decide +kernel
theorem dX8_run_194 : decode cX8_run 194 = .ok (.goto 4, 3) := by decide +kernel
theorem dX8_run_197 : decode cX8_run 197 = .ok (.iconst 1, 1) := by decide +kernel
theorem dX8_run_198 : decode cX8_run 198 = .ok (.ireturn, 1) := by decide +kernel
theorem dX8_smaller_0 : decode cX8_smaller 0 = .ok (.iconst 1, 1) := by decide +kernel
theorem dX8_smaller_1 : decode cX8_smaller 1 = .ok (.istore_n 2, 1) := by decide +kernel
theorem dX8_smaller_2 : decode cX8_smaller 2 = .ok (.iload_n 2, 1) := by decide +kernel
theorem dX8_smaller_3 : decode cX8_smaller 3 = .ok (.ifCond .eq 127, 3) := by decide +kernel
theorem dX8_smaller_6 : decode cX8_smaller 6 = .ok (.iconst 0, 1) := by decide +kernel
theorem dX8_smaller_7 : decode cX8_smaller 7 = .ok (.istore_n 3, 1) := by decide +kernel
theorem dX8_smaller_8 : decode cX8_smaller 8 = .ok (.iconst 0, 1) := by decide +kernel
theorem dX8_smaller_9 : decode cX8_smaller 9 = .ok (.istore 4, 2) := by decide +kernel
theorem dX8_smaller_11 : decode cX8_smaller 11 = .ok (.iload 4, 2) := by decide +kernel
theorem dX8_smaller_13 : decode cX8_smaller 13 = .ok (.ifCond .ne 66, 3) := by decide +kernel
theorem dX8_smaller_16 : decode cX8_smaller 16 = .ok (.iload_n 2, 1) := by decide +kernel
theorem dX8_smaller_17 : decode cX8_smaller 17 = .ok (.ifCond .eq 62, 3) := by decide +kernel
theorem dX8_smaller_20 : decode cX8_smaller 20 = .ok (.aload_n 0, 1) := by decide +kernel
theorem dX8_smaller_21 : decode cX8_smaller 21 = .ok (.iload_n 3, 1) := by decide +kernel
theorem dX8_smaller_22 : decode cX8_smaller 22 = .ok (.invokevirtual 243, 3) := by decide +kernel
theorem dX8_smaller_25 : decode cX8_smaller 25 = .ok (.ifCond .eq 54, 3) := by decide +kernel
theorem dX8_smaller_28 : decode cX8_smaller 28 = .ok (.aload_n 0, 1) := by decide +kernel
theorem dX8_smaller_29 : decode cX8_smaller 29 = .ok (.getfield 215, 3) := by decide +kernel
theorem dX8_smaller_32 : decode cX8_smaller 32 = .ok (.sipush 200, 3) := by decide +kernel
theorem dX8_smaller_35 : decode cX8_smaller 35 = .ok (.if_icmp .ne 8, 3) := by decide +kernel
theorem dX8_smaller_38 : decode cX8_smaller 38 = .ok (.iconst 0, 1) := by decide +kernel
theorem dX8_smaller_39 : decode cX8_smaller 39 = .ok (.istore_n 2, 1) := by decide +kernel
theorem dX8_smaller_40 : decode cX8_smaller 40 = .ok (.goto 33, 3) := by decide +kernel
theorem dX8_smaller_43 : decode cX8_smaller 43 = .ok (.aload_n 0, 1) := by decide +kernel
theorem dX8_smaller_44 : decode cX8_smaller 44 = .ok (.dup, 1) := by decide +kernel
theorem dX8_smaller_45 : decode cX8_smaller 45 = .ok (.getfield 215, 3) := by decide +kernel
theorem dX8_smaller_48 : decode cX8_smaller 48 = .ok (.iconst 1, 1) := by decide +kernel
theorem dX8_smaller_49 : decode cX8_smaller 49 = .ok (.iadd, 1) := by decide +kernel
theorem dX8_smaller_50 : decode cX8_smaller 50 = .ok (.putfield 215, 3) := by decide +kernel
theorem dX8_smaller_53 : decode cX8_smaller 53 = .ok (.aload_n 0, 1) := by decide +kernel
theorem dX8_smaller_54 : decode cX8_smaller 54 = .ok (.iload_n 1, 1) := by decide +kernel
theorem dX8_smaller_55 : decode cX8_smaller 55 = .ok (.iconst 0, 1) := by decide +kernel
theorem dX8_smaller_56 : decode cX8_smaller 56 = .ok (.invokevirtual 224, 3) := by decide +kernel
theorem dX8_smaller_59 : decode cX8_smaller 59 = .ok (.aload_n 0, 1) := by decide +kernel
theorem dX8_smaller_60 : decode cX8_smaller 60 = .ok (.getfield 212, 3) := by decide +kernel
theorem dX8_smaller_63 : decode cX8_smaller 63 = .ok (.if_icmp .ne 7, 3) := by decide +kernel
theorem dX8_smaller_66 : decode cX8_smaller 66 = .ok (.iconst 1, 1) := by decide +kernel
theorem dX8_smaller_67 : decode cX8_smaller 67 = .ok (.goto 4, 3) := by decide +kernel
theorem dX8_smaller_70 : decode cX8_smaller 70 = .ok (.iconst 0, 1) := by decide +kernel
theorem dX8_smaller_71 : decode cX8_smaller 71 = .ok (.istore 4, 2) := by decide +kernel
theorem dX8_smaller_73 : decode cX8_smaller 73 = .ok (.iinc 3 1, 3) := by decide +kernel
theorem dX8_smaller_76 : decode cX8_smaller 76 = .ok (.goto (-65), 3) := by decide +kernel
theorem dX8_smaller_79 : decode cX8_smaller 79 = .ok (.iload 4, 2) := by decide +kernel
theorem dX8_smaller_81 : decode cX8_smaller 81 = .ok (.ifCond .eq 21, 3) := by decide +kernel
theorem dX8_smaller_84 : decode cX8_smaller 84 = .ok (.aload_n 0, 1) := by decide +kernel
theorem dX8_smaller_85 : decode cX8_smaller 85 = .ok (.dup, 1) := by decide +kernel
theorem dX8_smaller_86 : decode cX8_smaller 86 = .ok (.getfield 218, 3) := by decide +kernel
theorem dX8_smaller_89 : decode cX8_smaller 89 = .ok (.iconst 1, 1) := by decide +kernel
theorem dX8_smaller_90 : decode cX8_smaller 90 = .ok (.iadd, 1) := by decide +kernel
theorem dX8_smaller_91 : decode cX8_smaller 91 = .ok (.putfield 218, 3) := by decide +kernel
theorem dX8_smaller_94 : decode cX8_smaller 94 = .ok (.aload_n 0, 1) := by decide +kernel
theorem dX8_smaller_95 : decode cX8_smaller 95 = .ok (.iload_n 1, 1) := by decide +kernel
theorem dX8_smaller_96 : decode cX8_smaller 96 = .ok (.invokevirtual 228, 3) := by decide +kernel
theorem dX8_smaller_99 : decode cX8_smaller 99 = .ok (.goto 28, 3) := by decide +kernel
theorem dX8_smaller_102 : decode cX8_smaller 102 = .ok (.aload_n 0, 1) := by decide +kernel
theorem dX8_smaller_103 : decode cX8_smaller 103 = .ok (.iload_n 2, 1) := by decide +kernel
theorem dX8_smaller_104 : decode cX8_smaller 104 = .ok (.ifCond .eq 17, 3) := by decide +kernel
theorem dX8_smaller_107 : decode cX8_smaller 107 = .ok (.aload_n 0, 1) := by decide +kernel
theorem dX8_smaller_108 : decode cX8_smaller 108 = .ok (.getfield 215, 3) := by decide +kernel
theorem dX8_smaller_111 : decode cX8_smaller 111 = .ok (.sipush 200, 3) := by decide +kernel
theorem dX8_smaller_114 : decode cX8_smaller 114 = .ok (.if_icmp .ge 7, 3) := by decide +kernel
theorem dX8_smaller_117 : decode cX8_smaller 117 = .ok (.iconst 1, 1) := by decide +kernel
theorem dX8_smaller_118 : decode cX8_smaller 118 = .ok (.goto 4, 3) := by decide +kernel
theorem dX8_smaller_121 : decode cX8_smaller 121 = .ok (.iconst 0, 1) := by decide +kernel
theorem dX8_smaller_122 : decode cX8_smaller 122 = .ok (.putfield 221, 3) := by decide +kernel
theorem dX8_smaller_125 : decode cX8_smaller 125 = .ok (.iconst 0, 1) := by decide +kernel
theorem dX8_smaller_126 : decode cX8_smaller 126 = .ok (.istore_n 2, 1) := by decide +kernel
theorem dX8_smaller_127 : decode cX8_smaller 127 = .ok (.goto (-125), 3) := by decide +kernel
theorem dX8_smaller_130 : decode cX8_smaller 130 = .ok (.return_, 1) := by decide +kernel
theorem dX8_less_0 : decode cX8_less 0 = .ok (.iload_n 1, 1) := by decide +kernel
theorem dX8_less_1 : decode cX8_less 1 = .ok (.ifCond .ne 7, 3) := by decide +kernel
theorem dX8_less_4 : decode cX8_less 4 = .ok (.iconst 0, 1) := by decide +kernel
theorem dX8_less_5 : decode cX8_less 5 = .ok (.goto 27, 3) := by decide +kernel
theorem dX8_less_8 : decode cX8_less 8 = .ok (.iload_n 1, 1) := by decide +kernel
theorem dX8_less_9 : decode cX8_less 9 = .ok (.iconst 1, 1) := by decide +kernel
theorem dX8_less_10 : decode cX8_less 10 = .ok (.if_icmp .ne 9, 3) := by decide +kernel
theorem dX8_less_13 : decode cX8_less 13 = .ok (.iload_n 0, 1) := by decide +kernel
theorem dX8_less_14 : decode cX8_less 14 = .ok (.iconst 2, 1) := by decide +kernel
theorem dX8_less_15 : decode cX8_less 15 = .ok (.idiv, 1) := by decide +kernel
theorem dX8_less_16 : decode cX8_less 16 = .ok (.goto 16, 3) := by decide +kernel
theorem dX8_less_19 : decode cX8_less 19 = .ok (.iload_n 0, 1) := by decide +kernel
theorem dX8_less_20 : decode cX8_less 20 = .ok (.ifCond .le 9, 3) := by decide +kernel
theorem dX8_less_23 : decode cX8_less 23 = .ok (.iload_n 0, 1) := by decide +kernel
theorem dX8_less_24 : decode cX8_less 24 = .ok (.iconst 1, 1) := by decide +kernel
theorem dX8_less_25 : decode cX8_less 25 = .ok (.isub, 1) := by decide +kernel
theorem dX8_less_26 : decode cX8_less 26 = .ok (.goto 6, 3) := by decide +kernel
theorem dX8_less_29 : decode cX8_less 29 = .ok (.iload_n 0, 1) := by decide +kernel
theorem dX8_less_30 : decode cX8_less 30 = .ok (.iconst 1, 1) := by decide +kernel
theorem dX8_less_31 : decode cX8_less 31 = .ok (.iadd, 1) := by decide +kernel
theorem dX8_less_32 : decode cX8_less 32 = .ok (.ireturn, 1) := by decide +kernel
theorem dX8_candidate_0 : decode cX8_candidate 0 = .ok (.iload_n 1, 1) := by decide +kernel
theorem dX8_candidate_1 : decode cX8_candidate 1 = .ok (.istore_n 2, 1) := by decide +kernel
theorem dX8_candidate_2 : decode cX8_candidate 2 = .ok (.iconst 0, 1) := by decide +kernel
theorem dX8_candidate_3 : decode cX8_candidate 3 = .ok (.istore_n 3, 1) := by decide +kernel
theorem dX8_candidate_4 : decode cX8_candidate 4 = .ok (.iload_n 3, 1) := by decide +kernel
theorem dX8_candidate_5 : decode cX8_candidate 5 = .ok (.iconst 3, 1) := by decide +kernel
theorem dX8_candidate_6 : decode cX8_candidate 6 = .ok (.if_icmp .ge 174, 3) := by decide +kernel
theorem dX8_candidate_9 : decode cX8_candidate 9 = .ok (.aload_n 0, 1) := by decide +kernel
theorem dX8_candidate_10 : decode cX8_candidate 10 = .ok (.invokevirtual 246, 3) := by decide +kernel
theorem dX8_candidate_13 : decode cX8_candidate 13 = .ok (.aload_n 0, 1) := by decide +kernel
theorem dX8_candidate_14 : decode cX8_candidate 14 = .ok (.getfield 80, 3) := by decide +kernel
theorem dX8_candidate_17 : decode cX8_candidate 17 = .ok (.iload_n 3, 1) := by decide +kernel
theorem dX8_candidate_18 : decode cX8_candidate 18 = .ok (.iaload, 1) := by decide +kernel
theorem dX8_candidate_19 : decode cX8_candidate 19 = .ok (.ifCond .ne 41, 3) := by decide +kernel
theorem dX8_candidate_22 : decode cX8_candidate 22 = .ok (.aload_n 0, 1) := by decide +kernel
theorem dX8_candidate_23 : decode cX8_candidate 23 = .ok (.getfield 83, 3) := by decide +kernel
theorem dX8_candidate_26 : decode cX8_candidate 26 = .ok (.iload_n 3, 1) := by decide +kernel
theorem dX8_candidate_27 : decode cX8_candidate 27 = .ok (.iaload, 1) := by decide +kernel
theorem dX8_candidate_28 : decode cX8_candidate 28 = .ok (.ifCond .eq 32, 3) := by decide +kernel
theorem dX8_candidate_31 : decode cX8_candidate 31 = .ok (.iload_n 2, 1) := by decide +kernel
theorem dX8_candidate_32 : decode cX8_candidate 32 = .ok (.iconst 3, 1) := by decide +kernel
theorem dX8_candidate_33 : decode cX8_candidate 33 = .ok (.if_icmp .ge 21, 3) := by decide +kernel
theorem dX8_candidate_36 : decode cX8_candidate 36 = .ok (.aload_n 0, 1) := by decide +kernel
theorem dX8_candidate_37 : decode cX8_candidate 37 = .ok (.getfield 28, 3) := by decide +kernel
theorem dX8_candidate_40 : decode cX8_candidate 40 = .ok (.iload_n 3, 1) := by decide +kernel
theorem dX8_candidate_41 : decode cX8_candidate 41 = .ok (.aload_n 0, 1) := by decide +kernel
theorem dX8_candidate_42 : decode cX8_candidate 42 = .ok (.getfield 83, 3) := by decide +kernel
theorem dX8_candidate_45 : decode cX8_candidate 45 = .ok (.iload_n 3, 1) := by decide +kernel
theorem dX8_candidate_46 : decode cX8_candidate 46 = .ok (.iaload, 1) := by decide +kernel
theorem dX8_candidate_47 : decode cX8_candidate 47 = .ok (.iload_n 2, 1) := by decide +kernel
theorem dX8_candidate_48 : decode cX8_candidate 48 = .ok (.invokestatic 249, 3) := by decide +kernel
theorem dX8_candidate_51 : decode cX8_candidate 51 = .ok (.iastore, 1) := by decide +kernel
theorem dX8_candidate_52 : decode cX8_candidate 52 = .ok (.iconst 1, 1) := by decide +kernel
theorem dX8_candidate_53 : decode cX8_candidate 53 = .ok (.ireturn, 1) := by decide +kernel
theorem dX8_candidate_54 : decode cX8_candidate 54 = .ok (.iinc 2 (-3), 3) := by decide +kernel
theorem dX8_candidate_57 : decode cX8_candidate 57 = .ok (.goto 117, 3) := by decide +kernel
theorem dX8_candidate_60 : decode cX8_candidate 60 = .ok (.aload_n 0, 1) := by decide +kernel
theorem dX8_candidate_61 : decode cX8_candidate 61 = .ok (.getfield 80, 3) := by decide +kernel
theorem dX8_candidate_64 : decode cX8_candidate 64 = .ok (.iload_n 3, 1) := by decide +kernel
theorem dX8_candidate_65 : decode cX8_candidate 65 = .ok (.iaload, 1) := by decide +kernel
theorem dX8_candidate_66 : decode cX8_candidate 66 = .ok (.iconst 1, 1) := by decide +kernel
theorem dX8_candidate_67 : decode cX8_candidate 67 = .ok (.if_icmp .ne 107, 3) := by decide +kernel
theorem dX8_candidate_70 : decode cX8_candidate 70 = .ok (.iload_n 2, 1) := by decide +kernel
theorem dX8_candidate_71 : decode cX8_candidate 71 = .ok (.aload_n 0, 1) := by decide +kernel
theorem dX8_candidate_72 : decode cX8_candidate 72 = .ok (.getfield 83, 3) := by decide +kernel
theorem dX8_candidate_75 : decode cX8_candidate 75 = .ok (.iload_n 3, 1) := by decide +kernel
theorem dX8_candidate_76 : decode cX8_candidate 76 = .ok (.iaload, 1) := by decide +kernel
theorem dX8_candidate_77 : decode cX8_candidate 77 = .ok (.if_icmp .ge 11, 3) := by decide +kernel
theorem dX8_candidate_80 : decode cX8_candidate 80 = .ok (.aload_n 0, 1) := by decide +kernel
theorem dX8_candidate_81 : decode cX8_candidate 81 = .ok (.iload_n 3, 1) := by decide +kernel
theorem dX8_candidate_82 : decode cX8_candidate 82 = .ok (.iload_n 2, 1) := by decide +kernel
theorem dX8_candidate_83 : decode cX8_candidate 83 = .ok (.invokevirtual 252, 3) := by decide +kernel
theorem dX8_candidate_86 : decode cX8_candidate 86 = .ok (.iconst 1, 1) := by decide +kernel
theorem dX8_candidate_87 : decode cX8_candidate 87 = .ok (.ireturn, 1) := by decide +kernel
theorem dX8_candidate_88 : decode cX8_candidate 88 = .ok (.iload_n 2, 1) := by decide +kernel
theorem dX8_candidate_89 : decode cX8_candidate 89 = .ok (.aload_n 0, 1) := by decide +kernel
theorem dX8_candidate_90 : decode cX8_candidate 90 = .ok (.getfield 83, 3) := by decide +kernel
theorem dX8_candidate_93 : decode cX8_candidate 93 = .ok (.iload_n 3, 1) := by decide +kernel
theorem dX8_candidate_94 : decode cX8_candidate 94 = .ok (.iaload, 1) := by decide +kernel
theorem dX8_candidate_95 : decode cX8_candidate 95 = .ok (.isub, 1) := by decide +kernel
theorem dX8_candidate_96 : decode cX8_candidate 96 = .ok (.istore_n 2, 1) := by decide +kernel
theorem dX8_candidate_97 : decode cX8_candidate 97 = .ok (.iconst 0, 1) := by decide +kernel
theorem dX8_candidate_98 : decode cX8_candidate 98 = .ok (.istore 4, 2) := by decide +kernel
theorem dX8_candidate_100 : decode cX8_candidate 100 = .ok (.iload 4, 2) := by decide +kernel
theorem dX8_candidate_102 : decode cX8_candidate 102 = .ok (.aload_n 0, 1) := by decide +kernel
theorem dX8_candidate_103 : decode cX8_candidate 103 = .ok (.getfield 83, 3) := by decide +kernel
theorem dX8_candidate_106 : decode cX8_candidate 106 = .ok (.iload_n 3, 1) := by decide +kernel
theorem dX8_candidate_107 : decode cX8_candidate 107 = .ok (.iaload, 1) := by decide +kernel
theorem dX8_candidate_108 : decode cX8_candidate 108 = .ok (.if_icmp .ge 66, 3) := by decide +kernel
theorem dX8_candidate_111 : decode cX8_candidate 111 = .ok (.aload_n 0, 1) := by decide +kernel
theorem dX8_candidate_112 : decode cX8_candidate 112 = .ok (.getfield 86, 3) := by decide +kernel
theorem dX8_candidate_115 : decode cX8_candidate 115 = .ok (.bipush 16, 2) := by decide +kernel
theorem dX8_candidate_117 : decode cX8_candidate 117 = .ok (.iload_n 3, 1) := by decide +kernel
theorem dX8_candidate_118 : decode cX8_candidate 118 = .ok (.imul, 1) := by decide +kernel
theorem dX8_candidate_119 : decode cX8_candidate 119 = .ok (.iload 4, 2) := by decide +kernel
theorem dX8_candidate_121 : decode cX8_candidate 121 = .ok (.iadd, 1) := by decide +kernel
theorem dX8_candidate_122 : decode cX8_candidate 122 = .ok (.iaload, 1) := by decide +kernel
theorem dX8_candidate_123 : decode cX8_candidate 123 = .ok (.istore 5, 2) := by decide +kernel
theorem dX8_candidate_125 : decode cX8_candidate 125 = .ok (.iload 5, 2) := by decide +kernel
theorem dX8_candidate_127 : decode cX8_candidate 127 = .ok (.ifCond .eq 28, 3) := by decide +kernel
theorem dX8_candidate_130 : decode cX8_candidate 130 = .ok (.iload_n 2, 1) := by decide +kernel
theorem dX8_candidate_131 : decode cX8_candidate 131 = .ok (.iconst 3, 1) := by decide +kernel
theorem dX8_candidate_132 : decode cX8_candidate 132 = .ok (.if_icmp .ge 23, 3) := by decide +kernel
theorem dX8_candidate_135 : decode cX8_candidate 135 = .ok (.aload_n 0, 1) := by decide +kernel
theorem dX8_candidate_136 : decode cX8_candidate 136 = .ok (.getfield 31, 3) := by decide +kernel
theorem dX8_candidate_139 : decode cX8_candidate 139 = .ok (.bipush 16, 2) := by decide +kernel
theorem dX8_candidate_141 : decode cX8_candidate 141 = .ok (.iload_n 3, 1) := by decide +kernel
theorem dX8_candidate_142 : decode cX8_candidate 142 = .ok (.imul, 1) := by decide +kernel
theorem dX8_candidate_143 : decode cX8_candidate 143 = .ok (.iload 4, 2) := by decide +kernel
theorem dX8_candidate_145 : decode cX8_candidate 145 = .ok (.iadd, 1) := by decide +kernel
theorem dX8_candidate_146 : decode cX8_candidate 146 = .ok (.iload 5, 2) := by decide +kernel
theorem dX8_candidate_148 : decode cX8_candidate 148 = .ok (.iload_n 2, 1) := by decide +kernel
theorem dX8_candidate_149 : decode cX8_candidate 149 = .ok (.invokestatic 249, 3) := by decide +kernel
theorem dX8_candidate_152 : decode cX8_candidate 152 = .ok (.iastore, 1) := by decide +kernel
theorem dX8_candidate_153 : decode cX8_candidate 153 = .ok (.iconst 1, 1) := by decide +kernel
theorem dX8_candidate_154 : decode cX8_candidate 154 = .ok (.ireturn, 1) := by decide +kernel
theorem dX8_candidate_155 : decode cX8_candidate 155 = .ok (.iload_n 2, 1) := by decide +kernel
theorem dX8_candidate_156 : decode cX8_candidate 156 = .ok (.iload 5, 2) := by decide +kernel
theorem dX8_candidate_158 : decode cX8_candidate 158 = .ok (.ifCond .eq 7, 3) := by decide +kernel
theorem dX8_candidate_161 : decode cX8_candidate 161 = .ok (.iconst 3, 1) := by decide +kernel
theorem dX8_candidate_162 : decode cX8_candidate 162 = .ok (.goto 4, 3) := by decide +kernel
theorem dX8_candidate_165 : decode cX8_candidate 165 = .ok (.iconst 0, 1) := by decide +kernel
theorem dX8_candidate_166 : decode cX8_candidate 166 = .ok (.isub, 1) := by decide +kernel
theorem dX8_candidate_167 : decode cX8_candidate 167 = .ok (.istore_n 2, 1) := by decide +kernel
theorem dX8_candidate_168 : decode cX8_candidate 168 = .ok (.iinc 4 1, 3) := by decide +kernel
theorem dX8_candidate_171 : decode cX8_candidate 171 = .ok (.goto (-71), 3) := by decide +kernel
theorem dX8_candidate_174 : decode cX8_candidate 174 = .ok (.iinc 3 1, 3) := by decide +kernel
theorem dX8_candidate_177 : decode cX8_candidate 177 = .ok (.goto (-173), 3) := by decide +kernel
theorem dX8_candidate_180 : decode cX8_candidate 180 = .ok (.iconst 0, 1) := by decide +kernel
theorem dX8_candidate_181 : decode cX8_candidate 181 = .ok (.ireturn, 1) := by decide +kernel
theorem dX8_without_0 : decode cX8_without 0 = .ok (.iload_n 2, 1) := by decide +kernel
theorem dX8_without_1 : decode cX8_without 1 = .ok (.istore_n 3, 1) := by decide +kernel
theorem dX8_without_2 : decode cX8_without 2 = .ok (.iload_n 3, 1) := by decide +kernel
theorem dX8_without_3 : decode cX8_without 3 = .ok (.iconst 1, 1) := by decide +kernel
theorem dX8_without_4 : decode cX8_without 4 = .ok (.iadd, 1) := by decide +kernel
theorem dX8_without_5 : decode cX8_without 5 = .ok (.aload_n 0, 1) := by decide +kernel
theorem dX8_without_6 : decode cX8_without 6 = .ok (.getfield 83, 3) := by decide +kernel
theorem dX8_without_9 : decode cX8_without 9 = .ok (.iload_n 1, 1) := by decide +kernel
theorem dX8_without_10 : decode cX8_without 10 = .ok (.iaload, 1) := by decide +kernel
theorem dX8_without_11 : decode cX8_without 11 = .ok (.if_icmp .ge 33, 3) := by decide +kernel
theorem dX8_without_14 : decode cX8_without 14 = .ok (.aload_n 0, 1) := by decide +kernel
theorem dX8_without_15 : decode cX8_without 15 = .ok (.getfield 31, 3) := by decide +kernel
theorem dX8_without_18 : decode cX8_without 18 = .ok (.bipush 16, 2) := by decide +kernel
theorem dX8_without_20 : decode cX8_without 20 = .ok (.iload_n 1, 1) := by decide +kernel
theorem dX8_without_21 : decode cX8_without 21 = .ok (.imul, 1) := by decide +kernel
theorem dX8_without_22 : decode cX8_without 22 = .ok (.iload_n 3, 1) := by decide +kernel
theorem dX8_without_23 : decode cX8_without 23 = .ok (.iadd, 1) := by decide +kernel
theorem dX8_without_24 : decode cX8_without 24 = .ok (.aload_n 0, 1) := by decide +kernel
theorem dX8_without_25 : decode cX8_without 25 = .ok (.getfield 86, 3) := by decide +kernel
theorem dX8_without_28 : decode cX8_without 28 = .ok (.bipush 16, 2) := by decide +kernel
theorem dX8_without_30 : decode cX8_without 30 = .ok (.iload_n 1, 1) := by decide +kernel
theorem dX8_without_31 : decode cX8_without 31 = .ok (.imul, 1) := by decide +kernel
theorem dX8_without_32 : decode cX8_without 32 = .ok (.iload_n 3, 1) := by decide +kernel
theorem dX8_without_33 : decode cX8_without 33 = .ok (.iadd, 1) := by decide +kernel
theorem dX8_without_34 : decode cX8_without 34 = .ok (.iconst 1, 1) := by decide +kernel
theorem dX8_without_35 : decode cX8_without 35 = .ok (.iadd, 1) := by decide +kernel
theorem dX8_without_36 : decode cX8_without 36 = .ok (.iaload, 1) := by decide +kernel
theorem dX8_without_37 : decode cX8_without 37 = .ok (.iastore, 1) := by decide +kernel
theorem dX8_without_38 : decode cX8_without 38 = .ok (.iinc 3 1, 3) := by decide +kernel
theorem dX8_without_41 : decode cX8_without 41 = .ok (.goto (-39), 3) := by decide +kernel
theorem dX8_without_44 : decode cX8_without 44 = .ok (.aload_n 0, 1) := by decide +kernel
theorem dX8_without_45 : decode cX8_without 45 = .ok (.getfield 28, 3) := by decide +kernel
theorem dX8_without_48 : decode cX8_without 48 = .ok (.iload_n 1, 1) := by decide +kernel
theorem dX8_without_49 : decode cX8_without 49 = .ok (.aload_n 0, 1) := by decide +kernel
theorem dX8_without_50 : decode cX8_without 50 = .ok (.getfield 83, 3) := by decide +kernel
theorem dX8_without_53 : decode cX8_without 53 = .ok (.iload_n 1, 1) := by decide +kernel
theorem dX8_without_54 : decode cX8_without 54 = .ok (.iaload, 1) := by decide +kernel
theorem dX8_without_55 : decode cX8_without 55 = .ok (.iconst 1, 1) := by decide +kernel
theorem dX8_without_56 : decode cX8_without 56 = .ok (.isub, 1) := by decide +kernel
theorem dX8_without_57 : decode cX8_without 57 = .ok (.iastore, 1) := by decide +kernel
theorem dX8_without_58 : decode cX8_without 58 = .ok (.return_, 1) := by decide +kernel
theorem dX8_power_0 : decode cX8_power 0 = .ok (.iconst 1, 1) := by decide +kernel
theorem dX8_power_1 : decode cX8_power 1 = .ok (.istore_n 2, 1) := by decide +kernel
theorem dX8_power_2 : decode cX8_power 2 = .ok (.iconst 0, 1) := by decide +kernel
theorem dX8_power_3 : decode cX8_power 3 = .ok (.istore_n 3, 1) := by decide +kernel
theorem dX8_power_4 : decode cX8_power 4 = .ok (.iload_n 3, 1) := by decide +kernel
theorem dX8_power_5 : decode cX8_power 5 = .ok (.iload_n 1, 1) := by decide +kernel
theorem dX8_power_6 : decode cX8_power 6 = .ok (.if_icmp .ge 13, 3) := by decide +kernel
theorem dX8_power_9 : decode cX8_power 9 = .ok (.iload_n 2, 1) := by decide +kernel
theorem dX8_power_10 : decode cX8_power 10 = .ok (.iload_n 0, 1) := by decide +kernel
theorem dX8_power_11 : decode cX8_power 11 = .ok (.imul, 1) := by decide +kernel
theorem dX8_power_12 : decode cX8_power 12 = .ok (.istore_n 2, 1) := by decide +kernel
theorem dX8_power_13 : decode cX8_power 13 = .ok (.iinc 3 1, 3) := by decide +kernel
theorem dX8_power_16 : decode cX8_power 16 = .ok (.goto (-12), 3) := by decide +kernel
theorem dX8_power_19 : decode cX8_power 19 = .ok (.iload_n 2, 1) := by decide +kernel
theorem dX8_power_20 : decode cX8_power 20 = .ok (.ireturn, 1) := by decide +kernel
theorem dX8_sort_0 : decode cX8_sort 0 = .ok (.iload_n 0, 1) := by decide +kernel
theorem dX8_sort_1 : decode cX8_sort 1 = .ok (.ifCond .ge 5, 3) := by decide +kernel
theorem dX8_sort_4 : decode cX8_sort 4 = .ok (.iconst 1, 1) := by decide +kernel
theorem dX8_sort_5 : decode cX8_sort 5 = .ok (.ireturn, 1) := by decide +kernel
theorem dX8_sort_6 : decode cX8_sort 6 = .ok (.iload_n 0, 1) := by decide +kernel
theorem dX8_sort_7 : decode cX8_sort 7 = .ok (.ifCond .ne 9, 3) := by decide +kernel
theorem dX8_sort_10 : decode cX8_sort 10 = .ok (.iconst 2, 1) := by decide +kernel
theorem dX8_sort_11 : decode cX8_sort 11 = .ok (.iload_n 1, 1) := by decide +kernel
theorem dX8_sort_12 : decode cX8_sort 12 = .ok (.imul, 1) := by decide +kernel
theorem dX8_sort_13 : decode cX8_sort 13 = .ok (.iconst 1, 1) := by decide +kernel
theorem dX8_sort_14 : decode cX8_sort 14 = .ok (.iadd, 1) := by decide +kernel
theorem dX8_sort_15 : decode cX8_sort 15 = .ok (.ireturn, 1) := by decide +kernel
theorem dX8_sort_16 : decode cX8_sort 16 = .ok (.iconst 0, 1) := by decide +kernel
theorem dX8_sort_17 : decode cX8_sort 17 = .ok (.istore_n 2, 1) := by decide +kernel
theorem dX8_sort_18 : decode cX8_sort 18 = .ok (.iconst 0, 1) := by decide +kernel
theorem dX8_sort_19 : decode cX8_sort 19 = .ok (.istore_n 3, 1) := by decide +kernel
theorem dX8_sort_20 : decode cX8_sort 20 = .ok (.iload_n 3, 1) := by decide +kernel
theorem dX8_sort_21 : decode cX8_sort 21 = .ok (.iload_n 1, 1) := by decide +kernel
theorem dX8_sort_22 : decode cX8_sort 22 = .ok (.if_icmp .gt 21, 3) := by decide +kernel
theorem dX8_sort_25 : decode cX8_sort 25 = .ok (.iload_n 2, 1) := by decide +kernel
theorem dX8_sort_26 : decode cX8_sort 26 = .ok (.iconst 2, 1) := by decide +kernel
theorem dX8_sort_27 : decode cX8_sort 27 = .ok (.iload_n 1, 1) := by decide +kernel
theorem dX8_sort_28 : decode cX8_sort 28 = .ok (.imul, 1) := by decide +kernel
theorem dX8_sort_29 : decode cX8_sort 29 = .ok (.iconst 1, 1) := by decide +kernel
theorem dX8_sort_30 : decode cX8_sort 30 = .ok (.iadd, 1) := by decide +kernel
theorem dX8_sort_31 : decode cX8_sort 31 = .ok (.iload_n 3, 1) := by decide +kernel
theorem dX8_sort_32 : decode cX8_sort 32 = .ok (.invokestatic 255, 3) := by decide +kernel
theorem dX8_sort_35 : decode cX8_sort 35 = .ok (.iadd, 1) := by decide +kernel
theorem dX8_sort_36 : decode cX8_sort 36 = .ok (.istore_n 2, 1) := by decide +kernel
theorem dX8_sort_37 : decode cX8_sort 37 = .ok (.iinc 3 1, 3) := by decide +kernel
theorem dX8_sort_40 : decode cX8_sort 40 = .ok (.goto (-20), 3) := by decide +kernel
theorem dX8_sort_43 : decode cX8_sort 43 = .ok (.iload_n 2, 1) := by decide +kernel
theorem dX8_sort_44 : decode cX8_sort 44 = .ok (.ireturn, 1) := by decide +kernel
theorem dX8_all_0 : decode cX8_all 0 = .ok (.aload_n 0, 1) := by decide +kernel
theorem dX8_all_1 : decode cX8_all 1 = .ok (.getfield 55, 3) := by decide +kernel
theorem dX8_all_4 : decode cX8_all 4 = .ok (.iconst 3, 1) := by decide +kernel
theorem dX8_all_5 : decode cX8_all 5 = .ok (.iload_n 1, 1) := by decide +kernel
theorem dX8_all_6 : decode cX8_all 6 = .ok (.imul, 1) := by decide +kernel
theorem dX8_all_7 : decode cX8_all 7 = .ok (.iaload, 1) := by decide +kernel
theorem dX8_all_8 : decode cX8_all 8 = .ok (.iload_n 2, 1) := by decide +kernel
theorem dX8_all_9 : decode cX8_all 9 = .ok (.invokestatic 258, 3) := by decide +kernel
theorem dX8_all_12 : decode cX8_all 12 = .ok (.aload_n 0, 1) := by decide +kernel
theorem dX8_all_13 : decode cX8_all 13 = .ok (.getfield 55, 3) := by decide +kernel
theorem dX8_all_16 : decode cX8_all 16 = .ok (.iconst 3, 1) := by decide +kernel
theorem dX8_all_17 : decode cX8_all 17 = .ok (.iload_n 1, 1) := by decide +kernel
theorem dX8_all_18 : decode cX8_all 18 = .ok (.imul, 1) := by decide +kernel
theorem dX8_all_19 : decode cX8_all 19 = .ok (.iconst 1, 1) := by decide +kernel
theorem dX8_all_20 : decode cX8_all 20 = .ok (.iadd, 1) := by decide +kernel
theorem dX8_all_21 : decode cX8_all 21 = .ok (.iaload, 1) := by decide +kernel
theorem dX8_all_22 : decode cX8_all 22 = .ok (.iload_n 2, 1) := by decide +kernel
theorem dX8_all_23 : decode cX8_all 23 = .ok (.invokestatic 258, 3) := by decide +kernel
theorem dX8_all_26 : decode cX8_all 26 = .ok (.imul, 1) := by decide +kernel
theorem dX8_all_27 : decode cX8_all 27 = .ok (.aload_n 0, 1) := by decide +kernel
theorem dX8_all_28 : decode cX8_all 28 = .ok (.getfield 55, 3) := by decide +kernel
theorem dX8_all_31 : decode cX8_all 31 = .ok (.iconst 3, 1) := by decide +kernel
theorem dX8_all_32 : decode cX8_all 32 = .ok (.iload_n 1, 1) := by decide +kernel
theorem dX8_all_33 : decode cX8_all 33 = .ok (.imul, 1) := by decide +kernel
theorem dX8_all_34 : decode cX8_all 34 = .ok (.iconst 2, 1) := by decide +kernel
theorem dX8_all_35 : decode cX8_all 35 = .ok (.iadd, 1) := by decide +kernel
theorem dX8_all_36 : decode cX8_all 36 = .ok (.iaload, 1) := by decide +kernel
theorem dX8_all_37 : decode cX8_all 37 = .ok (.iload_n 2, 1) := by decide +kernel
theorem dX8_all_38 : decode cX8_all 38 = .ok (.invokestatic 258, 3) := by decide +kernel
theorem dX8_all_41 : decode cX8_all 41 = .ok (.imul, 1) := by decide +kernel
theorem dX8_all_42 : decode cX8_all 42 = .ok (.ireturn, 1) := by decide +kernel
theorem dX8_many_0 : decode cX8_many 0 = .ok (.aload_n 0, 1) := by decide +kernel
theorem dX8_many_1 : decode cX8_many 1 = .ok (.iload_n 1, 1) := by decide +kernel
theorem dX8_many_2 : decode cX8_many 2 = .ok (.invokevirtual 231, 3) := by decide +kernel
theorem dX8_many_5 : decode cX8_many 5 = .ok (.ifCond .eq 12, 3) := by decide +kernel
theorem dX8_many_8 : decode cX8_many 8 = .ok (.iload_n 2, 1) := by decide +kernel
theorem dX8_many_9 : decode cX8_many 9 = .ok (.iconst 0, 1) := by decide +kernel
theorem dX8_many_10 : decode cX8_many 10 = .ok (.iconst 3, 1) := by decide +kernel
theorem dX8_many_11 : decode cX8_many 11 = .ok (.invokestatic 95, 3) := by decide +kernel
theorem dX8_many_14 : decode cX8_many 14 = .ok (.ifCond .ne 5, 3) := by decide +kernel
theorem dX8_many_17 : decode cX8_many 17 = .ok (.iconst (-1), 1) := by decide +kernel
theorem dX8_many_18 : decode cX8_many 18 = .ok (.ireturn, 1) := by decide +kernel
theorem dX8_many_19 : decode cX8_many 19 = .ok (.aload_n 0, 1) := by decide +kernel
theorem dX8_many_20 : decode cX8_many 20 = .ok (.iload_n 1, 1) := by decide +kernel
theorem dX8_many_21 : decode cX8_many 21 = .ok (.iload_n 2, 1) := by decide +kernel
theorem dX8_many_22 : decode cX8_many 22 = .ok (.invokevirtual 261, 3) := by decide +kernel
theorem dX8_many_25 : decode cX8_many 25 = .ok (.istore_n 3, 1) := by decide +kernel
theorem dX8_many_26 : decode cX8_many 26 = .ok (.iload_n 3, 1) := by decide +kernel
theorem dX8_many_27 : decode cX8_many 27 = .ok (.sipush 3000, 3) := by decide +kernel
theorem dX8_many_30 : decode cX8_many 30 = .ok (.if_icmp .le 8, 3) := by decide +kernel
theorem dX8_many_33 : decode cX8_many 33 = .ok (.bipush (-2), 2) := by decide +kernel
theorem dX8_many_35 : decode cX8_many 35 = .ok (.goto 4, 3) := by decide +kernel
theorem dX8_many_38 : decode cX8_many 38 = .ok (.iload_n 3, 1) := by decide +kernel
theorem dX8_many_39 : decode cX8_many 39 = .ok (.ireturn, 1) := by decide +kernel
theorem dX8_ranked_0 : decode cX8_ranked 0 = .ok (.iload_n 0, 1) := by decide +kernel
theorem dX8_ranked_1 : decode cX8_ranked 1 = .ok (.iconst 2, 1) := by decide +kernel
theorem dX8_ranked_2 : decode cX8_ranked 2 = .ok (.irem, 1) := by decide +kernel
theorem dX8_ranked_3 : decode cX8_ranked 3 = .ok (.iconst 1, 1) := by decide +kernel
theorem dX8_ranked_4 : decode cX8_ranked 4 = .ok (.if_icmp .ne 11, 3) := by decide +kernel
theorem dX8_ranked_7 : decode cX8_ranked 7 = .ok (.iload_n 0, 1) := by decide +kernel
theorem dX8_ranked_8 : decode cX8_ranked 8 = .ok (.iconst 1, 1) := by decide +kernel
theorem dX8_ranked_9 : decode cX8_ranked 9 = .ok (.iadd, 1) := by decide +kernel
theorem dX8_ranked_10 : decode cX8_ranked 10 = .ok (.iconst 2, 1) := by decide +kernel
theorem dX8_ranked_11 : decode cX8_ranked 11 = .ok (.idiv, 1) := by decide +kernel
theorem dX8_ranked_12 : decode cX8_ranked 12 = .ok (.goto 7, 3) := by decide +kernel
theorem dX8_ranked_15 : decode cX8_ranked 15 = .ok (.iload_n 0, 1) := by decide +kernel
theorem dX8_ranked_16 : decode cX8_ranked 16 = .ok (.iconst 2, 1) := by decide +kernel
theorem dX8_ranked_17 : decode cX8_ranked 17 = .ok (.idiv, 1) := by decide +kernel
theorem dX8_ranked_18 : decode cX8_ranked 18 = .ok (.ineg, 1) := by decide +kernel
theorem dX8_ranked_19 : decode cX8_ranked 19 = .ok (.ireturn, 1) := by decide +kernel
theorem dX8_takeSmall_0 : decode cX8_takeSmall 0 = .ok (.iload_n 2, 1) := by decide +kernel
theorem dX8_takeSmall_1 : decode cX8_takeSmall 1 = .ok (.ifCond .ne 15, 3) := by decide +kernel
theorem dX8_takeSmall_4 : decode cX8_takeSmall 4 = .ok (.aload_n 0, 1) := by decide +kernel
theorem dX8_takeSmall_5 : decode cX8_takeSmall 5 = .ok (.getfield 28, 3) := by decide +kernel
theorem dX8_takeSmall_8 : decode cX8_takeSmall 8 = .ok (.iload_n 1, 1) := by decide +kernel
theorem dX8_takeSmall_9 : decode cX8_takeSmall 9 = .ok (.iload 4, 2) := by decide +kernel
theorem dX8_takeSmall_11 : decode cX8_takeSmall 11 = .ok (.invokestatic 264, 3) := by decide +kernel
theorem dX8_takeSmall_14 : decode cX8_takeSmall 14 = .ok (.iastore, 1) := by decide +kernel
theorem dX8_takeSmall_15 : decode cX8_takeSmall 15 = .ok (.return_, 1) := by decide +kernel
theorem dX8_takeSmall_16 : decode cX8_takeSmall 16 = .ok (.iconst 2, 1) := by decide +kernel
theorem dX8_takeSmall_17 : decode cX8_takeSmall 17 = .ok (.iload_n 3, 1) := by decide +kernel
theorem dX8_takeSmall_18 : decode cX8_takeSmall 18 = .ok (.imul, 1) := by decide +kernel
theorem dX8_takeSmall_19 : decode cX8_takeSmall 19 = .ok (.iconst 1, 1) := by decide +kernel
theorem dX8_takeSmall_20 : decode cX8_takeSmall 20 = .ok (.iadd, 1) := by decide +kernel
theorem dX8_takeSmall_21 : decode cX8_takeSmall 21 = .ok (.istore 5, 2) := by decide +kernel
theorem dX8_takeSmall_23 : decode cX8_takeSmall 23 = .ok (.iload 4, 2) := by decide +kernel
theorem dX8_takeSmall_25 : decode cX8_takeSmall 25 = .ok (.istore 6, 2) := by decide +kernel
theorem dX8_takeSmall_27 : decode cX8_takeSmall 27 = .ok (.iconst 0, 1) := by decide +kernel
theorem dX8_takeSmall_28 : decode cX8_takeSmall 28 = .ok (.istore 7, 2) := by decide +kernel
theorem dX8_takeSmall_30 : decode cX8_takeSmall 30 = .ok (.iload 6, 2) := by decide +kernel
theorem dX8_takeSmall_32 : decode cX8_takeSmall 32 = .ok (.iload 5, 2) := by decide +kernel
theorem dX8_takeSmall_34 : decode cX8_takeSmall 34 = .ok (.iload 7, 2) := by decide +kernel
theorem dX8_takeSmall_36 : decode cX8_takeSmall 36 = .ok (.invokestatic 255, 3) := by decide +kernel
theorem dX8_takeSmall_39 : decode cX8_takeSmall 39 = .ok (.if_icmp .lt 21, 3) := by decide +kernel
theorem dX8_takeSmall_42 : decode cX8_takeSmall 42 = .ok (.iload 6, 2) := by decide +kernel
theorem dX8_takeSmall_44 : decode cX8_takeSmall 44 = .ok (.iload 5, 2) := by decide +kernel
theorem dX8_takeSmall_46 : decode cX8_takeSmall 46 = .ok (.iload 7, 2) := by decide +kernel
theorem dX8_takeSmall_48 : decode cX8_takeSmall 48 = .ok (.invokestatic 255, 3) := by decide +kernel
theorem dX8_takeSmall_51 : decode cX8_takeSmall 51 = .ok (.isub, 1) := by decide +kernel
theorem dX8_takeSmall_52 : decode cX8_takeSmall 52 = .ok (.istore 6, 2) := by decide +kernel
theorem dX8_takeSmall_54 : decode cX8_takeSmall 54 = .ok (.iinc 7 1, 3) := by decide +kernel
theorem dX8_takeSmall_57 : decode cX8_takeSmall 57 = .ok (.goto (-27), 3) := by decide +kernel
theorem dX8_takeSmall_60 : decode cX8_takeSmall 60 = .ok (.aload_n 0, 1) := by decide +kernel
theorem dX8_takeSmall_61 : decode cX8_takeSmall 61 = .ok (.getfield 28, 3) := by decide +kernel
theorem dX8_takeSmall_64 : decode cX8_takeSmall 64 = .ok (.iload_n 1, 1) := by decide +kernel
theorem dX8_takeSmall_65 : decode cX8_takeSmall 65 = .ok (.iload 7, 2) := by decide +kernel
theorem dX8_takeSmall_67 : decode cX8_takeSmall 67 = .ok (.iastore, 1) := by decide +kernel
theorem dX8_takeSmall_68 : decode cX8_takeSmall 68 = .ok (.iload 7, 2) := by decide +kernel
theorem dX8_takeSmall_70 : decode cX8_takeSmall 70 = .ok (.iconst 1, 1) := by decide +kernel
theorem dX8_takeSmall_71 : decode cX8_takeSmall 71 = .ok (.isub, 1) := by decide +kernel
theorem dX8_takeSmall_72 : decode cX8_takeSmall 72 = .ok (.istore 8, 2) := by decide +kernel
theorem dX8_takeSmall_74 : decode cX8_takeSmall 74 = .ok (.iload 8, 2) := by decide +kernel
theorem dX8_takeSmall_76 : decode cX8_takeSmall 76 = .ok (.ifCond .lt 36, 3) := by decide +kernel
theorem dX8_takeSmall_79 : decode cX8_takeSmall 79 = .ok (.aload_n 0, 1) := by decide +kernel
theorem dX8_takeSmall_80 : decode cX8_takeSmall 80 = .ok (.getfield 31, 3) := by decide +kernel
theorem dX8_takeSmall_83 : decode cX8_takeSmall 83 = .ok (.bipush 16, 2) := by decide +kernel
theorem dX8_takeSmall_85 : decode cX8_takeSmall 85 = .ok (.iload_n 1, 1) := by decide +kernel
theorem dX8_takeSmall_86 : decode cX8_takeSmall 86 = .ok (.imul, 1) := by decide +kernel
theorem dX8_takeSmall_87 : decode cX8_takeSmall 87 = .ok (.iload 8, 2) := by decide +kernel
theorem dX8_takeSmall_89 : decode cX8_takeSmall 89 = .ok (.iadd, 1) := by decide +kernel
theorem dX8_takeSmall_90 : decode cX8_takeSmall 90 = .ok (.iload 6, 2) := by decide +kernel
theorem dX8_takeSmall_92 : decode cX8_takeSmall 92 = .ok (.iload 5, 2) := by decide +kernel
theorem dX8_takeSmall_94 : decode cX8_takeSmall 94 = .ok (.irem, 1) := by decide +kernel
theorem dX8_takeSmall_95 : decode cX8_takeSmall 95 = .ok (.invokestatic 264, 3) := by decide +kernel
theorem dX8_takeSmall_98 : decode cX8_takeSmall 98 = .ok (.iastore, 1) := by decide +kernel
theorem dX8_takeSmall_99 : decode cX8_takeSmall 99 = .ok (.iload 6, 2) := by decide +kernel
theorem dX8_takeSmall_101 : decode cX8_takeSmall 101 = .ok (.iload 5, 2) := by decide +kernel
theorem dX8_takeSmall_103 : decode cX8_takeSmall 103 = .ok (.idiv, 1) := by decide +kernel
theorem dX8_takeSmall_104 : decode cX8_takeSmall 104 = .ok (.istore 6, 2) := by decide +kernel
theorem dX8_takeSmall_106 : decode cX8_takeSmall 106 = .ok (.iinc 8 (-1), 3) := by decide +kernel
theorem dX8_takeSmall_109 : decode cX8_takeSmall 109 = .ok (.goto (-35), 3) := by decide +kernel
theorem dX8_takeSmall_112 : decode cX8_takeSmall 112 = .ok (.return_, 1) := by decide +kernel
theorem dX8_small_0 : decode cX8_small 0 = .ok (.aload_n 0, 1) := by decide +kernel
theorem dX8_small_1 : decode cX8_small 1 = .ok (.iload_n 1, 1) := by decide +kernel
theorem dX8_small_2 : decode cX8_small 2 = .ok (.invokevirtual 231, 3) := by decide +kernel
theorem dX8_small_5 : decode cX8_small 5 = .ok (.ifCond .eq 12, 3) := by decide +kernel
theorem dX8_small_8 : decode cX8_small 8 = .ok (.iload_n 2, 1) := by decide +kernel
theorem dX8_small_9 : decode cX8_small 9 = .ok (.iconst 0, 1) := by decide +kernel
theorem dX8_small_10 : decode cX8_small 10 = .ok (.iconst 3, 1) := by decide +kernel
theorem dX8_small_11 : decode cX8_small 11 = .ok (.invokestatic 95, 3) := by decide +kernel
theorem dX8_small_14 : decode cX8_small 14 = .ok (.ifCond .ne 5, 3) := by decide +kernel
theorem dX8_small_17 : decode cX8_small 17 = .ok (.iconst (-1), 1) := by decide +kernel
theorem dX8_small_18 : decode cX8_small 18 = .ok (.ireturn, 1) := by decide +kernel
theorem dX8_small_19 : decode cX8_small 19 = .ok (.aload_n 0, 1) := by decide +kernel
theorem dX8_small_20 : decode cX8_small 20 = .ok (.iload_n 1, 1) := by decide +kernel
theorem dX8_small_21 : decode cX8_small 21 = .ok (.iload_n 2, 1) := by decide +kernel
theorem dX8_small_22 : decode cX8_small 22 = .ok (.invokevirtual 261, 3) := by decide +kernel
theorem dX8_small_25 : decode cX8_small 25 = .ok (.istore_n 3, 1) := by decide +kernel
theorem dX8_small_26 : decode cX8_small 26 = .ok (.iload_n 3, 1) := by decide +kernel
theorem dX8_small_27 : decode cX8_small 27 = .ok (.sipush 3000, 3) := by decide +kernel
theorem dX8_small_30 : decode cX8_small 30 = .ok (.if_icmp .gt 15, 3) := by decide +kernel
theorem dX8_small_33 : decode cX8_small 33 = .ok (.aload_n 0, 1) := by decide +kernel
theorem dX8_small_34 : decode cX8_small 34 = .ok (.getfield 178, 3) := by decide +kernel
theorem dX8_small_37 : decode cX8_small 37 = .ok (.iload_n 3, 1) := by decide +kernel
theorem dX8_small_38 : decode cX8_small 38 = .ok (.iadd, 1) := by decide +kernel
theorem dX8_small_39 : decode cX8_small 39 = .ok (.sipush 3000, 3) := by decide +kernel
theorem dX8_small_42 : decode cX8_small 42 = .ok (.if_icmp .le 6, 3) := by decide +kernel
theorem dX8_small_45 : decode cX8_small 45 = .ok (.bipush (-2), 2) := by decide +kernel
theorem dX8_small_47 : decode cX8_small 47 = .ok (.ireturn, 1) := by decide +kernel
theorem dX8_small_48 : decode cX8_small 48 = .ok (.aload_n 0, 1) := by decide +kernel
theorem dX8_small_49 : decode cX8_small 49 = .ok (.invokevirtual 234, 3) := by decide +kernel
theorem dX8_small_52 : decode cX8_small 52 = .ok (.aload_n 0, 1) := by decide +kernel
theorem dX8_small_53 : decode cX8_small 53 = .ok (.getfield 55, 3) := by decide +kernel
theorem dX8_small_56 : decode cX8_small 56 = .ok (.iconst 3, 1) := by decide +kernel
theorem dX8_small_57 : decode cX8_small 57 = .ok (.iload_n 1, 1) := by decide +kernel
theorem dX8_small_58 : decode cX8_small 58 = .ok (.imul, 1) := by decide +kernel
theorem dX8_small_59 : decode cX8_small 59 = .ok (.iconst 1, 1) := by decide +kernel
theorem dX8_small_60 : decode cX8_small 60 = .ok (.iadd, 1) := by decide +kernel
theorem dX8_small_61 : decode cX8_small 61 = .ok (.iaload, 1) := by decide +kernel
theorem dX8_small_62 : decode cX8_small 62 = .ok (.iload_n 2, 1) := by decide +kernel
theorem dX8_small_63 : decode cX8_small 63 = .ok (.invokestatic 258, 3) := by decide +kernel
theorem dX8_small_66 : decode cX8_small 66 = .ok (.istore 4, 2) := by decide +kernel
theorem dX8_small_68 : decode cX8_small 68 = .ok (.aload_n 0, 1) := by decide +kernel
theorem dX8_small_69 : decode cX8_small 69 = .ok (.getfield 55, 3) := by decide +kernel
theorem dX8_small_72 : decode cX8_small 72 = .ok (.iconst 3, 1) := by decide +kernel
theorem dX8_small_73 : decode cX8_small 73 = .ok (.iload_n 1, 1) := by decide +kernel
theorem dX8_small_74 : decode cX8_small 74 = .ok (.imul, 1) := by decide +kernel
theorem dX8_small_75 : decode cX8_small 75 = .ok (.iconst 2, 1) := by decide +kernel
theorem dX8_small_76 : decode cX8_small 76 = .ok (.iadd, 1) := by decide +kernel
theorem dX8_small_77 : decode cX8_small 77 = .ok (.iaload, 1) := by decide +kernel
theorem dX8_small_78 : decode cX8_small 78 = .ok (.iload_n 2, 1) := by decide +kernel
theorem dX8_small_79 : decode cX8_small 79 = .ok (.invokestatic 258, 3) := by decide +kernel
theorem dX8_small_82 : decode cX8_small 82 = .ok (.istore 5, 2) := by decide +kernel
theorem dX8_small_84 : decode cX8_small 84 = .ok (.iconst 0, 1) := by decide +kernel
theorem dX8_small_85 : decode cX8_small 85 = .ok (.istore 6, 2) := by decide +kernel
theorem dX8_small_87 : decode cX8_small 87 = .ok (.iconst 0, 1) := by decide +kernel
theorem dX8_small_88 : decode cX8_small 88 = .ok (.istore 7, 2) := by decide +kernel
theorem dX8_small_90 : decode cX8_small 90 = .ok (.iload 7, 2) := by decide +kernel
theorem dX8_small_92 : decode cX8_small 92 = .ok (.iload_n 3, 1) := by decide +kernel
theorem dX8_small_93 : decode cX8_small 93 = .ok (.if_icmp .ge 110, 3) := by decide +kernel
theorem dX8_small_96 : decode cX8_small 96 = .ok (.iload 6, 2) := by decide +kernel
theorem dX8_small_98 : decode cX8_small 98 = .ok (.ifCond .ne 105, 3) := by decide +kernel
theorem dX8_small_101 : decode cX8_small 101 = .ok (.iconst 0, 1) := by decide +kernel
theorem dX8_small_102 : decode cX8_small 102 = .ok (.istore 8, 2) := by decide +kernel
theorem dX8_small_104 : decode cX8_small 104 = .ok (.iload 8, 2) := by decide +kernel
theorem dX8_small_106 : decode cX8_small 106 = .ok (.iconst 3, 1) := by decide +kernel
theorem dX8_small_107 : decode cX8_small 107 = .ok (.if_icmp .ge 83, 3) := by decide +kernel
theorem dX8_small_110 : decode cX8_small 110 = .ok (.iload 8, 2) := by decide +kernel
theorem dX8_small_112 : decode cX8_small 112 = .ok (.ifCond .ne 14, 3) := by decide +kernel
theorem dX8_small_115 : decode cX8_small 115 = .ok (.iload 7, 2) := by decide +kernel
theorem dX8_small_117 : decode cX8_small 117 = .ok (.iload 5, 2) := by decide +kernel
theorem dX8_small_119 : decode cX8_small 119 = .ok (.idiv, 1) := by decide +kernel
theorem dX8_small_120 : decode cX8_small 120 = .ok (.iload 4, 2) := by decide +kernel
theorem dX8_small_122 : decode cX8_small 122 = .ok (.idiv, 1) := by decide +kernel
theorem dX8_small_123 : decode cX8_small 123 = .ok (.goto 25, 3) := by decide +kernel
theorem dX8_small_126 : decode cX8_small 126 = .ok (.iload 8, 2) := by decide +kernel
theorem dX8_small_128 : decode cX8_small 128 = .ok (.iconst 1, 1) := by decide +kernel
theorem dX8_small_129 : decode cX8_small 129 = .ok (.if_icmp .ne 14, 3) := by decide +kernel
theorem dX8_small_132 : decode cX8_small 132 = .ok (.iload 7, 2) := by decide +kernel
theorem dX8_small_134 : decode cX8_small 134 = .ok (.iload 5, 2) := by decide +kernel
theorem dX8_small_136 : decode cX8_small 136 = .ok (.idiv, 1) := by decide +kernel
theorem dX8_small_137 : decode cX8_small 137 = .ok (.iload 4, 2) := by decide +kernel
theorem dX8_small_139 : decode cX8_small 139 = .ok (.irem, 1) := by decide +kernel
theorem dX8_small_140 : decode cX8_small 140 = .ok (.goto 8, 3) := by decide +kernel
theorem dX8_small_143 : decode cX8_small 143 = .ok (.iload 7, 2) := by decide +kernel
theorem dX8_small_145 : decode cX8_small 145 = .ok (.iload 5, 2) := by decide +kernel
theorem dX8_small_147 : decode cX8_small 147 = .ok (.irem, 1) := by decide +kernel
theorem dX8_small_148 : decode cX8_small 148 = .ok (.istore 9, 2) := by decide +kernel
theorem dX8_small_150 : decode cX8_small 150 = .ok (.aload_n 0, 1) := by decide +kernel
theorem dX8_small_151 : decode cX8_small 151 = .ok (.getfield 55, 3) := by decide +kernel
theorem dX8_small_154 : decode cX8_small 154 = .ok (.iconst 3, 1) := by decide +kernel
theorem dX8_small_155 : decode cX8_small 155 = .ok (.iload_n 1, 1) := by decide +kernel
theorem dX8_small_156 : decode cX8_small 156 = .ok (.imul, 1) := by decide +kernel
theorem dX8_small_157 : decode cX8_small 157 = .ok (.iload 8, 2) := by decide +kernel
theorem dX8_small_159 : decode cX8_small 159 = .ok (.iadd, 1) := by decide +kernel
theorem dX8_small_160 : decode cX8_small 160 = .ok (.iaload, 1) := by decide +kernel
theorem dX8_small_161 : decode cX8_small 161 = .ok (.ifCond .lt 23, 3) := by decide +kernel
theorem dX8_small_164 : decode cX8_small 164 = .ok (.aload_n 0, 1) := by decide +kernel
theorem dX8_small_165 : decode cX8_small 165 = .ok (.iload 8, 2) := by decide +kernel
theorem dX8_small_167 : decode cX8_small 167 = .ok (.aload_n 0, 1) := by decide +kernel
theorem dX8_small_168 : decode cX8_small 168 = .ok (.getfield 55, 3) := by decide +kernel
theorem dX8_small_171 : decode cX8_small 171 = .ok (.iconst 3, 1) := by decide +kernel
theorem dX8_small_172 : decode cX8_small 172 = .ok (.iload_n 1, 1) := by decide +kernel
theorem dX8_small_173 : decode cX8_small 173 = .ok (.imul, 1) := by decide +kernel
theorem dX8_small_174 : decode cX8_small 174 = .ok (.iload 8, 2) := by decide +kernel
theorem dX8_small_176 : decode cX8_small 176 = .ok (.iadd, 1) := by decide +kernel
theorem dX8_small_177 : decode cX8_small 177 = .ok (.iaload, 1) := by decide +kernel
theorem dX8_small_178 : decode cX8_small 178 = .ok (.iload_n 2, 1) := by decide +kernel
theorem dX8_small_179 : decode cX8_small 179 = .ok (.iload 9, 2) := by decide +kernel
theorem dX8_small_181 : decode cX8_small 181 = .ok (.invokevirtual 267, 3) := by decide +kernel
theorem dX8_small_184 : decode cX8_small 184 = .ok (.iinc 8 1, 3) := by decide +kernel
theorem dX8_small_187 : decode cX8_small 187 = .ok (.goto (-83), 3) := by decide +kernel
theorem dX8_small_190 : decode cX8_small 190 = .ok (.aload_n 0, 1) := by decide +kernel
theorem dX8_small_191 : decode cX8_small 191 = .ok (.iload_n 1, 1) := by decide +kernel
theorem dX8_small_192 : decode cX8_small 192 = .ok (.invokevirtual 237, 3) := by decide +kernel
theorem dX8_small_195 : decode cX8_small 195 = .ok (.istore 6, 2) := by decide +kernel
theorem dX8_small_197 : decode cX8_small 197 = .ok (.iinc 7 1, 3) := by decide +kernel
theorem dX8_small_200 : decode cX8_small 200 = .ok (.goto (-110), 3) := by decide +kernel
theorem dX8_small_203 : decode cX8_small 203 = .ok (.iload 6, 2) := by decide +kernel
theorem dX8_small_205 : decode cX8_small 205 = .ok (.ifCond .eq 7, 3) := by decide +kernel
theorem dX8_small_208 : decode cX8_small 208 = .ok (.iconst 0, 1) := by decide +kernel
theorem dX8_small_209 : decode cX8_small 209 = .ok (.goto 4, 3) := by decide +kernel
theorem dX8_small_212 : decode cX8_small 212 = .ok (.iconst 1, 1) := by decide +kernel
theorem dX8_small_213 : decode cX8_small 213 = .ok (.ireturn, 1) := by decide +kernel
theorem dX8_again_0 : decode cX8_again 0 = .ok (.aload_n 0, 1) := by decide +kernel
theorem dX8_again_1 : decode cX8_again 1 = .ok (.getfield 76, 3) := by decide +kernel
theorem dX8_again_4 : decode cX8_again 4 = .ok (.ifCond .ge 6, 3) := by decide +kernel
theorem dX8_again_7 : decode cX8_again 7 = .ok (.bipush (-2), 2) := by decide +kernel
theorem dX8_again_9 : decode cX8_again 9 = .ok (.ireturn, 1) := by decide +kernel
theorem dX8_again_10 : decode cX8_again 10 = .ok (.aload_n 0, 1) := by decide +kernel
theorem dX8_again_11 : decode cX8_again 11 = .ok (.getfield 178, 3) := by decide +kernel
theorem dX8_again_14 : decode cX8_again 14 = .ok (.sipush 3000, 3) := by decide +kernel
theorem dX8_again_17 : decode cX8_again 17 = .ok (.if_icmp .ne 6, 3) := by decide +kernel
theorem dX8_again_20 : decode cX8_again 20 = .ok (.bipush (-3), 2) := by decide +kernel
theorem dX8_again_22 : decode cX8_again 22 = .ok (.ireturn, 1) := by decide +kernel
theorem dX8_again_23 : decode cX8_again 23 = .ok (.aload_n 0, 1) := by decide +kernel
theorem dX8_again_24 : decode cX8_again 24 = .ok (.invokevirtual 246, 3) := by decide +kernel
theorem dX8_again_27 : decode cX8_again 27 = .ok (.aload_n 0, 1) := by decide +kernel
theorem dX8_again_28 : decode cX8_again 28 = .ok (.aload_n 0, 1) := by decide +kernel
theorem dX8_again_29 : decode cX8_again 29 = .ok (.getfield 76, 3) := by decide +kernel
theorem dX8_again_32 : decode cX8_again 32 = .ok (.iconst 0, 1) := by decide +kernel
theorem dX8_again_33 : decode cX8_again 33 = .ok (.invokevirtual 224, 3) := by decide +kernel
theorem dX8_again_36 : decode cX8_again 36 = .ok (.ireturn, 1) := by decide +kernel
theorem dX8_counter_0 : decode cX8_counter 0 = .ok (.aload_n 0, 1) := by decide +kernel
theorem dX8_counter_1 : decode cX8_counter 1 = .ok (.getfield 76, 3) := by decide +kernel
theorem dX8_counter_4 : decode cX8_counter 4 = .ok (.ifCond .lt 21, 3) := by decide +kernel
theorem dX8_counter_7 : decode cX8_counter 7 = .ok (.iload_n 1, 1) := by decide +kernel
theorem dX8_counter_8 : decode cX8_counter 8 = .ok (.iconst 0, 1) := by decide +kernel
theorem dX8_counter_9 : decode cX8_counter 9 = .ok (.iconst 2, 1) := by decide +kernel
theorem dX8_counter_10 : decode cX8_counter 10 = .ok (.invokestatic 95, 3) := by decide +kernel
theorem dX8_counter_13 : decode cX8_counter 13 = .ok (.ifCond .eq 12, 3) := by decide +kernel
theorem dX8_counter_16 : decode cX8_counter 16 = .ok (.aload_n 0, 1) := by decide +kernel
theorem dX8_counter_17 : decode cX8_counter 17 = .ok (.getfield 80, 3) := by decide +kernel
theorem dX8_counter_20 : decode cX8_counter 20 = .ok (.iload_n 1, 1) := by decide +kernel
theorem dX8_counter_21 : decode cX8_counter 21 = .ok (.iaload, 1) := by decide +kernel
theorem dX8_counter_22 : decode cX8_counter 22 = .ok (.ifCond .ge 6, 3) := by decide +kernel
theorem dX8_counter_25 : decode cX8_counter 25 = .ok (.ldc 199, 2) := by decide +kernel
theorem dX8_counter_27 : decode cX8_counter 27 = .ok (.ireturn, 1) := by decide +kernel
theorem dX8_counter_28 : decode cX8_counter 28 = .ok (.iload_n 2, 1) := by decide +kernel
theorem dX8_counter_29 : decode cX8_counter 29 = .ok (.iconst (-1), 1) := by decide +kernel
theorem dX8_counter_30 : decode cX8_counter 30 = .ok (.if_icmp .ne 10, 3) := by decide +kernel
theorem dX8_counter_33 : decode cX8_counter 33 = .ok (.aload_n 0, 1) := by decide +kernel
theorem dX8_counter_34 : decode cX8_counter 34 = .ok (.getfield 83, 3) := by decide +kernel
theorem dX8_counter_37 : decode cX8_counter 37 = .ok (.iload_n 1, 1) := by decide +kernel
theorem dX8_counter_38 : decode cX8_counter 38 = .ok (.iaload, 1) := by decide +kernel
theorem dX8_counter_39 : decode cX8_counter 39 = .ok (.ireturn, 1) := by decide +kernel
theorem dX8_counter_40 : decode cX8_counter 40 = .ok (.aload_n 0, 1) := by decide +kernel
theorem dX8_counter_41 : decode cX8_counter 41 = .ok (.getfield 80, 3) := by decide +kernel
theorem dX8_counter_44 : decode cX8_counter 44 = .ok (.iload_n 1, 1) := by decide +kernel
theorem dX8_counter_45 : decode cX8_counter 45 = .ok (.iaload, 1) := by decide +kernel
theorem dX8_counter_46 : decode cX8_counter 46 = .ok (.iconst 1, 1) := by decide +kernel
theorem dX8_counter_47 : decode cX8_counter 47 = .ok (.if_icmp .ne 33, 3) := by decide +kernel
theorem dX8_counter_50 : decode cX8_counter 50 = .ok (.iload_n 2, 1) := by decide +kernel
theorem dX8_counter_51 : decode cX8_counter 51 = .ok (.iconst 0, 1) := by decide +kernel
theorem dX8_counter_52 : decode cX8_counter 52 = .ok (.aload_n 0, 1) := by decide +kernel
theorem dX8_counter_53 : decode cX8_counter 53 = .ok (.getfield 83, 3) := by decide +kernel
theorem dX8_counter_56 : decode cX8_counter 56 = .ok (.iload_n 1, 1) := by decide +kernel
theorem dX8_counter_57 : decode cX8_counter 57 = .ok (.iaload, 1) := by decide +kernel
theorem dX8_counter_58 : decode cX8_counter 58 = .ok (.iconst 1, 1) := by decide +kernel
theorem dX8_counter_59 : decode cX8_counter 59 = .ok (.isub, 1) := by decide +kernel
theorem dX8_counter_60 : decode cX8_counter 60 = .ok (.invokestatic 95, 3) := by decide +kernel
theorem dX8_counter_63 : decode cX8_counter 63 = .ok (.ifCond .eq 17, 3) := by decide +kernel
theorem dX8_counter_66 : decode cX8_counter 66 = .ok (.aload_n 0, 1) := by decide +kernel
theorem dX8_counter_67 : decode cX8_counter 67 = .ok (.getfield 86, 3) := by decide +kernel
theorem dX8_counter_70 : decode cX8_counter 70 = .ok (.bipush 16, 2) := by decide +kernel
theorem dX8_counter_72 : decode cX8_counter 72 = .ok (.iload_n 1, 1) := by decide +kernel
theorem dX8_counter_73 : decode cX8_counter 73 = .ok (.imul, 1) := by decide +kernel
theorem dX8_counter_74 : decode cX8_counter 74 = .ok (.iload_n 2, 1) := by decide +kernel
theorem dX8_counter_75 : decode cX8_counter 75 = .ok (.iadd, 1) := by decide +kernel
theorem dX8_counter_76 : decode cX8_counter 76 = .ok (.iaload, 1) := by decide +kernel
theorem dX8_counter_77 : decode cX8_counter 77 = .ok (.goto 5, 3) := by decide +kernel
theorem dX8_counter_80 : decode cX8_counter 80 = .ok (.ldc 199, 2) := by decide +kernel
theorem dX8_counter_82 : decode cX8_counter 82 = .ok (.ireturn, 1) := by decide +kernel
theorem dX8_told_0 : decode cX8_told 0 = .ok (.iload_n 1, 1) := by decide +kernel
theorem dX8_told_1 : decode cX8_told 1 = .ok (.tableswitch 114 0 10 #[59, 64, 69, 74, 79, 84, 89, 94, 99, 104, 109], 59) := by decide +kernel
theorem dX8_told_60 : decode cX8_told 60 = .ok (.aload_n 0, 1) := by decide +kernel
theorem dX8_told_61 : decode cX8_told 61 = .ok (.getfield 203, 3) := by decide +kernel
theorem dX8_told_64 : decode cX8_told 64 = .ok (.ireturn, 1) := by decide +kernel
theorem dX8_told_65 : decode cX8_told 65 = .ok (.aload_n 0, 1) := by decide +kernel
theorem dX8_told_66 : decode cX8_told 66 = .ok (.getfield 206, 3) := by decide +kernel
theorem dX8_told_69 : decode cX8_told 69 = .ok (.ireturn, 1) := by decide +kernel
theorem dX8_told_70 : decode cX8_told 70 = .ok (.aload_n 0, 1) := by decide +kernel
theorem dX8_told_71 : decode cX8_told 71 = .ok (.getfield 209, 3) := by decide +kernel
theorem dX8_told_74 : decode cX8_told 74 = .ok (.ireturn, 1) := by decide +kernel
theorem dX8_told_75 : decode cX8_told 75 = .ok (.aload_n 0, 1) := by decide +kernel
theorem dX8_told_76 : decode cX8_told 76 = .ok (.getfield 212, 3) := by decide +kernel
theorem dX8_told_79 : decode cX8_told 79 = .ok (.ireturn, 1) := by decide +kernel
theorem dX8_told_80 : decode cX8_told 80 = .ok (.aload_n 0, 1) := by decide +kernel
theorem dX8_told_81 : decode cX8_told 81 = .ok (.getfield 89, 3) := by decide +kernel
theorem dX8_told_84 : decode cX8_told 84 = .ok (.ireturn, 1) := by decide +kernel
theorem dX8_told_85 : decode cX8_told 85 = .ok (.aload_n 0, 1) := by decide +kernel
theorem dX8_told_86 : decode cX8_told 86 = .ok (.getfield 215, 3) := by decide +kernel
theorem dX8_told_89 : decode cX8_told 89 = .ok (.ireturn, 1) := by decide +kernel
theorem dX8_told_90 : decode cX8_told 90 = .ok (.aload_n 0, 1) := by decide +kernel
theorem dX8_told_91 : decode cX8_told 91 = .ok (.getfield 218, 3) := by decide +kernel
theorem dX8_told_94 : decode cX8_told 94 = .ok (.ireturn, 1) := by decide +kernel
theorem dX8_told_95 : decode cX8_told 95 = .ok (.aload_n 0, 1) := by decide +kernel
theorem dX8_told_96 : decode cX8_told 96 = .ok (.getfield 221, 3) := by decide +kernel
theorem dX8_told_99 : decode cX8_told 99 = .ok (.ireturn, 1) := by decide +kernel
theorem dX8_told_100 : decode cX8_told 100 = .ok (.aload_n 0, 1) := by decide +kernel
theorem dX8_told_101 : decode cX8_told 101 = .ok (.getfield 92, 3) := by decide +kernel
theorem dX8_told_104 : decode cX8_told 104 = .ok (.ireturn, 1) := by decide +kernel
theorem dX8_told_105 : decode cX8_told 105 = .ok (.aload_n 0, 1) := by decide +kernel
theorem dX8_told_106 : decode cX8_told 106 = .ok (.getfield 175, 3) := by decide +kernel
theorem dX8_told_109 : decode cX8_told 109 = .ok (.ireturn, 1) := by decide +kernel
theorem dX8_told_110 : decode cX8_told 110 = .ok (.aload_n 0, 1) := by decide +kernel
theorem dX8_told_111 : decode cX8_told 111 = .ok (.getfield 178, 3) := by decide +kernel
theorem dX8_told_114 : decode cX8_told 114 = .ok (.ireturn, 1) := by decide +kernel
theorem dX8_told_115 : decode cX8_told 115 = .ok (.iconst (-1), 1) := by decide +kernel
theorem dX8_told_116 : decode cX8_told 116 = .ok (.ireturn, 1) := by decide +kernel
theorem dX8_label_0 : decode cX8_label 0 = .ok (.iload_n 1, 1) := by decide +kernel
theorem dX8_label_1 : decode cX8_label 1 = .ok (.iconst 0, 1) := by decide +kernel
theorem dX8_label_2 : decode cX8_label 2 = .ok (.bipush 8, 2) := by decide +kernel
theorem dX8_label_4 : decode cX8_label 4 = .ok (.invokestatic 95, 3) := by decide +kernel
theorem dX8_label_7 : decode cX8_label 7 = .ok (.ifCond .eq 12, 3) := by decide +kernel
theorem dX8_label_10 : decode cX8_label 10 = .ok (.aload_n 0, 1) := by decide +kernel
theorem dX8_label_11 : decode cX8_label 11 = .ok (.getfield 70, 3) := by decide +kernel
theorem dX8_label_14 : decode cX8_label 14 = .ok (.iload_n 1, 1) := by decide +kernel
theorem dX8_label_15 : decode cX8_label 15 = .ok (.iaload, 1) := by decide +kernel
theorem dX8_label_16 : decode cX8_label 16 = .ok (.goto 4, 3) := by decide +kernel
theorem dX8_label_19 : decode cX8_label 19 = .ok (.iconst (-1), 1) := by decide +kernel
theorem dX8_label_20 : decode cX8_label 20 = .ok (.ireturn, 1) := by decide +kernel
theorem dJ9_floorMod_7cf53_0 : decode cJ9_floorMod_7cf53 0 = .ok (.iload_n 0, 1) := by decide +kernel
theorem dJ9_floorMod_7cf53_1 : decode cJ9_floorMod_7cf53 1 = .ok (.iload_n 1, 1) := by decide +kernel
theorem dJ9_floorMod_7cf53_2 : decode cJ9_floorMod_7cf53 2 = .ok (.irem, 1) := by decide +kernel
theorem dJ9_floorMod_7cf53_3 : decode cJ9_floorMod_7cf53 3 = .ok (.istore_n 2, 1) := by decide +kernel
theorem dJ9_floorMod_7cf53_4 : decode cJ9_floorMod_7cf53 4 = .ok (.iload_n 0, 1) := by decide +kernel
theorem dJ9_floorMod_7cf53_5 : decode cJ9_floorMod_7cf53 5 = .ok (.iload_n 1, 1) := by decide +kernel
theorem dJ9_floorMod_7cf53_6 : decode cJ9_floorMod_7cf53 6 = .ok (.ixor, 1) := by decide +kernel
theorem dJ9_floorMod_7cf53_7 : decode cJ9_floorMod_7cf53 7 = .ok (.ifCond .ge 11, 3) := by decide +kernel
theorem dJ9_floorMod_7cf53_10 : decode cJ9_floorMod_7cf53 10 = .ok (.iload_n 2, 1) := by decide +kernel
theorem dJ9_floorMod_7cf53_11 : decode cJ9_floorMod_7cf53 11 = .ok (.ifCond .eq 7, 3) := by decide +kernel
theorem dJ9_floorMod_7cf53_14 : decode cJ9_floorMod_7cf53 14 = .ok (.iload_n 2, 1) := by decide +kernel
theorem dJ9_floorMod_7cf53_15 : decode cJ9_floorMod_7cf53 15 = .ok (.iload_n 1, 1) := by decide +kernel
theorem dJ9_floorMod_7cf53_16 : decode cJ9_floorMod_7cf53 16 = .ok (.iadd, 1) := by decide +kernel
theorem dJ9_floorMod_7cf53_17 : decode cJ9_floorMod_7cf53 17 = .ok (.ireturn, 1) := by decide +kernel
theorem dJ9_floorMod_7cf53_18 : decode cJ9_floorMod_7cf53 18 = .ok (.iload_n 2, 1) := by decide +kernel
theorem dJ9_floorMod_7cf53_19 : decode cJ9_floorMod_7cf53 19 = .ok (.ireturn, 1) := by decide +kernel
theorem dL_law_0 : decode cL_law 0 = .ok (.new 7, 3) := by decide +kernel
theorem dL_law_3 : decode cL_law 3 = .ok (.dup, 1) := by decide +kernel
theorem dL_law_4 : decode cL_law 4 = .ok (.invokespecial 9, 3) := by decide +kernel
theorem dL_law_7 : decode cL_law 7 = .ok (.astore_n 1, 1) := by decide +kernel
theorem dL_law_8 : decode cL_law 8 = .ok (.new 10, 3) := by decide +kernel
theorem dL_law_11 : decode cL_law 11 = .ok (.dup, 1) := by decide +kernel
theorem dL_law_12 : decode cL_law 12 = .ok (.invokespecial 12, 3) := by decide +kernel
theorem dL_law_15 : decode cL_law 15 = .ok (.astore_n 2, 1) := by decide +kernel
theorem dL_law_16 : decode cL_law 16 = .ok (.iconst 0, 1) := by decide +kernel
theorem dL_law_17 : decode cL_law 17 = .ok (.istore_n 3, 1) := by decide +kernel
theorem dL_law_18 : decode cL_law 18 = .ok (.iload_n 3, 1) := by decide +kernel
theorem dL_law_19 : decode cL_law 19 = .ok (.aload_n 0, 1) := by decide +kernel
theorem dL_law_20 : decode cL_law 20 = .ok (.arraylength, 1) := by decide +kernel
theorem dL_law_21 : decode cL_law 21 = .ok (.bipush 8, 2) := by decide +kernel
theorem dL_law_23 : decode cL_law 23 = .ok (.isub, 1) := by decide +kernel
theorem dL_law_24 : decode cL_law 24 = .ok (.if_icmp .gt 484, 3) := by decide +kernel
theorem dL_law_27 : decode cL_law 27 = .ok (.aload_n 0, 1) := by decide +kernel
theorem dL_law_28 : decode cL_law 28 = .ok (.iload_n 3, 1) := by decide +kernel
theorem dL_law_29 : decode cL_law 29 = .ok (.iaload, 1) := by decide +kernel
theorem dL_law_30 : decode cL_law 30 = .ok (.bipush 15, 2) := by decide +kernel
theorem dL_law_32 : decode cL_law 32 = .ok (.iand, 1) := by decide +kernel
theorem dL_law_33 : decode cL_law 33 = .ok (.tableswitch 469 0 9 #[55, 118, 205, 248, 281, 314, 327, 360, 423, 446], 55) := by decide +kernel
theorem dL_law_88 : decode cL_law 88 = .ok (.aload_n 1, 1) := by decide +kernel
theorem dL_law_89 : decode cL_law 89 = .ok (.aload_n 0, 1) := by decide +kernel
theorem dL_law_90 : decode cL_law 90 = .ok (.iload_n 3, 1) := by decide +kernel
theorem dL_law_91 : decode cL_law 91 = .ok (.iconst 1, 1) := by decide +kernel
theorem dL_law_92 : decode cL_law 92 = .ok (.iadd, 1) := by decide +kernel
theorem dL_law_93 : decode cL_law 93 = .ok (.iaload, 1) := by decide +kernel
theorem dL_law_94 : decode cL_law 94 = .ok (.aload_n 0, 1) := by decide +kernel
theorem dL_law_95 : decode cL_law 95 = .ok (.iload_n 3, 1) := by decide +kernel
theorem dL_law_96 : decode cL_law 96 = .ok (.iconst 2, 1) := by decide +kernel
theorem dL_law_97 : decode cL_law 97 = .ok (.iadd, 1) := by decide +kernel
theorem dL_law_98 : decode cL_law 98 = .ok (.iaload, 1) := by decide +kernel
theorem dL_law_99 : decode cL_law 99 = .ok (.aload_n 0, 1) := by decide +kernel
theorem dL_law_100 : decode cL_law 100 = .ok (.iload_n 3, 1) := by decide +kernel
theorem dL_law_101 : decode cL_law 101 = .ok (.iconst 3, 1) := by decide +kernel
theorem dL_law_102 : decode cL_law 102 = .ok (.iadd, 1) := by decide +kernel
theorem dL_law_103 : decode cL_law 103 = .ok (.iaload, 1) := by decide +kernel
theorem dL_law_104 : decode cL_law 104 = .ok (.aload_n 0, 1) := by decide +kernel
theorem dL_law_105 : decode cL_law 105 = .ok (.iload_n 3, 1) := by decide +kernel
theorem dL_law_106 : decode cL_law 106 = .ok (.iconst 4, 1) := by decide +kernel
theorem dL_law_107 : decode cL_law 107 = .ok (.iadd, 1) := by decide +kernel
theorem dL_law_108 : decode cL_law 108 = .ok (.iaload, 1) := by decide +kernel
theorem dL_law_109 : decode cL_law 109 = .ok (.aload_n 0, 1) := by decide +kernel
theorem dL_law_110 : decode cL_law 110 = .ok (.iload_n 3, 1) := by decide +kernel
theorem dL_law_111 : decode cL_law 111 = .ok (.iconst 5, 1) := by decide +kernel
theorem dL_law_112 : decode cL_law 112 = .ok (.iadd, 1) := by decide +kernel
theorem dL_law_113 : decode cL_law 113 = .ok (.iaload, 1) := by decide +kernel
theorem dL_law_114 : decode cL_law 114 = .ok (.invokevirtual 13, 3) := by decide +kernel
theorem dL_law_117 : decode cL_law 117 = .ok (.aload_n 2, 1) := by decide +kernel
theorem dL_law_118 : decode cL_law 118 = .ok (.aload_n 0, 1) := by decide +kernel
theorem dL_law_119 : decode cL_law 119 = .ok (.iload_n 3, 1) := by decide +kernel
theorem dL_law_120 : decode cL_law 120 = .ok (.iconst 1, 1) := by decide +kernel
theorem dL_law_121 : decode cL_law 121 = .ok (.iadd, 1) := by decide +kernel
theorem dL_law_122 : decode cL_law 122 = .ok (.iaload, 1) := by decide +kernel
theorem dL_law_123 : decode cL_law 123 = .ok (.aload_n 0, 1) := by decide +kernel
theorem dL_law_124 : decode cL_law 124 = .ok (.iload_n 3, 1) := by decide +kernel
theorem dL_law_125 : decode cL_law 125 = .ok (.iconst 2, 1) := by decide +kernel
theorem dL_law_126 : decode cL_law 126 = .ok (.iadd, 1) := by decide +kernel
theorem dL_law_127 : decode cL_law 127 = .ok (.iaload, 1) := by decide +kernel
theorem dL_law_128 : decode cL_law 128 = .ok (.aload_n 0, 1) := by decide +kernel
theorem dL_law_129 : decode cL_law 129 = .ok (.iload_n 3, 1) := by decide +kernel
theorem dL_law_130 : decode cL_law 130 = .ok (.iconst 3, 1) := by decide +kernel
theorem dL_law_131 : decode cL_law 131 = .ok (.iadd, 1) := by decide +kernel
theorem dL_law_132 : decode cL_law 132 = .ok (.iaload, 1) := by decide +kernel
theorem dL_law_133 : decode cL_law 133 = .ok (.aload_n 0, 1) := by decide +kernel
theorem dL_law_134 : decode cL_law 134 = .ok (.iload_n 3, 1) := by decide +kernel
theorem dL_law_135 : decode cL_law 135 = .ok (.iconst 4, 1) := by decide +kernel
theorem dL_law_136 : decode cL_law 136 = .ok (.iadd, 1) := by decide +kernel
theorem dL_law_137 : decode cL_law 137 = .ok (.iaload, 1) := by decide +kernel
theorem dL_law_138 : decode cL_law 138 = .ok (.aload_n 0, 1) := by decide +kernel
theorem dL_law_139 : decode cL_law 139 = .ok (.iload_n 3, 1) := by decide +kernel
theorem dL_law_140 : decode cL_law 140 = .ok (.iconst 5, 1) := by decide +kernel
theorem dL_law_141 : decode cL_law 141 = .ok (.iadd, 1) := by decide +kernel
theorem dL_law_142 : decode cL_law 142 = .ok (.iaload, 1) := by decide +kernel
theorem dL_law_143 : decode cL_law 143 = .ok (.invokevirtual 17, 3) := by decide +kernel
theorem dL_law_146 : decode cL_law 146 = .ok (.if_icmp .eq 356, 3) := by decide +kernel
theorem dL_law_149 : decode cL_law 149 = .ok (.iconst 0, 1) := by decide +kernel
theorem dL_law_150 : decode cL_law 150 = .ok (.ireturn, 1) := by decide +kernel
theorem dL_law_151 : decode cL_law 151 = .ok (.aload_n 1, 1) := by decide +kernel
theorem dL_law_152 : decode cL_law 152 = .ok (.aload_n 0, 1) := by decide +kernel
theorem dL_law_153 : decode cL_law 153 = .ok (.iload_n 3, 1) := by decide +kernel
theorem dL_law_154 : decode cL_law 154 = .ok (.iconst 1, 1) := by decide +kernel
theorem dL_law_155 : decode cL_law 155 = .ok (.iadd, 1) := by decide +kernel
theorem dL_law_156 : decode cL_law 156 = .ok (.iaload, 1) := by decide +kernel
theorem dL_law_157 : decode cL_law 157 = .ok (.aload_n 0, 1) := by decide +kernel
theorem dL_law_158 : decode cL_law 158 = .ok (.iload_n 3, 1) := by decide +kernel
theorem dL_law_159 : decode cL_law 159 = .ok (.iconst 2, 1) := by decide +kernel
theorem dL_law_160 : decode cL_law 160 = .ok (.iadd, 1) := by decide +kernel
theorem dL_law_161 : decode cL_law 161 = .ok (.iaload, 1) := by decide +kernel
theorem dL_law_162 : decode cL_law 162 = .ok (.aload_n 0, 1) := by decide +kernel
theorem dL_law_163 : decode cL_law 163 = .ok (.iload_n 3, 1) := by decide +kernel
theorem dL_law_164 : decode cL_law 164 = .ok (.iconst 3, 1) := by decide +kernel
theorem dL_law_165 : decode cL_law 165 = .ok (.iadd, 1) := by decide +kernel
theorem dL_law_166 : decode cL_law 166 = .ok (.iaload, 1) := by decide +kernel
theorem dL_law_167 : decode cL_law 167 = .ok (.aload_n 0, 1) := by decide +kernel
theorem dL_law_168 : decode cL_law 168 = .ok (.iload_n 3, 1) := by decide +kernel
theorem dL_law_169 : decode cL_law 169 = .ok (.iconst 4, 1) := by decide +kernel
theorem dL_law_170 : decode cL_law 170 = .ok (.iadd, 1) := by decide +kernel
theorem dL_law_171 : decode cL_law 171 = .ok (.iaload, 1) := by decide +kernel
theorem dL_law_172 : decode cL_law 172 = .ok (.aload_n 0, 1) := by decide +kernel
theorem dL_law_173 : decode cL_law 173 = .ok (.iload_n 3, 1) := by decide +kernel
theorem dL_law_174 : decode cL_law 174 = .ok (.iconst 5, 1) := by decide +kernel
theorem dL_law_175 : decode cL_law 175 = .ok (.iadd, 1) := by decide +kernel
theorem dL_law_176 : decode cL_law 176 = .ok (.iaload, 1) := by decide +kernel
theorem dL_law_177 : decode cL_law 177 = .ok (.aload_n 0, 1) := by decide +kernel
theorem dL_law_178 : decode cL_law 178 = .ok (.iload_n 3, 1) := by decide +kernel
theorem dL_law_179 : decode cL_law 179 = .ok (.bipush 6, 2) := by decide +kernel
theorem dL_law_181 : decode cL_law 181 = .ok (.iadd, 1) := by decide +kernel
theorem dL_law_182 : decode cL_law 182 = .ok (.iaload, 1) := by decide +kernel
theorem dL_law_183 : decode cL_law 183 = .ok (.aload_n 0, 1) := by decide +kernel
theorem dL_law_184 : decode cL_law 184 = .ok (.iload_n 3, 1) := by decide +kernel
theorem dL_law_185 : decode cL_law 185 = .ok (.bipush 7, 2) := by decide +kernel
theorem dL_law_187 : decode cL_law 187 = .ok (.iadd, 1) := by decide +kernel
theorem dL_law_188 : decode cL_law 188 = .ok (.iaload, 1) := by decide +kernel
theorem dL_law_189 : decode cL_law 189 = .ok (.invokevirtual 18, 3) := by decide +kernel
theorem dL_law_192 : decode cL_law 192 = .ok (.aload_n 2, 1) := by decide +kernel
theorem dL_law_193 : decode cL_law 193 = .ok (.aload_n 0, 1) := by decide +kernel
theorem dL_law_194 : decode cL_law 194 = .ok (.iload_n 3, 1) := by decide +kernel
theorem dL_law_195 : decode cL_law 195 = .ok (.iconst 1, 1) := by decide +kernel
theorem dL_law_196 : decode cL_law 196 = .ok (.iadd, 1) := by decide +kernel
theorem dL_law_197 : decode cL_law 197 = .ok (.iaload, 1) := by decide +kernel
theorem dL_law_198 : decode cL_law 198 = .ok (.aload_n 0, 1) := by decide +kernel
theorem dL_law_199 : decode cL_law 199 = .ok (.iload_n 3, 1) := by decide +kernel
theorem dL_law_200 : decode cL_law 200 = .ok (.iconst 2, 1) := by decide +kernel
theorem dL_law_201 : decode cL_law 201 = .ok (.iadd, 1) := by decide +kernel
theorem dL_law_202 : decode cL_law 202 = .ok (.iaload, 1) := by decide +kernel
theorem dL_law_203 : decode cL_law 203 = .ok (.aload_n 0, 1) := by decide +kernel
theorem dL_law_204 : decode cL_law 204 = .ok (.iload_n 3, 1) := by decide +kernel
theorem dL_law_205 : decode cL_law 205 = .ok (.iconst 3, 1) := by decide +kernel
theorem dL_law_206 : decode cL_law 206 = .ok (.iadd, 1) := by decide +kernel
theorem dL_law_207 : decode cL_law 207 = .ok (.iaload, 1) := by decide +kernel
theorem dL_law_208 : decode cL_law 208 = .ok (.aload_n 0, 1) := by decide +kernel
theorem dL_law_209 : decode cL_law 209 = .ok (.iload_n 3, 1) := by decide +kernel
theorem dL_law_210 : decode cL_law 210 = .ok (.iconst 4, 1) := by decide +kernel
theorem dL_law_211 : decode cL_law 211 = .ok (.iadd, 1) := by decide +kernel
theorem dL_law_212 : decode cL_law 212 = .ok (.iaload, 1) := by decide +kernel
theorem dL_law_213 : decode cL_law 213 = .ok (.aload_n 0, 1) := by decide +kernel
theorem dL_law_214 : decode cL_law 214 = .ok (.iload_n 3, 1) := by decide +kernel
theorem dL_law_215 : decode cL_law 215 = .ok (.iconst 5, 1) := by decide +kernel
theorem dL_law_216 : decode cL_law 216 = .ok (.iadd, 1) := by decide +kernel
theorem dL_law_217 : decode cL_law 217 = .ok (.iaload, 1) := by decide +kernel
theorem dL_law_218 : decode cL_law 218 = .ok (.aload_n 0, 1) := by decide +kernel
theorem dL_law_219 : decode cL_law 219 = .ok (.iload_n 3, 1) := by decide +kernel
theorem dL_law_220 : decode cL_law 220 = .ok (.bipush 6, 2) := by decide +kernel
theorem dL_law_222 : decode cL_law 222 = .ok (.iadd, 1) := by decide +kernel
theorem dL_law_223 : decode cL_law 223 = .ok (.iaload, 1) := by decide +kernel
theorem dL_law_224 : decode cL_law 224 = .ok (.aload_n 0, 1) := by decide +kernel
theorem dL_law_225 : decode cL_law 225 = .ok (.iload_n 3, 1) := by decide +kernel
theorem dL_law_226 : decode cL_law 226 = .ok (.bipush 7, 2) := by decide +kernel
theorem dL_law_228 : decode cL_law 228 = .ok (.iadd, 1) := by decide +kernel
theorem dL_law_229 : decode cL_law 229 = .ok (.iaload, 1) := by decide +kernel
theorem dL_law_230 : decode cL_law 230 = .ok (.invokevirtual 22, 3) := by decide +kernel
theorem dL_law_233 : decode cL_law 233 = .ok (.if_icmp .eq 269, 3) := by decide +kernel
theorem dL_law_236 : decode cL_law 236 = .ok (.iconst 0, 1) := by decide +kernel
theorem dL_law_237 : decode cL_law 237 = .ok (.ireturn, 1) := by decide +kernel
theorem dL_law_238 : decode cL_law 238 = .ok (.aload_n 1, 1) := by decide +kernel
theorem dL_law_239 : decode cL_law 239 = .ok (.aload_n 0, 1) := by decide +kernel
theorem dL_law_240 : decode cL_law 240 = .ok (.iload_n 3, 1) := by decide +kernel
theorem dL_law_241 : decode cL_law 241 = .ok (.iconst 1, 1) := by decide +kernel
theorem dL_law_242 : decode cL_law 242 = .ok (.iadd, 1) := by decide +kernel
theorem dL_law_243 : decode cL_law 243 = .ok (.iaload, 1) := by decide +kernel
theorem dL_law_244 : decode cL_law 244 = .ok (.aload_n 0, 1) := by decide +kernel
theorem dL_law_245 : decode cL_law 245 = .ok (.iload_n 3, 1) := by decide +kernel
theorem dL_law_246 : decode cL_law 246 = .ok (.iconst 2, 1) := by decide +kernel
theorem dL_law_247 : decode cL_law 247 = .ok (.iadd, 1) := by decide +kernel
theorem dL_law_248 : decode cL_law 248 = .ok (.iaload, 1) := by decide +kernel
theorem dL_law_249 : decode cL_law 249 = .ok (.aload_n 0, 1) := by decide +kernel
theorem dL_law_250 : decode cL_law 250 = .ok (.iload_n 3, 1) := by decide +kernel
theorem dL_law_251 : decode cL_law 251 = .ok (.iconst 3, 1) := by decide +kernel
theorem dL_law_252 : decode cL_law 252 = .ok (.iadd, 1) := by decide +kernel
theorem dL_law_253 : decode cL_law 253 = .ok (.iaload, 1) := by decide +kernel
theorem dL_law_254 : decode cL_law 254 = .ok (.invokevirtual 23, 3) := by decide +kernel
theorem dL_law_257 : decode cL_law 257 = .ok (.aload_n 2, 1) := by decide +kernel
theorem dL_law_258 : decode cL_law 258 = .ok (.aload_n 0, 1) := by decide +kernel
theorem dL_law_259 : decode cL_law 259 = .ok (.iload_n 3, 1) := by decide +kernel
theorem dL_law_260 : decode cL_law 260 = .ok (.iconst 1, 1) := by decide +kernel
theorem dL_law_261 : decode cL_law 261 = .ok (.iadd, 1) := by decide +kernel
theorem dL_law_262 : decode cL_law 262 = .ok (.iaload, 1) := by decide +kernel
theorem dL_law_263 : decode cL_law 263 = .ok (.aload_n 0, 1) := by decide +kernel
theorem dL_law_264 : decode cL_law 264 = .ok (.iload_n 3, 1) := by decide +kernel
theorem dL_law_265 : decode cL_law 265 = .ok (.iconst 2, 1) := by decide +kernel
theorem dL_law_266 : decode cL_law 266 = .ok (.iadd, 1) := by decide +kernel
theorem dL_law_267 : decode cL_law 267 = .ok (.iaload, 1) := by decide +kernel
theorem dL_law_268 : decode cL_law 268 = .ok (.aload_n 0, 1) := by decide +kernel
theorem dL_law_269 : decode cL_law 269 = .ok (.iload_n 3, 1) := by decide +kernel
theorem dL_law_270 : decode cL_law 270 = .ok (.iconst 3, 1) := by decide +kernel
theorem dL_law_271 : decode cL_law 271 = .ok (.iadd, 1) := by decide +kernel
theorem dL_law_272 : decode cL_law 272 = .ok (.iaload, 1) := by decide +kernel
theorem dL_law_273 : decode cL_law 273 = .ok (.invokevirtual 27, 3) := by decide +kernel
theorem dL_law_276 : decode cL_law 276 = .ok (.if_icmp .eq 226, 3) := by decide +kernel
theorem dL_law_279 : decode cL_law 279 = .ok (.iconst 0, 1) := by decide +kernel
theorem dL_law_280 : decode cL_law 280 = .ok (.ireturn, 1) := by decide +kernel
theorem dL_law_281 : decode cL_law 281 = .ok (.aload_n 1, 1) := by decide +kernel
theorem dL_law_282 : decode cL_law 282 = .ok (.aload_n 0, 1) := by decide +kernel
theorem dL_law_283 : decode cL_law 283 = .ok (.iload_n 3, 1) := by decide +kernel
theorem dL_law_284 : decode cL_law 284 = .ok (.iconst 1, 1) := by decide +kernel
theorem dL_law_285 : decode cL_law 285 = .ok (.iadd, 1) := by decide +kernel
theorem dL_law_286 : decode cL_law 286 = .ok (.iaload, 1) := by decide +kernel
theorem dL_law_287 : decode cL_law 287 = .ok (.aload_n 0, 1) := by decide +kernel
theorem dL_law_288 : decode cL_law 288 = .ok (.iload_n 3, 1) := by decide +kernel
theorem dL_law_289 : decode cL_law 289 = .ok (.iconst 2, 1) := by decide +kernel
theorem dL_law_290 : decode cL_law 290 = .ok (.iadd, 1) := by decide +kernel
theorem dL_law_291 : decode cL_law 291 = .ok (.iaload, 1) := by decide +kernel
theorem dL_law_292 : decode cL_law 292 = .ok (.invokevirtual 28, 3) := by decide +kernel
theorem dL_law_295 : decode cL_law 295 = .ok (.aload_n 2, 1) := by decide +kernel
theorem dL_law_296 : decode cL_law 296 = .ok (.aload_n 0, 1) := by decide +kernel
theorem dL_law_297 : decode cL_law 297 = .ok (.iload_n 3, 1) := by decide +kernel
theorem dL_law_298 : decode cL_law 298 = .ok (.iconst 1, 1) := by decide +kernel
theorem dL_law_299 : decode cL_law 299 = .ok (.iadd, 1) := by decide +kernel
theorem dL_law_300 : decode cL_law 300 = .ok (.iaload, 1) := by decide +kernel
theorem dL_law_301 : decode cL_law 301 = .ok (.aload_n 0, 1) := by decide +kernel
theorem dL_law_302 : decode cL_law 302 = .ok (.iload_n 3, 1) := by decide +kernel
theorem dL_law_303 : decode cL_law 303 = .ok (.iconst 2, 1) := by decide +kernel
theorem dL_law_304 : decode cL_law 304 = .ok (.iadd, 1) := by decide +kernel
theorem dL_law_305 : decode cL_law 305 = .ok (.iaload, 1) := by decide +kernel
theorem dL_law_306 : decode cL_law 306 = .ok (.invokevirtual 32, 3) := by decide +kernel
theorem dL_law_309 : decode cL_law 309 = .ok (.if_icmp .eq 193, 3) := by decide +kernel
theorem dL_law_312 : decode cL_law 312 = .ok (.iconst 0, 1) := by decide +kernel
theorem dL_law_313 : decode cL_law 313 = .ok (.ireturn, 1) := by decide +kernel
theorem dL_law_314 : decode cL_law 314 = .ok (.aload_n 1, 1) := by decide +kernel
theorem dL_law_315 : decode cL_law 315 = .ok (.aload_n 0, 1) := by decide +kernel
theorem dL_law_316 : decode cL_law 316 = .ok (.iload_n 3, 1) := by decide +kernel
theorem dL_law_317 : decode cL_law 317 = .ok (.iconst 1, 1) := by decide +kernel
theorem dL_law_318 : decode cL_law 318 = .ok (.iadd, 1) := by decide +kernel
theorem dL_law_319 : decode cL_law 319 = .ok (.iaload, 1) := by decide +kernel
theorem dL_law_320 : decode cL_law 320 = .ok (.aload_n 0, 1) := by decide +kernel
theorem dL_law_321 : decode cL_law 321 = .ok (.iload_n 3, 1) := by decide +kernel
theorem dL_law_322 : decode cL_law 322 = .ok (.iconst 2, 1) := by decide +kernel
theorem dL_law_323 : decode cL_law 323 = .ok (.iadd, 1) := by decide +kernel
theorem dL_law_324 : decode cL_law 324 = .ok (.iaload, 1) := by decide +kernel
theorem dL_law_325 : decode cL_law 325 = .ok (.invokevirtual 33, 3) := by decide +kernel
theorem dL_law_328 : decode cL_law 328 = .ok (.aload_n 2, 1) := by decide +kernel
theorem dL_law_329 : decode cL_law 329 = .ok (.aload_n 0, 1) := by decide +kernel
theorem dL_law_330 : decode cL_law 330 = .ok (.iload_n 3, 1) := by decide +kernel
theorem dL_law_331 : decode cL_law 331 = .ok (.iconst 1, 1) := by decide +kernel
theorem dL_law_332 : decode cL_law 332 = .ok (.iadd, 1) := by decide +kernel
theorem dL_law_333 : decode cL_law 333 = .ok (.iaload, 1) := by decide +kernel
theorem dL_law_334 : decode cL_law 334 = .ok (.aload_n 0, 1) := by decide +kernel
theorem dL_law_335 : decode cL_law 335 = .ok (.iload_n 3, 1) := by decide +kernel
theorem dL_law_336 : decode cL_law 336 = .ok (.iconst 2, 1) := by decide +kernel
theorem dL_law_337 : decode cL_law 337 = .ok (.iadd, 1) := by decide +kernel
theorem dL_law_338 : decode cL_law 338 = .ok (.iaload, 1) := by decide +kernel
theorem dL_law_339 : decode cL_law 339 = .ok (.invokevirtual 36, 3) := by decide +kernel
theorem dL_law_342 : decode cL_law 342 = .ok (.if_icmp .eq 160, 3) := by decide +kernel
theorem dL_law_345 : decode cL_law 345 = .ok (.iconst 0, 1) := by decide +kernel
theorem dL_law_346 : decode cL_law 346 = .ok (.ireturn, 1) := by decide +kernel
theorem dL_law_347 : decode cL_law 347 = .ok (.aload_n 1, 1) := by decide +kernel
theorem dL_law_348 : decode cL_law 348 = .ok (.invokevirtual 37, 3) := by decide +kernel
theorem dL_law_351 : decode cL_law 351 = .ok (.aload_n 2, 1) := by decide +kernel
theorem dL_law_352 : decode cL_law 352 = .ok (.invokevirtual 41, 3) := by decide +kernel
theorem dL_law_355 : decode cL_law 355 = .ok (.if_icmp .eq 147, 3) := by decide +kernel
theorem dL_law_358 : decode cL_law 358 = .ok (.iconst 0, 1) := by decide +kernel
theorem dL_law_359 : decode cL_law 359 = .ok (.ireturn, 1) := by decide +kernel
theorem dL_law_360 : decode cL_law 360 = .ok (.aload_n 1, 1) := by decide +kernel
theorem dL_law_361 : decode cL_law 361 = .ok (.aload_n 0, 1) := by decide +kernel
theorem dL_law_362 : decode cL_law 362 = .ok (.iload_n 3, 1) := by decide +kernel
theorem dL_law_363 : decode cL_law 363 = .ok (.iconst 1, 1) := by decide +kernel
theorem dL_law_364 : decode cL_law 364 = .ok (.iadd, 1) := by decide +kernel
theorem dL_law_365 : decode cL_law 365 = .ok (.iaload, 1) := by decide +kernel
theorem dL_law_366 : decode cL_law 366 = .ok (.aload_n 0, 1) := by decide +kernel
theorem dL_law_367 : decode cL_law 367 = .ok (.iload_n 3, 1) := by decide +kernel
theorem dL_law_368 : decode cL_law 368 = .ok (.iconst 2, 1) := by decide +kernel
theorem dL_law_369 : decode cL_law 369 = .ok (.iadd, 1) := by decide +kernel
theorem dL_law_370 : decode cL_law 370 = .ok (.iaload, 1) := by decide +kernel
theorem dL_law_371 : decode cL_law 371 = .ok (.invokevirtual 42, 3) := by decide +kernel
theorem dL_law_374 : decode cL_law 374 = .ok (.aload_n 2, 1) := by decide +kernel
theorem dL_law_375 : decode cL_law 375 = .ok (.aload_n 0, 1) := by decide +kernel
theorem dL_law_376 : decode cL_law 376 = .ok (.iload_n 3, 1) := by decide +kernel
theorem dL_law_377 : decode cL_law 377 = .ok (.iconst 1, 1) := by decide +kernel
theorem dL_law_378 : decode cL_law 378 = .ok (.iadd, 1) := by decide +kernel
theorem dL_law_379 : decode cL_law 379 = .ok (.iaload, 1) := by decide +kernel
theorem dL_law_380 : decode cL_law 380 = .ok (.aload_n 0, 1) := by decide +kernel
theorem dL_law_381 : decode cL_law 381 = .ok (.iload_n 3, 1) := by decide +kernel
theorem dL_law_382 : decode cL_law 382 = .ok (.iconst 2, 1) := by decide +kernel
theorem dL_law_383 : decode cL_law 383 = .ok (.iadd, 1) := by decide +kernel
theorem dL_law_384 : decode cL_law 384 = .ok (.iaload, 1) := by decide +kernel
theorem dL_law_385 : decode cL_law 385 = .ok (.invokevirtual 45, 3) := by decide +kernel
theorem dL_law_388 : decode cL_law 388 = .ok (.if_icmp .eq 114, 3) := by decide +kernel
theorem dL_law_391 : decode cL_law 391 = .ok (.iconst 0, 1) := by decide +kernel
theorem dL_law_392 : decode cL_law 392 = .ok (.ireturn, 1) := by decide +kernel
theorem dL_law_393 : decode cL_law 393 = .ok (.aload_n 1, 1) := by decide +kernel
theorem dL_law_394 : decode cL_law 394 = .ok (.aload_n 0, 1) := by decide +kernel
theorem dL_law_395 : decode cL_law 395 = .ok (.iload_n 3, 1) := by decide +kernel
theorem dL_law_396 : decode cL_law 396 = .ok (.iconst 1, 1) := by decide +kernel
theorem dL_law_397 : decode cL_law 397 = .ok (.iadd, 1) := by decide +kernel
theorem dL_law_398 : decode cL_law 398 = .ok (.iaload, 1) := by decide +kernel
theorem dL_law_399 : decode cL_law 399 = .ok (.aload_n 0, 1) := by decide +kernel
theorem dL_law_400 : decode cL_law 400 = .ok (.iload_n 3, 1) := by decide +kernel
theorem dL_law_401 : decode cL_law 401 = .ok (.iconst 2, 1) := by decide +kernel
theorem dL_law_402 : decode cL_law 402 = .ok (.iadd, 1) := by decide +kernel
theorem dL_law_403 : decode cL_law 403 = .ok (.iaload, 1) := by decide +kernel
theorem dL_law_404 : decode cL_law 404 = .ok (.aload_n 0, 1) := by decide +kernel
theorem dL_law_405 : decode cL_law 405 = .ok (.iload_n 3, 1) := by decide +kernel
theorem dL_law_406 : decode cL_law 406 = .ok (.iconst 3, 1) := by decide +kernel
theorem dL_law_407 : decode cL_law 407 = .ok (.iadd, 1) := by decide +kernel
theorem dL_law_408 : decode cL_law 408 = .ok (.iaload, 1) := by decide +kernel
theorem dL_law_409 : decode cL_law 409 = .ok (.aload_n 0, 1) := by decide +kernel
theorem dL_law_410 : decode cL_law 410 = .ok (.iload_n 3, 1) := by decide +kernel
theorem dL_law_411 : decode cL_law 411 = .ok (.iconst 4, 1) := by decide +kernel
theorem dL_law_412 : decode cL_law 412 = .ok (.iadd, 1) := by decide +kernel
theorem dL_law_413 : decode cL_law 413 = .ok (.iaload, 1) := by decide +kernel
theorem dL_law_414 : decode cL_law 414 = .ok (.aload_n 0, 1) := by decide +kernel
theorem dL_law_415 : decode cL_law 415 = .ok (.iload_n 3, 1) := by decide +kernel
theorem dL_law_416 : decode cL_law 416 = .ok (.iconst 5, 1) := by decide +kernel
theorem dL_law_417 : decode cL_law 417 = .ok (.iadd, 1) := by decide +kernel
theorem dL_law_418 : decode cL_law 418 = .ok (.iaload, 1) := by decide +kernel
theorem dL_law_419 : decode cL_law 419 = .ok (.invokevirtual 46, 3) := by decide +kernel
theorem dL_law_422 : decode cL_law 422 = .ok (.aload_n 2, 1) := by decide +kernel
theorem dL_law_423 : decode cL_law 423 = .ok (.aload_n 0, 1) := by decide +kernel
theorem dL_law_424 : decode cL_law 424 = .ok (.iload_n 3, 1) := by decide +kernel
theorem dL_law_425 : decode cL_law 425 = .ok (.iconst 1, 1) := by decide +kernel
theorem dL_law_426 : decode cL_law 426 = .ok (.iadd, 1) := by decide +kernel
theorem dL_law_427 : decode cL_law 427 = .ok (.iaload, 1) := by decide +kernel
theorem dL_law_428 : decode cL_law 428 = .ok (.aload_n 0, 1) := by decide +kernel
theorem dL_law_429 : decode cL_law 429 = .ok (.iload_n 3, 1) := by decide +kernel
theorem dL_law_430 : decode cL_law 430 = .ok (.iconst 2, 1) := by decide +kernel
theorem dL_law_431 : decode cL_law 431 = .ok (.iadd, 1) := by decide +kernel
theorem dL_law_432 : decode cL_law 432 = .ok (.iaload, 1) := by decide +kernel
theorem dL_law_433 : decode cL_law 433 = .ok (.aload_n 0, 1) := by decide +kernel
theorem dL_law_434 : decode cL_law 434 = .ok (.iload_n 3, 1) := by decide +kernel
theorem dL_law_435 : decode cL_law 435 = .ok (.iconst 3, 1) := by decide +kernel
theorem dL_law_436 : decode cL_law 436 = .ok (.iadd, 1) := by decide +kernel
theorem dL_law_437 : decode cL_law 437 = .ok (.iaload, 1) := by decide +kernel
theorem dL_law_438 : decode cL_law 438 = .ok (.aload_n 0, 1) := by decide +kernel
theorem dL_law_439 : decode cL_law 439 = .ok (.iload_n 3, 1) := by decide +kernel
theorem dL_law_440 : decode cL_law 440 = .ok (.iconst 4, 1) := by decide +kernel
theorem dL_law_441 : decode cL_law 441 = .ok (.iadd, 1) := by decide +kernel
theorem dL_law_442 : decode cL_law 442 = .ok (.iaload, 1) := by decide +kernel
theorem dL_law_443 : decode cL_law 443 = .ok (.aload_n 0, 1) := by decide +kernel
theorem dL_law_444 : decode cL_law 444 = .ok (.iload_n 3, 1) := by decide +kernel
theorem dL_law_445 : decode cL_law 445 = .ok (.iconst 5, 1) := by decide +kernel
theorem dL_law_446 : decode cL_law 446 = .ok (.iadd, 1) := by decide +kernel
theorem dL_law_447 : decode cL_law 447 = .ok (.iaload, 1) := by decide +kernel
theorem dL_law_448 : decode cL_law 448 = .ok (.invokevirtual 49, 3) := by decide +kernel
theorem dL_law_451 : decode cL_law 451 = .ok (.if_icmp .eq 51, 3) := by decide +kernel
theorem dL_law_454 : decode cL_law 454 = .ok (.iconst 0, 1) := by decide +kernel
theorem dL_law_455 : decode cL_law 455 = .ok (.ireturn, 1) := by decide +kernel
theorem dL_law_456 : decode cL_law 456 = .ok (.aload_n 1, 1) := by decide +kernel
theorem dL_law_457 : decode cL_law 457 = .ok (.aload_n 0, 1) := by decide +kernel
theorem dL_law_458 : decode cL_law 458 = .ok (.iload_n 3, 1) := by decide +kernel
theorem dL_law_459 : decode cL_law 459 = .ok (.iconst 1, 1) := by decide +kernel
theorem dL_law_460 : decode cL_law 460 = .ok (.iadd, 1) := by decide +kernel
theorem dL_law_461 : decode cL_law 461 = .ok (.iaload, 1) := by decide +kernel
theorem dL_law_462 : decode cL_law 462 = .ok (.invokevirtual 50, 3) := by decide +kernel
theorem dL_law_465 : decode cL_law 465 = .ok (.aload_n 2, 1) := by decide +kernel
theorem dL_law_466 : decode cL_law 466 = .ok (.aload_n 0, 1) := by decide +kernel
theorem dL_law_467 : decode cL_law 467 = .ok (.iload_n 3, 1) := by decide +kernel
theorem dL_law_468 : decode cL_law 468 = .ok (.iconst 1, 1) := by decide +kernel
theorem dL_law_469 : decode cL_law 469 = .ok (.iadd, 1) := by decide +kernel
theorem dL_law_470 : decode cL_law 470 = .ok (.iaload, 1) := by decide +kernel
theorem dL_law_471 : decode cL_law 471 = .ok (.invokevirtual 54, 3) := by decide +kernel
theorem dL_law_474 : decode cL_law 474 = .ok (.if_icmp .eq 28, 3) := by decide +kernel
theorem dL_law_477 : decode cL_law 477 = .ok (.iconst 0, 1) := by decide +kernel
theorem dL_law_478 : decode cL_law 478 = .ok (.ireturn, 1) := by decide +kernel
theorem dL_law_479 : decode cL_law 479 = .ok (.aload_n 1, 1) := by decide +kernel
theorem dL_law_480 : decode cL_law 480 = .ok (.aload_n 0, 1) := by decide +kernel
theorem dL_law_481 : decode cL_law 481 = .ok (.iload_n 3, 1) := by decide +kernel
theorem dL_law_482 : decode cL_law 482 = .ok (.iconst 1, 1) := by decide +kernel
theorem dL_law_483 : decode cL_law 483 = .ok (.iadd, 1) := by decide +kernel
theorem dL_law_484 : decode cL_law 484 = .ok (.iaload, 1) := by decide +kernel
theorem dL_law_485 : decode cL_law 485 = .ok (.invokevirtual 55, 3) := by decide +kernel
theorem dL_law_488 : decode cL_law 488 = .ok (.aload_n 2, 1) := by decide +kernel
theorem dL_law_489 : decode cL_law 489 = .ok (.aload_n 0, 1) := by decide +kernel
theorem dL_law_490 : decode cL_law 490 = .ok (.iload_n 3, 1) := by decide +kernel
theorem dL_law_491 : decode cL_law 491 = .ok (.iconst 1, 1) := by decide +kernel
theorem dL_law_492 : decode cL_law 492 = .ok (.iadd, 1) := by decide +kernel
theorem dL_law_493 : decode cL_law 493 = .ok (.iaload, 1) := by decide +kernel
theorem dL_law_494 : decode cL_law 494 = .ok (.invokevirtual 58, 3) := by decide +kernel
theorem dL_law_497 : decode cL_law 497 = .ok (.if_icmp .eq 5, 3) := by decide +kernel
theorem dL_law_500 : decode cL_law 500 = .ok (.iconst 0, 1) := by decide +kernel
theorem dL_law_501 : decode cL_law 501 = .ok (.ireturn, 1) := by decide +kernel
theorem dL_law_502 : decode cL_law 502 = .ok (.iinc 3 8, 3) := by decide +kernel
theorem dL_law_505 : decode cL_law 505 = .ok (.goto (-487), 3) := by decide +kernel
theorem dL_law_508 : decode cL_law 508 = .ok (.iconst 1, 1) := by decide +kernel
theorem dL_law_509 : decode cL_law 509 = .ok (.ireturn, 1) := by decide +kernel
