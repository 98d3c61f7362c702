theorem dX0_hash_0 : decode cX0_hash 0 = .ok (.iload_n 0, 1) := by decide +kernel
theorem dX0_hash_1 : decode cX0_hash 1 = .ok (.iload_n 1, 1) := by decide +kernel
theorem dX0_hash_2 : decode cX0_hash 2 = .ok (.ldc 9, 2) := by decide +kernel
theorem dX0_hash_4 : decode cX0_hash 4 = .ok (.imul, 1) := by decide +kernel
theorem dX0_hash_5 : decode cX0_hash 5 = .ok (.iadd, 1) := by decide +kernel
theorem dX0_hash_6 : decode cX0_hash 6 = .ok (.istore_n 2, 1) := by decide +kernel
theorem dX0_hash_7 : decode cX0_hash 7 = .ok (.iload_n 2, 1) := by decide +kernel
theorem dX0_hash_8 : decode cX0_hash 8 = .ok (.iload_n 2, 1) := by decide +kernel
theorem dX0_hash_9 : decode cX0_hash 9 = .ok (.bipush 16, 2) := by decide +kernel
theorem dX0_hash_11 : decode cX0_hash 11 = .ok (.iushr, 1) := by decide +kernel
theorem dX0_hash_12 : decode cX0_hash 12 = .ok (.ixor, 1) := by decide +kernel
theorem dX0_hash_13 : decode cX0_hash 13 = .ok (.ldc 10, 2) := by decide +kernel
theorem dX0_hash_15 : decode cX0_hash 15 = .ok (.imul, 1) := by decide +kernel
theorem dX0_hash_16 : decode cX0_hash 16 = .ok (.istore_n 2, 1) := by decide +kernel
theorem dX0_hash_17 : decode cX0_hash 17 = .ok (.iload_n 2, 1) := by decide +kernel
theorem dX0_hash_18 : decode cX0_hash 18 = .ok (.iload_n 2, 1) := by decide +kernel
theorem dX0_hash_19 : decode cX0_hash 19 = .ok (.bipush 13, 2) := by decide +kernel
theorem dX0_hash_21 : decode cX0_hash 21 = .ok (.iushr, 1) := by decide +kernel
theorem dX0_hash_22 : decode cX0_hash 22 = .ok (.ixor, 1) := by decide +kernel
theorem dX0_hash_23 : decode cX0_hash 23 = .ok (.ldc 11, 2) := by decide +kernel
theorem dX0_hash_25 : decode cX0_hash 25 = .ok (.imul, 1) := by decide +kernel
theorem dX0_hash_26 : decode cX0_hash 26 = .ok (.istore_n 2, 1) := by decide +kernel
theorem dX0_hash_27 : decode cX0_hash 27 = .ok (.iload_n 2, 1) := by decide +kernel
theorem dX0_hash_28 : decode cX0_hash 28 = .ok (.iload_n 2, 1) := by decide +kernel
theorem dX0_hash_29 : decode cX0_hash 29 = .ok (.bipush 16, 2) := by decide +kernel
theorem dX0_hash_31 : decode cX0_hash 31 = .ok (.iushr, 1) := by decide +kernel
theorem dX0_hash_32 : decode cX0_hash 32 = .ok (.ixor, 1) := by decide +kernel
theorem dX0_hash_33 : decode cX0_hash 33 = .ok (.ireturn, 1) := by decide +kernel
theorem dX0_between_0 : decode cX0_between 0 = .ok (.iload_n 0, 1) := by decide +kernel
theorem dX0_between_1 : decode cX0_between 1 = .ok (.iconst 2, 1) := by decide +kernel
theorem dX0_between_2 : decode cX0_between 2 = .ok (.iload_n 1, 1) := by decide +kernel
theorem dX0_between_3 : decode cX0_between 3 = .ok (.imul, 1) := by decide +kernel
theorem dX0_between_4 : decode cX0_between 4 = .ok (.iconst 1, 1) := by decide +kernel
theorem dX0_between_5 : decode cX0_between 5 = .ok (.iadd, 1) := by decide +kernel
theorem dX0_between_6 : decode cX0_between 6 = .ok (.invokestatic 12, 3) := by decide +kernel
theorem dX0_between_9 : decode cX0_between 9 = .ok (.iload_n 1, 1) := by decide +kernel
theorem dX0_between_10 : decode cX0_between 10 = .ok (.isub, 1) := by decide +kernel
theorem dX0_between_11 : decode cX0_between 11 = .ok (.ireturn, 1) := by decide +kernel
theorem dX0_into_0 : decode cX0_into 0 = .ok (.iconst 1, 1) := by decide +kernel
theorem dX0_into_1 : decode cX0_into 1 = .ok (.iload_n 2, 1) := by decide +kernel
theorem dX0_into_2 : decode cX0_into 2 = .ok (.bipush 12, 2) := by decide +kernel
theorem dX0_into_4 : decode cX0_into 4 = .ok (.irem, 1) := by decide +kernel
theorem dX0_into_5 : decode cX0_into 5 = .ok (.iadd, 1) := by decide +kernel
theorem dX0_into_6 : decode cX0_into 6 = .ok (.istore 5, 2) := by decide +kernel
theorem dX0_into_8 : decode cX0_into 8 = .ok (.iload_n 1, 1) := by decide +kernel
theorem dX0_into_9 : decode cX0_into 9 = .ok (.bipush 16, 2) := by decide +kernel
theorem dX0_into_11 : decode cX0_into 11 = .ok (.iload_n 2, 1) := by decide +kernel
theorem dX0_into_12 : decode cX0_into 12 = .ok (.imul, 1) := by decide +kernel
theorem dX0_into_13 : decode cX0_into 13 = .ok (.iload_n 3, 1) := by decide +kernel
theorem dX0_into_14 : decode cX0_into 14 = .ok (.iadd, 1) := by decide +kernel
theorem dX0_into_15 : decode cX0_into 15 = .ok (.invokestatic 20, 3) := by decide +kernel
theorem dX0_into_18 : decode cX0_into 18 = .ok (.istore 6, 2) := by decide +kernel
theorem dX0_into_20 : decode cX0_into 20 = .ok (.iload 4, 2) := by decide +kernel
theorem dX0_into_22 : decode cX0_into 22 = .ok (.ifCond .ne 17, 3) := by decide +kernel
theorem dX0_into_25 : decode cX0_into 25 = .ok (.aload_n 0, 1) := by decide +kernel
theorem dX0_into_26 : decode cX0_into 26 = .ok (.iload 6, 2) := by decide +kernel
theorem dX0_into_28 : decode cX0_into 28 = .ok (.iload 5, 2) := by decide +kernel
theorem dX0_into_30 : decode cX0_into 30 = .ok (.invokestatic 23, 3) := by decide +kernel
theorem dX0_into_33 : decode cX0_into 33 = .ok (.invokevirtual 26, 3) := by decide +kernel
theorem dX0_into_36 : decode cX0_into 36 = .ok (.goto 70, 3) := by decide +kernel
theorem dX0_into_39 : decode cX0_into 39 = .ok (.iload 4, 2) := by decide +kernel
theorem dX0_into_41 : decode cX0_into 41 = .ok (.iconst 1, 1) := by decide +kernel
theorem dX0_into_42 : decode cX0_into 42 = .ok (.if_icmp .ne 60, 3) := by decide +kernel
theorem dX0_into_45 : decode cX0_into 45 = .ok (.aload_n 0, 1) := by decide +kernel
theorem dX0_into_46 : decode cX0_into 46 = .ok (.iload 6, 2) := by decide +kernel
theorem dX0_into_48 : decode cX0_into 48 = .ok (.iload 5, 2) := by decide +kernel
theorem dX0_into_50 : decode cX0_into 50 = .ok (.iconst 2, 1) := by decide +kernel
theorem dX0_into_51 : decode cX0_into 51 = .ok (.idiv, 1) := by decide +kernel
theorem dX0_into_52 : decode cX0_into 52 = .ok (.iconst 1, 1) := by decide +kernel
theorem dX0_into_53 : decode cX0_into 53 = .ok (.iadd, 1) := by decide +kernel
theorem dX0_into_54 : decode cX0_into 54 = .ok (.invokestatic 12, 3) := by decide +kernel
theorem dX0_into_57 : decode cX0_into 57 = .ok (.invokevirtual 32, 3) := by decide +kernel
theorem dX0_into_60 : decode cX0_into 60 = .ok (.iconst 0, 1) := by decide +kernel
theorem dX0_into_61 : decode cX0_into 61 = .ok (.istore 7, 2) := by decide +kernel
theorem dX0_into_63 : decode cX0_into 63 = .ok (.iload 7, 2) := by decide +kernel
theorem dX0_into_65 : decode cX0_into 65 = .ok (.aload_n 0, 1) := by decide +kernel
theorem dX0_into_66 : decode cX0_into 66 = .ok (.getfield 35, 3) := by decide +kernel
theorem dX0_into_69 : decode cX0_into 69 = .ok (.if_icmp .ge 30, 3) := by decide +kernel
theorem dX0_into_72 : decode cX0_into 72 = .ok (.aload_n 0, 1) := by decide +kernel
theorem dX0_into_73 : decode cX0_into 73 = .ok (.getfield 39, 3) := by decide +kernel
theorem dX0_into_76 : decode cX0_into 76 = .ok (.iload 7, 2) := by decide +kernel
theorem dX0_into_78 : decode cX0_into 78 = .ok (.iload 6, 2) := by decide +kernel
theorem dX0_into_80 : decode cX0_into 80 = .ok (.iload 7, 2) := by decide +kernel
theorem dX0_into_82 : decode cX0_into 82 = .ok (.iconst 1, 1) := by decide +kernel
theorem dX0_into_83 : decode cX0_into 83 = .ok (.iadd, 1) := by decide +kernel
theorem dX0_into_84 : decode cX0_into 84 = .ok (.invokestatic 20, 3) := by decide +kernel
theorem dX0_into_87 : decode cX0_into 87 = .ok (.iload 5, 2) := by decide +kernel
theorem dX0_into_89 : decode cX0_into 89 = .ok (.invokestatic 23, 3) := by decide +kernel
theorem dX0_into_92 : decode cX0_into 92 = .ok (.iastore, 1) := by decide +kernel
theorem dX0_into_93 : decode cX0_into 93 = .ok (.iinc 7 1, 3) := by decide +kernel
theorem dX0_into_96 : decode cX0_into 96 = .ok (.goto (-33), 3) := by decide +kernel
theorem dX0_into_99 : decode cX0_into 99 = .ok (.goto 7, 3) := by decide +kernel
theorem dX0_into_102 : decode cX0_into 102 = .ok (.aload_n 0, 1) := by decide +kernel
theorem dX0_into_103 : decode cX0_into 103 = .ok (.invokevirtual 43, 3) := by decide +kernel
theorem dX0_into_106 : decode cX0_into 106 = .ok (.return_, 1) := by decide +kernel
theorem dX1_init_0 : decode cX1_init 0 = .ok (.aload_n 0, 1) := by decide +kernel
theorem dX1_init_1 : decode cX1_init 1 = .ok (.invokespecial 3, 3) := by decide +kernel
theorem dX1_init_4 : decode cX1_init 4 = .ok (.aload_n 0, 1) := by decide +kernel
theorem dX1_init_5 : decode cX1_init 5 = .ok (.iconst 3, 1) := by decide +kernel
theorem dX1_init_6 : decode cX1_init 6 = .ok (.newarray .int, 2) := by decide +kernel
theorem dX1_init_8 : decode cX1_init 8 = .ok (.putfield 9, 3) := by decide +kernel
theorem dX1_init_11 : decode cX1_init 11 = .ok (.aload_n 0, 1) := by decide +kernel
theorem dX1_init_12 : decode cX1_init 12 = .ok (.iconst (-1), 1) := by decide +kernel
theorem dX1_init_13 : decode cX1_init 13 = .ok (.putfield 15, 3) := by decide +kernel
theorem dX1_init_16 : decode cX1_init 16 = .ok (.aload_n 0, 1) := by decide +kernel
theorem dX1_init_17 : decode cX1_init 17 = .ok (.iconst 0, 1) := by decide +kernel
theorem dX1_init_18 : decode cX1_init 18 = .ok (.putfield 19, 3) := by decide +kernel
theorem dX1_init_21 : decode cX1_init 21 = .ok (.aload_n 0, 1) := by decide +kernel
theorem dX1_init_22 : decode cX1_init 22 = .ok (.iconst (-1), 1) := by decide +kernel
theorem dX1_init_23 : decode cX1_init 23 = .ok (.putfield 22, 3) := by decide +kernel
theorem dX1_init_26 : decode cX1_init 26 = .ok (.aload_n 0, 1) := by decide +kernel
theorem dX1_init_27 : decode cX1_init 27 = .ok (.iconst 0, 1) := by decide +kernel
theorem dX1_init_28 : decode cX1_init 28 = .ok (.putfield 25, 3) := by decide +kernel
theorem dX1_init_31 : decode cX1_init 31 = .ok (.return_, 1) := by decide +kernel
theorem dX1_setTypes_0 : decode cX1_setTypes 0 = .ok (.aload_n 0, 1) := by decide +kernel
theorem dX1_setTypes_1 : decode cX1_setTypes 1 = .ok (.getfield 9, 3) := by decide +kernel
theorem dX1_setTypes_4 : decode cX1_setTypes 4 = .ok (.iconst 0, 1) := by decide +kernel
theorem dX1_setTypes_5 : decode cX1_setTypes 5 = .ok (.iload_n 1, 1) := by decide +kernel
theorem dX1_setTypes_6 : decode cX1_setTypes 6 = .ok (.iastore, 1) := by decide +kernel
theorem dX1_setTypes_7 : decode cX1_setTypes 7 = .ok (.aload_n 0, 1) := by decide +kernel
theorem dX1_setTypes_8 : decode cX1_setTypes 8 = .ok (.getfield 9, 3) := by decide +kernel
theorem dX1_setTypes_11 : decode cX1_setTypes 11 = .ok (.iconst 1, 1) := by decide +kernel
theorem dX1_setTypes_12 : decode cX1_setTypes 12 = .ok (.iload_n 2, 1) := by decide +kernel
theorem dX1_setTypes_13 : decode cX1_setTypes 13 = .ok (.iastore, 1) := by decide +kernel
theorem dX1_setTypes_14 : decode cX1_setTypes 14 = .ok (.aload_n 0, 1) := by decide +kernel
theorem dX1_setTypes_15 : decode cX1_setTypes 15 = .ok (.getfield 9, 3) := by decide +kernel
theorem dX1_setTypes_18 : decode cX1_setTypes 18 = .ok (.iconst 2, 1) := by decide +kernel
theorem dX1_setTypes_19 : decode cX1_setTypes 19 = .ok (.iload_n 3, 1) := by decide +kernel
theorem dX1_setTypes_20 : decode cX1_setTypes 20 = .ok (.iastore, 1) := by decide +kernel
theorem dX1_setTypes_21 : decode cX1_setTypes 21 = .ok (.return_, 1) := by decide +kernel
theorem dX1_setTerms_0 : decode cX1_setTerms 0 = .ok (.aload_n 0, 1) := by decide +kernel
theorem dX1_setTerms_1 : decode cX1_setTerms 1 = .ok (.iload_n 1, 1) := by decide +kernel
theorem dX1_setTerms_2 : decode cX1_setTerms 2 = .ok (.putfield 15, 3) := by decide +kernel
theorem dX1_setTerms_5 : decode cX1_setTerms 5 = .ok (.aload_n 0, 1) := by decide +kernel
theorem dX1_setTerms_6 : decode cX1_setTerms 6 = .ok (.iload_n 2, 1) := by decide +kernel
theorem dX1_setTerms_7 : decode cX1_setTerms 7 = .ok (.putfield 19, 3) := by decide +kernel
theorem dX1_setTerms_10 : decode cX1_setTerms 10 = .ok (.aload_n 0, 1) := by decide +kernel
theorem dX1_setTerms_11 : decode cX1_setTerms 11 = .ok (.iload_n 3, 1) := by decide +kernel
theorem dX1_setTerms_12 : decode cX1_setTerms 12 = .ok (.putfield 22, 3) := by decide +kernel
theorem dX1_setTerms_15 : decode cX1_setTerms 15 = .ok (.aload_n 0, 1) := by decide +kernel
theorem dX1_setTerms_16 : decode cX1_setTerms 16 = .ok (.iload 4, 2) := by decide +kernel
theorem dX1_setTerms_18 : decode cX1_setTerms 18 = .ok (.putfield 25, 3) := by decide +kernel
theorem dX1_setTerms_21 : decode cX1_setTerms 21 = .ok (.return_, 1) := by decide +kernel
theorem dX2_wholes_0 : decode cX2_wholes 0 = .ok (.iconst 2, 1) := by decide +kernel
theorem dX2_wholes_1 : decode cX2_wholes 1 = .ok (.iload_n 0, 1) := by decide +kernel
theorem dX2_wholes_2 : decode cX2_wholes 2 = .ok (.imul, 1) := by decide +kernel
theorem dX2_wholes_3 : decode cX2_wholes 3 = .ok (.iconst 1, 1) := by decide +kernel
theorem dX2_wholes_4 : decode cX2_wholes 4 = .ok (.iadd, 1) := by decide +kernel
theorem dX2_wholes_5 : decode cX2_wholes 5 = .ok (.ireturn, 1) := by decide +kernel
theorem dX2_count_0 : decode cX2_count 0 = .ok (.iload_n 0, 1) := by decide +kernel
theorem dX2_count_1 : decode cX2_count 1 = .ok (.iconst (-1), 1) := by decide +kernel
theorem dX2_count_2 : decode cX2_count 2 = .ok (.if_icmp .ne 5, 3) := by decide +kernel
theorem dX2_count_5 : decode cX2_count 5 = .ok (.iconst 1, 1) := by decide +kernel
theorem dX2_count_6 : decode cX2_count 6 = .ok (.ireturn, 1) := by decide +kernel
theorem dX2_count_7 : decode cX2_count 7 = .ok (.iload_n 0, 1) := by decide +kernel
theorem dX2_count_8 : decode cX2_count 8 = .ok (.ifCond .ne 8, 3) := by decide +kernel
theorem dX2_count_11 : decode cX2_count 11 = .ok (.iload_n 1, 1) := by decide +kernel
theorem dX2_count_12 : decode cX2_count 12 = .ok (.invokestatic 9, 3) := by decide +kernel
theorem dX2_count_15 : decode cX2_count 15 = .ok (.ireturn, 1) := by decide +kernel
theorem dX2_count_16 : decode cX2_count 16 = .ok (.iconst 1, 1) := by decide +kernel
theorem dX2_count_17 : decode cX2_count 17 = .ok (.istore_n 2, 1) := by decide +kernel
theorem dX2_count_18 : decode cX2_count 18 = .ok (.iconst 1, 1) := by decide +kernel
theorem dX2_count_19 : decode cX2_count 19 = .ok (.istore_n 3, 1) := by decide +kernel
theorem dX2_count_20 : decode cX2_count 20 = .ok (.iconst 1, 1) := by decide +kernel
theorem dX2_count_21 : decode cX2_count 21 = .ok (.istore 4, 2) := by decide +kernel
theorem dX2_count_23 : decode cX2_count 23 = .ok (.iload 4, 2) := by decide +kernel
theorem dX2_count_25 : decode cX2_count 25 = .ok (.iload_n 1, 1) := by decide +kernel
theorem dX2_count_26 : decode cX2_count 26 = .ok (.if_icmp .gt 20, 3) := by decide +kernel
theorem dX2_count_29 : decode cX2_count 29 = .ok (.iload_n 3, 1) := by decide +kernel
theorem dX2_count_30 : decode cX2_count 30 = .ok (.iload_n 1, 1) := by decide +kernel
theorem dX2_count_31 : decode cX2_count 31 = .ok (.invokestatic 9, 3) := by decide +kernel
theorem dX2_count_34 : decode cX2_count 34 = .ok (.imul, 1) := by decide +kernel
theorem dX2_count_35 : decode cX2_count 35 = .ok (.istore_n 3, 1) := by decide +kernel
theorem dX2_count_36 : decode cX2_count 36 = .ok (.iload_n 2, 1) := by decide +kernel
theorem dX2_count_37 : decode cX2_count 37 = .ok (.iload_n 3, 1) := by decide +kernel
theorem dX2_count_38 : decode cX2_count 38 = .ok (.iadd, 1) := by decide +kernel
theorem dX2_count_39 : decode cX2_count 39 = .ok (.istore_n 2, 1) := by decide +kernel
theorem dX2_count_40 : decode cX2_count 40 = .ok (.iinc 4 1, 3) := by decide +kernel
theorem dX2_count_43 : decode cX2_count 43 = .ok (.goto (-20), 3) := by decide +kernel
theorem dX2_count_46 : decode cX2_count 46 = .ok (.iload_n 2, 1) := by decide +kernel
theorem dX2_count_47 : decode cX2_count 47 = .ok (.ireturn, 1) := by decide +kernel
theorem dX2_countFor_0 : decode cX2_countFor 0 = .ok (.iconst 1, 1) := by decide +kernel
theorem dX2_countFor_1 : decode cX2_countFor 1 = .ok (.istore_n 2, 1) := by decide +kernel
theorem dX2_countFor_2 : decode cX2_countFor 2 = .ok (.iconst 0, 1) := by decide +kernel
theorem dX2_countFor_3 : decode cX2_countFor 3 = .ok (.istore_n 3, 1) := by decide +kernel
theorem dX2_countFor_4 : decode cX2_countFor 4 = .ok (.iload_n 3, 1) := by decide +kernel
theorem dX2_countFor_5 : decode cX2_countFor 5 = .ok (.iconst 3, 1) := by decide +kernel
theorem dX2_countFor_6 : decode cX2_countFor 6 = .ok (.if_icmp .ge 19, 3) := by decide +kernel
theorem dX2_countFor_9 : decode cX2_countFor 9 = .ok (.iload_n 2, 1) := by decide +kernel
theorem dX2_countFor_10 : decode cX2_countFor 10 = .ok (.aload_n 0, 1) := by decide +kernel
theorem dX2_countFor_11 : decode cX2_countFor 11 = .ok (.iload_n 3, 1) := by decide +kernel
theorem dX2_countFor_12 : decode cX2_countFor 12 = .ok (.iaload, 1) := by decide +kernel
theorem dX2_countFor_13 : decode cX2_countFor 13 = .ok (.iload_n 1, 1) := by decide +kernel
theorem dX2_countFor_14 : decode cX2_countFor 14 = .ok (.invokestatic 15, 3) := by decide +kernel
theorem dX2_countFor_17 : decode cX2_countFor 17 = .ok (.imul, 1) := by decide +kernel
theorem dX2_countFor_18 : decode cX2_countFor 18 = .ok (.istore_n 2, 1) := by decide +kernel
theorem dX2_countFor_19 : decode cX2_countFor 19 = .ok (.iinc 3 1, 3) := by decide +kernel
theorem dX2_countFor_22 : decode cX2_countFor 22 = .ok (.goto (-18), 3) := by decide +kernel
theorem dX2_countFor_25 : decode cX2_countFor 25 = .ok (.iload_n 2, 1) := by decide +kernel
theorem dX2_countFor_26 : decode cX2_countFor 26 = .ok (.ireturn, 1) := by decide +kernel
theorem dX2_fill_0 : decode cX2_fill 0 = .ok (.iload_n 3, 1) := by decide +kernel
theorem dX2_fill_1 : decode cX2_fill 1 = .ok (.istore 4, 2) := by decide +kernel
theorem dX2_fill_3 : decode cX2_fill 3 = .ok (.iconst 2, 1) := by decide +kernel
theorem dX2_fill_4 : decode cX2_fill 4 = .ok (.istore 5, 2) := by decide +kernel
theorem dX2_fill_6 : decode cX2_fill 6 = .ok (.iload 5, 2) := by decide +kernel
theorem dX2_fill_8 : decode cX2_fill 8 = .ok (.ifCond .lt 43, 3) := by decide +kernel
theorem dX2_fill_11 : decode cX2_fill 11 = .ok (.aload_n 1, 1) := by decide +kernel
theorem dX2_fill_12 : decode cX2_fill 12 = .ok (.iload 5, 2) := by decide +kernel
theorem dX2_fill_14 : decode cX2_fill 14 = .ok (.iaload, 1) := by decide +kernel
theorem dX2_fill_15 : decode cX2_fill 15 = .ok (.iload_n 2, 1) := by decide +kernel
theorem dX2_fill_16 : decode cX2_fill 16 = .ok (.invokestatic 15, 3) := by decide +kernel
theorem dX2_fill_19 : decode cX2_fill 19 = .ok (.istore 6, 2) := by decide +kernel
theorem dX2_fill_21 : decode cX2_fill 21 = .ok (.aload_n 0, 1) := by decide +kernel
theorem dX2_fill_22 : decode cX2_fill 22 = .ok (.iload 5, 2) := by decide +kernel
theorem dX2_fill_24 : decode cX2_fill 24 = .ok (.aaload, 1) := by decide +kernel
theorem dX2_fill_25 : decode cX2_fill 25 = .ok (.aload_n 1, 1) := by decide +kernel
theorem dX2_fill_26 : decode cX2_fill 26 = .ok (.iload 5, 2) := by decide +kernel
theorem dX2_fill_28 : decode cX2_fill 28 = .ok (.iaload, 1) := by decide +kernel
theorem dX2_fill_29 : decode cX2_fill 29 = .ok (.iload_n 2, 1) := by decide +kernel
theorem dX2_fill_30 : decode cX2_fill 30 = .ok (.iload 4, 2) := by decide +kernel
theorem dX2_fill_32 : decode cX2_fill 32 = .ok (.iload 6, 2) := by decide +kernel
theorem dX2_fill_34 : decode cX2_fill 34 = .ok (.irem, 1) := by decide +kernel
theorem dX2_fill_35 : decode cX2_fill 35 = .ok (.invokestatic 19, 3) := by decide +kernel
theorem dX2_fill_38 : decode cX2_fill 38 = .ok (.iload 4, 2) := by decide +kernel
theorem dX2_fill_40 : decode cX2_fill 40 = .ok (.iload 6, 2) := by decide +kernel
theorem dX2_fill_42 : decode cX2_fill 42 = .ok (.idiv, 1) := by decide +kernel
theorem dX2_fill_43 : decode cX2_fill 43 = .ok (.istore 4, 2) := by decide +kernel
theorem dX2_fill_45 : decode cX2_fill 45 = .ok (.iinc 5 (-1), 3) := by decide +kernel
theorem dX2_fill_48 : decode cX2_fill 48 = .ok (.goto (-42), 3) := by decide +kernel
theorem dX2_fill_51 : decode cX2_fill 51 = .ok (.return_, 1) := by decide +kernel
theorem dX2_into_0 : decode cX2_into 0 = .ok (.iload_n 1, 1) := by decide +kernel
theorem dX2_into_1 : decode cX2_into 1 = .ok (.ifCond .ne 14, 3) := by decide +kernel
theorem dX2_into_4 : decode cX2_into 4 = .ok (.aload_n 0, 1) := by decide +kernel
theorem dX2_into_5 : decode cX2_into 5 = .ok (.iload_n 3, 1) := by decide +kernel
theorem dX2_into_6 : decode cX2_into 6 = .ok (.invokestatic 23, 3) := by decide +kernel
theorem dX2_into_9 : decode cX2_into 9 = .ok (.invokevirtual 26, 3) := by decide +kernel
theorem dX2_into_12 : decode cX2_into 12 = .ok (.goto 21, 3) := by decide +kernel
theorem dX2_into_15 : decode cX2_into 15 = .ok (.iload_n 1, 1) := by decide +kernel
theorem dX2_into_16 : decode cX2_into 16 = .ok (.iconst 1, 1) := by decide +kernel
theorem dX2_into_17 : decode cX2_into 17 = .ok (.if_icmp .ne 12, 3) := by decide +kernel
theorem dX2_into_20 : decode cX2_into 20 = .ok (.aload_n 0, 1) := by decide +kernel
theorem dX2_into_21 : decode cX2_into 21 = .ok (.iload_n 2, 1) := by decide +kernel
theorem dX2_into_22 : decode cX2_into 22 = .ok (.iload_n 3, 1) := by decide +kernel
theorem dX2_into_23 : decode cX2_into 23 = .ok (.invokestatic 32, 3) := by decide +kernel
theorem dX2_into_26 : decode cX2_into 26 = .ok (.goto 7, 3) := by decide +kernel
theorem dX2_into_29 : decode cX2_into 29 = .ok (.aload_n 0, 1) := by decide +kernel
theorem dX2_into_30 : decode cX2_into 30 = .ok (.invokevirtual 36, 3) := by decide +kernel
theorem dX2_into_33 : decode cX2_into 33 = .ok (.return_, 1) := by decide +kernel
theorem dX2_whole_0 : decode cX2_whole 0 = .ok (.iload_n 0, 1) := by decide +kernel
theorem dX2_whole_1 : decode cX2_whole 1 = .ok (.iconst 2, 1) := by decide +kernel
theorem dX2_whole_2 : decode cX2_whole 2 = .ok (.irem, 1) := by decide +kernel
theorem dX2_whole_3 : decode cX2_whole 3 = .ok (.iconst 1, 1) := by decide +kernel
theorem dX2_whole_4 : decode cX2_whole 4 = .ok (.if_icmp .ne 11, 3) := by decide +kernel
theorem dX2_whole_7 : decode cX2_whole 7 = .ok (.iload_n 0, 1) := by decide +kernel
theorem dX2_whole_8 : decode cX2_whole 8 = .ok (.iconst 1, 1) := by decide +kernel
theorem dX2_whole_9 : decode cX2_whole 9 = .ok (.iadd, 1) := by decide +kernel
theorem dX2_whole_10 : decode cX2_whole 10 = .ok (.iconst 2, 1) := by decide +kernel
theorem dX2_whole_11 : decode cX2_whole 11 = .ok (.idiv, 1) := by decide +kernel
theorem dX2_whole_12 : decode cX2_whole 12 = .ok (.goto 7, 3) := by decide +kernel
theorem dX2_whole_15 : decode cX2_whole 15 = .ok (.iload_n 0, 1) := by decide +kernel
theorem dX2_whole_16 : decode cX2_whole 16 = .ok (.iconst 2, 1) := by decide +kernel
theorem dX2_whole_17 : decode cX2_whole 17 = .ok (.idiv, 1) := by decide +kernel
theorem dX2_whole_18 : decode cX2_whole 18 = .ok (.ineg, 1) := by decide +kernel
theorem dX2_whole_19 : decode cX2_whole 19 = .ok (.ireturn, 1) := by decide +kernel
theorem dX2_rowInto_0 : decode cX2_rowInto 0 = .ok (.iload_n 2, 1) := by decide +kernel
theorem dX2_rowInto_1 : decode cX2_rowInto 1 = .ok (.istore_n 3, 1) := by decide +kernel
theorem dX2_rowInto_2 : decode cX2_rowInto 2 = .ok (.iconst 1, 1) := by decide +kernel
theorem dX2_rowInto_3 : decode cX2_rowInto 3 = .ok (.istore 4, 2) := by decide +kernel
theorem dX2_rowInto_5 : decode cX2_rowInto 5 = .ok (.iconst 0, 1) := by decide +kernel
theorem dX2_rowInto_6 : decode cX2_rowInto 6 = .ok (.istore 5, 2) := by decide +kernel
theorem dX2_rowInto_8 : decode cX2_rowInto 8 = .ok (.iload 5, 2) := by decide +kernel
theorem dX2_rowInto_10 : decode cX2_rowInto 10 = .ok (.iload_n 1, 1) := by decide +kernel
theorem dX2_rowInto_11 : decode cX2_rowInto 11 = .ok (.if_icmp .ge 29, 3) := by decide +kernel
theorem dX2_rowInto_14 : decode cX2_rowInto 14 = .ok (.iload_n 3, 1) := by decide +kernel
theorem dX2_rowInto_15 : decode cX2_rowInto 15 = .ok (.iload 4, 2) := by decide +kernel
theorem dX2_rowInto_17 : decode cX2_rowInto 17 = .ok (.if_icmp .lt 23, 3) := by decide +kernel
theorem dX2_rowInto_20 : decode cX2_rowInto 20 = .ok (.iload_n 3, 1) := by decide +kernel
theorem dX2_rowInto_21 : decode cX2_rowInto 21 = .ok (.iload 4, 2) := by decide +kernel
theorem dX2_rowInto_23 : decode cX2_rowInto 23 = .ok (.isub, 1) := by decide +kernel
theorem dX2_rowInto_24 : decode cX2_rowInto 24 = .ok (.istore_n 3, 1) := by decide +kernel
theorem dX2_rowInto_25 : decode cX2_rowInto 25 = .ok (.iload 4, 2) := by decide +kernel
theorem dX2_rowInto_27 : decode cX2_rowInto 27 = .ok (.iload_n 1, 1) := by decide +kernel
theorem dX2_rowInto_28 : decode cX2_rowInto 28 = .ok (.invokestatic 9, 3) := by decide +kernel
theorem dX2_rowInto_31 : decode cX2_rowInto 31 = .ok (.imul, 1) := by decide +kernel
theorem dX2_rowInto_32 : decode cX2_rowInto 32 = .ok (.istore 4, 2) := by decide +kernel
theorem dX2_rowInto_34 : decode cX2_rowInto 34 = .ok (.iinc 5 1, 3) := by decide +kernel
theorem dX2_rowInto_37 : decode cX2_rowInto 37 = .ok (.goto (-29), 3) := by decide +kernel
theorem dX2_rowInto_40 : decode cX2_rowInto 40 = .ok (.aload_n 0, 1) := by decide +kernel
theorem dX2_rowInto_41 : decode cX2_rowInto 41 = .ok (.iload 5, 2) := by decide +kernel
theorem dX2_rowInto_43 : decode cX2_rowInto 43 = .ok (.invokevirtual 39, 3) := by decide +kernel
theorem dX2_rowInto_46 : decode cX2_rowInto 46 = .ok (.iload 5, 2) := by decide +kernel
theorem dX2_rowInto_48 : decode cX2_rowInto 48 = .ok (.iconst 1, 1) := by decide +kernel
theorem dX2_rowInto_49 : decode cX2_rowInto 49 = .ok (.isub, 1) := by decide +kernel
theorem dX2_rowInto_50 : decode cX2_rowInto 50 = .ok (.istore 6, 2) := by decide +kernel
theorem dX2_rowInto_52 : decode cX2_rowInto 52 = .ok (.iload 6, 2) := by decide +kernel
theorem dX2_rowInto_54 : decode cX2_rowInto 54 = .ok (.ifCond .lt 32, 3) := by decide +kernel
theorem dX2_rowInto_57 : decode cX2_rowInto 57 = .ok (.aload_n 0, 1) := by decide +kernel
theorem dX2_rowInto_58 : decode cX2_rowInto 58 = .ok (.getfield 42, 3) := by decide +kernel
theorem dX2_rowInto_61 : decode cX2_rowInto 61 = .ok (.iload 6, 2) := by decide +kernel
theorem dX2_rowInto_63 : decode cX2_rowInto 63 = .ok (.iload_n 3, 1) := by decide +kernel
theorem dX2_rowInto_64 : decode cX2_rowInto 64 = .ok (.iload_n 1, 1) := by decide +kernel
theorem dX2_rowInto_65 : decode cX2_rowInto 65 = .ok (.invokestatic 9, 3) := by decide +kernel
theorem dX2_rowInto_68 : decode cX2_rowInto 68 = .ok (.irem, 1) := by decide +kernel
theorem dX2_rowInto_69 : decode cX2_rowInto 69 = .ok (.invokestatic 23, 3) := by decide +kernel
theorem dX2_rowInto_72 : decode cX2_rowInto 72 = .ok (.iastore, 1) := by decide +kernel
theorem dX2_rowInto_73 : decode cX2_rowInto 73 = .ok (.iload_n 3, 1) := by decide +kernel
theorem dX2_rowInto_74 : decode cX2_rowInto 74 = .ok (.iload_n 1, 1) := by decide +kernel
theorem dX2_rowInto_75 : decode cX2_rowInto 75 = .ok (.invokestatic 9, 3) := by decide +kernel
theorem dX2_rowInto_78 : decode cX2_rowInto 78 = .ok (.idiv, 1) := by decide +kernel
theorem dX2_rowInto_79 : decode cX2_rowInto 79 = .ok (.istore_n 3, 1) := by decide +kernel
theorem dX2_rowInto_80 : decode cX2_rowInto 80 = .ok (.iinc 6 (-1), 3) := by decide +kernel
theorem dX2_rowInto_83 : decode cX2_rowInto 83 = .ok (.goto (-31), 3) := by decide +kernel
theorem dX2_rowInto_86 : decode cX2_rowInto 86 = .ok (.return_, 1) := by decide +kernel
theorem dX3_init_0 : decode cX3_init 0 = .ok (.aload_n 0, 1) := by decide +kernel
theorem dX3_init_1 : decode cX3_init 1 = .ok (.invokespecial 3, 3) := by decide +kernel
theorem dX3_init_4 : decode cX3_init 4 = .ok (.aload_n 0, 1) := by decide +kernel
theorem dX3_init_5 : decode cX3_init 5 = .ok (.bipush 9, 2) := by decide +kernel
theorem dX3_init_7 : decode cX3_init 7 = .ok (.newarray .int, 2) := by decide +kernel
theorem dX3_init_9 : decode cX3_init 9 = .ok (.putfield 9, 3) := by decide +kernel
theorem dX3_init_12 : decode cX3_init 12 = .ok (.aload_n 0, 1) := by decide +kernel
theorem dX3_init_13 : decode cX3_init 13 = .ok (.iconst 0, 1) := by decide +kernel
theorem dX3_init_14 : decode cX3_init 14 = .ok (.putfield 15, 3) := by decide +kernel
theorem dX3_init_17 : decode cX3_init 17 = .ok (.aload_n 0, 1) := by decide +kernel
theorem dX3_init_18 : decode cX3_init 18 = .ok (.iconst 0, 1) := by decide +kernel
theorem dX3_init_19 : decode cX3_init 19 = .ok (.putfield 19, 3) := by decide +kernel
theorem dX3_init_22 : decode cX3_init 22 = .ok (.aload_n 0, 1) := by decide +kernel
theorem dX3_init_23 : decode cX3_init 23 = .ok (.iconst 0, 1) := by decide +kernel
theorem dX3_init_24 : decode cX3_init 24 = .ok (.putfield 22, 3) := by decide +kernel
theorem dX3_init_27 : decode cX3_init 27 = .ok (.aload_n 0, 1) := by decide +kernel
theorem dX3_init_28 : decode cX3_init 28 = .ok (.iconst 0, 1) := by decide +kernel
theorem dX3_init_29 : decode cX3_init 29 = .ok (.putfield 25, 3) := by decide +kernel
theorem dX3_init_32 : decode cX3_init 32 = .ok (.aload_n 0, 1) := by decide +kernel
theorem dX3_init_33 : decode cX3_init 33 = .ok (.iconst (-1), 1) := by decide +kernel
theorem dX3_init_34 : decode cX3_init 34 = .ok (.putfield 28, 3) := by decide +kernel
theorem dX3_init_37 : decode cX3_init 37 = .ok (.aload_n 0, 1) := by decide +kernel
theorem dX3_init_38 : decode cX3_init 38 = .ok (.iconst 0, 1) := by decide +kernel
theorem dX3_init_39 : decode cX3_init 39 = .ok (.putfield 31, 3) := by decide +kernel
theorem dX3_init_42 : decode cX3_init 42 = .ok (.aload_n 0, 1) := by decide +kernel
theorem dX3_init_43 : decode cX3_init 43 = .ok (.iconst 0, 1) := by decide +kernel
theorem dX3_init_44 : decode cX3_init 44 = .ok (.putfield 34, 3) := by decide +kernel
theorem dX3_init_47 : decode cX3_init 47 = .ok (.aload_n 0, 1) := by decide +kernel
theorem dX3_init_48 : decode cX3_init 48 = .ok (.iconst 0, 1) := by decide +kernel
theorem dX3_init_49 : decode cX3_init 49 = .ok (.putfield 37, 3) := by decide +kernel
theorem dX3_init_52 : decode cX3_init 52 = .ok (.return_, 1) := by decide +kernel
theorem dX3_clear_0 : decode cX3_clear 0 = .ok (.iconst 0, 1) := by decide +kernel
theorem dX3_clear_1 : decode cX3_clear 1 = .ok (.istore_n 1, 1) := by decide +kernel
theorem dX3_clear_2 : decode cX3_clear 2 = .ok (.iload_n 1, 1) := by decide +kernel
theorem dX3_clear_3 : decode cX3_clear 3 = .ok (.bipush 9, 2) := by decide +kernel
theorem dX3_clear_5 : decode cX3_clear 5 = .ok (.if_icmp .ge 16, 3) := by decide +kernel
theorem dX3_clear_8 : decode cX3_clear 8 = .ok (.aload_n 0, 1) := by decide +kernel
theorem dX3_clear_9 : decode cX3_clear 9 = .ok (.getfield 9, 3) := by decide +kernel
theorem dX3_clear_12 : decode cX3_clear 12 = .ok (.iload_n 1, 1) := by decide +kernel
theorem dX3_clear_13 : decode cX3_clear 13 = .ok (.iconst 0, 1) := by decide +kernel
theorem dX3_clear_14 : decode cX3_clear 14 = .ok (.iastore, 1) := by decide +kernel
theorem dX3_clear_15 : decode cX3_clear 15 = .ok (.iinc 1 1, 3) := by decide +kernel
theorem dX3_clear_18 : decode cX3_clear 18 = .ok (.goto (-16), 3) := by decide +kernel
theorem dX3_clear_21 : decode cX3_clear 21 = .ok (.aload_n 0, 1) := by decide +kernel
theorem dX3_clear_22 : decode cX3_clear 22 = .ok (.iconst 0, 1) := by decide +kernel
theorem dX3_clear_23 : decode cX3_clear 23 = .ok (.putfield 15, 3) := by decide +kernel
theorem dX3_clear_26 : decode cX3_clear 26 = .ok (.aload_n 0, 1) := by decide +kernel
theorem dX3_clear_27 : decode cX3_clear 27 = .ok (.iconst 0, 1) := by decide +kernel
theorem dX3_clear_28 : decode cX3_clear 28 = .ok (.putfield 19, 3) := by decide +kernel
theorem dX3_clear_31 : decode cX3_clear 31 = .ok (.aload_n 0, 1) := by decide +kernel
theorem dX3_clear_32 : decode cX3_clear 32 = .ok (.iconst 0, 1) := by decide +kernel
theorem dX3_clear_33 : decode cX3_clear 33 = .ok (.putfield 22, 3) := by decide +kernel
theorem dX3_clear_36 : decode cX3_clear 36 = .ok (.aload_n 0, 1) := by decide +kernel
theorem dX3_clear_37 : decode cX3_clear 37 = .ok (.iconst 0, 1) := by decide +kernel
theorem dX3_clear_38 : decode cX3_clear 38 = .ok (.putfield 25, 3) := by decide +kernel
theorem dX3_clear_41 : decode cX3_clear 41 = .ok (.aload_n 0, 1) := by decide +kernel
theorem dX3_clear_42 : decode cX3_clear 42 = .ok (.iconst (-1), 1) := by decide +kernel
theorem dX3_clear_43 : decode cX3_clear 43 = .ok (.putfield 28, 3) := by decide +kernel
theorem dX3_clear_46 : decode cX3_clear 46 = .ok (.aload_n 0, 1) := by decide +kernel
theorem dX3_clear_47 : decode cX3_clear 47 = .ok (.iconst 0, 1) := by decide +kernel
theorem dX3_clear_48 : decode cX3_clear 48 = .ok (.putfield 31, 3) := by decide +kernel
theorem dX3_clear_51 : decode cX3_clear 51 = .ok (.aload_n 0, 1) := by decide +kernel
theorem dX3_clear_52 : decode cX3_clear 52 = .ok (.iconst 0, 1) := by decide +kernel
theorem dX3_clear_53 : decode cX3_clear 53 = .ok (.putfield 34, 3) := by decide +kernel
theorem dX3_clear_56 : decode cX3_clear 56 = .ok (.aload_n 0, 1) := by decide +kernel
theorem dX3_clear_57 : decode cX3_clear 57 = .ok (.iconst 0, 1) := by decide +kernel
theorem dX3_clear_58 : decode cX3_clear 58 = .ok (.putfield 37, 3) := by decide +kernel
theorem dX3_clear_61 : decode cX3_clear 61 = .ok (.return_, 1) := by decide +kernel
theorem dX3_countCase_0 : decode cX3_countCase 0 = .ok (.iload_n 1, 1) := by decide +kernel
theorem dX3_countCase_1 : decode cX3_countCase 1 = .ok (.ifCond .ne 16, 3) := by decide +kernel
theorem dX3_countCase_4 : decode cX3_countCase 4 = .ok (.aload_n 0, 1) := by decide +kernel
theorem dX3_countCase_5 : decode cX3_countCase 5 = .ok (.dup, 1) := by decide +kernel
theorem dX3_countCase_6 : decode cX3_countCase 6 = .ok (.getfield 19, 3) := by decide +kernel
theorem dX3_countCase_9 : decode cX3_countCase 9 = .ok (.iconst 1, 1) := by decide +kernel
theorem dX3_countCase_10 : decode cX3_countCase 10 = .ok (.iadd, 1) := by decide +kernel
theorem dX3_countCase_11 : decode cX3_countCase 11 = .ok (.putfield 19, 3) := by decide +kernel
theorem dX3_countCase_14 : decode cX3_countCase 14 = .ok (.goto 34, 3) := by decide +kernel
theorem dX3_countCase_17 : decode cX3_countCase 17 = .ok (.iload_n 1, 1) := by decide +kernel
theorem dX3_countCase_18 : decode cX3_countCase 18 = .ok (.iconst (-1), 1) := by decide +kernel
theorem dX3_countCase_19 : decode cX3_countCase 19 = .ok (.if_icmp .ne 16, 3) := by decide +kernel
theorem dX3_countCase_22 : decode cX3_countCase 22 = .ok (.aload_n 0, 1) := by decide +kernel
theorem dX3_countCase_23 : decode cX3_countCase 23 = .ok (.dup, 1) := by decide +kernel
theorem dX3_countCase_24 : decode cX3_countCase 24 = .ok (.getfield 22, 3) := by decide +kernel
theorem dX3_countCase_27 : decode cX3_countCase 27 = .ok (.iconst 1, 1) := by decide +kernel
theorem dX3_countCase_28 : decode cX3_countCase 28 = .ok (.iadd, 1) := by decide +kernel
theorem dX3_countCase_29 : decode cX3_countCase 29 = .ok (.putfield 22, 3) := by decide +kernel
theorem dX3_countCase_32 : decode cX3_countCase 32 = .ok (.goto 16, 3) := by decide +kernel
theorem dX3_countCase_35 : decode cX3_countCase 35 = .ok (.aload_n 0, 1) := by decide +kernel
theorem dX3_countCase_36 : decode cX3_countCase 36 = .ok (.iload_n 1, 1) := by decide +kernel
theorem dX3_countCase_37 : decode cX3_countCase 37 = .ok (.putfield 25, 3) := by decide +kernel
theorem dX3_countCase_40 : decode cX3_countCase 40 = .ok (.aload_n 0, 1) := by decide +kernel
theorem dX3_countCase_41 : decode cX3_countCase 41 = .ok (.aload_n 0, 1) := by decide +kernel
theorem dX3_countCase_42 : decode cX3_countCase 42 = .ok (.getfield 15, 3) := by decide +kernel
theorem dX3_countCase_45 : decode cX3_countCase 45 = .ok (.putfield 28, 3) := by decide +kernel
theorem dX3_countCase_48 : decode cX3_countCase 48 = .ok (.aload_n 0, 1) := by decide +kernel
theorem dX3_countCase_49 : decode cX3_countCase 49 = .ok (.dup, 1) := by decide +kernel
theorem dX3_countCase_50 : decode cX3_countCase 50 = .ok (.getfield 15, 3) := by decide +kernel
theorem dX3_countCase_53 : decode cX3_countCase 53 = .ok (.iconst 1, 1) := by decide +kernel
theorem dX3_countCase_54 : decode cX3_countCase 54 = .ok (.iadd, 1) := by decide +kernel
theorem dX3_countCase_55 : decode cX3_countCase 55 = .ok (.putfield 15, 3) := by decide +kernel
theorem dX3_countCase_58 : decode cX3_countCase 58 = .ok (.return_, 1) := by decide +kernel
theorem dX3_read_0 : decode cX3_read 0 = .ok (.iload_n 1, 1) := by decide +kernel
theorem dX3_read_1 : decode cX3_read 1 = .ok (.tableswitch 95 0 7 #[47, 52, 57, 62, 67, 72, 77, 82], 47) := by decide +kernel
theorem dX3_read_48 : decode cX3_read 48 = .ok (.aload_n 0, 1) := by decide +kernel
theorem dX3_read_49 : decode cX3_read 49 = .ok (.getfield 15, 3) := by decide +kernel
theorem dX3_read_52 : decode cX3_read 52 = .ok (.ireturn, 1) := by decide +kernel
theorem dX3_read_53 : decode cX3_read 53 = .ok (.aload_n 0, 1) := by decide +kernel
theorem dX3_read_54 : decode cX3_read 54 = .ok (.getfield 19, 3) := by decide +kernel
theorem dX3_read_57 : decode cX3_read 57 = .ok (.ireturn, 1) := by decide +kernel
theorem dX3_read_58 : decode cX3_read 58 = .ok (.aload_n 0, 1) := by decide +kernel
theorem dX3_read_59 : decode cX3_read 59 = .ok (.getfield 22, 3) := by decide +kernel
theorem dX3_read_62 : decode cX3_read 62 = .ok (.ireturn, 1) := by decide +kernel
theorem dX3_read_63 : decode cX3_read 63 = .ok (.aload_n 0, 1) := by decide +kernel
theorem dX3_read_64 : decode cX3_read 64 = .ok (.getfield 25, 3) := by decide +kernel
theorem dX3_read_67 : decode cX3_read 67 = .ok (.ireturn, 1) := by decide +kernel
theorem dX3_read_68 : decode cX3_read 68 = .ok (.aload_n 0, 1) := by decide +kernel
theorem dX3_read_69 : decode cX3_read 69 = .ok (.getfield 28, 3) := by decide +kernel
theorem dX3_read_72 : decode cX3_read 72 = .ok (.ireturn, 1) := by decide +kernel
theorem dX3_read_73 : decode cX3_read 73 = .ok (.aload_n 0, 1) := by decide +kernel
theorem dX3_read_74 : decode cX3_read 74 = .ok (.getfield 31, 3) := by decide +kernel
theorem dX3_read_77 : decode cX3_read 77 = .ok (.ireturn, 1) := by decide +kernel
theorem dX3_read_78 : decode cX3_read 78 = .ok (.aload_n 0, 1) := by decide +kernel
theorem dX3_read_79 : decode cX3_read 79 = .ok (.getfield 34, 3) := by decide +kernel
theorem dX3_read_82 : decode cX3_read 82 = .ok (.ireturn, 1) := by decide +kernel
theorem dX3_read_83 : decode cX3_read 83 = .ok (.aload_n 0, 1) := by decide +kernel
theorem dX3_read_84 : decode cX3_read 84 = .ok (.getfield 37, 3) := by decide +kernel
theorem dX3_read_87 : decode cX3_read 87 = .ok (.ifCond .eq 7, 3) := by decide +kernel
theorem dX3_read_90 : decode cX3_read 90 = .ok (.iconst 1, 1) := by decide +kernel
theorem dX3_read_91 : decode cX3_read 91 = .ok (.goto 4, 3) := by decide +kernel
theorem dX3_read_94 : decode cX3_read 94 = .ok (.iconst 0, 1) := by decide +kernel
theorem dX3_read_95 : decode cX3_read 95 = .ok (.ireturn, 1) := by decide +kernel
theorem dX3_read_96 : decode cX3_read 96 = .ok (.iconst (-1), 1) := by decide +kernel
theorem dX3_read_97 : decode cX3_read 97 = .ok (.ireturn, 1) := by decide +kernel
theorem dX4_init_0 : decode cX4_init 0 = .ok (.aload_n 0, 1) := by decide +kernel
theorem dX4_init_1 : decode cX4_init 1 = .ok (.invokespecial 3, 3) := by decide +kernel
theorem dX4_init_4 : decode cX4_init 4 = .ok (.aload_n 0, 1) := by decide +kernel
theorem dX4_init_5 : decode cX4_init 5 = .ok (.bipush 60, 2) := by decide +kernel
theorem dX4_init_7 : decode cX4_init 7 = .ok (.newarray .int, 2) := by decide +kernel
theorem dX4_init_9 : decode cX4_init 9 = .ok (.putfield 9, 3) := by decide +kernel
theorem dX4_init_12 : decode cX4_init 12 = .ok (.aload_n 0, 1) := by decide +kernel
theorem dX4_init_13 : decode cX4_init 13 = .ok (.bipush 60, 2) := by decide +kernel
theorem dX4_init_15 : decode cX4_init 15 = .ok (.newarray .int, 2) := by decide +kernel
theorem dX4_init_17 : decode cX4_init 17 = .ok (.putfield 15, 3) := by decide +kernel
theorem dX4_init_20 : decode cX4_init 20 = .ok (.aload_n 0, 1) := by decide +kernel
theorem dX4_init_21 : decode cX4_init 21 = .ok (.bipush 60, 2) := by decide +kernel
theorem dX4_init_23 : decode cX4_init 23 = .ok (.newarray .int, 2) := by decide +kernel
theorem dX4_init_25 : decode cX4_init 25 = .ok (.putfield 18, 3) := by decide +kernel
theorem dX4_init_28 : decode cX4_init 28 = .ok (.aload_n 0, 1) := by decide +kernel
theorem dX4_init_29 : decode cX4_init 29 = .ok (.bipush 60, 2) := by decide +kernel
theorem dX4_init_31 : decode cX4_init 31 = .ok (.newarray .int, 2) := by decide +kernel
theorem dX4_init_33 : decode cX4_init 33 = .ok (.putfield 21, 3) := by decide +kernel
theorem dX4_init_36 : decode cX4_init 36 = .ok (.aload_n 0, 1) := by decide +kernel
theorem dX4_init_37 : decode cX4_init 37 = .ok (.bipush 60, 2) := by decide +kernel
theorem dX4_init_39 : decode cX4_init 39 = .ok (.newarray .int, 2) := by decide +kernel
theorem dX4_init_41 : decode cX4_init 41 = .ok (.putfield 24, 3) := by decide +kernel
theorem dX4_init_44 : decode cX4_init 44 = .ok (.aload_n 0, 1) := by decide +kernel
theorem dX4_init_45 : decode cX4_init 45 = .ok (.iconst 0, 1) := by decide +kernel
theorem dX4_init_46 : decode cX4_init 46 = .ok (.putfield 27, 3) := by decide +kernel
theorem dX4_init_49 : decode cX4_init 49 = .ok (.return_, 1) := by decide +kernel
theorem dX4_has_0 : decode cX4_has 0 = .ok (.iload_n 1, 1) := by decide +kernel
theorem dX4_has_1 : decode cX4_has 1 = .ok (.ifCond .lt 15, 3) := by decide +kernel
theorem dX4_has_4 : decode cX4_has 4 = .ok (.iload_n 1, 1) := by decide +kernel
theorem dX4_has_5 : decode cX4_has 5 = .ok (.aload_n 0, 1) := by decide +kernel
theorem dX4_has_6 : decode cX4_has 6 = .ok (.getfield 27, 3) := by decide +kernel
theorem dX4_has_9 : decode cX4_has 9 = .ok (.if_icmp .ge 7, 3) := by decide +kernel
theorem dX4_has_12 : decode cX4_has 12 = .ok (.iconst 1, 1) := by decide +kernel
theorem dX4_has_13 : decode cX4_has 13 = .ok (.goto 4, 3) := by decide +kernel
theorem dX4_has_16 : decode cX4_has 16 = .ok (.iconst 0, 1) := by decide +kernel
theorem dX4_has_17 : decode cX4_has 17 = .ok (.ireturn, 1) := by decide +kernel
theorem dX4_hasOrNone_0 : decode cX4_hasOrNone 0 = .ok (.iload_n 1, 1) := by decide +kernel
theorem dX4_hasOrNone_1 : decode cX4_hasOrNone 1 = .ok (.iconst (-1), 1) := by decide +kernel
theorem dX4_hasOrNone_2 : decode cX4_hasOrNone 2 = .ok (.if_icmp .eq 11, 3) := by decide +kernel
theorem dX4_hasOrNone_5 : decode cX4_hasOrNone 5 = .ok (.aload_n 0, 1) := by decide +kernel
theorem dX4_hasOrNone_6 : decode cX4_hasOrNone 6 = .ok (.iload_n 1, 1) := by decide +kernel
theorem dX4_hasOrNone_7 : decode cX4_hasOrNone 7 = .ok (.invokevirtual 31, 3) := by decide +kernel
theorem dX4_hasOrNone_10 : decode cX4_hasOrNone 10 = .ok (.ifCond .eq 7, 3) := by decide +kernel
theorem dX4_hasOrNone_13 : decode cX4_hasOrNone 13 = .ok (.iconst 1, 1) := by decide +kernel
theorem dX4_hasOrNone_14 : decode cX4_hasOrNone 14 = .ok (.goto 4, 3) := by decide +kernel
theorem dX4_hasOrNone_17 : decode cX4_hasOrNone 17 = .ok (.iconst 0, 1) := by decide +kernel
theorem dX4_hasOrNone_18 : decode cX4_hasOrNone 18 = .ok (.ireturn, 1) := by decide +kernel
theorem dX4_allows_0 : decode cX4_allows 0 = .ok (.iload_n 1, 1) := by decide +kernel
theorem dX4_allows_1 : decode cX4_allows 1 = .ok (.ifCond .lt 9, 3) := by decide +kernel
theorem dX4_allows_4 : decode cX4_allows 4 = .ok (.iload_n 1, 1) := by decide +kernel
theorem dX4_allows_5 : decode cX4_allows 5 = .ok (.bipush 20, 2) := by decide +kernel
theorem dX4_allows_7 : decode cX4_allows 7 = .ok (.if_icmp .le 5, 3) := by decide +kernel
theorem dX4_allows_10 : decode cX4_allows 10 = .ok (.iconst 0, 1) := by decide +kernel
theorem dX4_allows_11 : decode cX4_allows 11 = .ok (.ireturn, 1) := by decide +kernel
theorem dX4_allows_12 : decode cX4_allows 12 = .ok (.iload_n 1, 1) := by decide +kernel
theorem dX4_allows_13 : decode cX4_allows 13 = .ok (.ifCond .ne 12, 3) := by decide +kernel
theorem dX4_allows_16 : decode cX4_allows 16 = .ok (.iload_n 2, 1) := by decide +kernel
theorem dX4_allows_17 : decode cX4_allows 17 = .ok (.ifCond .lt 12, 3) := by decide +kernel
theorem dX4_allows_20 : decode cX4_allows 20 = .ok (.iload_n 2, 1) := by decide +kernel
theorem dX4_allows_21 : decode cX4_allows 21 = .ok (.iconst 3, 1) := by decide +kernel
theorem dX4_allows_22 : decode cX4_allows 22 = .ok (.if_icmp .ge 7, 3) := by decide +kernel
theorem dX4_allows_25 : decode cX4_allows 25 = .ok (.iconst 1, 1) := by decide +kernel
theorem dX4_allows_26 : decode cX4_allows 26 = .ok (.goto 4, 3) := by decide +kernel
theorem dX4_allows_29 : decode cX4_allows 29 = .ok (.iconst 0, 1) := by decide +kernel
theorem dX4_allows_30 : decode cX4_allows 30 = .ok (.ireturn, 1) := by decide +kernel
theorem dX4_hasParts_0 : decode cX4_hasParts 0 = .ok (.getstatic 35, 3) := by decide +kernel
theorem dX4_hasParts_3 : decode cX4_hasParts 3 = .ok (.iload_n 1, 1) := by decide +kernel
theorem dX4_hasParts_4 : decode cX4_hasParts 4 = .ok (.iaload, 1) := by decide +kernel
theorem dX4_hasParts_5 : decode cX4_hasParts 5 = .ok (.istore 5, 2) := by decide +kernel
theorem dX4_hasParts_7 : decode cX4_hasParts 7 = .ok (.iload 5, 2) := by decide +kernel
theorem dX4_hasParts_9 : decode cX4_hasParts 9 = .ok (.iconst 1, 1) := by decide +kernel
theorem dX4_hasParts_10 : decode cX4_hasParts 10 = .ok (.if_icmp .lt 11, 3) := by decide +kernel
theorem dX4_hasParts_13 : decode cX4_hasParts 13 = .ok (.aload_n 0, 1) := by decide +kernel
theorem dX4_hasParts_14 : decode cX4_hasParts 14 = .ok (.iload_n 2, 1) := by decide +kernel
theorem dX4_hasParts_15 : decode cX4_hasParts 15 = .ok (.invokevirtual 31, 3) := by decide +kernel
theorem dX4_hasParts_18 : decode cX4_hasParts 18 = .ok (.ifCond .eq 36, 3) := by decide +kernel
theorem dX4_hasParts_21 : decode cX4_hasParts 21 = .ok (.iload 5, 2) := by decide +kernel
theorem dX4_hasParts_23 : decode cX4_hasParts 23 = .ok (.iconst 2, 1) := by decide +kernel
theorem dX4_hasParts_24 : decode cX4_hasParts 24 = .ok (.if_icmp .lt 11, 3) := by decide +kernel
theorem dX4_hasParts_27 : decode cX4_hasParts 27 = .ok (.aload_n 0, 1) := by decide +kernel
theorem dX4_hasParts_28 : decode cX4_hasParts 28 = .ok (.iload_n 3, 1) := by decide +kernel
theorem dX4_hasParts_29 : decode cX4_hasParts 29 = .ok (.invokevirtual 31, 3) := by decide +kernel
theorem dX4_hasParts_32 : decode cX4_hasParts 32 = .ok (.ifCond .eq 22, 3) := by decide +kernel
theorem dX4_hasParts_35 : decode cX4_hasParts 35 = .ok (.iload 5, 2) := by decide +kernel
theorem dX4_hasParts_37 : decode cX4_hasParts 37 = .ok (.iconst 3, 1) := by decide +kernel
theorem dX4_hasParts_38 : decode cX4_hasParts 38 = .ok (.if_icmp .lt 12, 3) := by decide +kernel
theorem dX4_hasParts_41 : decode cX4_hasParts 41 = .ok (.aload_n 0, 1) := by decide +kernel
theorem dX4_hasParts_42 : decode cX4_hasParts 42 = .ok (.iload 4, 2) := by decide +kernel
theorem dX4_hasParts_44 : decode cX4_hasParts 44 = .ok (.invokevirtual 31, 3) := by decide +kernel
theorem dX4_hasParts_47 : decode cX4_hasParts 47 = .ok (.ifCond .eq 7, 3) := by decide +kernel
theorem dX4_hasParts_50 : decode cX4_hasParts 50 = .ok (.iconst 1, 1) := by decide +kernel
theorem dX4_hasParts_51 : decode cX4_hasParts 51 = .ok (.goto 4, 3) := by decide +kernel
theorem dX4_hasParts_54 : decode cX4_hasParts 54 = .ok (.iconst 0, 1) := by decide +kernel
theorem dX4_hasParts_55 : decode cX4_hasParts 55 = .ok (.ireturn, 1) := by decide +kernel
theorem dX4_add_0 : decode cX4_add 0 = .ok (.aload_n 0, 1) := by decide +kernel
theorem dX4_add_1 : decode cX4_add 1 = .ok (.getfield 9, 3) := by decide +kernel
theorem dX4_add_4 : decode cX4_add 4 = .ok (.aload_n 0, 1) := by decide +kernel
theorem dX4_add_5 : decode cX4_add 5 = .ok (.getfield 27, 3) := by decide +kernel
theorem dX4_add_8 : decode cX4_add 8 = .ok (.iload_n 1, 1) := by decide +kernel
theorem dX4_add_9 : decode cX4_add 9 = .ok (.iastore, 1) := by decide +kernel
theorem dX4_add_10 : decode cX4_add 10 = .ok (.aload_n 0, 1) := by decide +kernel
theorem dX4_add_11 : decode cX4_add 11 = .ok (.getfield 15, 3) := by decide +kernel
theorem dX4_add_14 : decode cX4_add 14 = .ok (.aload_n 0, 1) := by decide +kernel
theorem dX4_add_15 : decode cX4_add 15 = .ok (.getfield 27, 3) := by decide +kernel
theorem dX4_add_18 : decode cX4_add 18 = .ok (.iload_n 2, 1) := by decide +kernel
theorem dX4_add_19 : decode cX4_add 19 = .ok (.iastore, 1) := by decide +kernel
theorem dX4_add_20 : decode cX4_add 20 = .ok (.aload_n 0, 1) := by decide +kernel
theorem dX4_add_21 : decode cX4_add 21 = .ok (.getfield 18, 3) := by decide +kernel
theorem dX4_add_24 : decode cX4_add 24 = .ok (.aload_n 0, 1) := by decide +kernel
theorem dX4_add_25 : decode cX4_add 25 = .ok (.getfield 27, 3) := by decide +kernel
theorem dX4_add_28 : decode cX4_add 28 = .ok (.iload_n 3, 1) := by decide +kernel
theorem dX4_add_29 : decode cX4_add 29 = .ok (.iastore, 1) := by decide +kernel
theorem dX4_add_30 : decode cX4_add 30 = .ok (.aload_n 0, 1) := by decide +kernel
theorem dX4_add_31 : decode cX4_add 31 = .ok (.getfield 21, 3) := by decide +kernel
theorem dX4_add_34 : decode cX4_add 34 = .ok (.aload_n 0, 1) := by decide +kernel
theorem dX4_add_35 : decode cX4_add 35 = .ok (.getfield 27, 3) := by decide +kernel
theorem dX4_add_38 : decode cX4_add 38 = .ok (.iload 4, 2) := by decide +kernel
theorem dX4_add_40 : decode cX4_add 40 = .ok (.iastore, 1) := by decide +kernel
theorem dX4_add_41 : decode cX4_add 41 = .ok (.aload_n 0, 1) := by decide +kernel
theorem dX4_add_42 : decode cX4_add 42 = .ok (.getfield 24, 3) := by decide +kernel
theorem dX4_add_45 : decode cX4_add 45 = .ok (.aload_n 0, 1) := by decide +kernel
theorem dX4_add_46 : decode cX4_add 46 = .ok (.getfield 27, 3) := by decide +kernel
theorem dX4_add_49 : decode cX4_add 49 = .ok (.iload 5, 2) := by decide +kernel
theorem dX4_add_51 : decode cX4_add 51 = .ok (.iastore, 1) := by decide +kernel
theorem dX4_add_52 : decode cX4_add 52 = .ok (.aload_n 0, 1) := by decide +kernel
theorem dX4_add_53 : decode cX4_add 53 = .ok (.dup, 1) := by decide +kernel
theorem dX4_add_54 : decode cX4_add 54 = .ok (.getfield 27, 3) := by decide +kernel
theorem dX4_add_57 : decode cX4_add 57 = .ok (.iconst 1, 1) := by decide +kernel
theorem dX4_add_58 : decode cX4_add 58 = .ok (.iadd, 1) := by decide +kernel
theorem dX4_add_59 : decode cX4_add 59 = .ok (.putfield 27, 3) := by decide +kernel
theorem dX4_add_62 : decode cX4_add 62 = .ok (.aload_n 0, 1) := by decide +kernel
theorem dX4_add_63 : decode cX4_add 63 = .ok (.getfield 27, 3) := by decide +kernel
theorem dX4_add_66 : decode cX4_add 66 = .ok (.iconst 1, 1) := by decide +kernel
theorem dX4_add_67 : decode cX4_add 67 = .ok (.isub, 1) := by decide +kernel
theorem dX4_add_68 : decode cX4_add 68 = .ok (.ireturn, 1) := by decide +kernel
theorem dX5_init_0 : decode cX5_init 0 = .ok (.aload_n 0, 1) := by decide +kernel
theorem dX5_init_1 : decode cX5_init 1 = .ok (.invokespecial 3, 3) := by decide +kernel
theorem dX5_init_4 : decode cX5_init 4 = .ok (.aload_n 0, 1) := by decide +kernel
theorem dX5_init_5 : decode cX5_init 5 = .ok (.iconst (-1), 1) := by decide +kernel
theorem dX5_init_6 : decode cX5_init 6 = .ok (.putfield 9, 3) := by decide +kernel
theorem dX5_init_9 : decode cX5_init 9 = .ok (.aload_n 0, 1) := by decide +kernel
theorem dX5_init_10 : decode cX5_init 10 = .ok (.iconst 0, 1) := by decide +kernel
theorem dX5_init_11 : decode cX5_init 11 = .ok (.putfield 15, 3) := by decide +kernel
theorem dX5_init_14 : decode cX5_init 14 = .ok (.aload_n 0, 1) := by decide +kernel
theorem dX5_init_15 : decode cX5_init 15 = .ok (.iconst 0, 1) := by decide +kernel
theorem dX5_init_16 : decode cX5_init 16 = .ok (.putfield 18, 3) := by decide +kernel
theorem dX5_init_19 : decode cX5_init 19 = .ok (.aload_n 0, 1) := by decide +kernel
theorem dX5_init_20 : decode cX5_init 20 = .ok (.bipush 16, 2) := by decide +kernel
theorem dX5_init_22 : decode cX5_init 22 = .ok (.newarray .int, 2) := by decide +kernel
theorem dX5_init_24 : decode cX5_init 24 = .ok (.putfield 21, 3) := by decide +kernel
theorem dX5_init_27 : decode cX5_init 27 = .ok (.return_, 1) := by decide +kernel
theorem dX5_setNothing_0 : decode cX5_setNothing 0 = .ok (.aload_n 0, 1) := by decide +kernel
theorem dX5_setNothing_1 : decode cX5_setNothing 1 = .ok (.iconst (-1), 1) := by decide +kernel
theorem dX5_setNothing_2 : decode cX5_setNothing 2 = .ok (.putfield 9, 3) := by decide +kernel
theorem dX5_setNothing_5 : decode cX5_setNothing 5 = .ok (.aload_n 0, 1) := by decide +kernel
theorem dX5_setNothing_6 : decode cX5_setNothing 6 = .ok (.iconst 0, 1) := by decide +kernel
theorem dX5_setNothing_7 : decode cX5_setNothing 7 = .ok (.putfield 18, 3) := by decide +kernel
theorem dX5_setNothing_10 : decode cX5_setNothing 10 = .ok (.return_, 1) := by decide +kernel
theorem dX5_setWhole_0 : decode cX5_setWhole 0 = .ok (.aload_n 0, 1) := by decide +kernel
theorem dX5_setWhole_1 : decode cX5_setWhole 1 = .ok (.iconst 0, 1) := by decide +kernel
theorem dX5_setWhole_2 : decode cX5_setWhole 2 = .ok (.putfield 9, 3) := by decide +kernel
theorem dX5_setWhole_5 : decode cX5_setWhole 5 = .ok (.aload_n 0, 1) := by decide +kernel
theorem dX5_setWhole_6 : decode cX5_setWhole 6 = .ok (.iload_n 1, 1) := by decide +kernel
theorem dX5_setWhole_7 : decode cX5_setWhole 7 = .ok (.putfield 15, 3) := by decide +kernel
theorem dX5_setWhole_10 : decode cX5_setWhole 10 = .ok (.aload_n 0, 1) := by decide +kernel
theorem dX5_setWhole_11 : decode cX5_setWhole 11 = .ok (.iconst 0, 1) := by decide +kernel
theorem dX5_setWhole_12 : decode cX5_setWhole 12 = .ok (.putfield 18, 3) := by decide +kernel
theorem dX5_setWhole_15 : decode cX5_setWhole 15 = .ok (.return_, 1) := by decide +kernel
theorem dX5_setRow_0 : decode cX5_setRow 0 = .ok (.aload_n 0, 1) := by decide +kernel
theorem dX5_setRow_1 : decode cX5_setRow 1 = .ok (.iconst 1, 1) := by decide +kernel
theorem dX5_setRow_2 : decode cX5_setRow 2 = .ok (.putfield 9, 3) := by decide +kernel
theorem dX5_setRow_5 : decode cX5_setRow 5 = .ok (.aload_n 0, 1) := by decide +kernel
theorem dX5_setRow_6 : decode cX5_setRow 6 = .ok (.iload_n 1, 1) := by decide +kernel
theorem dX5_setRow_7 : decode cX5_setRow 7 = .ok (.putfield 18, 3) := by decide +kernel
theorem dX5_setRow_10 : decode cX5_setRow 10 = .ok (.return_, 1) := by decide +kernel
theorem dX5_copy_0 : decode cX5_copy 0 = .ok (.aload_n 0, 1) := by decide +kernel
theorem dX5_copy_1 : decode cX5_copy 1 = .ok (.aload_n 1, 1) := by decide +kernel
theorem dX5_copy_2 : decode cX5_copy 2 = .ok (.getfield 9, 3) := by decide +kernel
theorem dX5_copy_5 : decode cX5_copy 5 = .ok (.putfield 9, 3) := by decide +kernel
theorem dX5_copy_8 : decode cX5_copy 8 = .ok (.aload_n 0, 1) := by decide +kernel
theorem dX5_copy_9 : decode cX5_copy 9 = .ok (.aload_n 1, 1) := by decide +kernel
theorem dX5_copy_10 : decode cX5_copy 10 = .ok (.getfield 15, 3) := by decide +kernel
theorem dX5_copy_13 : decode cX5_copy 13 = .ok (.putfield 15, 3) := by decide +kernel
theorem dX5_copy_16 : decode cX5_copy 16 = .ok (.aload_n 0, 1) := by decide +kernel
theorem dX5_copy_17 : decode cX5_copy 17 = .ok (.aload_n 1, 1) := by decide +kernel
theorem dX5_copy_18 : decode cX5_copy 18 = .ok (.getfield 18, 3) := by decide +kernel
theorem dX5_copy_21 : decode cX5_copy 21 = .ok (.putfield 18, 3) := by decide +kernel
theorem dX5_copy_24 : decode cX5_copy 24 = .ok (.iconst 0, 1) := by decide +kernel
theorem dX5_copy_25 : decode cX5_copy 25 = .ok (.istore_n 2, 1) := by decide +kernel
theorem dX5_copy_26 : decode cX5_copy 26 = .ok (.iload_n 2, 1) := by decide +kernel
theorem dX5_copy_27 : decode cX5_copy 27 = .ok (.aload_n 0, 1) := by decide +kernel
theorem dX5_copy_28 : decode cX5_copy 28 = .ok (.getfield 18, 3) := by decide +kernel
theorem dX5_copy_31 : decode cX5_copy 31 = .ok (.if_icmp .ge 21, 3) := by decide +kernel
theorem dX5_copy_34 : decode cX5_copy 34 = .ok (.aload_n 0, 1) := by decide +kernel
theorem dX5_copy_35 : decode cX5_copy 35 = .ok (.getfield 21, 3) := by decide +kernel
theorem dX5_copy_38 : decode cX5_copy 38 = .ok (.iload_n 2, 1) := by decide +kernel
theorem dX5_copy_39 : decode cX5_copy 39 = .ok (.aload_n 1, 1) := by decide +kernel
theorem dX5_copy_40 : decode cX5_copy 40 = .ok (.getfield 21, 3) := by decide +kernel
theorem dX5_copy_43 : decode cX5_copy 43 = .ok (.iload_n 2, 1) := by decide +kernel
theorem dX5_copy_44 : decode cX5_copy 44 = .ok (.iaload, 1) := by decide +kernel
theorem dX5_copy_45 : decode cX5_copy 45 = .ok (.iastore, 1) := by decide +kernel
theorem dX5_copy_46 : decode cX5_copy 46 = .ok (.iinc 2 1, 3) := by decide +kernel
theorem dX5_copy_49 : decode cX5_copy 49 = .ok (.goto (-23), 3) := by decide +kernel
theorem dX5_copy_52 : decode cX5_copy 52 = .ok (.return_, 1) := by decide +kernel
theorem dX5_read_0 : decode cX5_read 0 = .ok (.aload_n 0, 1) := by decide +kernel
theorem dX5_read_1 : decode cX5_read 1 = .ok (.getfield 9, 3) := by decide +kernel
theorem dX5_read_4 : decode cX5_read 4 = .ok (.ifCond .ne 18, 3) := by decide +kernel
theorem dX5_read_7 : decode cX5_read 7 = .ok (.iload_n 1, 1) := by decide +kernel
theorem dX5_read_8 : decode cX5_read 8 = .ok (.iconst (-1), 1) := by decide +kernel
theorem dX5_read_9 : decode cX5_read 9 = .ok (.if_icmp .ne 10, 3) := by decide +kernel
theorem dX5_read_12 : decode cX5_read 12 = .ok (.aload_n 0, 1) := by decide +kernel
theorem dX5_read_13 : decode cX5_read 13 = .ok (.getfield 15, 3) := by decide +kernel
theorem dX5_read_16 : decode cX5_read 16 = .ok (.goto 5, 3) := by decide +kernel
theorem dX5_read_19 : decode cX5_read 19 = .ok (.ldc 25, 2) := by decide +kernel
theorem dX5_read_21 : decode cX5_read 21 = .ok (.ireturn, 1) := by decide +kernel
theorem dX5_read_22 : decode cX5_read 22 = .ok (.aload_n 0, 1) := by decide +kernel
theorem dX5_read_23 : decode cX5_read 23 = .ok (.getfield 9, 3) := by decide +kernel
theorem dX5_read_26 : decode cX5_read 26 = .ok (.iconst 1, 1) := by decide +kernel
theorem dX5_read_27 : decode cX5_read 27 = .ok (.if_icmp .ne 16, 3) := by decide +kernel
theorem dX5_read_30 : decode cX5_read 30 = .ok (.iload_n 1, 1) := by decide +kernel
theorem dX5_read_31 : decode cX5_read 31 = .ok (.iconst (-1), 1) := by decide +kernel
theorem dX5_read_32 : decode cX5_read 32 = .ok (.if_icmp .lt 11, 3) := by decide +kernel
theorem dX5_read_35 : decode cX5_read 35 = .ok (.iload_n 1, 1) := by decide +kernel
theorem dX5_read_36 : decode cX5_read 36 = .ok (.aload_n 0, 1) := by decide +kernel
theorem dX5_read_37 : decode cX5_read 37 = .ok (.getfield 18, 3) := by decide +kernel
theorem dX5_read_40 : decode cX5_read 40 = .ok (.if_icmp .lt 6, 3) := by decide +kernel
theorem dX5_read_43 : decode cX5_read 43 = .ok (.ldc 25, 2) := by decide +kernel
theorem dX5_read_45 : decode cX5_read 45 = .ok (.ireturn, 1) := by decide +kernel
theorem dX5_read_46 : decode cX5_read 46 = .ok (.iload_n 1, 1) := by decide +kernel
theorem dX5_read_47 : decode cX5_read 47 = .ok (.iconst (-1), 1) := by decide +kernel
theorem dX5_read_48 : decode cX5_read 48 = .ok (.if_icmp .ne 10, 3) := by decide +kernel
theorem dX5_read_51 : decode cX5_read 51 = .ok (.aload_n 0, 1) := by decide +kernel
theorem dX5_read_52 : decode cX5_read 52 = .ok (.getfield 18, 3) := by decide +kernel
theorem dX5_read_55 : decode cX5_read 55 = .ok (.goto 9, 3) := by decide +kernel
theorem dX5_read_58 : decode cX5_read 58 = .ok (.aload_n 0, 1) := by decide +kernel
theorem dX5_read_59 : decode cX5_read 59 = .ok (.getfield 21, 3) := by decide +kernel
theorem dX5_read_62 : decode cX5_read 62 = .ok (.iload_n 1, 1) := by decide +kernel
theorem dX5_read_63 : decode cX5_read 63 = .ok (.iaload, 1) := by decide +kernel
theorem dX5_read_64 : decode cX5_read 64 = .ok (.ireturn, 1) := by decide +kernel
theorem dX5_hasPlace_0 : decode cX5_hasPlace 0 = .ok (.iload_n 1, 1) := by decide +kernel
theorem dX5_hasPlace_1 : decode cX5_hasPlace 1 = .ok (.ifCond .lt 15, 3) := by decide +kernel
theorem dX5_hasPlace_4 : decode cX5_hasPlace 4 = .ok (.iload_n 1, 1) := by decide +kernel
theorem dX5_hasPlace_5 : decode cX5_hasPlace 5 = .ok (.aload_n 0, 1) := by decide +kernel
theorem dX5_hasPlace_6 : decode cX5_hasPlace 6 = .ok (.getfield 18, 3) := by decide +kernel
theorem dX5_hasPlace_9 : decode cX5_hasPlace 9 = .ok (.if_icmp .ge 7, 3) := by decide +kernel
theorem dX5_hasPlace_12 : decode cX5_hasPlace 12 = .ok (.iconst 1, 1) := by decide +kernel
theorem dX5_hasPlace_13 : decode cX5_hasPlace 13 = .ok (.goto 4, 3) := by decide +kernel
theorem dX5_hasPlace_16 : decode cX5_hasPlace 16 = .ok (.iconst 0, 1) := by decide +kernel
theorem dX5_hasPlace_17 : decode cX5_hasPlace 17 = .ok (.ireturn, 1) := by decide +kernel
theorem dX5_candidateCount_0 : decode cX5_candidateCount 0 = .ok (.aload_n 0, 1) := by decide +kernel
theorem dX5_candidateCount_1 : decode cX5_candidateCount 1 = .ok (.getfield 9, 3) := by decide +kernel
theorem dX5_candidateCount_4 : decode cX5_candidateCount 4 = .ok (.iconst (-1), 1) := by decide +kernel
theorem dX5_candidateCount_5 : decode cX5_candidateCount 5 = .ok (.if_icmp .ne 5, 3) := by decide +kernel
theorem dX5_candidateCount_8 : decode cX5_candidateCount 8 = .ok (.iconst 0, 1) := by decide +kernel
theorem dX5_candidateCount_9 : decode cX5_candidateCount 9 = .ok (.ireturn, 1) := by decide +kernel
theorem dX5_candidateCount_10 : decode cX5_candidateCount 10 = .ok (.aload_n 0, 1) := by decide +kernel
theorem dX5_candidateCount_11 : decode cX5_candidateCount 11 = .ok (.getfield 9, 3) := by decide +kernel
theorem dX5_candidateCount_14 : decode cX5_candidateCount 14 = .ok (.ifCond .ne 16, 3) := by decide +kernel
theorem dX5_candidateCount_17 : decode cX5_candidateCount 17 = .ok (.aload_n 0, 1) := by decide +kernel
theorem dX5_candidateCount_18 : decode cX5_candidateCount 18 = .ok (.getfield 15, 3) := by decide +kernel
theorem dX5_candidateCount_21 : decode cX5_candidateCount 21 = .ok (.ifCond .ne 7, 3) := by decide +kernel
theorem dX5_candidateCount_24 : decode cX5_candidateCount 24 = .ok (.iconst 0, 1) := by decide +kernel
theorem dX5_candidateCount_25 : decode cX5_candidateCount 25 = .ok (.goto 4, 3) := by decide +kernel
theorem dX5_candidateCount_28 : decode cX5_candidateCount 28 = .ok (.iconst 3, 1) := by decide +kernel
theorem dX5_candidateCount_29 : decode cX5_candidateCount 29 = .ok (.ireturn, 1) := by decide +kernel
theorem dX5_candidateCount_30 : decode cX5_candidateCount 30 = .ok (.aload_n 0, 1) := by decide +kernel
theorem dX5_candidateCount_31 : decode cX5_candidateCount 31 = .ok (.getfield 18, 3) := by decide +kernel
theorem dX5_candidateCount_34 : decode cX5_candidateCount 34 = .ok (.istore_n 1, 1) := by decide +kernel
theorem dX5_candidateCount_35 : decode cX5_candidateCount 35 = .ok (.iconst 0, 1) := by decide +kernel
theorem dX5_candidateCount_36 : decode cX5_candidateCount 36 = .ok (.istore_n 2, 1) := by decide +kernel
theorem dX5_candidateCount_37 : decode cX5_candidateCount 37 = .ok (.iload_n 2, 1) := by decide +kernel
theorem dX5_candidateCount_38 : decode cX5_candidateCount 38 = .ok (.aload_n 0, 1) := by decide +kernel
theorem dX5_candidateCount_39 : decode cX5_candidateCount 39 = .ok (.getfield 18, 3) := by decide +kernel
theorem dX5_candidateCount_42 : decode cX5_candidateCount 42 = .ok (.if_icmp .ge 26, 3) := by decide +kernel
theorem dX5_candidateCount_45 : decode cX5_candidateCount 45 = .ok (.iload_n 1, 1) := by decide +kernel
theorem dX5_candidateCount_46 : decode cX5_candidateCount 46 = .ok (.aload_n 0, 1) := by decide +kernel
theorem dX5_candidateCount_47 : decode cX5_candidateCount 47 = .ok (.getfield 21, 3) := by decide +kernel
theorem dX5_candidateCount_50 : decode cX5_candidateCount 50 = .ok (.iload_n 2, 1) := by decide +kernel
theorem dX5_candidateCount_51 : decode cX5_candidateCount 51 = .ok (.iaload, 1) := by decide +kernel
theorem dX5_candidateCount_52 : decode cX5_candidateCount 52 = .ok (.ifCond .ne 7, 3) := by decide +kernel
theorem dX5_candidateCount_55 : decode cX5_candidateCount 55 = .ok (.iconst 0, 1) := by decide +kernel
theorem dX5_candidateCount_56 : decode cX5_candidateCount 56 = .ok (.goto 4, 3) := by decide +kernel
theorem dX5_candidateCount_59 : decode cX5_candidateCount 59 = .ok (.iconst 3, 1) := by decide +kernel
theorem dX5_candidateCount_60 : decode cX5_candidateCount 60 = .ok (.iadd, 1) := by decide +kernel
theorem dX5_candidateCount_61 : decode cX5_candidateCount 61 = .ok (.istore_n 1, 1) := by decide +kernel
theorem dX5_candidateCount_62 : decode cX5_candidateCount 62 = .ok (.iinc 2 1, 3) := by decide +kernel
theorem dX5_candidateCount_65 : decode cX5_candidateCount 65 = .ok (.goto (-28), 3) := by decide +kernel
theorem dX5_candidateCount_68 : decode cX5_candidateCount 68 = .ok (.iload_n 1, 1) := by decide +kernel
theorem dX5_candidateCount_69 : decode cX5_candidateCount 69 = .ok (.ireturn, 1) := by decide +kernel
theorem dX5_becomeCandidate_0 : decode cX5_becomeCandidate 0 = .ok (.aload_n 0, 1) := by decide +kernel
theorem dX5_becomeCandidate_1 : decode cX5_becomeCandidate 1 = .ok (.getfield 9, 3) := by decide +kernel
theorem dX5_becomeCandidate_4 : decode cX5_becomeCandidate 4 = .ok (.ifCond .ne 18, 3) := by decide +kernel
theorem dX5_becomeCandidate_7 : decode cX5_becomeCandidate 7 = .ok (.aload_n 0, 1) := by decide +kernel
theorem dX5_becomeCandidate_8 : decode cX5_becomeCandidate 8 = .ok (.aload_n 0, 1) := by decide +kernel
theorem dX5_becomeCandidate_9 : decode cX5_becomeCandidate 9 = .ok (.getfield 15, 3) := by decide +kernel
theorem dX5_becomeCandidate_12 : decode cX5_becomeCandidate 12 = .ok (.iload_n 1, 1) := by decide +kernel
theorem dX5_becomeCandidate_13 : decode cX5_becomeCandidate 13 = .ok (.invokestatic 26, 3) := by decide +kernel
theorem dX5_becomeCandidate_16 : decode cX5_becomeCandidate 16 = .ok (.putfield 15, 3) := by decide +kernel
theorem dX5_becomeCandidate_19 : decode cX5_becomeCandidate 19 = .ok (.goto 29, 3) := by decide +kernel
theorem dX5_becomeCandidate_22 : decode cX5_becomeCandidate 22 = .ok (.iload_n 1, 1) := by decide +kernel
theorem dX5_becomeCandidate_23 : decode cX5_becomeCandidate 23 = .ok (.aload_n 0, 1) := by decide +kernel
theorem dX5_becomeCandidate_24 : decode cX5_becomeCandidate 24 = .ok (.getfield 18, 3) := by decide +kernel
theorem dX5_becomeCandidate_27 : decode cX5_becomeCandidate 27 = .ok (.if_icmp .ge 11, 3) := by decide +kernel
theorem dX5_becomeCandidate_30 : decode cX5_becomeCandidate 30 = .ok (.aload_n 0, 1) := by decide +kernel
theorem dX5_becomeCandidate_31 : decode cX5_becomeCandidate 31 = .ok (.iload_n 1, 1) := by decide +kernel
theorem dX5_becomeCandidate_32 : decode cX5_becomeCandidate 32 = .ok (.invokevirtual 30, 3) := by decide +kernel
theorem dX5_becomeCandidate_35 : decode cX5_becomeCandidate 35 = .ok (.goto 13, 3) := by decide +kernel
theorem dX5_becomeCandidate_38 : decode cX5_becomeCandidate 38 = .ok (.aload_n 0, 1) := by decide +kernel
theorem dX5_becomeCandidate_39 : decode cX5_becomeCandidate 39 = .ok (.iload_n 1, 1) := by decide +kernel
theorem dX5_becomeCandidate_40 : decode cX5_becomeCandidate 40 = .ok (.aload_n 0, 1) := by decide +kernel
theorem dX5_becomeCandidate_41 : decode cX5_becomeCandidate 41 = .ok (.getfield 18, 3) := by decide +kernel
theorem dX5_becomeCandidate_44 : decode cX5_becomeCandidate 44 = .ok (.isub, 1) := by decide +kernel
theorem dX5_becomeCandidate_45 : decode cX5_becomeCandidate 45 = .ok (.invokevirtual 34, 3) := by decide +kernel
theorem dX5_becomeCandidate_48 : decode cX5_becomeCandidate 48 = .ok (.return_, 1) := by decide +kernel
theorem dX5_dropPlace_0 : decode cX5_dropPlace 0 = .ok (.iload_n 1, 1) := by decide +kernel
theorem dX5_dropPlace_1 : decode cX5_dropPlace 1 = .ok (.istore_n 2, 1) := by decide +kernel
theorem dX5_dropPlace_2 : decode cX5_dropPlace 2 = .ok (.iload_n 2, 1) := by decide +kernel
theorem dX5_dropPlace_3 : decode cX5_dropPlace 3 = .ok (.aload_n 0, 1) := by decide +kernel
theorem dX5_dropPlace_4 : decode cX5_dropPlace 4 = .ok (.getfield 18, 3) := by decide +kernel
theorem dX5_dropPlace_7 : decode cX5_dropPlace 7 = .ok (.iconst 1, 1) := by decide +kernel
theorem dX5_dropPlace_8 : decode cX5_dropPlace 8 = .ok (.isub, 1) := by decide +kernel
theorem dX5_dropPlace_9 : decode cX5_dropPlace 9 = .ok (.if_icmp .ge 23, 3) := by decide +kernel
theorem dX5_dropPlace_12 : decode cX5_dropPlace 12 = .ok (.aload_n 0, 1) := by decide +kernel
theorem dX5_dropPlace_13 : decode cX5_dropPlace 13 = .ok (.getfield 21, 3) := by decide +kernel
theorem dX5_dropPlace_16 : decode cX5_dropPlace 16 = .ok (.iload_n 2, 1) := by decide +kernel
theorem dX5_dropPlace_17 : decode cX5_dropPlace 17 = .ok (.aload_n 0, 1) := by decide +kernel
theorem dX5_dropPlace_18 : decode cX5_dropPlace 18 = .ok (.getfield 21, 3) := by decide +kernel
theorem dX5_dropPlace_21 : decode cX5_dropPlace 21 = .ok (.iload_n 2, 1) := by decide +kernel
theorem dX5_dropPlace_22 : decode cX5_dropPlace 22 = .ok (.iconst 1, 1) := by decide +kernel
theorem dX5_dropPlace_23 : decode cX5_dropPlace 23 = .ok (.iadd, 1) := by decide +kernel
theorem dX5_dropPlace_24 : decode cX5_dropPlace 24 = .ok (.iaload, 1) := by decide +kernel
theorem dX5_dropPlace_25 : decode cX5_dropPlace 25 = .ok (.iastore, 1) := by decide +kernel
theorem dX5_dropPlace_26 : decode cX5_dropPlace 26 = .ok (.iinc 2 1, 3) := by decide +kernel
theorem dX5_dropPlace_29 : decode cX5_dropPlace 29 = .ok (.goto (-27), 3) := by decide +kernel
theorem dX5_dropPlace_32 : decode cX5_dropPlace 32 = .ok (.aload_n 0, 1) := by decide +kernel
theorem dX5_dropPlace_33 : decode cX5_dropPlace 33 = .ok (.dup, 1) := by decide +kernel
theorem dX5_dropPlace_34 : decode cX5_dropPlace 34 = .ok (.getfield 18, 3) := by decide +kernel
theorem dX5_dropPlace_37 : decode cX5_dropPlace 37 = .ok (.iconst 1, 1) := by decide +kernel
theorem dX5_dropPlace_38 : decode cX5_dropPlace 38 = .ok (.isub, 1) := by decide +kernel
theorem dX5_dropPlace_39 : decode cX5_dropPlace 39 = .ok (.putfield 18, 3) := by decide +kernel
theorem dX5_dropPlace_42 : decode cX5_dropPlace 42 = .ok (.return_, 1) := by decide +kernel
theorem dX5_shrinkAnInt_0 : decode cX5_shrinkAnInt 0 = .ok (.iload_n 1, 1) := by decide +kernel
theorem dX5_shrinkAnInt_1 : decode cX5_shrinkAnInt 1 = .ok (.istore_n 2, 1) := by decide +kernel
theorem dX5_shrinkAnInt_2 : decode cX5_shrinkAnInt 2 = .ok (.iconst 0, 1) := by decide +kernel
theorem dX5_shrinkAnInt_3 : decode cX5_shrinkAnInt 3 = .ok (.istore_n 3, 1) := by decide +kernel
theorem dX5_shrinkAnInt_4 : decode cX5_shrinkAnInt 4 = .ok (.iload_n 3, 1) := by decide +kernel
theorem dX5_shrinkAnInt_5 : decode cX5_shrinkAnInt 5 = .ok (.aload_n 0, 1) := by decide +kernel
theorem dX5_shrinkAnInt_6 : decode cX5_shrinkAnInt 6 = .ok (.getfield 18, 3) := by decide +kernel
theorem dX5_shrinkAnInt_9 : decode cX5_shrinkAnInt 9 = .ok (.if_icmp .ge 43, 3) := by decide +kernel
theorem dX5_shrinkAnInt_12 : decode cX5_shrinkAnInt 12 = .ok (.aload_n 0, 1) := by decide +kernel
theorem dX5_shrinkAnInt_13 : decode cX5_shrinkAnInt 13 = .ok (.getfield 21, 3) := by decide +kernel
theorem dX5_shrinkAnInt_16 : decode cX5_shrinkAnInt 16 = .ok (.iload_n 3, 1) := by decide +kernel
theorem dX5_shrinkAnInt_17 : decode cX5_shrinkAnInt 17 = .ok (.iaload, 1) := by decide +kernel
theorem dX5_shrinkAnInt_18 : decode cX5_shrinkAnInt 18 = .ok (.ifCond .eq 28, 3) := by decide +kernel
theorem dX5_shrinkAnInt_21 : decode cX5_shrinkAnInt 21 = .ok (.iload_n 2, 1) := by decide +kernel
theorem dX5_shrinkAnInt_22 : decode cX5_shrinkAnInt 22 = .ok (.iconst 3, 1) := by decide +kernel
theorem dX5_shrinkAnInt_23 : decode cX5_shrinkAnInt 23 = .ok (.if_icmp .ge 20, 3) := by decide +kernel
theorem dX5_shrinkAnInt_26 : decode cX5_shrinkAnInt 26 = .ok (.aload_n 0, 1) := by decide +kernel
theorem dX5_shrinkAnInt_27 : decode cX5_shrinkAnInt 27 = .ok (.getfield 21, 3) := by decide +kernel
theorem dX5_shrinkAnInt_30 : decode cX5_shrinkAnInt 30 = .ok (.iload_n 3, 1) := by decide +kernel
theorem dX5_shrinkAnInt_31 : decode cX5_shrinkAnInt 31 = .ok (.aload_n 0, 1) := by decide +kernel
theorem dX5_shrinkAnInt_32 : decode cX5_shrinkAnInt 32 = .ok (.getfield 21, 3) := by decide +kernel
theorem dX5_shrinkAnInt_35 : decode cX5_shrinkAnInt 35 = .ok (.iload_n 3, 1) := by decide +kernel
theorem dX5_shrinkAnInt_36 : decode cX5_shrinkAnInt 36 = .ok (.iaload, 1) := by decide +kernel
theorem dX5_shrinkAnInt_37 : decode cX5_shrinkAnInt 37 = .ok (.iload_n 2, 1) := by decide +kernel
theorem dX5_shrinkAnInt_38 : decode cX5_shrinkAnInt 38 = .ok (.invokestatic 26, 3) := by decide +kernel
theorem dX5_shrinkAnInt_41 : decode cX5_shrinkAnInt 41 = .ok (.iastore, 1) := by decide +kernel
theorem dX5_shrinkAnInt_42 : decode cX5_shrinkAnInt 42 = .ok (.return_, 1) := by decide +kernel
theorem dX5_shrinkAnInt_43 : decode cX5_shrinkAnInt 43 = .ok (.iinc 2 (-3), 3) := by decide +kernel
theorem dX5_shrinkAnInt_46 : decode cX5_shrinkAnInt 46 = .ok (.iinc 3 1, 3) := by decide +kernel
theorem dX5_shrinkAnInt_49 : decode cX5_shrinkAnInt 49 = .ok (.goto (-45), 3) := by decide +kernel
theorem dX5_shrinkAnInt_52 : decode cX5_shrinkAnInt 52 = .ok (.return_, 1) := by decide +kernel
theorem dX5_nearerToZero_0 : decode cX5_nearerToZero 0 = .ok (.iload_n 1, 1) := by decide +kernel
theorem dX5_nearerToZero_1 : decode cX5_nearerToZero 1 = .ok (.lookupswitch 33 #[(0, 27), (1, 29)], 27) := by decide +kernel
theorem dX5_nearerToZero_28 : decode cX5_nearerToZero 28 = .ok (.iconst 0, 1) := by decide +kernel
theorem dX5_nearerToZero_29 : decode cX5_nearerToZero 29 = .ok (.ireturn, 1) := by decide +kernel
theorem dX5_nearerToZero_30 : decode cX5_nearerToZero 30 = .ok (.iload_n 0, 1) := by decide +kernel
theorem dX5_nearerToZero_31 : decode cX5_nearerToZero 31 = .ok (.iconst 2, 1) := by decide +kernel
theorem dX5_nearerToZero_32 : decode cX5_nearerToZero 32 = .ok (.idiv, 1) := by decide +kernel
theorem dX5_nearerToZero_33 : decode cX5_nearerToZero 33 = .ok (.ireturn, 1) := by decide +kernel
theorem dX5_nearerToZero_34 : decode cX5_nearerToZero 34 = .ok (.iload_n 0, 1) := by decide +kernel
theorem dX5_nearerToZero_35 : decode cX5_nearerToZero 35 = .ok (.ifCond .le 9, 3) := by decide +kernel
theorem dX5_nearerToZero_38 : decode cX5_nearerToZero 38 = .ok (.iload_n 0, 1) := by decide +kernel
theorem dX5_nearerToZero_39 : decode cX5_nearerToZero 39 = .ok (.iconst 1, 1) := by decide +kernel
theorem dX5_nearerToZero_40 : decode cX5_nearerToZero 40 = .ok (.isub, 1) := by decide +kernel
theorem dX5_nearerToZero_41 : decode cX5_nearerToZero 41 = .ok (.goto 6, 3) := by decide +kernel
theorem dX5_nearerToZero_44 : decode cX5_nearerToZero 44 = .ok (.iload_n 0, 1) := by decide +kernel
theorem dX5_nearerToZero_45 : decode cX5_nearerToZero 45 = .ok (.iconst 1, 1) := by decide +kernel
theorem dX5_nearerToZero_46 : decode cX5_nearerToZero 46 = .ok (.iadd, 1) := by decide +kernel
theorem dX5_nearerToZero_47 : decode cX5_nearerToZero 47 = .ok (.ireturn, 1) := by decide +kernel
theorem dX6_init_0 : decode cX6_init 0 = .ok (.aload_n 0, 1) := by decide +kernel
theorem dX6_init_1 : decode cX6_init 1 = .ok (.invokespecial 3, 3) := by decide +kernel
theorem dX6_init_4 : decode cX6_init 4 = .ok (.aload_n 0, 1) := by decide +kernel
theorem dX6_init_5 : decode cX6_init 5 = .ok (.new 9, 3) := by decide +kernel
theorem dX6_init_8 : decode cX6_init 8 = .ok (.dup, 1) := by decide +kernel
theorem dX6_init_9 : decode cX6_init 9 = .ok (.invokespecial 11, 3) := by decide +kernel
theorem dX6_init_12 : decode cX6_init 12 = .ok (.putfield 12, 3) := by decide +kernel
theorem dX6_init_15 : decode cX6_init 15 = .ok (.aload_n 0, 1) := by decide +kernel
theorem dX6_init_16 : decode cX6_init 16 = .ok (.iconst 3, 1) := by decide +kernel
theorem dX6_init_17 : decode cX6_init 17 = .ok (.invokestatic 18, 3) := by decide +kernel
theorem dX6_init_20 : decode cX6_init 20 = .ok (.putfield 22, 3) := by decide +kernel
theorem dX6_init_23 : decode cX6_init 23 = .ok (.aload_n 0, 1) := by decide +kernel
theorem dX6_init_24 : decode cX6_init 24 = .ok (.bipush 60, 2) := by decide +kernel
theorem dX6_init_26 : decode cX6_init 26 = .ok (.invokestatic 18, 3) := by decide +kernel
theorem dX6_init_29 : decode cX6_init 29 = .ok (.putfield 26, 3) := by decide +kernel
theorem dX6_init_32 : decode cX6_init 32 = .ok (.aload_n 0, 1) := by decide +kernel
theorem dX6_init_33 : decode cX6_init 33 = .ok (.iconst 0, 1) := by decide +kernel
theorem dX6_init_34 : decode cX6_init 34 = .ok (.putfield 29, 3) := by decide +kernel
theorem dX6_init_37 : decode cX6_init 37 = .ok (.aload_n 0, 1) := by decide +kernel
theorem dX6_init_38 : decode cX6_init 38 = .ok (.iconst 0, 1) := by decide +kernel
theorem dX6_init_39 : decode cX6_init 39 = .ok (.putfield 33, 3) := by decide +kernel
theorem dX6_init_42 : decode cX6_init 42 = .ok (.return_, 1) := by decide +kernel
theorem dX6_outcome_0 : decode cX6_outcome 0 = .ok (.aload_n 0, 1) := by decide +kernel
theorem dX6_outcome_1 : decode cX6_outcome 1 = .ok (.dup, 1) := by decide +kernel
theorem dX6_outcome_2 : decode cX6_outcome 2 = .ok (.getfield 33, 3) := by decide +kernel
theorem dX6_outcome_5 : decode cX6_outcome 5 = .ok (.iconst 1, 1) := by decide +kernel
theorem dX6_outcome_6 : decode cX6_outcome 6 = .ok (.iadd, 1) := by decide +kernel
theorem dX6_outcome_7 : decode cX6_outcome 7 = .ok (.putfield 33, 3) := by decide +kernel
theorem dX6_outcome_10 : decode cX6_outcome 10 = .ok (.aload_n 0, 1) := by decide +kernel
theorem dX6_outcome_11 : decode cX6_outcome 11 = .ok (.iconst 0, 1) := by decide +kernel
theorem dX6_outcome_12 : decode cX6_outcome 12 = .ok (.putfield 29, 3) := by decide +kernel
theorem dX6_outcome_15 : decode cX6_outcome 15 = .ok (.aload_n 1, 1) := by decide +kernel
theorem dX6_outcome_16 : decode cX6_outcome 16 = .ok (.getfield 36, 3) := by decide +kernel
theorem dX6_outcome_19 : decode cX6_outcome 19 = .ok (.ifCond .lt 37, 3) := by decide +kernel
theorem dX6_outcome_22 : decode cX6_outcome 22 = .ok (.aload_n 0, 1) := by decide +kernel
theorem dX6_outcome_23 : decode cX6_outcome 23 = .ok (.aload_n 0, 1) := by decide +kernel
theorem dX6_outcome_24 : decode cX6_outcome 24 = .ok (.aload_n 1, 1) := by decide +kernel
theorem dX6_outcome_25 : decode cX6_outcome 25 = .ok (.getfield 36, 3) := by decide +kernel
theorem dX6_outcome_28 : decode cX6_outcome 28 = .ok (.invokevirtual 41, 3) := by decide +kernel
theorem dX6_outcome_31 : decode cX6_outcome 31 = .ok (.invokevirtual 45, 3) := by decide +kernel
theorem dX6_outcome_34 : decode cX6_outcome 34 = .ok (.istore_n 2, 1) := by decide +kernel
theorem dX6_outcome_35 : decode cX6_outcome 35 = .ok (.iload_n 2, 1) := by decide +kernel
theorem dX6_outcome_36 : decode cX6_outcome 36 = .ok (.ifCond .ge 6, 3) := by decide +kernel
theorem dX6_outcome_39 : decode cX6_outcome 39 = .ok (.iload_n 2, 1) := by decide +kernel
theorem dX6_outcome_40 : decode cX6_outcome 40 = .ok (.ineg, 1) := by decide +kernel
theorem dX6_outcome_41 : decode cX6_outcome 41 = .ok (.ireturn, 1) := by decide +kernel
theorem dX6_outcome_42 : decode cX6_outcome 42 = .ok (.aload_n 0, 1) := by decide +kernel
theorem dX6_outcome_43 : decode cX6_outcome 43 = .ok (.getfield 26, 3) := by decide +kernel
theorem dX6_outcome_46 : decode cX6_outcome 46 = .ok (.iload_n 2, 1) := by decide +kernel
theorem dX6_outcome_47 : decode cX6_outcome 47 = .ok (.aaload, 1) := by decide +kernel
theorem dX6_outcome_48 : decode cX6_outcome 48 = .ok (.getfield 48, 3) := by decide +kernel
theorem dX6_outcome_51 : decode cX6_outcome 51 = .ok (.ifCond .ne 5, 3) := by decide +kernel
theorem dX6_outcome_54 : decode cX6_outcome 54 = .ok (.iconst (-1), 1) := by decide +kernel
theorem dX6_outcome_55 : decode cX6_outcome 55 = .ok (.ireturn, 1) := by decide +kernel
theorem dX6_outcome_56 : decode cX6_outcome 56 = .ok (.aload_n 0, 1) := by decide +kernel
theorem dX6_outcome_57 : decode cX6_outcome 57 = .ok (.aload_n 0, 1) := by decide +kernel
theorem dX6_outcome_58 : decode cX6_outcome 58 = .ok (.aload_n 1, 1) := by decide +kernel
theorem dX6_outcome_59 : decode cX6_outcome 59 = .ok (.getfield 53, 3) := by decide +kernel
theorem dX6_outcome_62 : decode cX6_outcome 62 = .ok (.invokevirtual 41, 3) := by decide +kernel
theorem dX6_outcome_65 : decode cX6_outcome 65 = .ok (.invokevirtual 45, 3) := by decide +kernel
theorem dX6_outcome_68 : decode cX6_outcome 68 = .ok (.istore_n 2, 1) := by decide +kernel
theorem dX6_outcome_69 : decode cX6_outcome 69 = .ok (.iload_n 2, 1) := by decide +kernel
theorem dX6_outcome_70 : decode cX6_outcome 70 = .ok (.ifCond .ge 19, 3) := by decide +kernel
theorem dX6_outcome_73 : decode cX6_outcome 73 = .ok (.iload_n 2, 1) := by decide +kernel
theorem dX6_outcome_74 : decode cX6_outcome 74 = .ok (.ineg, 1) := by decide +kernel
theorem dX6_outcome_75 : decode cX6_outcome 75 = .ok (.aload_n 1, 1) := by decide +kernel
theorem dX6_outcome_76 : decode cX6_outcome 76 = .ok (.getfield 56, 3) := by decide +kernel
theorem dX6_outcome_79 : decode cX6_outcome 79 = .ok (.if_icmp .ne 7, 3) := by decide +kernel
theorem dX6_outcome_82 : decode cX6_outcome 82 = .ok (.iconst 0, 1) := by decide +kernel
theorem dX6_outcome_83 : decode cX6_outcome 83 = .ok (.goto 5, 3) := by decide +kernel
theorem dX6_outcome_86 : decode cX6_outcome 86 = .ok (.iload_n 2, 1) := by decide +kernel
theorem dX6_outcome_87 : decode cX6_outcome 87 = .ok (.ineg, 1) := by decide +kernel
theorem dX6_outcome_88 : decode cX6_outcome 88 = .ok (.ireturn, 1) := by decide +kernel
theorem dX6_outcome_89 : decode cX6_outcome 89 = .ok (.aload_n 1, 1) := by decide +kernel
theorem dX6_outcome_90 : decode cX6_outcome 90 = .ok (.getfield 56, 3) := by decide +kernel
theorem dX6_outcome_93 : decode cX6_outcome 93 = .ok (.ifCond .eq 6, 3) := by decide +kernel
theorem dX6_outcome_96 : decode cX6_outcome 96 = .ok (.bipush 8, 2) := by decide +kernel
theorem dX6_outcome_98 : decode cX6_outcome 98 = .ok (.ireturn, 1) := by decide +kernel
theorem dX6_outcome_99 : decode cX6_outcome 99 = .ok (.aload_n 0, 1) := by decide +kernel
theorem dX6_outcome_100 : decode cX6_outcome 100 = .ok (.getfield 26, 3) := by decide +kernel
theorem dX6_outcome_103 : decode cX6_outcome 103 = .ok (.iload_n 2, 1) := by decide +kernel
theorem dX6_outcome_104 : decode cX6_outcome 104 = .ok (.aaload, 1) := by decide +kernel
theorem dX6_outcome_105 : decode cX6_outcome 105 = .ok (.getfield 48, 3) := by decide +kernel
theorem dX6_outcome_108 : decode cX6_outcome 108 = .ok (.ifCond .eq 7, 3) := by decide +kernel
theorem dX6_outcome_111 : decode cX6_outcome 111 = .ok (.iconst 0, 1) := by decide +kernel
theorem dX6_outcome_112 : decode cX6_outcome 112 = .ok (.goto 5, 3) := by decide +kernel
theorem dX6_outcome_115 : decode cX6_outcome 115 = .ok (.bipush 9, 2) := by decide +kernel
theorem dX6_outcome_117 : decode cX6_outcome 117 = .ok (.ireturn, 1) := by decide +kernel
theorem dX6_labelled_0 : decode cX6_labelled 0 = .ok (.aload_n 0, 1) := by decide +kernel
theorem dX6_labelled_1 : decode cX6_labelled 1 = .ok (.aload_n 0, 1) := by decide +kernel
theorem dX6_labelled_2 : decode cX6_labelled 2 = .ok (.aload_n 1, 1) := by decide +kernel
theorem dX6_labelled_3 : decode cX6_labelled 3 = .ok (.getfield 59, 3) := by decide +kernel
theorem dX6_labelled_6 : decode cX6_labelled 6 = .ok (.invokevirtual 41, 3) := by decide +kernel
theorem dX6_labelled_9 : decode cX6_labelled 9 = .ok (.invokevirtual 45, 3) := by decide +kernel
theorem dX6_labelled_12 : decode cX6_labelled 12 = .ok (.istore_n 2, 1) := by decide +kernel
theorem dX6_labelled_13 : decode cX6_labelled 13 = .ok (.iload_n 2, 1) := by decide +kernel
theorem dX6_labelled_14 : decode cX6_labelled 14 = .ok (.ifCond .ge 6, 3) := by decide +kernel
theorem dX6_labelled_17 : decode cX6_labelled 17 = .ok (.bipush 8, 2) := by decide +kernel
theorem dX6_labelled_19 : decode cX6_labelled 19 = .ok (.ireturn, 1) := by decide +kernel
theorem dX6_labelled_20 : decode cX6_labelled 20 = .ok (.aload_n 0, 1) := by decide +kernel
theorem dX6_labelled_21 : decode cX6_labelled 21 = .ok (.getfield 26, 3) := by decide +kernel
theorem dX6_labelled_24 : decode cX6_labelled 24 = .ok (.iload_n 2, 1) := by decide +kernel
theorem dX6_labelled_25 : decode cX6_labelled 25 = .ok (.aaload, 1) := by decide +kernel
theorem dX6_labelled_26 : decode cX6_labelled 26 = .ok (.getfield 48, 3) := by decide +kernel
theorem dX6_labelled_29 : decode cX6_labelled 29 = .ok (.istore_n 3, 1) := by decide +kernel
theorem dX6_labelled_30 : decode cX6_labelled 30 = .ok (.iload_n 3, 1) := by decide +kernel
theorem dX6_labelled_31 : decode cX6_labelled 31 = .ok (.ifCond .lt 13, 3) := by decide +kernel
theorem dX6_labelled_34 : decode cX6_labelled 34 = .ok (.iload_n 3, 1) := by decide +kernel
theorem dX6_labelled_35 : decode cX6_labelled 35 = .ok (.bipush 8, 2) := by decide +kernel
theorem dX6_labelled_37 : decode cX6_labelled 37 = .ok (.if_icmp .ge 7, 3) := by decide +kernel
theorem dX6_labelled_40 : decode cX6_labelled 40 = .ok (.iload_n 3, 1) := by decide +kernel
theorem dX6_labelled_41 : decode cX6_labelled 41 = .ok (.goto 5, 3) := by decide +kernel
theorem dX6_labelled_44 : decode cX6_labelled 44 = .ok (.bipush 8, 2) := by decide +kernel
theorem dX6_labelled_46 : decode cX6_labelled 46 = .ok (.ireturn, 1) := by decide +kernel
theorem dX6_asWhole_0 : decode cX6_asWhole 0 = .ok (.iload_n 1, 1) := by decide +kernel
theorem dX6_asWhole_1 : decode cX6_asWhole 1 = .ok (.ifCond .ge 5, 3) := by decide +kernel
theorem dX6_asWhole_4 : decode cX6_asWhole 4 = .ok (.iload_n 1, 1) := by decide +kernel
theorem dX6_asWhole_5 : decode cX6_asWhole 5 = .ok (.ireturn, 1) := by decide +kernel
theorem dX6_asWhole_6 : decode cX6_asWhole 6 = .ok (.aload_n 0, 1) := by decide +kernel
theorem dX6_asWhole_7 : decode cX6_asWhole 7 = .ok (.getfield 26, 3) := by decide +kernel
theorem dX6_asWhole_10 : decode cX6_asWhole 10 = .ok (.iload_n 1, 1) := by decide +kernel
theorem dX6_asWhole_11 : decode cX6_asWhole 11 = .ok (.aaload, 1) := by decide +kernel
theorem dX6_asWhole_12 : decode cX6_asWhole 12 = .ok (.iconst 0, 1) := by decide +kernel
theorem dX6_asWhole_13 : decode cX6_asWhole 13 = .ok (.invokestatic 62, 3) := by decide +kernel
theorem dX6_asWhole_16 : decode cX6_asWhole 16 = .ok (.istore_n 2, 1) := by decide +kernel
theorem dX6_asWhole_17 : decode cX6_asWhole 17 = .ok (.iload_n 2, 1) := by decide +kernel
theorem dX6_asWhole_18 : decode cX6_asWhole 18 = .ok (.ifCond .eq 8, 3) := by decide +kernel
theorem dX6_asWhole_21 : decode cX6_asWhole 21 = .ok (.iload_n 2, 1) := by decide +kernel
theorem dX6_asWhole_22 : decode cX6_asWhole 22 = .ok (.ineg, 1) := by decide +kernel
theorem dX6_asWhole_23 : decode cX6_asWhole 23 = .ok (.goto 4, 3) := by decide +kernel
theorem dX6_asWhole_26 : decode cX6_asWhole 26 = .ok (.iload_n 1, 1) := by decide +kernel
theorem dX6_asWhole_27 : decode cX6_asWhole 27 = .ok (.ireturn, 1) := by decide +kernel
theorem dX6_work_0 : decode cX6_work 0 = .ok (.aload_n 0, 1) := by decide +kernel
theorem dX6_work_1 : decode cX6_work 1 = .ok (.getfield 29, 3) := by decide +kernel
theorem dX6_work_4 : decode cX6_work 4 = .ok (.bipush 60, 2) := by decide +kernel
theorem dX6_work_6 : decode cX6_work 6 = .ok (.if_icmp .lt 6, 3) := by decide +kernel
theorem dX6_work_9 : decode cX6_work 9 = .ok (.bipush (-7), 2) := by decide +kernel
theorem dX6_work_11 : decode cX6_work 11 = .ok (.ireturn, 1) := by decide +kernel
theorem dX6_work_12 : decode cX6_work 12 = .ok (.aload_n 0, 1) := by decide +kernel
theorem dX6_work_13 : decode cX6_work 13 = .ok (.getfield 29, 3) := by decide +kernel
theorem dX6_work_16 : decode cX6_work 16 = .ok (.istore_n 2, 1) := by decide +kernel
theorem dX6_work_17 : decode cX6_work 17 = .ok (.aload_n 0, 1) := by decide +kernel
theorem dX6_work_18 : decode cX6_work 18 = .ok (.dup, 1) := by decide +kernel
theorem dX6_work_19 : decode cX6_work 19 = .ok (.getfield 29, 3) := by decide +kernel
theorem dX6_work_22 : decode cX6_work 22 = .ok (.iconst 1, 1) := by decide +kernel
theorem dX6_work_23 : decode cX6_work 23 = .ok (.iadd, 1) := by decide +kernel
theorem dX6_work_24 : decode cX6_work 24 = .ok (.putfield 29, 3) := by decide +kernel
theorem dX6_work_27 : decode cX6_work 27 = .ok (.aload_n 0, 1) := by decide +kernel
theorem dX6_work_28 : decode cX6_work 28 = .ok (.getfield 12, 3) := by decide +kernel
theorem dX6_work_31 : decode cX6_work 31 = .ok (.getfield 66, 3) := by decide +kernel
theorem dX6_work_34 : decode cX6_work 34 = .ok (.iload_n 1, 1) := by decide +kernel
theorem dX6_work_35 : decode cX6_work 35 = .ok (.iaload, 1) := by decide +kernel
theorem dX6_work_36 : decode cX6_work 36 = .ok (.istore_n 3, 1) := by decide +kernel
theorem dX6_work_37 : decode cX6_work 37 = .ok (.getstatic 70, 3) := by decide +kernel
theorem dX6_work_40 : decode cX6_work 40 = .ok (.iload_n 3, 1) := by decide +kernel
theorem dX6_work_41 : decode cX6_work 41 = .ok (.iaload, 1) := by decide +kernel
theorem dX6_work_42 : decode cX6_work 42 = .ok (.istore 4, 2) := by decide +kernel
theorem dX6_work_44 : decode cX6_work 44 = .ok (.iload 4, 2) := by decide +kernel
theorem dX6_work_46 : decode cX6_work 46 = .ok (.ifCond .le 19, 3) := by decide +kernel
theorem dX6_work_49 : decode cX6_work 49 = .ok (.aload_n 0, 1) := by decide +kernel
theorem dX6_work_50 : decode cX6_work 50 = .ok (.aload_n 0, 1) := by decide +kernel
theorem dX6_work_51 : decode cX6_work 51 = .ok (.getfield 12, 3) := by decide +kernel
theorem dX6_work_54 : decode cX6_work 54 = .ok (.getfield 73, 3) := by decide +kernel
theorem dX6_work_57 : decode cX6_work 57 = .ok (.iload_n 1, 1) := by decide +kernel
theorem dX6_work_58 : decode cX6_work 58 = .ok (.iaload, 1) := by decide +kernel
theorem dX6_work_59 : decode cX6_work 59 = .ok (.invokevirtual 41, 3) := by decide +kernel
theorem dX6_work_62 : decode cX6_work 62 = .ok (.goto 4, 3) := by decide +kernel
theorem dX6_work_65 : decode cX6_work 65 = .ok (.iload_n 2, 1) := by decide +kernel
theorem dX6_work_66 : decode cX6_work 66 = .ok (.istore 5, 2) := by decide +kernel
theorem dX6_work_68 : decode cX6_work 68 = .ok (.iload 5, 2) := by decide +kernel
theorem dX6_work_70 : decode cX6_work 70 = .ok (.ifCond .ge 6, 3) := by decide +kernel
theorem dX6_work_73 : decode cX6_work 73 = .ok (.iload 5, 2) := by decide +kernel
theorem dX6_work_75 : decode cX6_work 75 = .ok (.ireturn, 1) := by decide +kernel
theorem dX6_work_76 : decode cX6_work 76 = .ok (.iload_n 3, 1) := by decide +kernel
theorem dX6_work_77 : decode cX6_work 77 = .ok (.bipush 19, 2) := by decide +kernel
theorem dX6_work_79 : decode cX6_work 79 = .ok (.if_icmp .eq 9, 3) := by decide +kernel
theorem dX6_work_82 : decode cX6_work 82 = .ok (.iload_n 3, 1) := by decide +kernel
theorem dX6_work_83 : decode cX6_work 83 = .ok (.bipush 20, 2) := by decide +kernel
theorem dX6_work_85 : decode cX6_work 85 = .ok (.if_icmp .ne 16, 3) := by decide +kernel
theorem dX6_work_88 : decode cX6_work 88 = .ok (.aload_n 0, 1) := by decide +kernel
theorem dX6_work_89 : decode cX6_work 89 = .ok (.iload_n 1, 1) := by decide +kernel
theorem dX6_work_90 : decode cX6_work 90 = .ok (.iload_n 2, 1) := by decide +kernel
theorem dX6_work_91 : decode cX6_work 91 = .ok (.aload_n 0, 1) := by decide +kernel
theorem dX6_work_92 : decode cX6_work 92 = .ok (.iload 5, 2) := by decide +kernel
theorem dX6_work_94 : decode cX6_work 94 = .ok (.invokevirtual 45, 3) := by decide +kernel
theorem dX6_work_97 : decode cX6_work 97 = .ok (.invokevirtual 76, 3) := by decide +kernel
theorem dX6_work_100 : decode cX6_work 100 = .ok (.ireturn, 1) := by decide +kernel
theorem dX6_work_101 : decode cX6_work 101 = .ok (.iload 4, 2) := by decide +kernel
theorem dX6_work_103 : decode cX6_work 103 = .ok (.iconst 1, 1) := by decide +kernel
theorem dX6_work_104 : decode cX6_work 104 = .ok (.if_icmp .le 19, 3) := by decide +kernel
theorem dX6_work_107 : decode cX6_work 107 = .ok (.aload_n 0, 1) := by decide +kernel
theorem dX6_work_108 : decode cX6_work 108 = .ok (.aload_n 0, 1) := by decide +kernel
theorem dX6_work_109 : decode cX6_work 109 = .ok (.getfield 12, 3) := by decide +kernel
theorem dX6_work_112 : decode cX6_work 112 = .ok (.getfield 80, 3) := by decide +kernel
theorem dX6_work_115 : decode cX6_work 115 = .ok (.iload_n 1, 1) := by decide +kernel
theorem dX6_work_116 : decode cX6_work 116 = .ok (.iaload, 1) := by decide +kernel
theorem dX6_work_117 : decode cX6_work 117 = .ok (.invokevirtual 41, 3) := by decide +kernel
theorem dX6_work_120 : decode cX6_work 120 = .ok (.goto 4, 3) := by decide +kernel
theorem dX6_work_123 : decode cX6_work 123 = .ok (.iload_n 2, 1) := by decide +kernel
theorem dX6_work_124 : decode cX6_work 124 = .ok (.istore 6, 2) := by decide +kernel
theorem dX6_work_126 : decode cX6_work 126 = .ok (.iload 6, 2) := by decide +kernel
theorem dX6_work_128 : decode cX6_work 128 = .ok (.ifCond .ge 6, 3) := by decide +kernel
theorem dX6_work_131 : decode cX6_work 131 = .ok (.iload 6, 2) := by decide +kernel
theorem dX6_work_133 : decode cX6_work 133 = .ok (.ireturn, 1) := by decide +kernel
theorem dX6_work_134 : decode cX6_work 134 = .ok (.iload 4, 2) := by decide +kernel
theorem dX6_work_136 : decode cX6_work 136 = .ok (.iconst 2, 1) := by decide +kernel
theorem dX6_work_137 : decode cX6_work 137 = .ok (.if_icmp .le 19, 3) := by decide +kernel
theorem dX6_work_140 : decode cX6_work 140 = .ok (.aload_n 0, 1) := by decide +kernel
theorem dX6_work_141 : decode cX6_work 141 = .ok (.aload_n 0, 1) := by decide +kernel
theorem dX6_work_142 : decode cX6_work 142 = .ok (.getfield 12, 3) := by decide +kernel
theorem dX6_work_145 : decode cX6_work 145 = .ok (.getfield 83, 3) := by decide +kernel
theorem dX6_work_148 : decode cX6_work 148 = .ok (.iload_n 1, 1) := by decide +kernel
theorem dX6_work_149 : decode cX6_work 149 = .ok (.iaload, 1) := by decide +kernel
theorem dX6_work_150 : decode cX6_work 150 = .ok (.invokevirtual 41, 3) := by decide +kernel
theorem dX6_work_153 : decode cX6_work 153 = .ok (.goto 4, 3) := by decide +kernel
theorem dX6_work_156 : decode cX6_work 156 = .ok (.iload_n 2, 1) := by decide +kernel
theorem dX6_work_157 : decode cX6_work 157 = .ok (.istore 7, 2) := by decide +kernel
theorem dX6_work_159 : decode cX6_work 159 = .ok (.iload 7, 2) := by decide +kernel
theorem dX6_work_161 : decode cX6_work 161 = .ok (.ifCond .ge 6, 3) := by decide +kernel
theorem dX6_work_164 : decode cX6_work 164 = .ok (.iload 7, 2) := by decide +kernel
theorem dX6_work_166 : decode cX6_work 166 = .ok (.ireturn, 1) := by decide +kernel
theorem dX6_work_167 : decode cX6_work 167 = .ok (.iload_n 3, 1) := by decide +kernel
theorem dX6_work_168 : decode cX6_work 168 = .ok (.aload_n 0, 1) := by decide +kernel
theorem dX6_work_169 : decode cX6_work 169 = .ok (.getfield 26, 3) := by decide +kernel
theorem dX6_work_172 : decode cX6_work 172 = .ok (.iload 5, 2) := by decide +kernel
theorem dX6_work_174 : decode cX6_work 174 = .ok (.aaload, 1) := by decide +kernel
theorem dX6_work_175 : decode cX6_work 175 = .ok (.aload_n 0, 1) := by decide +kernel
theorem dX6_work_176 : decode cX6_work 176 = .ok (.getfield 26, 3) := by decide +kernel
theorem dX6_work_179 : decode cX6_work 179 = .ok (.iload 6, 2) := by decide +kernel
theorem dX6_work_181 : decode cX6_work 181 = .ok (.aaload, 1) := by decide +kernel
theorem dX6_work_182 : decode cX6_work 182 = .ok (.aload_n 0, 1) := by decide +kernel
theorem dX6_work_183 : decode cX6_work 183 = .ok (.getfield 26, 3) := by decide +kernel
theorem dX6_work_186 : decode cX6_work 186 = .ok (.iload 7, 2) := by decide +kernel
theorem dX6_work_188 : decode cX6_work 188 = .ok (.aaload, 1) := by decide +kernel
theorem dX6_work_189 : decode cX6_work 189 = .ok (.invokestatic 86, 3) := by decide +kernel
theorem dX6_work_192 : decode cX6_work 192 = .ok (.istore 8, 2) := by decide +kernel
theorem dX6_work_194 : decode cX6_work 194 = .ok (.iload 8, 2) := by decide +kernel
theorem dX6_work_196 : decode cX6_work 196 = .ok (.ifCond .ne 37, 3) := by decide +kernel
theorem dX6_work_199 : decode cX6_work 199 = .ok (.aload_n 0, 1) := by decide +kernel
theorem dX6_work_200 : decode cX6_work 200 = .ok (.iload_n 1, 1) := by decide +kernel
theorem dX6_work_201 : decode cX6_work 201 = .ok (.aload_n 0, 1) := by decide +kernel
theorem dX6_work_202 : decode cX6_work 202 = .ok (.getfield 26, 3) := by decide +kernel
theorem dX6_work_205 : decode cX6_work 205 = .ok (.iload_n 2, 1) := by decide +kernel
theorem dX6_work_206 : decode cX6_work 206 = .ok (.aaload, 1) := by decide +kernel
theorem dX6_work_207 : decode cX6_work 207 = .ok (.aload_n 0, 1) := by decide +kernel
theorem dX6_work_208 : decode cX6_work 208 = .ok (.getfield 26, 3) := by decide +kernel
theorem dX6_work_211 : decode cX6_work 211 = .ok (.iload 5, 2) := by decide +kernel
theorem dX6_work_213 : decode cX6_work 213 = .ok (.aaload, 1) := by decide +kernel
theorem dX6_work_214 : decode cX6_work 214 = .ok (.aload_n 0, 1) := by decide +kernel
theorem dX6_work_215 : decode cX6_work 215 = .ok (.getfield 26, 3) := by decide +kernel
theorem dX6_work_218 : decode cX6_work 218 = .ok (.iload 6, 2) := by decide +kernel
theorem dX6_work_220 : decode cX6_work 220 = .ok (.aaload, 1) := by decide +kernel
theorem dX6_work_221 : decode cX6_work 221 = .ok (.aload_n 0, 1) := by decide +kernel
theorem dX6_work_222 : decode cX6_work 222 = .ok (.getfield 26, 3) := by decide +kernel
theorem dX6_work_225 : decode cX6_work 225 = .ok (.iload 7, 2) := by decide +kernel
theorem dX6_work_227 : decode cX6_work 227 = .ok (.aaload, 1) := by decide +kernel
theorem dX6_work_228 : decode cX6_work 228 = .ok (.invokevirtual 90, 3) := by decide +kernel
theorem dX6_work_231 : decode cX6_work 231 = .ok (.istore 8, 2) := by decide +kernel
theorem dX6_work_233 : decode cX6_work 233 = .ok (.iload 8, 2) := by decide +kernel
theorem dX6_work_235 : decode cX6_work 235 = .ok (.ifCond .eq 9, 3) := by decide +kernel
theorem dX6_work_238 : decode cX6_work 238 = .ok (.iload 8, 2) := by decide +kernel
theorem dX6_work_240 : decode cX6_work 240 = .ok (.ineg, 1) := by decide +kernel
theorem dX6_work_241 : decode cX6_work 241 = .ok (.goto 4, 3) := by decide +kernel
theorem dX6_work_244 : decode cX6_work 244 = .ok (.iload_n 2, 1) := by decide +kernel
theorem dX6_work_245 : decode cX6_work 245 = .ok (.ireturn, 1) := by decide +kernel
theorem dX6_workChosen_0 : decode cX6_workChosen 0 = .ok (.iload_n 3, 1) := by decide +kernel
theorem dX6_workChosen_1 : decode cX6_workChosen 1 = .ok (.ifCond .ge 5, 3) := by decide +kernel
theorem dX6_workChosen_4 : decode cX6_workChosen 4 = .ok (.iload_n 3, 1) := by decide +kernel
theorem dX6_workChosen_5 : decode cX6_workChosen 5 = .ok (.ireturn, 1) := by decide +kernel
theorem dX6_workChosen_6 : decode cX6_workChosen 6 = .ok (.aload_n 0, 1) := by decide +kernel
theorem dX6_workChosen_7 : decode cX6_workChosen 7 = .ok (.getfield 26, 3) := by decide +kernel
theorem dX6_workChosen_10 : decode cX6_workChosen 10 = .ok (.iload_n 3, 1) := by decide +kernel
theorem dX6_workChosen_11 : decode cX6_workChosen 11 = .ok (.aaload, 1) := by decide +kernel
theorem dX6_workChosen_12 : decode cX6_workChosen 12 = .ok (.getfield 48, 3) := by decide +kernel
theorem dX6_workChosen_15 : decode cX6_workChosen 15 = .ok (.ifCond .eq 7, 3) := by decide +kernel
theorem dX6_workChosen_18 : decode cX6_workChosen 18 = .ok (.iconst 1, 1) := by decide +kernel
theorem dX6_workChosen_19 : decode cX6_workChosen 19 = .ok (.goto 4, 3) := by decide +kernel
theorem dX6_workChosen_22 : decode cX6_workChosen 22 = .ok (.iconst 0, 1) := by decide +kernel
theorem dX6_workChosen_23 : decode cX6_workChosen 23 = .ok (.istore 4, 2) := by decide +kernel
theorem dX6_workChosen_25 : decode cX6_workChosen 25 = .ok (.aload_n 0, 1) := by decide +kernel
theorem dX6_workChosen_26 : decode cX6_workChosen 26 = .ok (.getfield 12, 3) := by decide +kernel
theorem dX6_workChosen_29 : decode cX6_workChosen 29 = .ok (.getfield 66, 3) := by decide +kernel
theorem dX6_workChosen_32 : decode cX6_workChosen 32 = .ok (.iload_n 1, 1) := by decide +kernel
theorem dX6_workChosen_33 : decode cX6_workChosen 33 = .ok (.iaload, 1) := by decide +kernel
theorem dX6_workChosen_34 : decode cX6_workChosen 34 = .ok (.bipush 19, 2) := by decide +kernel
theorem dX6_workChosen_36 : decode cX6_workChosen 36 = .ok (.if_icmp .ne 34, 3) := by decide +kernel
theorem dX6_workChosen_39 : decode cX6_workChosen 39 = .ok (.aload_n 0, 1) := by decide +kernel
theorem dX6_workChosen_40 : decode cX6_workChosen 40 = .ok (.iload 4, 2) := by decide +kernel
theorem dX6_workChosen_42 : decode cX6_workChosen 42 = .ok (.ifCond .eq 15, 3) := by decide +kernel
theorem dX6_workChosen_45 : decode cX6_workChosen 45 = .ok (.aload_n 0, 1) := by decide +kernel
theorem dX6_workChosen_46 : decode cX6_workChosen 46 = .ok (.getfield 12, 3) := by decide +kernel
theorem dX6_workChosen_49 : decode cX6_workChosen 49 = .ok (.getfield 80, 3) := by decide +kernel
theorem dX6_workChosen_52 : decode cX6_workChosen 52 = .ok (.iload_n 1, 1) := by decide +kernel
theorem dX6_workChosen_53 : decode cX6_workChosen 53 = .ok (.iaload, 1) := by decide +kernel
theorem dX6_workChosen_54 : decode cX6_workChosen 54 = .ok (.goto 12, 3) := by decide +kernel
theorem dX6_workChosen_57 : decode cX6_workChosen 57 = .ok (.aload_n 0, 1) := by decide +kernel
theorem dX6_workChosen_58 : decode cX6_workChosen 58 = .ok (.getfield 12, 3) := by decide +kernel
theorem dX6_workChosen_61 : decode cX6_workChosen 61 = .ok (.getfield 83, 3) := by decide +kernel
theorem dX6_workChosen_64 : decode cX6_workChosen 64 = .ok (.iload_n 1, 1) := by decide +kernel
theorem dX6_workChosen_65 : decode cX6_workChosen 65 = .ok (.iaload, 1) := by decide +kernel
theorem dX6_workChosen_66 : decode cX6_workChosen 66 = .ok (.invokevirtual 41, 3) := by decide +kernel
theorem dX6_workChosen_69 : decode cX6_workChosen 69 = .ok (.ireturn, 1) := by decide +kernel
theorem dX6_workChosen_70 : decode cX6_workChosen 70 = .ok (.iload 4, 2) := by decide +kernel
theorem dX6_workChosen_72 : decode cX6_workChosen 72 = .ok (.ifCond .eq 50, 3) := by decide +kernel
theorem dX6_workChosen_75 : decode cX6_workChosen 75 = .ok (.aload_n 0, 1) := by decide +kernel
theorem dX6_workChosen_76 : decode cX6_workChosen 76 = .ok (.aload_n 0, 1) := by decide +kernel
theorem dX6_workChosen_77 : decode cX6_workChosen 77 = .ok (.aload_n 0, 1) := by decide +kernel
theorem dX6_workChosen_78 : decode cX6_workChosen 78 = .ok (.getfield 12, 3) := by decide +kernel
theorem dX6_workChosen_81 : decode cX6_workChosen 81 = .ok (.getfield 80, 3) := by decide +kernel
theorem dX6_workChosen_84 : decode cX6_workChosen 84 = .ok (.iload_n 1, 1) := by decide +kernel
theorem dX6_workChosen_85 : decode cX6_workChosen 85 = .ok (.iaload, 1) := by decide +kernel
theorem dX6_workChosen_86 : decode cX6_workChosen 86 = .ok (.invokevirtual 41, 3) := by decide +kernel
theorem dX6_workChosen_89 : decode cX6_workChosen 89 = .ok (.invokevirtual 45, 3) := by decide +kernel
theorem dX6_workChosen_92 : decode cX6_workChosen 92 = .ok (.istore 5, 2) := by decide +kernel
theorem dX6_workChosen_94 : decode cX6_workChosen 94 = .ok (.iload 5, 2) := by decide +kernel
theorem dX6_workChosen_96 : decode cX6_workChosen 96 = .ok (.ifCond .ge 6, 3) := by decide +kernel
theorem dX6_workChosen_99 : decode cX6_workChosen 99 = .ok (.iload 5, 2) := by decide +kernel
theorem dX6_workChosen_101 : decode cX6_workChosen 101 = .ok (.ireturn, 1) := by decide +kernel
theorem dX6_workChosen_102 : decode cX6_workChosen 102 = .ok (.aload_n 0, 1) := by decide +kernel
theorem dX6_workChosen_103 : decode cX6_workChosen 103 = .ok (.getfield 26, 3) := by decide +kernel
theorem dX6_workChosen_106 : decode cX6_workChosen 106 = .ok (.iload 5, 2) := by decide +kernel
theorem dX6_workChosen_108 : decode cX6_workChosen 108 = .ok (.aaload, 1) := by decide +kernel
theorem dX6_workChosen_109 : decode cX6_workChosen 109 = .ok (.getfield 48, 3) := by decide +kernel
theorem dX6_workChosen_112 : decode cX6_workChosen 112 = .ok (.ifCond .eq 7, 3) := by decide +kernel
theorem dX6_workChosen_115 : decode cX6_workChosen 115 = .ok (.iconst 1, 1) := by decide +kernel
theorem dX6_workChosen_116 : decode cX6_workChosen 116 = .ok (.goto 4, 3) := by decide +kernel
theorem dX6_workChosen_119 : decode cX6_workChosen 119 = .ok (.iconst 0, 1) := by decide +kernel
theorem dX6_workChosen_120 : decode cX6_workChosen 120 = .ok (.istore 4, 2) := by decide +kernel
theorem dX6_workChosen_122 : decode cX6_workChosen 122 = .ok (.aload_n 0, 1) := by decide +kernel
theorem dX6_workChosen_123 : decode cX6_workChosen 123 = .ok (.getfield 26, 3) := by decide +kernel
theorem dX6_workChosen_126 : decode cX6_workChosen 126 = .ok (.iload_n 2, 1) := by decide +kernel
theorem dX6_workChosen_127 : decode cX6_workChosen 127 = .ok (.aaload, 1) := by decide +kernel
theorem dX6_workChosen_128 : decode cX6_workChosen 128 = .ok (.iload 4, 2) := by decide +kernel
theorem dX6_workChosen_130 : decode cX6_workChosen 130 = .ok (.invokestatic 94, 3) := by decide +kernel
theorem dX6_workChosen_133 : decode cX6_workChosen 133 = .ok (.iload_n 2, 1) := by decide +kernel
theorem dX6_workChosen_134 : decode cX6_workChosen 134 = .ok (.ireturn, 1) := by decide +kernel
theorem dX6_lookAtAll_0 : decode cX6_lookAtAll 0 = .ok (.aload_n 1, 1) := by decide +kernel
theorem dX6_lookAtAll_1 : decode cX6_lookAtAll 1 = .ok (.getstatic 98, 3) := by decide +kernel
theorem dX6_lookAtAll_4 : decode cX6_lookAtAll 4 = .ok (.iload_n 0, 1) := by decide +kernel
theorem dX6_lookAtAll_5 : decode cX6_lookAtAll 5 = .ok (.iaload, 1) := by decide +kernel
theorem dX6_lookAtAll_6 : decode cX6_lookAtAll 6 = .ok (.invokestatic 62, 3) := by decide +kernel
theorem dX6_lookAtAll_9 : decode cX6_lookAtAll 9 = .ok (.istore 4, 2) := by decide +kernel
theorem dX6_lookAtAll_11 : decode cX6_lookAtAll 11 = .ok (.iload 4, 2) := by decide +kernel
theorem dX6_lookAtAll_13 : decode cX6_lookAtAll 13 = .ok (.ifCond .ne 30, 3) := by decide +kernel
theorem dX6_lookAtAll_16 : decode cX6_lookAtAll 16 = .ok (.aload_n 2, 1) := by decide +kernel
theorem dX6_lookAtAll_17 : decode cX6_lookAtAll 17 = .ok (.getstatic 101, 3) := by decide +kernel
theorem dX6_lookAtAll_20 : decode cX6_lookAtAll 20 = .ok (.iload_n 0, 1) := by decide +kernel
theorem dX6_lookAtAll_21 : decode cX6_lookAtAll 21 = .ok (.iaload, 1) := by decide +kernel
theorem dX6_lookAtAll_22 : decode cX6_lookAtAll 22 = .ok (.iconst 3, 1) := by decide +kernel
theorem dX6_lookAtAll_23 : decode cX6_lookAtAll 23 = .ok (.if_icmp .ne 10, 3) := by decide +kernel
theorem dX6_lookAtAll_26 : decode cX6_lookAtAll 26 = .ok (.aload_n 1, 1) := by decide +kernel
theorem dX6_lookAtAll_27 : decode cX6_lookAtAll 27 = .ok (.getfield 104, 3) := by decide +kernel
theorem dX6_lookAtAll_30 : decode cX6_lookAtAll 30 = .ok (.goto 8, 3) := by decide +kernel
theorem dX6_lookAtAll_33 : decode cX6_lookAtAll 33 = .ok (.getstatic 101, 3) := by decide +kernel
theorem dX6_lookAtAll_36 : decode cX6_lookAtAll 36 = .ok (.iload_n 0, 1) := by decide +kernel
theorem dX6_lookAtAll_37 : decode cX6_lookAtAll 37 = .ok (.iaload, 1) := by decide +kernel
theorem dX6_lookAtAll_38 : decode cX6_lookAtAll 38 = .ok (.invokestatic 62, 3) := by decide +kernel
theorem dX6_lookAtAll_41 : decode cX6_lookAtAll 41 = .ok (.istore 4, 2) := by decide +kernel
theorem dX6_lookAtAll_43 : decode cX6_lookAtAll 43 = .ok (.iload 4, 2) := by decide +kernel
theorem dX6_lookAtAll_45 : decode cX6_lookAtAll 45 = .ok (.ifCond .ne 14, 3) := by decide +kernel
theorem dX6_lookAtAll_48 : decode cX6_lookAtAll 48 = .ok (.aload_n 3, 1) := by decide +kernel
theorem dX6_lookAtAll_49 : decode cX6_lookAtAll 49 = .ok (.getstatic 107, 3) := by decide +kernel
theorem dX6_lookAtAll_52 : decode cX6_lookAtAll 52 = .ok (.iload_n 0, 1) := by decide +kernel
theorem dX6_lookAtAll_53 : decode cX6_lookAtAll 53 = .ok (.iaload, 1) := by decide +kernel
theorem dX6_lookAtAll_54 : decode cX6_lookAtAll 54 = .ok (.invokestatic 62, 3) := by decide +kernel
theorem dX6_lookAtAll_57 : decode cX6_lookAtAll 57 = .ok (.istore 4, 2) := by decide +kernel
theorem dX6_lookAtAll_59 : decode cX6_lookAtAll 59 = .ok (.iload 4, 2) := by decide +kernel
theorem dX6_lookAtAll_61 : decode cX6_lookAtAll 61 = .ok (.ireturn, 1) := by decide +kernel
theorem dX6_lookAt_0 : decode cX6_lookAt 0 = .ok (.iload_n 1, 1) := by decide +kernel
theorem dX6_lookAt_1 : decode cX6_lookAt 1 = .ok (.iconst 4, 1) := by decide +kernel
theorem dX6_lookAt_2 : decode cX6_lookAt 2 = .ok (.if_icmp .ne 5, 3) := by decide +kernel
theorem dX6_lookAt_5 : decode cX6_lookAt 5 = .ok (.iconst 0, 1) := by decide +kernel
theorem dX6_lookAt_6 : decode cX6_lookAt 6 = .ok (.ireturn, 1) := by decide +kernel
theorem dX6_lookAt_7 : decode cX6_lookAt 7 = .ok (.aload_n 0, 1) := by decide +kernel
theorem dX6_lookAt_8 : decode cX6_lookAt 8 = .ok (.getfield 104, 3) := by decide +kernel
theorem dX6_lookAt_11 : decode cX6_lookAt 11 = .ok (.iconst (-1), 1) := by decide +kernel
theorem dX6_lookAt_12 : decode cX6_lookAt 12 = .ok (.if_icmp .ne 5, 3) := by decide +kernel
theorem dX6_lookAt_15 : decode cX6_lookAt 15 = .ok (.iconst 1, 1) := by decide +kernel
theorem dX6_lookAt_16 : decode cX6_lookAt 16 = .ok (.ireturn, 1) := by decide +kernel
theorem dX6_lookAt_17 : decode cX6_lookAt 17 = .ok (.iload_n 1, 1) := by decide +kernel
theorem dX6_lookAt_18 : decode cX6_lookAt 18 = .ok (.iconst 2, 1) := by decide +kernel
theorem dX6_lookAt_19 : decode cX6_lookAt 19 = .ok (.if_icmp .eq 11, 3) := by decide +kernel
theorem dX6_lookAt_22 : decode cX6_lookAt 22 = .ok (.aload_n 0, 1) := by decide +kernel
theorem dX6_lookAt_23 : decode cX6_lookAt 23 = .ok (.getfield 104, 3) := by decide +kernel
theorem dX6_lookAt_26 : decode cX6_lookAt 26 = .ok (.iload_n 1, 1) := by decide +kernel
theorem dX6_lookAt_27 : decode cX6_lookAt 27 = .ok (.if_icmp .ne 7, 3) := by decide +kernel
theorem dX6_lookAt_30 : decode cX6_lookAt 30 = .ok (.iconst 0, 1) := by decide +kernel
theorem dX6_lookAt_31 : decode cX6_lookAt 31 = .ok (.goto 4, 3) := by decide +kernel
theorem dX6_lookAt_34 : decode cX6_lookAt 34 = .ok (.iconst 4, 1) := by decide +kernel
theorem dX6_lookAt_35 : decode cX6_lookAt 35 = .ok (.ireturn, 1) := by decide +kernel
theorem dX6_comeTo_0 : decode cX6_comeTo 0 = .ok (.aload_n 0, 1) := by decide +kernel
theorem dX6_comeTo_1 : decode cX6_comeTo 1 = .ok (.getfield 12, 3) := by decide +kernel
theorem dX6_comeTo_4 : decode cX6_comeTo 4 = .ok (.getfield 66, 3) := by decide +kernel
theorem dX6_comeTo_7 : decode cX6_comeTo 7 = .ok (.iload_n 1, 1) := by decide +kernel
theorem dX6_comeTo_8 : decode cX6_comeTo 8 = .ok (.iaload, 1) := by decide +kernel
theorem dX6_comeTo_9 : decode cX6_comeTo 9 = .ok (.istore 6, 2) := by decide +kernel
theorem dX6_comeTo_11 : decode cX6_comeTo 11 = .ok (.iload 6, 2) := by decide +kernel
theorem dX6_comeTo_13 : decode cX6_comeTo 13 = .ok (.tableswitch 238 0 18 #[91, 111, 126, 238, 238, 238, 238, 238, 238, 132, 144, 155, 165, 174, 190, 198, 214, 221, 228], 91) := by decide +kernel
theorem dX6_comeTo_104 : decode cX6_comeTo 104 = .ok (.aload_n 2, 1) := by decide +kernel
theorem dX6_comeTo_105 : decode cX6_comeTo 105 = .ok (.aload_n 0, 1) := by decide +kernel
theorem dX6_comeTo_106 : decode cX6_comeTo 106 = .ok (.getfield 22, 3) := by decide +kernel
theorem dX6_comeTo_109 : decode cX6_comeTo 109 = .ok (.aload_n 0, 1) := by decide +kernel
theorem dX6_comeTo_110 : decode cX6_comeTo 110 = .ok (.getfield 12, 3) := by decide +kernel
theorem dX6_comeTo_113 : decode cX6_comeTo 113 = .ok (.getfield 110, 3) := by decide +kernel
theorem dX6_comeTo_116 : decode cX6_comeTo 116 = .ok (.iload_n 1, 1) := by decide +kernel
theorem dX6_comeTo_117 : decode cX6_comeTo 117 = .ok (.iaload, 1) := by decide +kernel
theorem dX6_comeTo_118 : decode cX6_comeTo 118 = .ok (.aaload, 1) := by decide +kernel
theorem dX6_comeTo_119 : decode cX6_comeTo 119 = .ok (.invokevirtual 113, 3) := by decide +kernel
theorem dX6_comeTo_122 : decode cX6_comeTo 122 = .ok (.iconst 0, 1) := by decide +kernel
theorem dX6_comeTo_123 : decode cX6_comeTo 123 = .ok (.ireturn, 1) := by decide +kernel
theorem dX6_comeTo_124 : decode cX6_comeTo 124 = .ok (.aload_n 2, 1) := by decide +kernel
theorem dX6_comeTo_125 : decode cX6_comeTo 125 = .ok (.aload_n 0, 1) := by decide +kernel
theorem dX6_comeTo_126 : decode cX6_comeTo 126 = .ok (.getfield 12, 3) := by decide +kernel
theorem dX6_comeTo_129 : decode cX6_comeTo 129 = .ok (.getfield 110, 3) := by decide +kernel
theorem dX6_comeTo_132 : decode cX6_comeTo 132 = .ok (.iload_n 1, 1) := by decide +kernel
theorem dX6_comeTo_133 : decode cX6_comeTo 133 = .ok (.iaload, 1) := by decide +kernel
theorem dX6_comeTo_134 : decode cX6_comeTo 134 = .ok (.invokevirtual 117, 3) := by decide +kernel
theorem dX6_comeTo_137 : decode cX6_comeTo 137 = .ok (.iconst 0, 1) := by decide +kernel
theorem dX6_comeTo_138 : decode cX6_comeTo 138 = .ok (.ireturn, 1) := by decide +kernel
theorem dX6_comeTo_139 : decode cX6_comeTo 139 = .ok (.aload_n 2, 1) := by decide +kernel
theorem dX6_comeTo_140 : decode cX6_comeTo 140 = .ok (.invokevirtual 121, 3) := by decide +kernel
theorem dX6_comeTo_143 : decode cX6_comeTo 143 = .ok (.iconst 0, 1) := by decide +kernel
theorem dX6_comeTo_144 : decode cX6_comeTo 144 = .ok (.ireturn, 1) := by decide +kernel
theorem dX6_comeTo_145 : decode cX6_comeTo 145 = .ok (.aload_n 2, 1) := by decide +kernel
theorem dX6_comeTo_146 : decode cX6_comeTo 146 = .ok (.aload_n 3, 1) := by decide +kernel
theorem dX6_comeTo_147 : decode cX6_comeTo 147 = .ok (.aload 4, 2) := by decide +kernel
theorem dX6_comeTo_149 : decode cX6_comeTo 149 = .ok (.invokestatic 124, 3) := by decide +kernel
theorem dX6_comeTo_152 : decode cX6_comeTo 152 = .ok (.invokestatic 94, 3) := by decide +kernel
theorem dX6_comeTo_155 : decode cX6_comeTo 155 = .ok (.iconst 0, 1) := by decide +kernel
theorem dX6_comeTo_156 : decode cX6_comeTo 156 = .ok (.ireturn, 1) := by decide +kernel
theorem dX6_comeTo_157 : decode cX6_comeTo 157 = .ok (.aload_n 2, 1) := by decide +kernel
theorem dX6_comeTo_158 : decode cX6_comeTo 158 = .ok (.aload_n 3, 1) := by decide +kernel
theorem dX6_comeTo_159 : decode cX6_comeTo 159 = .ok (.aload 4, 2) := by decide +kernel
theorem dX6_comeTo_161 : decode cX6_comeTo 161 = .ok (.getfield 48, 3) := by decide +kernel
theorem dX6_comeTo_164 : decode cX6_comeTo 164 = .ok (.invokestatic 128, 3) := by decide +kernel
theorem dX6_comeTo_167 : decode cX6_comeTo 167 = .ok (.ireturn, 1) := by decide +kernel
theorem dX6_comeTo_168 : decode cX6_comeTo 168 = .ok (.aload_n 2, 1) := by decide +kernel
theorem dX6_comeTo_169 : decode cX6_comeTo 169 = .ok (.aload_n 3, 1) := by decide +kernel
theorem dX6_comeTo_170 : decode cX6_comeTo 170 = .ok (.getfield 132, 3) := by decide +kernel
theorem dX6_comeTo_173 : decode cX6_comeTo 173 = .ok (.invokevirtual 117, 3) := by decide +kernel
theorem dX6_comeTo_176 : decode cX6_comeTo 176 = .ok (.iconst 0, 1) := by decide +kernel
theorem dX6_comeTo_177 : decode cX6_comeTo 177 = .ok (.ireturn, 1) := by decide +kernel
theorem dX6_comeTo_178 : decode cX6_comeTo 178 = .ok (.aload_n 2, 1) := by decide +kernel
theorem dX6_comeTo_179 : decode cX6_comeTo 179 = .ok (.aload_n 3, 1) := by decide +kernel
theorem dX6_comeTo_180 : decode cX6_comeTo 180 = .ok (.getfield 48, 3) := by decide +kernel
theorem dX6_comeTo_183 : decode cX6_comeTo 183 = .ok (.invokestatic 135, 3) := by decide +kernel
theorem dX6_comeTo_186 : decode cX6_comeTo 186 = .ok (.ireturn, 1) := by decide +kernel
theorem dX6_comeTo_187 : decode cX6_comeTo 187 = .ok (.aload_n 2, 1) := by decide +kernel
theorem dX6_comeTo_188 : decode cX6_comeTo 188 = .ok (.aload_n 3, 1) := by decide +kernel
theorem dX6_comeTo_189 : decode cX6_comeTo 189 = .ok (.aload 4, 2) := by decide +kernel
theorem dX6_comeTo_191 : decode cX6_comeTo 191 = .ok (.getfield 48, 3) := by decide +kernel
theorem dX6_comeTo_194 : decode cX6_comeTo 194 = .ok (.aload 5, 2) := by decide +kernel
theorem dX6_comeTo_196 : decode cX6_comeTo 196 = .ok (.getfield 48, 3) := by decide +kernel
theorem dX6_comeTo_199 : decode cX6_comeTo 199 = .ok (.invokestatic 138, 3) := by decide +kernel
theorem dX6_comeTo_202 : decode cX6_comeTo 202 = .ok (.ireturn, 1) := by decide +kernel
theorem dX6_comeTo_203 : decode cX6_comeTo 203 = .ok (.aload_n 2, 1) := by decide +kernel
theorem dX6_comeTo_204 : decode cX6_comeTo 204 = .ok (.aload_n 3, 1) := by decide +kernel
theorem dX6_comeTo_205 : decode cX6_comeTo 205 = .ok (.aload 4, 2) := by decide +kernel
theorem dX6_comeTo_207 : decode cX6_comeTo 207 = .ok (.invokestatic 142, 3) := by decide +kernel
theorem dX6_comeTo_210 : decode cX6_comeTo 210 = .ok (.ireturn, 1) := by decide +kernel
theorem dX6_comeTo_211 : decode cX6_comeTo 211 = .ok (.aload_n 2, 1) := by decide +kernel
theorem dX6_comeTo_212 : decode cX6_comeTo 212 = .ok (.aload_n 3, 1) := by decide +kernel
theorem dX6_comeTo_213 : decode cX6_comeTo 213 = .ok (.aload 4, 2) := by decide +kernel
theorem dX6_comeTo_215 : decode cX6_comeTo 215 = .ok (.getfield 48, 3) := by decide +kernel
theorem dX6_comeTo_218 : decode cX6_comeTo 218 = .ok (.aload 5, 2) := by decide +kernel
theorem dX6_comeTo_220 : decode cX6_comeTo 220 = .ok (.getfield 48, 3) := by decide +kernel
theorem dX6_comeTo_223 : decode cX6_comeTo 223 = .ok (.invokestatic 146, 3) := by decide +kernel
theorem dX6_comeTo_226 : decode cX6_comeTo 226 = .ok (.ireturn, 1) := by decide +kernel
theorem dX6_comeTo_227 : decode cX6_comeTo 227 = .ok (.aload_n 2, 1) := by decide +kernel
theorem dX6_comeTo_228 : decode cX6_comeTo 228 = .ok (.aload_n 3, 1) := by decide +kernel
theorem dX6_comeTo_229 : decode cX6_comeTo 229 = .ok (.invokestatic 149, 3) := by decide +kernel
theorem dX6_comeTo_232 : decode cX6_comeTo 232 = .ok (.iconst 0, 1) := by decide +kernel
theorem dX6_comeTo_233 : decode cX6_comeTo 233 = .ok (.ireturn, 1) := by decide +kernel
theorem dX6_comeTo_234 : decode cX6_comeTo 234 = .ok (.aload_n 2, 1) := by decide +kernel
theorem dX6_comeTo_235 : decode cX6_comeTo 235 = .ok (.aload_n 3, 1) := by decide +kernel
theorem dX6_comeTo_236 : decode cX6_comeTo 236 = .ok (.invokestatic 153, 3) := by decide +kernel
theorem dX6_comeTo_239 : decode cX6_comeTo 239 = .ok (.iconst 0, 1) := by decide +kernel
theorem dX6_comeTo_240 : decode cX6_comeTo 240 = .ok (.ireturn, 1) := by decide +kernel
theorem dX6_comeTo_241 : decode cX6_comeTo 241 = .ok (.aload_n 2, 1) := by decide +kernel
theorem dX6_comeTo_242 : decode cX6_comeTo 242 = .ok (.aload_n 3, 1) := by decide +kernel
theorem dX6_comeTo_243 : decode cX6_comeTo 243 = .ok (.invokestatic 156, 3) := by decide +kernel
theorem dX6_comeTo_246 : decode cX6_comeTo 246 = .ok (.invokevirtual 117, 3) := by decide +kernel
theorem dX6_comeTo_249 : decode cX6_comeTo 249 = .ok (.iconst 0, 1) := by decide +kernel
theorem dX6_comeTo_250 : decode cX6_comeTo 250 = .ok (.ireturn, 1) := by decide +kernel
theorem dX6_comeTo_251 : decode cX6_comeTo 251 = .ok (.aload_n 2, 1) := by decide +kernel
theorem dX6_comeTo_252 : decode cX6_comeTo 252 = .ok (.iload 6, 2) := by decide +kernel
theorem dX6_comeTo_254 : decode cX6_comeTo 254 = .ok (.aload_n 3, 1) := by decide +kernel
theorem dX6_comeTo_255 : decode cX6_comeTo 255 = .ok (.getfield 48, 3) := by decide +kernel
theorem dX6_comeTo_258 : decode cX6_comeTo 258 = .ok (.aload 4, 2) := by decide +kernel
theorem dX6_comeTo_260 : decode cX6_comeTo 260 = .ok (.getfield 48, 3) := by decide +kernel
theorem dX6_comeTo_263 : decode cX6_comeTo 263 = .ok (.invokestatic 160, 3) := by decide +kernel
theorem dX6_comeTo_266 : decode cX6_comeTo 266 = .ok (.ireturn, 1) := by decide +kernel
theorem dX6_setTruth_0 : decode cX6_setTruth 0 = .ok (.aload_n 0, 1) := by decide +kernel
theorem dX6_setTruth_1 : decode cX6_setTruth 1 = .ok (.iload_n 1, 1) := by decide +kernel
theorem dX6_setTruth_2 : decode cX6_setTruth 2 = .ok (.ifCond .eq 7, 3) := by decide +kernel
theorem dX6_setTruth_5 : decode cX6_setTruth 5 = .ok (.iconst 1, 1) := by decide +kernel
theorem dX6_setTruth_6 : decode cX6_setTruth 6 = .ok (.goto 4, 3) := by decide +kernel
theorem dX6_setTruth_9 : decode cX6_setTruth 9 = .ok (.iconst 0, 1) := by decide +kernel
theorem dX6_setTruth_10 : decode cX6_setTruth 10 = .ok (.invokevirtual 117, 3) := by decide +kernel
theorem dX6_setTruth_13 : decode cX6_setTruth 13 = .ok (.return_, 1) := by decide +kernel
theorem dX6_setOfWholes_0 : decode cX6_setOfWholes 0 = .ok (.iload_n 1, 1) := by decide +kernel
theorem dX6_setOfWholes_1 : decode cX6_setOfWholes 1 = .ok (.bipush 6, 2) := by decide +kernel
theorem dX6_setOfWholes_3 : decode cX6_setOfWholes 3 = .ok (.if_icmp .eq 9, 3) := by decide +kernel
theorem dX6_setOfWholes_6 : decode cX6_setOfWholes 6 = .ok (.iload_n 1, 1) := by decide +kernel
theorem dX6_setOfWholes_7 : decode cX6_setOfWholes 7 = .ok (.bipush 7, 2) := by decide +kernel
theorem dX6_setOfWholes_9 : decode cX6_setOfWholes 9 = .ok (.if_icmp .ne 9, 3) := by decide +kernel
theorem dX6_setOfWholes_12 : decode cX6_setOfWholes 12 = .ok (.iload_n 3, 1) := by decide +kernel
theorem dX6_setOfWholes_13 : decode cX6_setOfWholes 13 = .ok (.ifCond .ne 5, 3) := by decide +kernel
theorem dX6_setOfWholes_16 : decode cX6_setOfWholes 16 = .ok (.iconst 5, 1) := by decide +kernel
theorem dX6_setOfWholes_17 : decode cX6_setOfWholes 17 = .ok (.ireturn, 1) := by decide +kernel
theorem dX6_setOfWholes_18 : decode cX6_setOfWholes 18 = .ok (.iload_n 1, 1) := by decide +kernel
theorem dX6_setOfWholes_19 : decode cX6_setOfWholes 19 = .ok (.tableswitch 83 3 7 #[33, 43, 53, 63, 73], 33) := by decide +kernel
theorem dX6_setOfWholes_52 : decode cX6_setOfWholes 52 = .ok (.aload_n 0, 1) := by decide +kernel
theorem dX6_setOfWholes_53 : decode cX6_setOfWholes 53 = .ok (.iload_n 2, 1) := by decide +kernel
theorem dX6_setOfWholes_54 : decode cX6_setOfWholes 54 = .ok (.iload_n 3, 1) := by decide +kernel
theorem dX6_setOfWholes_55 : decode cX6_setOfWholes 55 = .ok (.iadd, 1) := by decide +kernel
theorem dX6_setOfWholes_56 : decode cX6_setOfWholes 56 = .ok (.invokevirtual 117, 3) := by decide +kernel
theorem dX6_setOfWholes_59 : decode cX6_setOfWholes 59 = .ok (.goto 57, 3) := by decide +kernel
theorem dX6_setOfWholes_62 : decode cX6_setOfWholes 62 = .ok (.aload_n 0, 1) := by decide +kernel
theorem dX6_setOfWholes_63 : decode cX6_setOfWholes 63 = .ok (.iload_n 2, 1) := by decide +kernel
theorem dX6_setOfWholes_64 : decode cX6_setOfWholes 64 = .ok (.iload_n 3, 1) := by decide +kernel
theorem dX6_setOfWholes_65 : decode cX6_setOfWholes 65 = .ok (.isub, 1) := by decide +kernel
theorem dX6_setOfWholes_66 : decode cX6_setOfWholes 66 = .ok (.invokevirtual 117, 3) := by decide +kernel
theorem dX6_setOfWholes_69 : decode cX6_setOfWholes 69 = .ok (.goto 47, 3) := by decide +kernel
theorem dX6_setOfWholes_72 : decode cX6_setOfWholes 72 = .ok (.aload_n 0, 1) := by decide +kernel
theorem dX6_setOfWholes_73 : decode cX6_setOfWholes 73 = .ok (.iload_n 2, 1) := by decide +kernel
theorem dX6_setOfWholes_74 : decode cX6_setOfWholes 74 = .ok (.iload_n 3, 1) := by decide +kernel
theorem dX6_setOfWholes_75 : decode cX6_setOfWholes 75 = .ok (.imul, 1) := by decide +kernel
theorem dX6_setOfWholes_76 : decode cX6_setOfWholes 76 = .ok (.invokevirtual 117, 3) := by decide +kernel
theorem dX6_setOfWholes_79 : decode cX6_setOfWholes 79 = .ok (.goto 37, 3) := by decide +kernel
theorem dX6_setOfWholes_82 : decode cX6_setOfWholes 82 = .ok (.aload_n 0, 1) := by decide +kernel
theorem dX6_setOfWholes_83 : decode cX6_setOfWholes 83 = .ok (.iload_n 2, 1) := by decide +kernel
theorem dX6_setOfWholes_84 : decode cX6_setOfWholes 84 = .ok (.iload_n 3, 1) := by decide +kernel
theorem dX6_setOfWholes_85 : decode cX6_setOfWholes 85 = .ok (.idiv, 1) := by decide +kernel
theorem dX6_setOfWholes_86 : decode cX6_setOfWholes 86 = .ok (.invokevirtual 117, 3) := by decide +kernel
theorem dX6_setOfWholes_89 : decode cX6_setOfWholes 89 = .ok (.goto 27, 3) := by decide +kernel
theorem dX6_setOfWholes_92 : decode cX6_setOfWholes 92 = .ok (.aload_n 0, 1) := by decide +kernel
theorem dX6_setOfWholes_93 : decode cX6_setOfWholes 93 = .ok (.iload_n 2, 1) := by decide +kernel
theorem dX6_setOfWholes_94 : decode cX6_setOfWholes 94 = .ok (.iload_n 3, 1) := by decide +kernel
theorem dX6_setOfWholes_95 : decode cX6_setOfWholes 95 = .ok (.irem, 1) := by decide +kernel
theorem dX6_setOfWholes_96 : decode cX6_setOfWholes 96 = .ok (.invokevirtual 117, 3) := by decide +kernel
theorem dX6_setOfWholes_99 : decode cX6_setOfWholes 99 = .ok (.goto 17, 3) := by decide +kernel
theorem dX6_setOfWholes_102 : decode cX6_setOfWholes 102 = .ok (.aload_n 0, 1) := by decide +kernel
theorem dX6_setOfWholes_103 : decode cX6_setOfWholes 103 = .ok (.iload_n 2, 1) := by decide +kernel
theorem dX6_setOfWholes_104 : decode cX6_setOfWholes 104 = .ok (.iload_n 3, 1) := by decide +kernel
theorem dX6_setOfWholes_105 : decode cX6_setOfWholes 105 = .ok (.if_icmp .ge 7, 3) := by decide +kernel
theorem dX6_setOfWholes_108 : decode cX6_setOfWholes 108 = .ok (.iconst 1, 1) := by decide +kernel
theorem dX6_setOfWholes_109 : decode cX6_setOfWholes 109 = .ok (.goto 4, 3) := by decide +kernel
theorem dX6_setOfWholes_112 : decode cX6_setOfWholes 112 = .ok (.iconst 0, 1) := by decide +kernel
theorem dX6_setOfWholes_113 : decode cX6_setOfWholes 113 = .ok (.invokestatic 94, 3) := by decide +kernel
theorem dX6_setOfWholes_116 : decode cX6_setOfWholes 116 = .ok (.iconst 0, 1) := by decide +kernel
theorem dX6_setOfWholes_117 : decode cX6_setOfWholes 117 = .ok (.ireturn, 1) := by decide +kernel
theorem dX6_areLike_0 : decode cX6_areLike 0 = .ok (.aload_n 0, 1) := by decide +kernel
theorem dX6_areLike_1 : decode cX6_areLike 1 = .ok (.getfield 104, 3) := by decide +kernel
theorem dX6_areLike_4 : decode cX6_areLike 4 = .ok (.ifCond .ne 20, 3) := by decide +kernel
theorem dX6_areLike_7 : decode cX6_areLike 7 = .ok (.aload_n 0, 1) := by decide +kernel
theorem dX6_areLike_8 : decode cX6_areLike 8 = .ok (.getfield 48, 3) := by decide +kernel
theorem dX6_areLike_11 : decode cX6_areLike 11 = .ok (.aload_n 1, 1) := by decide +kernel
theorem dX6_areLike_12 : decode cX6_areLike 12 = .ok (.getfield 48, 3) := by decide +kernel
theorem dX6_areLike_15 : decode cX6_areLike 15 = .ok (.if_icmp .ne 7, 3) := by decide +kernel
theorem dX6_areLike_18 : decode cX6_areLike 18 = .ok (.iconst 1, 1) := by decide +kernel
theorem dX6_areLike_19 : decode cX6_areLike 19 = .ok (.goto 4, 3) := by decide +kernel
theorem dX6_areLike_22 : decode cX6_areLike 22 = .ok (.iconst 0, 1) := by decide +kernel
theorem dX6_areLike_23 : decode cX6_areLike 23 = .ok (.ireturn, 1) := by decide +kernel
