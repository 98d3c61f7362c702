theorem dX6_areLike_24 : decode cX6_areLike 24 = .ok (.aload_n 0, 1) := by decide +kernel
theorem dX6_areLike_25 : decode cX6_areLike 25 = .ok (.getfield 132, 3) := by decide +kernel
theorem dX6_areLike_28 : decode cX6_areLike 28 = .ok (.aload_n 1, 1) := by decide +kernel
theorem dX6_areLike_29 : decode cX6_areLike 29 = .ok (.getfield 132, 3) := by decide +kernel
theorem dX6_areLike_32 : decode cX6_areLike 32 = .ok (.if_icmp .eq 5, 3) := by decide +kernel
theorem dX6_areLike_35 : decode cX6_areLike 35 = .ok (.iconst 0, 1) := by decide +kernel
theorem dX6_areLike_36 : decode cX6_areLike 36 = .ok (.ireturn, 1) := by decide +kernel
theorem dX6_areLike_37 : decode cX6_areLike 37 = .ok (.iconst 0, 1) := by decide +kernel
theorem dX6_areLike_38 : decode cX6_areLike 38 = .ok (.istore_n 2, 1) := by decide +kernel
theorem dX6_areLike_39 : decode cX6_areLike 39 = .ok (.iload_n 2, 1) := by decide +kernel
theorem dX6_areLike_40 : decode cX6_areLike 40 = .ok (.aload_n 0, 1) := by decide +kernel
theorem dX6_areLike_41 : decode cX6_areLike 41 = .ok (.getfield 132, 3) := by decide +kernel
theorem dX6_areLike_44 : decode cX6_areLike 44 = .ok (.if_icmp .ge 26, 3) := by decide +kernel
theorem dX6_areLike_47 : decode cX6_areLike 47 = .ok (.aload_n 0, 1) := by decide +kernel
theorem dX6_areLike_48 : decode cX6_areLike 48 = .ok (.getfield 164, 3) := by decide +kernel
theorem dX6_areLike_51 : decode cX6_areLike 51 = .ok (.iload_n 2, 1) := by decide +kernel
theorem dX6_areLike_52 : decode cX6_areLike 52 = .ok (.iaload, 1) := by decide +kernel
theorem dX6_areLike_53 : decode cX6_areLike 53 = .ok (.aload_n 1, 1) := by decide +kernel
theorem dX6_areLike_54 : decode cX6_areLike 54 = .ok (.getfield 164, 3) := by decide +kernel
theorem dX6_areLike_57 : decode cX6_areLike 57 = .ok (.iload_n 2, 1) := by decide +kernel
theorem dX6_areLike_58 : decode cX6_areLike 58 = .ok (.iaload, 1) := by decide +kernel
theorem dX6_areLike_59 : decode cX6_areLike 59 = .ok (.if_icmp .eq 5, 3) := by decide +kernel
theorem dX6_areLike_62 : decode cX6_areLike 62 = .ok (.iconst 0, 1) := by decide +kernel
theorem dX6_areLike_63 : decode cX6_areLike 63 = .ok (.ireturn, 1) := by decide +kernel
theorem dX6_areLike_64 : decode cX6_areLike 64 = .ok (.iinc 2 1, 3) := by decide +kernel
theorem dX6_areLike_67 : decode cX6_areLike 67 = .ok (.goto (-28), 3) := by decide +kernel
theorem dX6_areLike_70 : decode cX6_areLike 70 = .ok (.iconst 1, 1) := by decide +kernel
theorem dX6_areLike_71 : decode cX6_areLike 71 = .ok (.ireturn, 1) := by decide +kernel
theorem dX6_setAt_0 : decode cX6_setAt 0 = .ok (.aload_n 1, 1) := by decide +kernel
theorem dX6_setAt_1 : decode cX6_setAt 1 = .ok (.iload_n 2, 1) := by decide +kernel
theorem dX6_setAt_2 : decode cX6_setAt 2 = .ok (.invokevirtual 167, 3) := by decide +kernel
theorem dX6_setAt_5 : decode cX6_setAt 5 = .ok (.ifCond .ne 5, 3) := by decide +kernel
theorem dX6_setAt_8 : decode cX6_setAt 8 = .ok (.iconst 2, 1) := by decide +kernel
theorem dX6_setAt_9 : decode cX6_setAt 9 = .ok (.ireturn, 1) := by decide +kernel
theorem dX6_setAt_10 : decode cX6_setAt 10 = .ok (.aload_n 0, 1) := by decide +kernel
theorem dX6_setAt_11 : decode cX6_setAt 11 = .ok (.aload_n 1, 1) := by decide +kernel
theorem dX6_setAt_12 : decode cX6_setAt 12 = .ok (.getfield 164, 3) := by decide +kernel
theorem dX6_setAt_15 : decode cX6_setAt 15 = .ok (.iload_n 2, 1) := by decide +kernel
theorem dX6_setAt_16 : decode cX6_setAt 16 = .ok (.iaload, 1) := by decide +kernel
theorem dX6_setAt_17 : decode cX6_setAt 17 = .ok (.invokevirtual 117, 3) := by decide +kernel
theorem dX6_setAt_20 : decode cX6_setAt 20 = .ok (.iconst 0, 1) := by decide +kernel
theorem dX6_setAt_21 : decode cX6_setAt 21 = .ok (.ireturn, 1) := by decide +kernel
theorem dX6_setZeros_0 : decode cX6_setZeros 0 = .ok (.iload_n 1, 1) := by decide +kernel
theorem dX6_setZeros_1 : decode cX6_setZeros 1 = .ok (.ifCond .ge 5, 3) := by decide +kernel
theorem dX6_setZeros_4 : decode cX6_setZeros 4 = .ok (.iconst 3, 1) := by decide +kernel
theorem dX6_setZeros_5 : decode cX6_setZeros 5 = .ok (.ireturn, 1) := by decide +kernel
theorem dX6_setZeros_6 : decode cX6_setZeros 6 = .ok (.iload_n 1, 1) := by decide +kernel
theorem dX6_setZeros_7 : decode cX6_setZeros 7 = .ok (.bipush 16, 2) := by decide +kernel
theorem dX6_setZeros_9 : decode cX6_setZeros 9 = .ok (.if_icmp .le 6, 3) := by decide +kernel
theorem dX6_setZeros_12 : decode cX6_setZeros 12 = .ok (.bipush 6, 2) := by decide +kernel
theorem dX6_setZeros_14 : decode cX6_setZeros 14 = .ok (.ireturn, 1) := by decide +kernel
theorem dX6_setZeros_15 : decode cX6_setZeros 15 = .ok (.aload_n 0, 1) := by decide +kernel
theorem dX6_setZeros_16 : decode cX6_setZeros 16 = .ok (.iload_n 1, 1) := by decide +kernel
theorem dX6_setZeros_17 : decode cX6_setZeros 17 = .ok (.invokevirtual 171, 3) := by decide +kernel
theorem dX6_setZeros_20 : decode cX6_setZeros 20 = .ok (.iconst 0, 1) := by decide +kernel
theorem dX6_setZeros_21 : decode cX6_setZeros 21 = .ok (.istore_n 2, 1) := by decide +kernel
theorem dX6_setZeros_22 : decode cX6_setZeros 22 = .ok (.iload_n 2, 1) := by decide +kernel
theorem dX6_setZeros_23 : decode cX6_setZeros 23 = .ok (.iload_n 1, 1) := by decide +kernel
theorem dX6_setZeros_24 : decode cX6_setZeros 24 = .ok (.if_icmp .ge 16, 3) := by decide +kernel
theorem dX6_setZeros_27 : decode cX6_setZeros 27 = .ok (.aload_n 0, 1) := by decide +kernel
theorem dX6_setZeros_28 : decode cX6_setZeros 28 = .ok (.getfield 164, 3) := by decide +kernel
theorem dX6_setZeros_31 : decode cX6_setZeros 31 = .ok (.iload_n 2, 1) := by decide +kernel
theorem dX6_setZeros_32 : decode cX6_setZeros 32 = .ok (.iconst 0, 1) := by decide +kernel
theorem dX6_setZeros_33 : decode cX6_setZeros 33 = .ok (.iastore, 1) := by decide +kernel
theorem dX6_setZeros_34 : decode cX6_setZeros 34 = .ok (.iinc 2 1, 3) := by decide +kernel
theorem dX6_setZeros_37 : decode cX6_setZeros 37 = .ok (.goto (-15), 3) := by decide +kernel
theorem dX6_setZeros_40 : decode cX6_setZeros 40 = .ok (.iconst 0, 1) := by decide +kernel
theorem dX6_setZeros_41 : decode cX6_setZeros 41 = .ok (.ireturn, 1) := by decide +kernel
theorem dX6_setPut_0 : decode cX6_setPut 0 = .ok (.aload_n 1, 1) := by decide +kernel
theorem dX6_setPut_1 : decode cX6_setPut 1 = .ok (.iload_n 2, 1) := by decide +kernel
theorem dX6_setPut_2 : decode cX6_setPut 2 = .ok (.invokevirtual 167, 3) := by decide +kernel
theorem dX6_setPut_5 : decode cX6_setPut 5 = .ok (.ifCond .ne 5, 3) := by decide +kernel
theorem dX6_setPut_8 : decode cX6_setPut 8 = .ok (.iconst 2, 1) := by decide +kernel
theorem dX6_setPut_9 : decode cX6_setPut 9 = .ok (.ireturn, 1) := by decide +kernel
theorem dX6_setPut_10 : decode cX6_setPut 10 = .ok (.aload_n 0, 1) := by decide +kernel
theorem dX6_setPut_11 : decode cX6_setPut 11 = .ok (.aload_n 1, 1) := by decide +kernel
theorem dX6_setPut_12 : decode cX6_setPut 12 = .ok (.invokevirtual 113, 3) := by decide +kernel
theorem dX6_setPut_15 : decode cX6_setPut 15 = .ok (.aload_n 0, 1) := by decide +kernel
theorem dX6_setPut_16 : decode cX6_setPut 16 = .ok (.getfield 164, 3) := by decide +kernel
theorem dX6_setPut_19 : decode cX6_setPut 19 = .ok (.iload_n 2, 1) := by decide +kernel
theorem dX6_setPut_20 : decode cX6_setPut 20 = .ok (.iload_n 3, 1) := by decide +kernel
theorem dX6_setPut_21 : decode cX6_setPut 21 = .ok (.iastore, 1) := by decide +kernel
theorem dX6_setPut_22 : decode cX6_setPut 22 = .ok (.iconst 0, 1) := by decide +kernel
theorem dX6_setPut_23 : decode cX6_setPut 23 = .ok (.ireturn, 1) := by decide +kernel
theorem dX6_setJoined_0 : decode cX6_setJoined 0 = .ok (.aload_n 1, 1) := by decide +kernel
theorem dX6_setJoined_1 : decode cX6_setJoined 1 = .ok (.getfield 132, 3) := by decide +kernel
theorem dX6_setJoined_4 : decode cX6_setJoined 4 = .ok (.aload_n 2, 1) := by decide +kernel
theorem dX6_setJoined_5 : decode cX6_setJoined 5 = .ok (.getfield 132, 3) := by decide +kernel
theorem dX6_setJoined_8 : decode cX6_setJoined 8 = .ok (.iadd, 1) := by decide +kernel
theorem dX6_setJoined_9 : decode cX6_setJoined 9 = .ok (.bipush 16, 2) := by decide +kernel
theorem dX6_setJoined_11 : decode cX6_setJoined 11 = .ok (.if_icmp .le 6, 3) := by decide +kernel
theorem dX6_setJoined_14 : decode cX6_setJoined 14 = .ok (.bipush 6, 2) := by decide +kernel
theorem dX6_setJoined_16 : decode cX6_setJoined 16 = .ok (.ireturn, 1) := by decide +kernel
theorem dX6_setJoined_17 : decode cX6_setJoined 17 = .ok (.aload_n 0, 1) := by decide +kernel
theorem dX6_setJoined_18 : decode cX6_setJoined 18 = .ok (.aload_n 1, 1) := by decide +kernel
theorem dX6_setJoined_19 : decode cX6_setJoined 19 = .ok (.getfield 132, 3) := by decide +kernel
theorem dX6_setJoined_22 : decode cX6_setJoined 22 = .ok (.aload_n 2, 1) := by decide +kernel
theorem dX6_setJoined_23 : decode cX6_setJoined 23 = .ok (.getfield 132, 3) := by decide +kernel
theorem dX6_setJoined_26 : decode cX6_setJoined 26 = .ok (.iadd, 1) := by decide +kernel
theorem dX6_setJoined_27 : decode cX6_setJoined 27 = .ok (.invokevirtual 171, 3) := by decide +kernel
theorem dX6_setJoined_30 : decode cX6_setJoined 30 = .ok (.aload_n 1, 1) := by decide +kernel
theorem dX6_setJoined_31 : decode cX6_setJoined 31 = .ok (.getfield 164, 3) := by decide +kernel
theorem dX6_setJoined_34 : decode cX6_setJoined 34 = .ok (.iconst 0, 1) := by decide +kernel
theorem dX6_setJoined_35 : decode cX6_setJoined 35 = .ok (.aload_n 0, 1) := by decide +kernel
theorem dX6_setJoined_36 : decode cX6_setJoined 36 = .ok (.getfield 164, 3) := by decide +kernel
theorem dX6_setJoined_39 : decode cX6_setJoined 39 = .ok (.iconst 0, 1) := by decide +kernel
theorem dX6_setJoined_40 : decode cX6_setJoined 40 = .ok (.aload_n 1, 1) := by decide +kernel
theorem dX6_setJoined_41 : decode cX6_setJoined 41 = .ok (.getfield 132, 3) := by decide +kernel
theorem dX6_setJoined_44 : decode cX6_setJoined 44 = .ok (.invokestatic 174, 3) := by decide +kernel
theorem dX6_setJoined_47 : decode cX6_setJoined 47 = .ok (.aload_n 2, 1) := by decide +kernel
theorem dX6_setJoined_48 : decode cX6_setJoined 48 = .ok (.getfield 164, 3) := by decide +kernel
theorem dX6_setJoined_51 : decode cX6_setJoined 51 = .ok (.iconst 0, 1) := by decide +kernel
theorem dX6_setJoined_52 : decode cX6_setJoined 52 = .ok (.aload_n 0, 1) := by decide +kernel
theorem dX6_setJoined_53 : decode cX6_setJoined 53 = .ok (.getfield 164, 3) := by decide +kernel
theorem dX6_setJoined_56 : decode cX6_setJoined 56 = .ok (.aload_n 1, 1) := by decide +kernel
theorem dX6_setJoined_57 : decode cX6_setJoined 57 = .ok (.getfield 132, 3) := by decide +kernel
theorem dX6_setJoined_60 : decode cX6_setJoined 60 = .ok (.aload_n 2, 1) := by decide +kernel
theorem dX6_setJoined_61 : decode cX6_setJoined 61 = .ok (.getfield 132, 3) := by decide +kernel
theorem dX6_setJoined_64 : decode cX6_setJoined 64 = .ok (.invokestatic 174, 3) := by decide +kernel
theorem dX6_setJoined_67 : decode cX6_setJoined 67 = .ok (.iconst 0, 1) := by decide +kernel
theorem dX6_setJoined_68 : decode cX6_setJoined 68 = .ok (.ireturn, 1) := by decide +kernel
theorem dX6_setPart_0 : decode cX6_setPart 0 = .ok (.iload_n 3, 1) := by decide +kernel
theorem dX6_setPart_1 : decode cX6_setPart 1 = .ok (.ifCond .ge 5, 3) := by decide +kernel
theorem dX6_setPart_4 : decode cX6_setPart 4 = .ok (.iconst 3, 1) := by decide +kernel
theorem dX6_setPart_5 : decode cX6_setPart 5 = .ok (.ireturn, 1) := by decide +kernel
theorem dX6_setPart_6 : decode cX6_setPart 6 = .ok (.iload_n 3, 1) := by decide +kernel
theorem dX6_setPart_7 : decode cX6_setPart 7 = .ok (.bipush 16, 2) := by decide +kernel
theorem dX6_setPart_9 : decode cX6_setPart 9 = .ok (.if_icmp .le 6, 3) := by decide +kernel
theorem dX6_setPart_12 : decode cX6_setPart 12 = .ok (.bipush 6, 2) := by decide +kernel
theorem dX6_setPart_14 : decode cX6_setPart 14 = .ok (.ireturn, 1) := by decide +kernel
theorem dX6_setPart_15 : decode cX6_setPart 15 = .ok (.iload_n 2, 1) := by decide +kernel
theorem dX6_setPart_16 : decode cX6_setPart 16 = .ok (.ifCond .lt 13, 3) := by decide +kernel
theorem dX6_setPart_19 : decode cX6_setPart 19 = .ok (.iload_n 2, 1) := by decide +kernel
theorem dX6_setPart_20 : decode cX6_setPart 20 = .ok (.aload_n 1, 1) := by decide +kernel
theorem dX6_setPart_21 : decode cX6_setPart 21 = .ok (.getfield 132, 3) := by decide +kernel
theorem dX6_setPart_24 : decode cX6_setPart 24 = .ok (.iload_n 3, 1) := by decide +kernel
theorem dX6_setPart_25 : decode cX6_setPart 25 = .ok (.isub, 1) := by decide +kernel
theorem dX6_setPart_26 : decode cX6_setPart 26 = .ok (.if_icmp .le 5, 3) := by decide +kernel
theorem dX6_setPart_29 : decode cX6_setPart 29 = .ok (.iconst 2, 1) := by decide +kernel
theorem dX6_setPart_30 : decode cX6_setPart 30 = .ok (.ireturn, 1) := by decide +kernel
theorem dX6_setPart_31 : decode cX6_setPart 31 = .ok (.aload_n 0, 1) := by decide +kernel
theorem dX6_setPart_32 : decode cX6_setPart 32 = .ok (.iload_n 3, 1) := by decide +kernel
theorem dX6_setPart_33 : decode cX6_setPart 33 = .ok (.invokevirtual 171, 3) := by decide +kernel
theorem dX6_setPart_36 : decode cX6_setPart 36 = .ok (.aload_n 1, 1) := by decide +kernel
theorem dX6_setPart_37 : decode cX6_setPart 37 = .ok (.getfield 164, 3) := by decide +kernel
theorem dX6_setPart_40 : decode cX6_setPart 40 = .ok (.iload_n 2, 1) := by decide +kernel
theorem dX6_setPart_41 : decode cX6_setPart 41 = .ok (.aload_n 0, 1) := by decide +kernel
theorem dX6_setPart_42 : decode cX6_setPart 42 = .ok (.getfield 164, 3) := by decide +kernel
theorem dX6_setPart_45 : decode cX6_setPart 45 = .ok (.iconst 0, 1) := by decide +kernel
theorem dX6_setPart_46 : decode cX6_setPart 46 = .ok (.iload_n 3, 1) := by decide +kernel
theorem dX6_setPart_47 : decode cX6_setPart 47 = .ok (.invokestatic 174, 3) := by decide +kernel
theorem dX6_setPart_50 : decode cX6_setPart 50 = .ok (.iconst 0, 1) := by decide +kernel
theorem dX6_setPart_51 : decode cX6_setPart 51 = .ok (.ireturn, 1) := by decide +kernel
theorem dX6_setSorted_0 : decode cX6_setSorted 0 = .ok (.aload_n 0, 1) := by decide +kernel
theorem dX6_setSorted_1 : decode cX6_setSorted 1 = .ok (.aload_n 1, 1) := by decide +kernel
theorem dX6_setSorted_2 : decode cX6_setSorted 2 = .ok (.invokevirtual 113, 3) := by decide +kernel
theorem dX6_setSorted_5 : decode cX6_setSorted 5 = .ok (.iconst 1, 1) := by decide +kernel
theorem dX6_setSorted_6 : decode cX6_setSorted 6 = .ok (.istore_n 2, 1) := by decide +kernel
theorem dX6_setSorted_7 : decode cX6_setSorted 7 = .ok (.iload_n 2, 1) := by decide +kernel
theorem dX6_setSorted_8 : decode cX6_setSorted 8 = .ok (.aload_n 0, 1) := by decide +kernel
theorem dX6_setSorted_9 : decode cX6_setSorted 9 = .ok (.getfield 132, 3) := by decide +kernel
theorem dX6_setSorted_12 : decode cX6_setSorted 12 = .ok (.if_icmp .ge 67, 3) := by decide +kernel
theorem dX6_setSorted_15 : decode cX6_setSorted 15 = .ok (.aload_n 0, 1) := by decide +kernel
theorem dX6_setSorted_16 : decode cX6_setSorted 16 = .ok (.getfield 164, 3) := by decide +kernel
theorem dX6_setSorted_19 : decode cX6_setSorted 19 = .ok (.iload_n 2, 1) := by decide +kernel
theorem dX6_setSorted_20 : decode cX6_setSorted 20 = .ok (.iaload, 1) := by decide +kernel
theorem dX6_setSorted_21 : decode cX6_setSorted 21 = .ok (.istore_n 3, 1) := by decide +kernel
theorem dX6_setSorted_22 : decode cX6_setSorted 22 = .ok (.iload_n 2, 1) := by decide +kernel
theorem dX6_setSorted_23 : decode cX6_setSorted 23 = .ok (.istore 4, 2) := by decide +kernel
theorem dX6_setSorted_25 : decode cX6_setSorted 25 = .ok (.iload 4, 2) := by decide +kernel
theorem dX6_setSorted_27 : decode cX6_setSorted 27 = .ok (.ifCond .le 38, 3) := by decide +kernel
theorem dX6_setSorted_30 : decode cX6_setSorted 30 = .ok (.aload_n 0, 1) := by decide +kernel
theorem dX6_setSorted_31 : decode cX6_setSorted 31 = .ok (.getfield 164, 3) := by decide +kernel
theorem dX6_setSorted_34 : decode cX6_setSorted 34 = .ok (.iload 4, 2) := by decide +kernel
theorem dX6_setSorted_36 : decode cX6_setSorted 36 = .ok (.iconst 1, 1) := by decide +kernel
theorem dX6_setSorted_37 : decode cX6_setSorted 37 = .ok (.isub, 1) := by decide +kernel
theorem dX6_setSorted_38 : decode cX6_setSorted 38 = .ok (.iaload, 1) := by decide +kernel
theorem dX6_setSorted_39 : decode cX6_setSorted 39 = .ok (.iload_n 3, 1) := by decide +kernel
theorem dX6_setSorted_40 : decode cX6_setSorted 40 = .ok (.if_icmp .le 25, 3) := by decide +kernel
theorem dX6_setSorted_43 : decode cX6_setSorted 43 = .ok (.aload_n 0, 1) := by decide +kernel
theorem dX6_setSorted_44 : decode cX6_setSorted 44 = .ok (.getfield 164, 3) := by decide +kernel
theorem dX6_setSorted_47 : decode cX6_setSorted 47 = .ok (.iload 4, 2) := by decide +kernel
theorem dX6_setSorted_49 : decode cX6_setSorted 49 = .ok (.aload_n 0, 1) := by decide +kernel
theorem dX6_setSorted_50 : decode cX6_setSorted 50 = .ok (.getfield 164, 3) := by decide +kernel
theorem dX6_setSorted_53 : decode cX6_setSorted 53 = .ok (.iload 4, 2) := by decide +kernel
theorem dX6_setSorted_55 : decode cX6_setSorted 55 = .ok (.iconst 1, 1) := by decide +kernel
theorem dX6_setSorted_56 : decode cX6_setSorted 56 = .ok (.isub, 1) := by decide +kernel
theorem dX6_setSorted_57 : decode cX6_setSorted 57 = .ok (.iaload, 1) := by decide +kernel
theorem dX6_setSorted_58 : decode cX6_setSorted 58 = .ok (.iastore, 1) := by decide +kernel
theorem dX6_setSorted_59 : decode cX6_setSorted 59 = .ok (.iinc 4 (-1), 3) := by decide +kernel
theorem dX6_setSorted_62 : decode cX6_setSorted 62 = .ok (.goto (-37), 3) := by decide +kernel
theorem dX6_setSorted_65 : decode cX6_setSorted 65 = .ok (.aload_n 0, 1) := by decide +kernel
theorem dX6_setSorted_66 : decode cX6_setSorted 66 = .ok (.getfield 164, 3) := by decide +kernel
theorem dX6_setSorted_69 : decode cX6_setSorted 69 = .ok (.iload 4, 2) := by decide +kernel
theorem dX6_setSorted_71 : decode cX6_setSorted 71 = .ok (.iload_n 3, 1) := by decide +kernel
theorem dX6_setSorted_72 : decode cX6_setSorted 72 = .ok (.iastore, 1) := by decide +kernel
theorem dX6_setSorted_73 : decode cX6_setSorted 73 = .ok (.iinc 2 1, 3) := by decide +kernel
theorem dX6_setSorted_76 : decode cX6_setSorted 76 = .ok (.goto (-69), 3) := by decide +kernel
theorem dX6_setSorted_79 : decode cX6_setSorted 79 = .ok (.return_, 1) := by decide +kernel
theorem dX6_setTurned_0 : decode cX6_setTurned 0 = .ok (.aload_n 0, 1) := by decide +kernel
theorem dX6_setTurned_1 : decode cX6_setTurned 1 = .ok (.aload_n 1, 1) := by decide +kernel
theorem dX6_setTurned_2 : decode cX6_setTurned 2 = .ok (.getfield 132, 3) := by decide +kernel
theorem dX6_setTurned_5 : decode cX6_setTurned 5 = .ok (.invokevirtual 171, 3) := by decide +kernel
theorem dX6_setTurned_8 : decode cX6_setTurned 8 = .ok (.iconst 0, 1) := by decide +kernel
theorem dX6_setTurned_9 : decode cX6_setTurned 9 = .ok (.istore_n 2, 1) := by decide +kernel
theorem dX6_setTurned_10 : decode cX6_setTurned 10 = .ok (.iload_n 2, 1) := by decide +kernel
theorem dX6_setTurned_11 : decode cX6_setTurned 11 = .ok (.aload_n 1, 1) := by decide +kernel
theorem dX6_setTurned_12 : decode cX6_setTurned 12 = .ok (.getfield 132, 3) := by decide +kernel
theorem dX6_setTurned_15 : decode cX6_setTurned 15 = .ok (.if_icmp .ge 28, 3) := by decide +kernel
theorem dX6_setTurned_18 : decode cX6_setTurned 18 = .ok (.aload_n 0, 1) := by decide +kernel
theorem dX6_setTurned_19 : decode cX6_setTurned 19 = .ok (.getfield 164, 3) := by decide +kernel
theorem dX6_setTurned_22 : decode cX6_setTurned 22 = .ok (.iload_n 2, 1) := by decide +kernel
theorem dX6_setTurned_23 : decode cX6_setTurned 23 = .ok (.aload_n 1, 1) := by decide +kernel
theorem dX6_setTurned_24 : decode cX6_setTurned 24 = .ok (.getfield 164, 3) := by decide +kernel
theorem dX6_setTurned_27 : decode cX6_setTurned 27 = .ok (.aload_n 1, 1) := by decide +kernel
theorem dX6_setTurned_28 : decode cX6_setTurned 28 = .ok (.getfield 132, 3) := by decide +kernel
theorem dX6_setTurned_31 : decode cX6_setTurned 31 = .ok (.iconst 1, 1) := by decide +kernel
theorem dX6_setTurned_32 : decode cX6_setTurned 32 = .ok (.isub, 1) := by decide +kernel
theorem dX6_setTurned_33 : decode cX6_setTurned 33 = .ok (.iload_n 2, 1) := by decide +kernel
theorem dX6_setTurned_34 : decode cX6_setTurned 34 = .ok (.isub, 1) := by decide +kernel
theorem dX6_setTurned_35 : decode cX6_setTurned 35 = .ok (.iaload, 1) := by decide +kernel
theorem dX6_setTurned_36 : decode cX6_setTurned 36 = .ok (.iastore, 1) := by decide +kernel
theorem dX6_setTurned_37 : decode cX6_setTurned 37 = .ok (.iinc 2 1, 3) := by decide +kernel
theorem dX6_setTurned_40 : decode cX6_setTurned 40 = .ok (.goto (-30), 3) := by decide +kernel
theorem dX6_setTurned_43 : decode cX6_setTurned 43 = .ok (.return_, 1) := by decide +kernel
theorem dX6_sum_0 : decode cX6_sum 0 = .ok (.iconst 0, 1) := by decide +kernel
theorem dX6_sum_1 : decode cX6_sum 1 = .ok (.istore_n 1, 1) := by decide +kernel
theorem dX6_sum_2 : decode cX6_sum 2 = .ok (.iconst 0, 1) := by decide +kernel
theorem dX6_sum_3 : decode cX6_sum 3 = .ok (.istore_n 2, 1) := by decide +kernel
theorem dX6_sum_4 : decode cX6_sum 4 = .ok (.iload_n 2, 1) := by decide +kernel
theorem dX6_sum_5 : decode cX6_sum 5 = .ok (.aload_n 0, 1) := by decide +kernel
theorem dX6_sum_6 : decode cX6_sum 6 = .ok (.getfield 132, 3) := by decide +kernel
theorem dX6_sum_9 : decode cX6_sum 9 = .ok (.if_icmp .ge 18, 3) := by decide +kernel
theorem dX6_sum_12 : decode cX6_sum 12 = .ok (.iload_n 1, 1) := by decide +kernel
theorem dX6_sum_13 : decode cX6_sum 13 = .ok (.aload_n 0, 1) := by decide +kernel
theorem dX6_sum_14 : decode cX6_sum 14 = .ok (.getfield 164, 3) := by decide +kernel
theorem dX6_sum_17 : decode cX6_sum 17 = .ok (.iload_n 2, 1) := by decide +kernel
theorem dX6_sum_18 : decode cX6_sum 18 = .ok (.iaload, 1) := by decide +kernel
theorem dX6_sum_19 : decode cX6_sum 19 = .ok (.iadd, 1) := by decide +kernel
theorem dX6_sum_20 : decode cX6_sum 20 = .ok (.istore_n 1, 1) := by decide +kernel
theorem dX6_sum_21 : decode cX6_sum 21 = .ok (.iinc 2 1, 3) := by decide +kernel
theorem dX6_sum_24 : decode cX6_sum 24 = .ok (.goto (-20), 3) := by decide +kernel
theorem dX6_sum_27 : decode cX6_sum 27 = .ok (.iload_n 1, 1) := by decide +kernel
theorem dX6_sum_28 : decode cX6_sum 28 = .ok (.ireturn, 1) := by decide +kernel
theorem dX7_init_0 : decode cX7_init 0 = .ok (.aload_n 0, 1) := by decide +kernel
theorem dX7_init_1 : decode cX7_init 1 = .ok (.invokespecial 1, 3) := by decide +kernel
theorem dX7_init_4 : decode cX7_init 4 = .ok (.aload_n 0, 1) := by decide +kernel
theorem dX7_init_5 : decode cX7_init 5 = .ok (.new 7, 3) := by decide +kernel
theorem dX7_init_8 : decode cX7_init 8 = .ok (.dup, 1) := by decide +kernel
theorem dX7_init_9 : decode cX7_init 9 = .ok (.invokespecial 9, 3) := by decide +kernel
theorem dX7_init_12 : decode cX7_init 12 = .ok (.putfield 10, 3) := by decide +kernel
theorem dX7_init_15 : decode cX7_init 15 = .ok (.aload_n 0, 1) := by decide +kernel
theorem dX7_init_16 : decode cX7_init 16 = .ok (.aload_n 0, 1) := by decide +kernel
theorem dX7_init_17 : decode cX7_init 17 = .ok (.getfield 10, 3) := by decide +kernel
theorem dX7_init_20 : decode cX7_init 20 = .ok (.getfield 16, 3) := by decide +kernel
theorem dX7_init_23 : decode cX7_init 23 = .ok (.putfield 20, 3) := by decide +kernel
theorem dX7_init_26 : decode cX7_init 26 = .ok (.aload_n 0, 1) := by decide +kernel
theorem dX7_init_27 : decode cX7_init 27 = .ok (.aload_n 0, 1) := by decide +kernel
theorem dX7_init_28 : decode cX7_init 28 = .ok (.getfield 10, 3) := by decide +kernel
theorem dX7_init_31 : decode cX7_init 31 = .ok (.getfield 21, 3) := by decide +kernel
theorem dX7_init_34 : decode cX7_init 34 = .ok (.putfield 25, 3) := by decide +kernel
theorem dX7_init_37 : decode cX7_init 37 = .ok (.aload_n 0, 1) := by decide +kernel
theorem dX7_init_38 : decode cX7_init 38 = .ok (.iconst 3, 1) := by decide +kernel
theorem dX7_init_39 : decode cX7_init 39 = .ok (.invokestatic 28, 3) := by decide +kernel
theorem dX7_init_42 : decode cX7_init 42 = .ok (.putfield 32, 3) := by decide +kernel
theorem dX7_init_45 : decode cX7_init 45 = .ok (.aload_n 0, 1) := by decide +kernel
theorem dX7_init_46 : decode cX7_init 46 = .ok (.new 35, 3) := by decide +kernel
theorem dX7_init_49 : decode cX7_init 49 = .ok (.dup, 1) := by decide +kernel
theorem dX7_init_50 : decode cX7_init 50 = .ok (.invokespecial 37, 3) := by decide +kernel
theorem dX7_init_53 : decode cX7_init 53 = .ok (.putfield 38, 3) := by decide +kernel
theorem dX7_init_56 : decode cX7_init 56 = .ok (.aload_n 0, 1) := by decide +kernel
theorem dX7_init_57 : decode cX7_init 57 = .ok (.bipush 8, 2) := by decide +kernel
theorem dX7_init_59 : decode cX7_init 59 = .ok (.anewarray 42, 3) := by decide +kernel
theorem dX7_init_62 : decode cX7_init 62 = .ok (.putfield 44, 3) := by decide +kernel
theorem dX7_init_65 : decode cX7_init 65 = .ok (.iconst 0, 1) := by decide +kernel
theorem dX7_init_66 : decode cX7_init 66 = .ok (.istore_n 1, 1) := by decide +kernel
theorem dX7_init_67 : decode cX7_init 67 = .ok (.iload_n 1, 1) := by decide +kernel
theorem dX7_init_68 : decode cX7_init 68 = .ok (.bipush 8, 2) := by decide +kernel
theorem dX7_init_70 : decode cX7_init 70 = .ok (.if_icmp .ge 22, 3) := by decide +kernel
theorem dX7_init_73 : decode cX7_init 73 = .ok (.aload_n 0, 1) := by decide +kernel
theorem dX7_init_74 : decode cX7_init 74 = .ok (.getfield 44, 3) := by decide +kernel
theorem dX7_init_77 : decode cX7_init 77 = .ok (.iload_n 1, 1) := by decide +kernel
theorem dX7_init_78 : decode cX7_init 78 = .ok (.new 42, 3) := by decide +kernel
theorem dX7_init_81 : decode cX7_init 81 = .ok (.dup, 1) := by decide +kernel
theorem dX7_init_82 : decode cX7_init 82 = .ok (.invokespecial 48, 3) := by decide +kernel
theorem dX7_init_85 : decode cX7_init 85 = .ok (.aastore, 1) := by decide +kernel
theorem dX7_init_86 : decode cX7_init 86 = .ok (.iinc 1 1, 3) := by decide +kernel
theorem dX7_init_89 : decode cX7_init 89 = .ok (.goto (-22), 3) := by decide +kernel
theorem dX7_init_92 : decode cX7_init 92 = .ok (.aload_n 0, 1) := by decide +kernel
theorem dX7_init_93 : decode cX7_init 93 = .ok (.new 49, 3) := by decide +kernel
theorem dX7_init_96 : decode cX7_init 96 = .ok (.dup, 1) := by decide +kernel
theorem dX7_init_97 : decode cX7_init 97 = .ok (.invokespecial 51, 3) := by decide +kernel
theorem dX7_init_100 : decode cX7_init 100 = .ok (.putfield 52, 3) := by decide +kernel
theorem dX7_init_103 : decode cX7_init 103 = .ok (.aload_n 0, 1) := by decide +kernel
theorem dX7_init_104 : decode cX7_init 104 = .ok (.iconst 0, 1) := by decide +kernel
theorem dX7_init_105 : decode cX7_init 105 = .ok (.putfield 56, 3) := by decide +kernel
theorem dX7_init_108 : decode cX7_init 108 = .ok (.aload_n 0, 1) := by decide +kernel
theorem dX7_init_109 : decode cX7_init 109 = .ok (.iconst (-1), 1) := by decide +kernel
theorem dX7_init_110 : decode cX7_init 110 = .ok (.putfield 60, 3) := by decide +kernel
theorem dX7_init_113 : decode cX7_init 113 = .ok (.return_, 1) := by decide +kernel
theorem dX7_term_0 : decode cX7_term 0 = .ok (.aload_n 0, 1) := by decide +kernel
theorem dX7_term_1 : decode cX7_term 1 = .ok (.getfield 20, 3) := by decide +kernel
theorem dX7_term_4 : decode cX7_term 4 = .ok (.iload_n 1, 1) := by decide +kernel
theorem dX7_term_5 : decode cX7_term 5 = .ok (.iload 5, 2) := by decide +kernel
theorem dX7_term_7 : decode cX7_term 7 = .ok (.invokevirtual 63, 3) := by decide +kernel
theorem dX7_term_10 : decode cX7_term 10 = .ok (.ifCond .eq 18, 3) := by decide +kernel
theorem dX7_term_13 : decode cX7_term 13 = .ok (.aload_n 0, 1) := by decide +kernel
theorem dX7_term_14 : decode cX7_term 14 = .ok (.getfield 20, 3) := by decide +kernel
theorem dX7_term_17 : decode cX7_term 17 = .ok (.iload_n 1, 1) := by decide +kernel
theorem dX7_term_18 : decode cX7_term 18 = .ok (.iload_n 2, 1) := by decide +kernel
theorem dX7_term_19 : decode cX7_term 19 = .ok (.iload_n 3, 1) := by decide +kernel
theorem dX7_term_20 : decode cX7_term 20 = .ok (.iload 4, 2) := by decide +kernel
theorem dX7_term_22 : decode cX7_term 22 = .ok (.invokevirtual 69, 3) := by decide +kernel
theorem dX7_term_25 : decode cX7_term 25 = .ok (.ifCond .ne 5, 3) := by decide +kernel
theorem dX7_term_28 : decode cX7_term 28 = .ok (.iconst (-1), 1) := by decide +kernel
theorem dX7_term_29 : decode cX7_term 29 = .ok (.ireturn, 1) := by decide +kernel
theorem dX7_term_30 : decode cX7_term 30 = .ok (.aload_n 0, 1) := by decide +kernel
theorem dX7_term_31 : decode cX7_term 31 = .ok (.getfield 20, 3) := by decide +kernel
theorem dX7_term_34 : decode cX7_term 34 = .ok (.getfield 73, 3) := by decide +kernel
theorem dX7_term_37 : decode cX7_term 37 = .ok (.bipush 60, 2) := by decide +kernel
theorem dX7_term_39 : decode cX7_term 39 = .ok (.if_icmp .lt 6, 3) := by decide +kernel
theorem dX7_term_42 : decode cX7_term 42 = .ok (.bipush (-2), 2) := by decide +kernel
theorem dX7_term_44 : decode cX7_term 44 = .ok (.ireturn, 1) := by decide +kernel
theorem dX7_term_45 : decode cX7_term 45 = .ok (.aload_n 0, 1) := by decide +kernel
theorem dX7_term_46 : decode cX7_term 46 = .ok (.getfield 20, 3) := by decide +kernel
theorem dX7_term_49 : decode cX7_term 49 = .ok (.iload_n 1, 1) := by decide +kernel
theorem dX7_term_50 : decode cX7_term 50 = .ok (.iload_n 2, 1) := by decide +kernel
theorem dX7_term_51 : decode cX7_term 51 = .ok (.iload_n 3, 1) := by decide +kernel
theorem dX7_term_52 : decode cX7_term 52 = .ok (.iload 4, 2) := by decide +kernel
theorem dX7_term_54 : decode cX7_term 54 = .ok (.iload 5, 2) := by decide +kernel
theorem dX7_term_56 : decode cX7_term 56 = .ok (.invokevirtual 76, 3) := by decide +kernel
theorem dX7_term_59 : decode cX7_term 59 = .ok (.ireturn, 1) := by decide +kernel
theorem dX7_property_0 : decode cX7_property 0 = .ok (.iload_n 1, 1) := by decide +kernel
theorem dX7_property_1 : decode cX7_property 1 = .ok (.invokestatic 80, 3) := by decide +kernel
theorem dX7_property_4 : decode cX7_property 4 = .ok (.ifCond .eq 29, 3) := by decide +kernel
theorem dX7_property_7 : decode cX7_property 7 = .ok (.iload_n 2, 1) := by decide +kernel
theorem dX7_property_8 : decode cX7_property 8 = .ok (.invokestatic 80, 3) := by decide +kernel
theorem dX7_property_11 : decode cX7_property 11 = .ok (.ifCond .eq 22, 3) := by decide +kernel
theorem dX7_property_14 : decode cX7_property 14 = .ok (.iload_n 3, 1) := by decide +kernel
theorem dX7_property_15 : decode cX7_property 15 = .ok (.invokestatic 80, 3) := by decide +kernel
theorem dX7_property_18 : decode cX7_property 18 = .ok (.ifCond .eq 15, 3) := by decide +kernel
theorem dX7_property_21 : decode cX7_property 21 = .ok (.iload 7, 2) := by decide +kernel
theorem dX7_property_23 : decode cX7_property 23 = .ok (.ifCond .lt 10, 3) := by decide +kernel
theorem dX7_property_26 : decode cX7_property 26 = .ok (.iload 7, 2) := by decide +kernel
theorem dX7_property_28 : decode cX7_property 28 = .ok (.bipush 7, 2) := by decide +kernel
theorem dX7_property_30 : decode cX7_property 30 = .ok (.if_icmp .le 5, 3) := by decide +kernel
theorem dX7_property_33 : decode cX7_property 33 = .ok (.iconst (-1), 1) := by decide +kernel
theorem dX7_property_34 : decode cX7_property 34 = .ok (.ireturn, 1) := by decide +kernel
theorem dX7_property_35 : decode cX7_property 35 = .ok (.aload_n 0, 1) := by decide +kernel
theorem dX7_property_36 : decode cX7_property 36 = .ok (.getfield 20, 3) := by decide +kernel
theorem dX7_property_39 : decode cX7_property 39 = .ok (.iload 4, 2) := by decide +kernel
theorem dX7_property_41 : decode cX7_property 41 = .ok (.invokevirtual 84, 3) := by decide +kernel
theorem dX7_property_44 : decode cX7_property 44 = .ok (.ifCond .eq 27, 3) := by decide +kernel
theorem dX7_property_47 : decode cX7_property 47 = .ok (.aload_n 0, 1) := by decide +kernel
theorem dX7_property_48 : decode cX7_property 48 = .ok (.getfield 20, 3) := by decide +kernel
theorem dX7_property_51 : decode cX7_property 51 = .ok (.iload 5, 2) := by decide +kernel
theorem dX7_property_53 : decode cX7_property 53 = .ok (.invokevirtual 87, 3) := by decide +kernel
theorem dX7_property_56 : decode cX7_property 56 = .ok (.ifCond .eq 15, 3) := by decide +kernel
theorem dX7_property_59 : decode cX7_property 59 = .ok (.aload_n 0, 1) := by decide +kernel
theorem dX7_property_60 : decode cX7_property 60 = .ok (.getfield 20, 3) := by decide +kernel
theorem dX7_property_63 : decode cX7_property 63 = .ok (.iload 6, 2) := by decide +kernel
theorem dX7_property_65 : decode cX7_property 65 = .ok (.invokevirtual 84, 3) := by decide +kernel
theorem dX7_property_68 : decode cX7_property 68 = .ok (.ifCond .ne 5, 3) := by decide +kernel
theorem dX7_property_71 : decode cX7_property 71 = .ok (.iconst (-1), 1) := by decide +kernel
theorem dX7_property_72 : decode cX7_property 72 = .ok (.ireturn, 1) := by decide +kernel
theorem dX7_property_73 : decode cX7_property 73 = .ok (.aload_n 0, 1) := by decide +kernel
theorem dX7_property_74 : decode cX7_property 74 = .ok (.getfield 56, 3) := by decide +kernel
theorem dX7_property_77 : decode cX7_property 77 = .ok (.bipush 8, 2) := by decide +kernel
theorem dX7_property_79 : decode cX7_property 79 = .ok (.if_icmp .lt 6, 3) := by decide +kernel
theorem dX7_property_82 : decode cX7_property 82 = .ok (.bipush (-2), 2) := by decide +kernel
theorem dX7_property_84 : decode cX7_property 84 = .ok (.ireturn, 1) := by decide +kernel
theorem dX7_property_85 : decode cX7_property 85 = .ok (.aload_n 0, 1) := by decide +kernel
theorem dX7_property_86 : decode cX7_property 86 = .ok (.getfield 44, 3) := by decide +kernel
theorem dX7_property_89 : decode cX7_property 89 = .ok (.aload_n 0, 1) := by decide +kernel
theorem dX7_property_90 : decode cX7_property 90 = .ok (.getfield 56, 3) := by decide +kernel
theorem dX7_property_93 : decode cX7_property 93 = .ok (.aaload, 1) := by decide +kernel
theorem dX7_property_94 : decode cX7_property 94 = .ok (.astore 8, 2) := by decide +kernel
theorem dX7_property_96 : decode cX7_property 96 = .ok (.aload 8, 2) := by decide +kernel
theorem dX7_property_98 : decode cX7_property 98 = .ok (.iload_n 1, 1) := by decide +kernel
theorem dX7_property_99 : decode cX7_property 99 = .ok (.iload_n 2, 1) := by decide +kernel
theorem dX7_property_100 : decode cX7_property 100 = .ok (.iload_n 3, 1) := by decide +kernel
theorem dX7_property_101 : decode cX7_property 101 = .ok (.invokevirtual 90, 3) := by decide +kernel
theorem dX7_property_104 : decode cX7_property 104 = .ok (.aload 8, 2) := by decide +kernel
theorem dX7_property_106 : decode cX7_property 106 = .ok (.iload 4, 2) := by decide +kernel
theorem dX7_property_108 : decode cX7_property 108 = .ok (.iload 5, 2) := by decide +kernel
theorem dX7_property_110 : decode cX7_property 110 = .ok (.iload 6, 2) := by decide +kernel
theorem dX7_property_112 : decode cX7_property 112 = .ok (.iload 7, 2) := by decide +kernel
theorem dX7_property_114 : decode cX7_property 114 = .ok (.invokevirtual 94, 3) := by decide +kernel
theorem dX7_property_117 : decode cX7_property 117 = .ok (.aload_n 0, 1) := by decide +kernel
theorem dX7_property_118 : decode cX7_property 118 = .ok (.dup, 1) := by decide +kernel
theorem dX7_property_119 : decode cX7_property 119 = .ok (.getfield 56, 3) := by decide +kernel
theorem dX7_property_122 : decode cX7_property 122 = .ok (.iconst 1, 1) := by decide +kernel
theorem dX7_property_123 : decode cX7_property 123 = .ok (.iadd, 1) := by decide +kernel
theorem dX7_property_124 : decode cX7_property 124 = .ok (.putfield 56, 3) := by decide +kernel
theorem dX7_property_127 : decode cX7_property 127 = .ok (.aload_n 0, 1) := by decide +kernel
theorem dX7_property_128 : decode cX7_property 128 = .ok (.getfield 56, 3) := by decide +kernel
theorem dX7_property_131 : decode cX7_property 131 = .ok (.iconst 1, 1) := by decide +kernel
theorem dX7_property_132 : decode cX7_property 132 = .ok (.isub, 1) := by decide +kernel
theorem dX7_property_133 : decode cX7_property 133 = .ok (.ireturn, 1) := by decide +kernel
theorem dX7_run_0 : decode cX7_run 0 = .ok (.aload_n 0, 1) := by decide +kernel
theorem dX7_run_1 : decode cX7_run 1 = .ok (.iload_n 1, 1) := by decide +kernel
theorem dX7_run_2 : decode cX7_run 2 = .ok (.invokevirtual 98, 3) := by decide +kernel
theorem dX7_run_5 : decode cX7_run 5 = .ok (.ifCond .eq 15, 3) := by decide +kernel
theorem dX7_run_8 : decode cX7_run 8 = .ok (.iload_n 2, 1) := by decide +kernel
theorem dX7_run_9 : decode cX7_run 9 = .ok (.iconst 1, 1) := by decide +kernel
theorem dX7_run_10 : decode cX7_run 10 = .ok (.if_icmp .lt 10, 3) := by decide +kernel
theorem dX7_run_13 : decode cX7_run 13 = .ok (.iload_n 2, 1) := by decide +kernel
theorem dX7_run_14 : decode cX7_run 14 = .ok (.sipush 200, 3) := by decide +kernel
theorem dX7_run_17 : decode cX7_run 17 = .ok (.if_icmp .le 5, 3) := by decide +kernel
theorem dX7_run_20 : decode cX7_run 20 = .ok (.iconst (-1), 1) := by decide +kernel
theorem dX7_run_21 : decode cX7_run 21 = .ok (.ireturn, 1) := by decide +kernel
theorem dX7_run_22 : decode cX7_run 22 = .ok (.aload_n 0, 1) := by decide +kernel
theorem dX7_run_23 : decode cX7_run 23 = .ok (.getfield 10, 3) := by decide +kernel
theorem dX7_run_26 : decode cX7_run 26 = .ok (.getfield 101, 3) := by decide +kernel
theorem dX7_run_29 : decode cX7_run 29 = .ok (.iload_n 2, 1) := by decide +kernel
theorem dX7_run_30 : decode cX7_run 30 = .ok (.iadd, 1) := by decide +kernel
theorem dX7_run_31 : decode cX7_run 31 = .ok (.sipush 200, 3) := by decide +kernel
theorem dX7_run_34 : decode cX7_run 34 = .ok (.iadd, 1) := by decide +kernel
theorem dX7_run_35 : decode cX7_run 35 = .ok (.sipush 3000, 3) := by decide +kernel
theorem dX7_run_38 : decode cX7_run 38 = .ok (.if_icmp .le 6, 3) := by decide +kernel
theorem dX7_run_41 : decode cX7_run 41 = .ok (.bipush (-2), 2) := by decide +kernel
theorem dX7_run_43 : decode cX7_run 43 = .ok (.ireturn, 1) := by decide +kernel
theorem dX7_run_44 : decode cX7_run 44 = .ok (.aload_n 0, 1) := by decide +kernel
theorem dX7_run_45 : decode cX7_run 45 = .ok (.invokevirtual 104, 3) := by decide +kernel
theorem dX7_run_48 : decode cX7_run 48 = .ok (.iconst 0, 1) := by decide +kernel
theorem dX7_run_49 : decode cX7_run 49 = .ok (.istore 4, 2) := by decide +kernel
theorem dX7_run_51 : decode cX7_run 51 = .ok (.iload 4, 2) := by decide +kernel
theorem dX7_run_53 : decode cX7_run 53 = .ok (.iload_n 2, 1) := by decide +kernel
theorem dX7_run_54 : decode cX7_run 54 = .ok (.if_icmp .ge 63, 3) := by decide +kernel
theorem dX7_run_57 : decode cX7_run 57 = .ok (.aload_n 0, 1) := by decide +kernel
theorem dX7_run_58 : decode cX7_run 58 = .ok (.getfield 60, 3) := by decide +kernel
theorem dX7_run_61 : decode cX7_run 61 = .ok (.ifCond .ge 56, 3) := by decide +kernel
theorem dX7_run_64 : decode cX7_run 64 = .ok (.iconst 0, 1) := by decide +kernel
theorem dX7_run_65 : decode cX7_run 65 = .ok (.istore 5, 2) := by decide +kernel
theorem dX7_run_67 : decode cX7_run 67 = .ok (.iload 5, 2) := by decide +kernel
theorem dX7_run_69 : decode cX7_run 69 = .ok (.iconst 3, 1) := by decide +kernel
theorem dX7_run_70 : decode cX7_run 70 = .ok (.if_icmp .ge 36, 3) := by decide +kernel
theorem dX7_run_73 : decode cX7_run 73 = .ok (.aload_n 0, 1) := by decide +kernel
theorem dX7_run_74 : decode cX7_run 74 = .ok (.getfield 25, 3) := by decide +kernel
theorem dX7_run_77 : decode cX7_run 77 = .ok (.iload 5, 2) := by decide +kernel
theorem dX7_run_79 : decode cX7_run 79 = .ok (.aaload, 1) := by decide +kernel
theorem dX7_run_80 : decode cX7_run 80 = .ok (.iload_n 3, 1) := by decide +kernel
theorem dX7_run_81 : decode cX7_run 81 = .ok (.iload 4, 2) := by decide +kernel
theorem dX7_run_83 : decode cX7_run 83 = .ok (.iload 5, 2) := by decide +kernel
theorem dX7_run_85 : decode cX7_run 85 = .ok (.aload_n 0, 1) := by decide +kernel
theorem dX7_run_86 : decode cX7_run 86 = .ok (.getfield 44, 3) := by decide +kernel
theorem dX7_run_89 : decode cX7_run 89 = .ok (.iload_n 1, 1) := by decide +kernel
theorem dX7_run_90 : decode cX7_run 90 = .ok (.aaload, 1) := by decide +kernel
theorem dX7_run_91 : decode cX7_run 91 = .ok (.getfield 107, 3) := by decide +kernel
theorem dX7_run_94 : decode cX7_run 94 = .ok (.iload 5, 2) := by decide +kernel
theorem dX7_run_96 : decode cX7_run 96 = .ok (.iaload, 1) := by decide +kernel
theorem dX7_run_97 : decode cX7_run 97 = .ok (.invokestatic 111, 3) := by decide +kernel
theorem dX7_run_100 : decode cX7_run 100 = .ok (.iinc 5 1, 3) := by decide +kernel
theorem dX7_run_103 : decode cX7_run 103 = .ok (.goto (-36), 3) := by decide +kernel
theorem dX7_run_106 : decode cX7_run 106 = .ok (.aload_n 0, 1) := by decide +kernel
theorem dX7_run_107 : decode cX7_run 107 = .ok (.iload_n 1, 1) := by decide +kernel
theorem dX7_run_108 : decode cX7_run 108 = .ok (.invokevirtual 117, 3) := by decide +kernel
theorem dX7_run_111 : decode cX7_run 111 = .ok (.iinc 4 1, 3) := by decide +kernel
theorem dX7_run_114 : decode cX7_run 114 = .ok (.goto (-63), 3) := by decide +kernel
theorem dX7_run_117 : decode cX7_run 117 = .ok (.aload_n 0, 1) := by decide +kernel
theorem dX7_run_118 : decode cX7_run 118 = .ok (.getfield 60, 3) := by decide +kernel
theorem dX7_run_121 : decode cX7_run 121 = .ok (.ifCond .lt 9, 3) := by decide +kernel
theorem dX7_run_124 : decode cX7_run 124 = .ok (.aload_n 0, 1) := by decide +kernel
theorem dX7_run_125 : decode cX7_run 125 = .ok (.invokevirtual 121, 3) := by decide +kernel
theorem dX7_run_128 : decode cX7_run 128 = .ok (.iconst 0, 1) := by decide +kernel
theorem dX7_run_129 : decode cX7_run 129 = .ok (.ireturn, 1) := by decide +kernel
theorem dX7_run_130 : decode cX7_run 130 = .ok (.aload_n 0, 1) := by decide +kernel
theorem dX7_run_131 : decode cX7_run 131 = .ok (.getfield 52, 3) := by decide +kernel
theorem dX7_run_134 : decode cX7_run 134 = .ok (.getfield 124, 3) := by decide +kernel
theorem dX7_run_137 : decode cX7_run 137 = .ok (.bipush 10, 2) := by decide +kernel
theorem dX7_run_139 : decode cX7_run 139 = .ok (.imul, 1) := by decide +kernel
theorem dX7_run_140 : decode cX7_run 140 = .ok (.iload_n 2, 1) := by decide +kernel
theorem dX7_run_141 : decode cX7_run 141 = .ok (.if_icmp .ge 7, 3) := by decide +kernel
theorem dX7_run_144 : decode cX7_run 144 = .ok (.iconst 2, 1) := by decide +kernel
theorem dX7_run_145 : decode cX7_run 145 = .ok (.goto 4, 3) := by decide +kernel
theorem dX7_run_148 : decode cX7_run 148 = .ok (.iconst 1, 1) := by decide +kernel
theorem dX7_run_149 : decode cX7_run 149 = .ok (.ireturn, 1) := by decide +kernel
theorem dX7_small_0 : decode cX7_small 0 = .ok (.aload_n 0, 1) := by decide +kernel
theorem dX7_small_1 : decode cX7_small 1 = .ok (.iload_n 1, 1) := by decide +kernel
theorem dX7_small_2 : decode cX7_small 2 = .ok (.invokevirtual 98, 3) := by decide +kernel
theorem dX7_small_5 : decode cX7_small 5 = .ok (.ifCond .eq 10, 3) := by decide +kernel
theorem dX7_small_8 : decode cX7_small 8 = .ok (.iload_n 2, 1) := by decide +kernel
theorem dX7_small_9 : decode cX7_small 9 = .ok (.invokestatic 127, 3) := by decide +kernel
theorem dX7_small_12 : decode cX7_small 12 = .ok (.ifCond .ne 5, 3) := by decide +kernel
theorem dX7_small_15 : decode cX7_small 15 = .ok (.iconst (-1), 1) := by decide +kernel
theorem dX7_small_16 : decode cX7_small 16 = .ok (.ireturn, 1) := by decide +kernel
theorem dX7_small_17 : decode cX7_small 17 = .ok (.aload_n 0, 1) := by decide +kernel
theorem dX7_small_18 : decode cX7_small 18 = .ok (.getfield 44, 3) := by decide +kernel
theorem dX7_small_21 : decode cX7_small 21 = .ok (.iload_n 1, 1) := by decide +kernel
theorem dX7_small_22 : decode cX7_small 22 = .ok (.aaload, 1) := by decide +kernel
theorem dX7_small_23 : decode cX7_small 23 = .ok (.getfield 107, 3) := by decide +kernel
theorem dX7_small_26 : decode cX7_small 26 = .ok (.iload_n 2, 1) := by decide +kernel
theorem dX7_small_27 : decode cX7_small 27 = .ok (.invokestatic 130, 3) := by decide +kernel
theorem dX7_small_30 : decode cX7_small 30 = .ok (.istore_n 3, 1) := by decide +kernel
theorem dX7_small_31 : decode cX7_small 31 = .ok (.aload_n 0, 1) := by decide +kernel
theorem dX7_small_32 : decode cX7_small 32 = .ok (.getfield 10, 3) := by decide +kernel
theorem dX7_small_35 : decode cX7_small 35 = .ok (.getfield 101, 3) := by decide +kernel
theorem dX7_small_38 : decode cX7_small 38 = .ok (.iload_n 3, 1) := by decide +kernel
theorem dX7_small_39 : decode cX7_small 39 = .ok (.iadd, 1) := by decide +kernel
theorem dX7_small_40 : decode cX7_small 40 = .ok (.sipush 3000, 3) := by decide +kernel
theorem dX7_small_43 : decode cX7_small 43 = .ok (.if_icmp .le 6, 3) := by decide +kernel
theorem dX7_small_46 : decode cX7_small 46 = .ok (.bipush (-2), 2) := by decide +kernel
theorem dX7_small_48 : decode cX7_small 48 = .ok (.ireturn, 1) := by decide +kernel
theorem dX7_small_49 : decode cX7_small 49 = .ok (.aload_n 0, 1) := by decide +kernel
theorem dX7_small_50 : decode cX7_small 50 = .ok (.invokevirtual 104, 3) := by decide +kernel
theorem dX7_small_53 : decode cX7_small 53 = .ok (.iconst 0, 1) := by decide +kernel
theorem dX7_small_54 : decode cX7_small 54 = .ok (.istore 4, 2) := by decide +kernel
theorem dX7_small_56 : decode cX7_small 56 = .ok (.iload 4, 2) := by decide +kernel
theorem dX7_small_58 : decode cX7_small 58 = .ok (.iload_n 3, 1) := by decide +kernel
theorem dX7_small_59 : decode cX7_small 59 = .ok (.if_icmp .ge 40, 3) := by decide +kernel
theorem dX7_small_62 : decode cX7_small 62 = .ok (.aload_n 0, 1) := by decide +kernel
theorem dX7_small_63 : decode cX7_small 63 = .ok (.getfield 60, 3) := by decide +kernel
theorem dX7_small_66 : decode cX7_small 66 = .ok (.ifCond .ge 33, 3) := by decide +kernel
theorem dX7_small_69 : decode cX7_small 69 = .ok (.aload_n 0, 1) := by decide +kernel
theorem dX7_small_70 : decode cX7_small 70 = .ok (.getfield 25, 3) := by decide +kernel
theorem dX7_small_73 : decode cX7_small 73 = .ok (.aload_n 0, 1) := by decide +kernel
theorem dX7_small_74 : decode cX7_small 74 = .ok (.getfield 44, 3) := by decide +kernel
theorem dX7_small_77 : decode cX7_small 77 = .ok (.iload_n 1, 1) := by decide +kernel
theorem dX7_small_78 : decode cX7_small 78 = .ok (.aaload, 1) := by decide +kernel
theorem dX7_small_79 : decode cX7_small 79 = .ok (.getfield 107, 3) := by decide +kernel
theorem dX7_small_82 : decode cX7_small 82 = .ok (.iload_n 2, 1) := by decide +kernel
theorem dX7_small_83 : decode cX7_small 83 = .ok (.iload 4, 2) := by decide +kernel
theorem dX7_small_85 : decode cX7_small 85 = .ok (.invokestatic 136, 3) := by decide +kernel
theorem dX7_small_88 : decode cX7_small 88 = .ok (.aload_n 0, 1) := by decide +kernel
theorem dX7_small_89 : decode cX7_small 89 = .ok (.iload_n 1, 1) := by decide +kernel
theorem dX7_small_90 : decode cX7_small 90 = .ok (.invokevirtual 117, 3) := by decide +kernel
theorem dX7_small_93 : decode cX7_small 93 = .ok (.iinc 4 1, 3) := by decide +kernel
theorem dX7_small_96 : decode cX7_small 96 = .ok (.goto (-40), 3) := by decide +kernel
theorem dX7_small_99 : decode cX7_small 99 = .ok (.aload_n 0, 1) := by decide +kernel
theorem dX7_small_100 : decode cX7_small 100 = .ok (.getfield 60, 3) := by decide +kernel
theorem dX7_small_103 : decode cX7_small 103 = .ok (.ifCond .lt 7, 3) := by decide +kernel
theorem dX7_small_106 : decode cX7_small 106 = .ok (.iconst 0, 1) := by decide +kernel
theorem dX7_small_107 : decode cX7_small 107 = .ok (.goto 4, 3) := by decide +kernel
theorem dX7_small_110 : decode cX7_small 110 = .ok (.iconst 1, 1) := by decide +kernel
theorem dX7_small_111 : decode cX7_small 111 = .ok (.ireturn, 1) := by decide +kernel
theorem dX7_many_0 : decode cX7_many 0 = .ok (.aload_n 0, 1) := by decide +kernel
theorem dX7_many_1 : decode cX7_many 1 = .ok (.iload_n 1, 1) := by decide +kernel
theorem dX7_many_2 : decode cX7_many 2 = .ok (.invokevirtual 98, 3) := by decide +kernel
theorem dX7_many_5 : decode cX7_many 5 = .ok (.ifCond .eq 10, 3) := by decide +kernel
theorem dX7_many_8 : decode cX7_many 8 = .ok (.iload_n 2, 1) := by decide +kernel
theorem dX7_many_9 : decode cX7_many 9 = .ok (.invokestatic 127, 3) := by decide +kernel
theorem dX7_many_12 : decode cX7_many 12 = .ok (.ifCond .ne 5, 3) := by decide +kernel
theorem dX7_many_15 : decode cX7_many 15 = .ok (.iconst (-1), 1) := by decide +kernel
theorem dX7_many_16 : decode cX7_many 16 = .ok (.ireturn, 1) := by decide +kernel
theorem dX7_many_17 : decode cX7_many 17 = .ok (.aload_n 0, 1) := by decide +kernel
theorem dX7_many_18 : decode cX7_many 18 = .ok (.getfield 44, 3) := by decide +kernel
theorem dX7_many_21 : decode cX7_many 21 = .ok (.iload_n 1, 1) := by decide +kernel
theorem dX7_many_22 : decode cX7_many 22 = .ok (.aaload, 1) := by decide +kernel
theorem dX7_many_23 : decode cX7_many 23 = .ok (.getfield 107, 3) := by decide +kernel
theorem dX7_many_26 : decode cX7_many 26 = .ok (.iload_n 2, 1) := by decide +kernel
theorem dX7_many_27 : decode cX7_many 27 = .ok (.invokestatic 130, 3) := by decide +kernel
theorem dX7_many_30 : decode cX7_many 30 = .ok (.istore_n 3, 1) := by decide +kernel
theorem dX7_many_31 : decode cX7_many 31 = .ok (.iload_n 3, 1) := by decide +kernel
theorem dX7_many_32 : decode cX7_many 32 = .ok (.sipush 3000, 3) := by decide +kernel
theorem dX7_many_35 : decode cX7_many 35 = .ok (.if_icmp .le 8, 3) := by decide +kernel
theorem dX7_many_38 : decode cX7_many 38 = .ok (.bipush (-2), 2) := by decide +kernel
theorem dX7_many_40 : decode cX7_many 40 = .ok (.goto 4, 3) := by decide +kernel
theorem dX7_many_43 : decode cX7_many 43 = .ok (.iload_n 3, 1) := by decide +kernel
theorem dX7_many_44 : decode cX7_many 44 = .ok (.ireturn, 1) := by decide +kernel
theorem dX7_again_0 : decode cX7_again 0 = .ok (.aload_n 0, 1) := by decide +kernel
theorem dX7_again_1 : decode cX7_again 1 = .ok (.getfield 60, 3) := by decide +kernel
theorem dX7_again_4 : decode cX7_again 4 = .ok (.ifCond .ge 6, 3) := by decide +kernel
theorem dX7_again_7 : decode cX7_again 7 = .ok (.bipush (-2), 2) := by decide +kernel
theorem dX7_again_9 : decode cX7_again 9 = .ok (.ireturn, 1) := by decide +kernel
theorem dX7_again_10 : decode cX7_again 10 = .ok (.aload_n 0, 1) := by decide +kernel
theorem dX7_again_11 : decode cX7_again 11 = .ok (.getfield 10, 3) := by decide +kernel
theorem dX7_again_14 : decode cX7_again 14 = .ok (.getfield 101, 3) := by decide +kernel
theorem dX7_again_17 : decode cX7_again 17 = .ok (.sipush 3000, 3) := by decide +kernel
theorem dX7_again_20 : decode cX7_again 20 = .ok (.if_icmp .lt 6, 3) := by decide +kernel
theorem dX7_again_23 : decode cX7_again 23 = .ok (.bipush (-3), 2) := by decide +kernel
theorem dX7_again_25 : decode cX7_again 25 = .ok (.ireturn, 1) := by decide +kernel
theorem dX7_again_26 : decode cX7_again 26 = .ok (.aload_n 0, 1) := by decide +kernel
theorem dX7_again_27 : decode cX7_again 27 = .ok (.getfield 32, 3) := by decide +kernel
theorem dX7_again_30 : decode cX7_again 30 = .ok (.aload_n 0, 1) := by decide +kernel
theorem dX7_again_31 : decode cX7_again 31 = .ok (.getfield 25, 3) := by decide +kernel
theorem dX7_again_34 : decode cX7_again 34 = .ok (.invokestatic 140, 3) := by decide +kernel
theorem dX7_again_37 : decode cX7_again 37 = .ok (.aload_n 0, 1) := by decide +kernel
theorem dX7_again_38 : decode cX7_again 38 = .ok (.getfield 10, 3) := by decide +kernel
theorem dX7_again_41 : decode cX7_again 41 = .ok (.aload_n 0, 1) := by decide +kernel
theorem dX7_again_42 : decode cX7_again 42 = .ok (.getfield 44, 3) := by decide +kernel
theorem dX7_again_45 : decode cX7_again 45 = .ok (.aload_n 0, 1) := by decide +kernel
theorem dX7_again_46 : decode cX7_again 46 = .ok (.getfield 60, 3) := by decide +kernel
theorem dX7_again_49 : decode cX7_again 49 = .ok (.aaload, 1) := by decide +kernel
theorem dX7_again_50 : decode cX7_again 50 = .ok (.invokevirtual 144, 3) := by decide +kernel
theorem dX7_again_53 : decode cX7_again 53 = .ok (.ireturn, 1) := by decide +kernel
theorem dX7_counter_0 : decode cX7_counter 0 = .ok (.aload_n 0, 1) := by decide +kernel
theorem dX7_counter_1 : decode cX7_counter 1 = .ok (.getfield 60, 3) := by decide +kernel
theorem dX7_counter_4 : decode cX7_counter 4 = .ok (.ifCond .lt 12, 3) := by decide +kernel
theorem dX7_counter_7 : decode cX7_counter 7 = .ok (.iload_n 1, 1) := by decide +kernel
theorem dX7_counter_8 : decode cX7_counter 8 = .ok (.ifCond .lt 8, 3) := by decide +kernel
theorem dX7_counter_11 : decode cX7_counter 11 = .ok (.iload_n 1, 1) := by decide +kernel
theorem dX7_counter_12 : decode cX7_counter 12 = .ok (.iconst 3, 1) := by decide +kernel
theorem dX7_counter_13 : decode cX7_counter 13 = .ok (.if_icmp .lt 6, 3) := by decide +kernel
theorem dX7_counter_16 : decode cX7_counter 16 = .ok (.ldc 148, 2) := by decide +kernel
theorem dX7_counter_18 : decode cX7_counter 18 = .ok (.ireturn, 1) := by decide +kernel
theorem dX7_counter_19 : decode cX7_counter 19 = .ok (.aload_n 0, 1) := by decide +kernel
theorem dX7_counter_20 : decode cX7_counter 20 = .ok (.getfield 32, 3) := by decide +kernel
theorem dX7_counter_23 : decode cX7_counter 23 = .ok (.iload_n 1, 1) := by decide +kernel
theorem dX7_counter_24 : decode cX7_counter 24 = .ok (.aaload, 1) := by decide +kernel
theorem dX7_counter_25 : decode cX7_counter 25 = .ok (.iload_n 2, 1) := by decide +kernel
theorem dX7_counter_26 : decode cX7_counter 26 = .ok (.invokevirtual 149, 3) := by decide +kernel
theorem dX7_counter_29 : decode cX7_counter 29 = .ok (.ireturn, 1) := by decide +kernel
theorem dX7_drawn_0 : decode cX7_drawn 0 = .ok (.iload_n 2, 1) := by decide +kernel
theorem dX7_drawn_1 : decode cX7_drawn 1 = .ok (.ifCond .lt 30, 3) := by decide +kernel
theorem dX7_drawn_4 : decode cX7_drawn 4 = .ok (.iload_n 2, 1) := by decide +kernel
theorem dX7_drawn_5 : decode cX7_drawn 5 = .ok (.sipush 200, 3) := by decide +kernel
theorem dX7_drawn_8 : decode cX7_drawn 8 = .ok (.if_icmp .ge 23, 3) := by decide +kernel
theorem dX7_drawn_11 : decode cX7_drawn 11 = .ok (.iload_n 3, 1) := by decide +kernel
theorem dX7_drawn_12 : decode cX7_drawn 12 = .ok (.ifCond .lt 19, 3) := by decide +kernel
theorem dX7_drawn_15 : decode cX7_drawn 15 = .ok (.iload_n 3, 1) := by decide +kernel
theorem dX7_drawn_16 : decode cX7_drawn 16 = .ok (.iconst 3, 1) := by decide +kernel
theorem dX7_drawn_17 : decode cX7_drawn 17 = .ok (.if_icmp .ge 14, 3) := by decide +kernel
theorem dX7_drawn_20 : decode cX7_drawn 20 = .ok (.iload 4, 2) := by decide +kernel
theorem dX7_drawn_22 : decode cX7_drawn 22 = .ok (.ifCond .lt 9, 3) := by decide +kernel
theorem dX7_drawn_25 : decode cX7_drawn 25 = .ok (.iload 4, 2) := by decide +kernel
theorem dX7_drawn_27 : decode cX7_drawn 27 = .ok (.iconst 1, 1) := by decide +kernel
theorem dX7_drawn_28 : decode cX7_drawn 28 = .ok (.if_icmp .le 6, 3) := by decide +kernel
theorem dX7_drawn_31 : decode cX7_drawn 31 = .ok (.ldc 148, 2) := by decide +kernel
theorem dX7_drawn_33 : decode cX7_drawn 33 = .ok (.ireturn, 1) := by decide +kernel
theorem dX7_drawn_34 : decode cX7_drawn 34 = .ok (.aload_n 0, 1) := by decide +kernel
theorem dX7_drawn_35 : decode cX7_drawn 35 = .ok (.getfield 38, 3) := by decide +kernel
theorem dX7_drawn_38 : decode cX7_drawn 38 = .ok (.iload_n 1, 1) := by decide +kernel
theorem dX7_drawn_39 : decode cX7_drawn 39 = .ok (.iload_n 2, 1) := by decide +kernel
theorem dX7_drawn_40 : decode cX7_drawn 40 = .ok (.iload_n 3, 1) := by decide +kernel
theorem dX7_drawn_41 : decode cX7_drawn 41 = .ok (.iload 4, 2) := by decide +kernel
theorem dX7_drawn_43 : decode cX7_drawn 43 = .ok (.invokestatic 111, 3) := by decide +kernel
theorem dX7_drawn_46 : decode cX7_drawn 46 = .ok (.aload_n 0, 1) := by decide +kernel
theorem dX7_drawn_47 : decode cX7_drawn 47 = .ok (.getfield 38, 3) := by decide +kernel
theorem dX7_drawn_50 : decode cX7_drawn 50 = .ok (.iload 5, 2) := by decide +kernel
theorem dX7_drawn_52 : decode cX7_drawn 52 = .ok (.invokevirtual 149, 3) := by decide +kernel
theorem dX7_drawn_55 : decode cX7_drawn 55 = .ok (.ireturn, 1) := by decide +kernel
theorem dX7_told_0 : decode cX7_told 0 = .ok (.iload_n 1, 1) := by decide +kernel
theorem dX7_told_1 : decode cX7_told 1 = .ok (.tableswitch 48 8 10 #[27, 35, 40], 27) := by decide +kernel
theorem dX7_told_28 : decode cX7_told 28 = .ok (.aload_n 0, 1) := by decide +kernel
theorem dX7_told_29 : decode cX7_told 29 = .ok (.getfield 20, 3) := by decide +kernel
theorem dX7_told_32 : decode cX7_told 32 = .ok (.getfield 73, 3) := by decide +kernel
theorem dX7_told_35 : decode cX7_told 35 = .ok (.ireturn, 1) := by decide +kernel
theorem dX7_told_36 : decode cX7_told 36 = .ok (.aload_n 0, 1) := by decide +kernel
theorem dX7_told_37 : decode cX7_told 37 = .ok (.getfield 56, 3) := by decide +kernel
theorem dX7_told_40 : decode cX7_told 40 = .ok (.ireturn, 1) := by decide +kernel
theorem dX7_told_41 : decode cX7_told 41 = .ok (.aload_n 0, 1) := by decide +kernel
theorem dX7_told_42 : decode cX7_told 42 = .ok (.getfield 10, 3) := by decide +kernel
theorem dX7_told_45 : decode cX7_told 45 = .ok (.getfield 101, 3) := by decide +kernel
theorem dX7_told_48 : decode cX7_told 48 = .ok (.ireturn, 1) := by decide +kernel
theorem dX7_told_49 : decode cX7_told 49 = .ok (.aload_n 0, 1) := by decide +kernel
theorem dX7_told_50 : decode cX7_told 50 = .ok (.getfield 52, 3) := by decide +kernel
theorem dX7_told_53 : decode cX7_told 53 = .ok (.iload_n 1, 1) := by decide +kernel
theorem dX7_told_54 : decode cX7_told 54 = .ok (.invokevirtual 153, 3) := by decide +kernel
theorem dX7_told_57 : decode cX7_told 57 = .ok (.ireturn, 1) := by decide +kernel
theorem dX7_label_0 : decode cX7_label 0 = .ok (.iload_n 1, 1) := by decide +kernel
theorem dX7_label_1 : decode cX7_label 1 = .ok (.ifCond .lt 9, 3) := by decide +kernel
theorem dX7_label_4 : decode cX7_label 4 = .ok (.iload_n 1, 1) := by decide +kernel
theorem dX7_label_5 : decode cX7_label 5 = .ok (.bipush 9, 2) := by decide +kernel
theorem dX7_label_7 : decode cX7_label 7 = .ok (.if_icmp .lt 7, 3) := by decide +kernel
theorem dX7_label_10 : decode cX7_label 10 = .ok (.iconst (-1), 1) := by decide +kernel
theorem dX7_label_11 : decode cX7_label 11 = .ok (.goto 12, 3) := by decide +kernel
theorem dX7_label_14 : decode cX7_label 14 = .ok (.aload_n 0, 1) := by decide +kernel
theorem dX7_label_15 : decode cX7_label 15 = .ok (.getfield 52, 3) := by decide +kernel
theorem dX7_label_18 : decode cX7_label 18 = .ok (.getfield 154, 3) := by decide +kernel
theorem dX7_label_21 : decode cX7_label 21 = .ok (.iload_n 1, 1) := by decide +kernel
theorem dX7_label_22 : decode cX7_label 22 = .ok (.iaload, 1) := by decide +kernel
theorem dX7_label_23 : decode cX7_label 23 = .ok (.ireturn, 1) := by decide +kernel
theorem dX7_newValues_0 : decode cX7_newValues 0 = .ok (.iload_n 0, 1) := by decide +kernel
theorem dX7_newValues_1 : decode cX7_newValues 1 = .ok (.anewarray 35, 3) := by decide +kernel
theorem dX7_newValues_4 : decode cX7_newValues 4 = .ok (.astore_n 1, 1) := by decide +kernel
theorem dX7_newValues_5 : decode cX7_newValues 5 = .ok (.iconst 0, 1) := by decide +kernel
theorem dX7_newValues_6 : decode cX7_newValues 6 = .ok (.istore_n 2, 1) := by decide +kernel
theorem dX7_newValues_7 : decode cX7_newValues 7 = .ok (.iload_n 2, 1) := by decide +kernel
theorem dX7_newValues_8 : decode cX7_newValues 8 = .ok (.iload_n 0, 1) := by decide +kernel
theorem dX7_newValues_9 : decode cX7_newValues 9 = .ok (.if_icmp .ge 19, 3) := by decide +kernel
theorem dX7_newValues_12 : decode cX7_newValues 12 = .ok (.aload_n 1, 1) := by decide +kernel
theorem dX7_newValues_13 : decode cX7_newValues 13 = .ok (.iload_n 2, 1) := by decide +kernel
theorem dX7_newValues_14 : decode cX7_newValues 14 = .ok (.new 35, 3) := by decide +kernel
theorem dX7_newValues_17 : decode cX7_newValues 17 = .ok (.dup, 1) := by decide +kernel
theorem dX7_newValues_18 : decode cX7_newValues 18 = .ok (.invokespecial 37, 3) := by decide +kernel
theorem dX7_newValues_21 : decode cX7_newValues 21 = .ok (.aastore, 1) := by decide +kernel
theorem dX7_newValues_22 : decode cX7_newValues 22 = .ok (.iinc 2 1, 3) := by decide +kernel
theorem dX7_newValues_25 : decode cX7_newValues 25 = .ok (.goto (-18), 3) := by decide +kernel
theorem dX7_newValues_28 : decode cX7_newValues 28 = .ok (.aload_n 1, 1) := by decide +kernel
theorem dX7_newValues_29 : decode cX7_newValues 29 = .ok (.areturn, 1) := by decide +kernel
theorem dX7_copyAll_0 : decode cX7_copyAll 0 = .ok (.iconst 0, 1) := by decide +kernel
theorem dX7_copyAll_1 : decode cX7_copyAll 1 = .ok (.istore_n 2, 1) := by decide +kernel
theorem dX7_copyAll_2 : decode cX7_copyAll 2 = .ok (.iload_n 2, 1) := by decide +kernel
theorem dX7_copyAll_3 : decode cX7_copyAll 3 = .ok (.iconst 3, 1) := by decide +kernel
theorem dX7_copyAll_4 : decode cX7_copyAll 4 = .ok (.if_icmp .ge 18, 3) := by decide +kernel
theorem dX7_copyAll_7 : decode cX7_copyAll 7 = .ok (.aload_n 1, 1) := by decide +kernel
theorem dX7_copyAll_8 : decode cX7_copyAll 8 = .ok (.iload_n 2, 1) := by decide +kernel
theorem dX7_copyAll_9 : decode cX7_copyAll 9 = .ok (.aaload, 1) := by decide +kernel
theorem dX7_copyAll_10 : decode cX7_copyAll 10 = .ok (.aload_n 0, 1) := by decide +kernel
theorem dX7_copyAll_11 : decode cX7_copyAll 11 = .ok (.iload_n 2, 1) := by decide +kernel
theorem dX7_copyAll_12 : decode cX7_copyAll 12 = .ok (.aaload, 1) := by decide +kernel
theorem dX7_copyAll_13 : decode cX7_copyAll 13 = .ok (.invokevirtual 157, 3) := by decide +kernel
theorem dX7_copyAll_16 : decode cX7_copyAll 16 = .ok (.iinc 2 1, 3) := by decide +kernel
theorem dX7_copyAll_19 : decode cX7_copyAll 19 = .ok (.goto (-17), 3) := by decide +kernel
theorem dX7_copyAll_22 : decode cX7_copyAll 22 = .ok (.return_, 1) := by decide +kernel
theorem dX7_isType_0 : decode cX7_isType 0 = .ok (.iload_n 0, 1) := by decide +kernel
theorem dX7_isType_1 : decode cX7_isType 1 = .ok (.iconst (-1), 1) := by decide +kernel
theorem dX7_isType_2 : decode cX7_isType 2 = .ok (.if_icmp .lt 12, 3) := by decide +kernel
theorem dX7_isType_5 : decode cX7_isType 5 = .ok (.iload_n 0, 1) := by decide +kernel
theorem dX7_isType_6 : decode cX7_isType 6 = .ok (.iconst 1, 1) := by decide +kernel
theorem dX7_isType_7 : decode cX7_isType 7 = .ok (.if_icmp .gt 7, 3) := by decide +kernel
theorem dX7_isType_10 : decode cX7_isType 10 = .ok (.iconst 1, 1) := by decide +kernel
theorem dX7_isType_11 : decode cX7_isType 11 = .ok (.goto 4, 3) := by decide +kernel
theorem dX7_isType_14 : decode cX7_isType 14 = .ok (.iconst 0, 1) := by decide +kernel
theorem dX7_isType_15 : decode cX7_isType 15 = .ok (.ireturn, 1) := by decide +kernel
theorem dX7_isSmall_0 : decode cX7_isSmall 0 = .ok (.iload_n 0, 1) := by decide +kernel
theorem dX7_isSmall_1 : decode cX7_isSmall 1 = .ok (.ifCond .lt 12, 3) := by decide +kernel
theorem dX7_isSmall_4 : decode cX7_isSmall 4 = .ok (.iload_n 0, 1) := by decide +kernel
theorem dX7_isSmall_5 : decode cX7_isSmall 5 = .ok (.iconst 3, 1) := by decide +kernel
theorem dX7_isSmall_6 : decode cX7_isSmall 6 = .ok (.if_icmp .gt 7, 3) := by decide +kernel
theorem dX7_isSmall_9 : decode cX7_isSmall 9 = .ok (.iconst 1, 1) := by decide +kernel
theorem dX7_isSmall_10 : decode cX7_isSmall 10 = .ok (.goto 4, 3) := by decide +kernel
theorem dX7_isSmall_13 : decode cX7_isSmall 13 = .ok (.iconst 0, 1) := by decide +kernel
theorem dX7_isSmall_14 : decode cX7_isSmall 14 = .ok (.ireturn, 1) := by decide +kernel
theorem dX7_isProperty_0 : decode cX7_isProperty 0 = .ok (.iload_n 1, 1) := by decide +kernel
theorem dX7_isProperty_1 : decode cX7_isProperty 1 = .ok (.ifCond .lt 15, 3) := by decide +kernel
theorem dX7_isProperty_4 : decode cX7_isProperty 4 = .ok (.iload_n 1, 1) := by decide +kernel
theorem dX7_isProperty_5 : decode cX7_isProperty 5 = .ok (.aload_n 0, 1) := by decide +kernel
theorem dX7_isProperty_6 : decode cX7_isProperty 6 = .ok (.getfield 56, 3) := by decide +kernel
theorem dX7_isProperty_9 : decode cX7_isProperty 9 = .ok (.if_icmp .ge 7, 3) := by decide +kernel
theorem dX7_isProperty_12 : decode cX7_isProperty 12 = .ok (.iconst 1, 1) := by decide +kernel
theorem dX7_isProperty_13 : decode cX7_isProperty 13 = .ok (.goto 4, 3) := by decide +kernel
theorem dX7_isProperty_16 : decode cX7_isProperty 16 = .ok (.iconst 0, 1) := by decide +kernel
theorem dX7_isProperty_17 : decode cX7_isProperty 17 = .ok (.ireturn, 1) := by decide +kernel
theorem dX7_forgetLatest_0 : decode cX7_forgetLatest 0 = .ok (.aload_n 0, 1) := by decide +kernel
theorem dX7_forgetLatest_1 : decode cX7_forgetLatest 1 = .ok (.getfield 52, 3) := by decide +kernel
theorem dX7_forgetLatest_4 : decode cX7_forgetLatest 4 = .ok (.invokevirtual 161, 3) := by decide +kernel
theorem dX7_forgetLatest_7 : decode cX7_forgetLatest 7 = .ok (.aload_n 0, 1) := by decide +kernel
theorem dX7_forgetLatest_8 : decode cX7_forgetLatest 8 = .ok (.iconst (-1), 1) := by decide +kernel
theorem dX7_forgetLatest_9 : decode cX7_forgetLatest 9 = .ok (.putfield 60, 3) := by decide +kernel
theorem dX7_forgetLatest_12 : decode cX7_forgetLatest 12 = .ok (.return_, 1) := by decide +kernel
theorem dX7_tryCase_0 : decode cX7_tryCase 0 = .ok (.aload_n 0, 1) := by decide +kernel
theorem dX7_tryCase_1 : decode cX7_tryCase 1 = .ok (.getfield 10, 3) := by decide +kernel
theorem dX7_tryCase_4 : decode cX7_tryCase 4 = .ok (.aload_n 0, 1) := by decide +kernel
theorem dX7_tryCase_5 : decode cX7_tryCase 5 = .ok (.getfield 44, 3) := by decide +kernel
theorem dX7_tryCase_8 : decode cX7_tryCase 8 = .ok (.iload_n 1, 1) := by decide +kernel
theorem dX7_tryCase_9 : decode cX7_tryCase 9 = .ok (.aaload, 1) := by decide +kernel
theorem dX7_tryCase_10 : decode cX7_tryCase 10 = .ok (.invokevirtual 144, 3) := by decide +kernel
theorem dX7_tryCase_13 : decode cX7_tryCase 13 = .ok (.istore_n 2, 1) := by decide +kernel
theorem dX7_tryCase_14 : decode cX7_tryCase 14 = .ok (.aload_n 0, 1) := by decide +kernel
theorem dX7_tryCase_15 : decode cX7_tryCase 15 = .ok (.getfield 52, 3) := by decide +kernel
theorem dX7_tryCase_18 : decode cX7_tryCase 18 = .ok (.iload_n 2, 1) := by decide +kernel
theorem dX7_tryCase_19 : decode cX7_tryCase 19 = .ok (.invokevirtual 164, 3) := by decide +kernel
theorem dX7_tryCase_22 : decode cX7_tryCase 22 = .ok (.iload_n 2, 1) := by decide +kernel
theorem dX7_tryCase_23 : decode cX7_tryCase 23 = .ok (.ifCond .ne 40, 3) := by decide +kernel
theorem dX7_tryCase_26 : decode cX7_tryCase 26 = .ok (.aload_n 0, 1) := by decide +kernel
theorem dX7_tryCase_27 : decode cX7_tryCase 27 = .ok (.getfield 44, 3) := by decide +kernel
theorem dX7_tryCase_30 : decode cX7_tryCase 30 = .ok (.iload_n 1, 1) := by decide +kernel
theorem dX7_tryCase_31 : decode cX7_tryCase 31 = .ok (.aaload, 1) := by decide +kernel
theorem dX7_tryCase_32 : decode cX7_tryCase 32 = .ok (.getfield 167, 3) := by decide +kernel
theorem dX7_tryCase_35 : decode cX7_tryCase 35 = .ok (.ifCond .lt 28, 3) := by decide +kernel
theorem dX7_tryCase_38 : decode cX7_tryCase 38 = .ok (.aload_n 0, 1) := by decide +kernel
theorem dX7_tryCase_39 : decode cX7_tryCase 39 = .ok (.getfield 52, 3) := by decide +kernel
theorem dX7_tryCase_42 : decode cX7_tryCase 42 = .ok (.getfield 154, 3) := by decide +kernel
theorem dX7_tryCase_45 : decode cX7_tryCase 45 = .ok (.aload_n 0, 1) := by decide +kernel
theorem dX7_tryCase_46 : decode cX7_tryCase 46 = .ok (.getfield 10, 3) := by decide +kernel
theorem dX7_tryCase_49 : decode cX7_tryCase 49 = .ok (.aload_n 0, 1) := by decide +kernel
theorem dX7_tryCase_50 : decode cX7_tryCase 50 = .ok (.getfield 44, 3) := by decide +kernel
theorem dX7_tryCase_53 : decode cX7_tryCase 53 = .ok (.iload_n 1, 1) := by decide +kernel
theorem dX7_tryCase_54 : decode cX7_tryCase 54 = .ok (.aaload, 1) := by decide +kernel
theorem dX7_tryCase_55 : decode cX7_tryCase 55 = .ok (.invokevirtual 170, 3) := by decide +kernel
theorem dX7_tryCase_58 : decode cX7_tryCase 58 = .ok (.dup2, 1) := by decide +kernel
theorem dX7_tryCase_59 : decode cX7_tryCase 59 = .ok (.iaload, 1) := by decide +kernel
theorem dX7_tryCase_60 : decode cX7_tryCase 60 = .ok (.iconst 1, 1) := by decide +kernel
theorem dX7_tryCase_61 : decode cX7_tryCase 61 = .ok (.iadd, 1) := by decide +kernel
theorem dX7_tryCase_62 : decode cX7_tryCase 62 = .ok (.iastore, 1) := by decide +kernel
theorem dX7_tryCase_63 : decode cX7_tryCase 63 = .ok (.iload_n 2, 1) := by decide +kernel
theorem dX7_tryCase_64 : decode cX7_tryCase 64 = .ok (.ifCond .le 19, 3) := by decide +kernel
theorem dX7_tryCase_67 : decode cX7_tryCase 67 = .ok (.aload_n 0, 1) := by decide +kernel
theorem dX7_tryCase_68 : decode cX7_tryCase 68 = .ok (.iload_n 1, 1) := by decide +kernel
theorem dX7_tryCase_69 : decode cX7_tryCase 69 = .ok (.putfield 60, 3) := by decide +kernel
theorem dX7_tryCase_72 : decode cX7_tryCase 72 = .ok (.aload_n 0, 1) := by decide +kernel
theorem dX7_tryCase_73 : decode cX7_tryCase 73 = .ok (.getfield 25, 3) := by decide +kernel
theorem dX7_tryCase_76 : decode cX7_tryCase 76 = .ok (.aload_n 0, 1) := by decide +kernel
theorem dX7_tryCase_77 : decode cX7_tryCase 77 = .ok (.getfield 32, 3) := by decide +kernel
theorem dX7_tryCase_80 : decode cX7_tryCase 80 = .ok (.invokestatic 140, 3) := by decide +kernel
theorem dX7_tryCase_83 : decode cX7_tryCase 83 = .ok (.return_, 1) := by decide +kernel
theorem dX7_makeSmaller_0 : decode cX7_makeSmaller 0 = .ok (.iconst 0, 1) := by decide +kernel
theorem dX7_makeSmaller_1 : decode cX7_makeSmaller 1 = .ok (.istore_n 1, 1) := by decide +kernel
theorem dX7_makeSmaller_2 : decode cX7_makeSmaller 2 = .ok (.iconst 0, 1) := by decide +kernel
theorem dX7_makeSmaller_3 : decode cX7_makeSmaller 3 = .ok (.istore_n 2, 1) := by decide +kernel
theorem dX7_makeSmaller_4 : decode cX7_makeSmaller 4 = .ok (.iload_n 2, 1) := by decide +kernel
theorem dX7_makeSmaller_5 : decode cX7_makeSmaller 5 = .ok (.sipush 200, 3) := by decide +kernel
theorem dX7_makeSmaller_8 : decode cX7_makeSmaller 8 = .ok (.if_icmp .ge 85, 3) := by decide +kernel
theorem dX7_makeSmaller_11 : decode cX7_makeSmaller 11 = .ok (.aload_n 0, 1) := by decide +kernel
theorem dX7_makeSmaller_12 : decode cX7_makeSmaller 12 = .ok (.iload_n 1, 1) := by decide +kernel
theorem dX7_makeSmaller_13 : decode cX7_makeSmaller 13 = .ok (.invokevirtual 173, 3) := by decide +kernel
theorem dX7_makeSmaller_16 : decode cX7_makeSmaller 16 = .ok (.ifCond .eq 77, 3) := by decide +kernel
theorem dX7_makeSmaller_19 : decode cX7_makeSmaller 19 = .ok (.aload_n 0, 1) := by decide +kernel
theorem dX7_makeSmaller_20 : decode cX7_makeSmaller 20 = .ok (.getfield 52, 3) := by decide +kernel
theorem dX7_makeSmaller_23 : decode cX7_makeSmaller 23 = .ok (.dup, 1) := by decide +kernel
theorem dX7_makeSmaller_24 : decode cX7_makeSmaller 24 = .ok (.getfield 176, 3) := by decide +kernel
theorem dX7_makeSmaller_27 : decode cX7_makeSmaller 27 = .ok (.iconst 1, 1) := by decide +kernel
theorem dX7_makeSmaller_28 : decode cX7_makeSmaller 28 = .ok (.iadd, 1) := by decide +kernel
theorem dX7_makeSmaller_29 : decode cX7_makeSmaller 29 = .ok (.putfield 176, 3) := by decide +kernel
theorem dX7_makeSmaller_32 : decode cX7_makeSmaller 32 = .ok (.iinc 1 1, 3) := by decide +kernel
theorem dX7_makeSmaller_35 : decode cX7_makeSmaller 35 = .ok (.aload_n 0, 1) := by decide +kernel
theorem dX7_makeSmaller_36 : decode cX7_makeSmaller 36 = .ok (.getfield 10, 3) := by decide +kernel
theorem dX7_makeSmaller_39 : decode cX7_makeSmaller 39 = .ok (.aload_n 0, 1) := by decide +kernel
theorem dX7_makeSmaller_40 : decode cX7_makeSmaller 40 = .ok (.getfield 44, 3) := by decide +kernel
theorem dX7_makeSmaller_43 : decode cX7_makeSmaller 43 = .ok (.aload_n 0, 1) := by decide +kernel
theorem dX7_makeSmaller_44 : decode cX7_makeSmaller 44 = .ok (.getfield 60, 3) := by decide +kernel
theorem dX7_makeSmaller_47 : decode cX7_makeSmaller 47 = .ok (.aaload, 1) := by decide +kernel
theorem dX7_makeSmaller_48 : decode cX7_makeSmaller 48 = .ok (.invokevirtual 144, 3) := by decide +kernel
theorem dX7_makeSmaller_51 : decode cX7_makeSmaller 51 = .ok (.aload_n 0, 1) := by decide +kernel
theorem dX7_makeSmaller_52 : decode cX7_makeSmaller 52 = .ok (.getfield 52, 3) := by decide +kernel
theorem dX7_makeSmaller_55 : decode cX7_makeSmaller 55 = .ok (.getfield 179, 3) := by decide +kernel
theorem dX7_makeSmaller_58 : decode cX7_makeSmaller 58 = .ok (.if_icmp .ne 29, 3) := by decide +kernel
theorem dX7_makeSmaller_61 : decode cX7_makeSmaller 61 = .ok (.aload_n 0, 1) := by decide +kernel
theorem dX7_makeSmaller_62 : decode cX7_makeSmaller 62 = .ok (.getfield 52, 3) := by decide +kernel
theorem dX7_makeSmaller_65 : decode cX7_makeSmaller 65 = .ok (.dup, 1) := by decide +kernel
theorem dX7_makeSmaller_66 : decode cX7_makeSmaller 66 = .ok (.getfield 181, 3) := by decide +kernel
theorem dX7_makeSmaller_69 : decode cX7_makeSmaller 69 = .ok (.iconst 1, 1) := by decide +kernel
theorem dX7_makeSmaller_70 : decode cX7_makeSmaller 70 = .ok (.iadd, 1) := by decide +kernel
theorem dX7_makeSmaller_71 : decode cX7_makeSmaller 71 = .ok (.putfield 181, 3) := by decide +kernel
theorem dX7_makeSmaller_74 : decode cX7_makeSmaller 74 = .ok (.aload_n 0, 1) := by decide +kernel
theorem dX7_makeSmaller_75 : decode cX7_makeSmaller 75 = .ok (.getfield 25, 3) := by decide +kernel
theorem dX7_makeSmaller_78 : decode cX7_makeSmaller 78 = .ok (.aload_n 0, 1) := by decide +kernel
theorem dX7_makeSmaller_79 : decode cX7_makeSmaller 79 = .ok (.getfield 32, 3) := by decide +kernel
theorem dX7_makeSmaller_82 : decode cX7_makeSmaller 82 = .ok (.invokestatic 140, 3) := by decide +kernel
theorem dX7_makeSmaller_85 : decode cX7_makeSmaller 85 = .ok (.iconst 0, 1) := by decide +kernel
theorem dX7_makeSmaller_86 : decode cX7_makeSmaller 86 = .ok (.istore_n 1, 1) := by decide +kernel
theorem dX7_makeSmaller_87 : decode cX7_makeSmaller 87 = .ok (.iinc 2 1, 3) := by decide +kernel
theorem dX7_makeSmaller_90 : decode cX7_makeSmaller 90 = .ok (.goto (-86), 3) := by decide +kernel
theorem dX7_makeSmaller_93 : decode cX7_makeSmaller 93 = .ok (.aload_n 0, 1) := by decide +kernel
theorem dX7_makeSmaller_94 : decode cX7_makeSmaller 94 = .ok (.getfield 52, 3) := by decide +kernel
theorem dX7_makeSmaller_97 : decode cX7_makeSmaller 97 = .ok (.aload_n 0, 1) := by decide +kernel
theorem dX7_makeSmaller_98 : decode cX7_makeSmaller 98 = .ok (.getfield 52, 3) := by decide +kernel
theorem dX7_makeSmaller_101 : decode cX7_makeSmaller 101 = .ok (.getfield 176, 3) := by decide +kernel
theorem dX7_makeSmaller_104 : decode cX7_makeSmaller 104 = .ok (.sipush 200, 3) := by decide +kernel
theorem dX7_makeSmaller_107 : decode cX7_makeSmaller 107 = .ok (.if_icmp .ge 7, 3) := by decide +kernel
theorem dX7_makeSmaller_110 : decode cX7_makeSmaller 110 = .ok (.iconst 1, 1) := by decide +kernel
theorem dX7_makeSmaller_111 : decode cX7_makeSmaller 111 = .ok (.goto 4, 3) := by decide +kernel
theorem dX7_makeSmaller_114 : decode cX7_makeSmaller 114 = .ok (.iconst 0, 1) := by decide +kernel
theorem dX7_makeSmaller_115 : decode cX7_makeSmaller 115 = .ok (.putfield 184, 3) := by decide +kernel
theorem dX7_makeSmaller_118 : decode cX7_makeSmaller 118 = .ok (.return_, 1) := by decide +kernel
theorem dX7_takeCandidate_0 : decode cX7_takeCandidate 0 = .ok (.iload_n 1, 1) := by decide +kernel
theorem dX7_takeCandidate_1 : decode cX7_takeCandidate 1 = .ok (.istore_n 2, 1) := by decide +kernel
theorem dX7_takeCandidate_2 : decode cX7_takeCandidate 2 = .ok (.iconst 0, 1) := by decide +kernel
theorem dX7_takeCandidate_3 : decode cX7_takeCandidate 3 = .ok (.istore_n 3, 1) := by decide +kernel
theorem dX7_takeCandidate_4 : decode cX7_takeCandidate 4 = .ok (.iload_n 3, 1) := by decide +kernel
theorem dX7_takeCandidate_5 : decode cX7_takeCandidate 5 = .ok (.iconst 3, 1) := by decide +kernel
theorem dX7_takeCandidate_6 : decode cX7_takeCandidate 6 = .ok (.if_icmp .ge 54, 3) := by decide +kernel
theorem dX7_takeCandidate_9 : decode cX7_takeCandidate 9 = .ok (.aload_n 0, 1) := by decide +kernel
theorem dX7_takeCandidate_10 : decode cX7_takeCandidate 10 = .ok (.getfield 32, 3) := by decide +kernel
theorem dX7_takeCandidate_13 : decode cX7_takeCandidate 13 = .ok (.iload_n 3, 1) := by decide +kernel
theorem dX7_takeCandidate_14 : decode cX7_takeCandidate 14 = .ok (.aaload, 1) := by decide +kernel
theorem dX7_takeCandidate_15 : decode cX7_takeCandidate 15 = .ok (.invokevirtual 188, 3) := by decide +kernel
theorem dX7_takeCandidate_18 : decode cX7_takeCandidate 18 = .ok (.istore 4, 2) := by decide +kernel
theorem dX7_takeCandidate_20 : decode cX7_takeCandidate 20 = .ok (.iload_n 2, 1) := by decide +kernel
theorem dX7_takeCandidate_21 : decode cX7_takeCandidate 21 = .ok (.iload 4, 2) := by decide +kernel
theorem dX7_takeCandidate_23 : decode cX7_takeCandidate 23 = .ok (.if_icmp .ge 26, 3) := by decide +kernel
theorem dX7_takeCandidate_26 : decode cX7_takeCandidate 26 = .ok (.aload_n 0, 1) := by decide +kernel
theorem dX7_takeCandidate_27 : decode cX7_takeCandidate 27 = .ok (.getfield 32, 3) := by decide +kernel
theorem dX7_takeCandidate_30 : decode cX7_takeCandidate 30 = .ok (.aload_n 0, 1) := by decide +kernel
theorem dX7_takeCandidate_31 : decode cX7_takeCandidate 31 = .ok (.getfield 25, 3) := by decide +kernel
theorem dX7_takeCandidate_34 : decode cX7_takeCandidate 34 = .ok (.invokestatic 140, 3) := by decide +kernel
theorem dX7_takeCandidate_37 : decode cX7_takeCandidate 37 = .ok (.aload_n 0, 1) := by decide +kernel
theorem dX7_takeCandidate_38 : decode cX7_takeCandidate 38 = .ok (.getfield 25, 3) := by decide +kernel
theorem dX7_takeCandidate_41 : decode cX7_takeCandidate 41 = .ok (.iload_n 3, 1) := by decide +kernel
theorem dX7_takeCandidate_42 : decode cX7_takeCandidate 42 = .ok (.aaload, 1) := by decide +kernel
theorem dX7_takeCandidate_43 : decode cX7_takeCandidate 43 = .ok (.iload_n 2, 1) := by decide +kernel
theorem dX7_takeCandidate_44 : decode cX7_takeCandidate 44 = .ok (.invokevirtual 192, 3) := by decide +kernel
theorem dX7_takeCandidate_47 : decode cX7_takeCandidate 47 = .ok (.iconst 1, 1) := by decide +kernel
theorem dX7_takeCandidate_48 : decode cX7_takeCandidate 48 = .ok (.ireturn, 1) := by decide +kernel
theorem dX7_takeCandidate_49 : decode cX7_takeCandidate 49 = .ok (.iload_n 2, 1) := by decide +kernel
theorem dX7_takeCandidate_50 : decode cX7_takeCandidate 50 = .ok (.iload 4, 2) := by decide +kernel
theorem dX7_takeCandidate_52 : decode cX7_takeCandidate 52 = .ok (.isub, 1) := by decide +kernel
theorem dX7_takeCandidate_53 : decode cX7_takeCandidate 53 = .ok (.istore_n 2, 1) := by decide +kernel
theorem dX7_takeCandidate_54 : decode cX7_takeCandidate 54 = .ok (.iinc 3 1, 3) := by decide +kernel
theorem dX7_takeCandidate_57 : decode cX7_takeCandidate 57 = .ok (.goto (-53), 3) := by decide +kernel
theorem dX7_takeCandidate_60 : decode cX7_takeCandidate 60 = .ok (.iconst 0, 1) := by decide +kernel
theorem dX7_takeCandidate_61 : decode cX7_takeCandidate 61 = .ok (.ireturn, 1) := by decide +kernel
theorem dX8_init_0 : decode cX8_init 0 = .ok (.aload_n 0, 1) := by decide +kernel
theorem dX8_init_1 : decode cX8_init 1 = .ok (.invokespecial 1, 3) := by decide +kernel
theorem dX8_init_4 : decode cX8_init 4 = .ok (.aload_n 0, 1) := by decide +kernel
theorem dX8_init_5 : decode cX8_init 5 = .ok (.bipush 60, 2) := by decide +kernel
theorem dX8_init_7 : decode cX8_init 7 = .ok (.newarray .int, 2) := by decide +kernel
theorem dX8_init_9 : decode cX8_init 9 = .ok (.putfield 7, 3) := by decide +kernel
theorem dX8_init_12 : decode cX8_init 12 = .ok (.aload_n 0, 1) := by decide +kernel
theorem dX8_init_13 : decode cX8_init 13 = .ok (.bipush 60, 2) := by decide +kernel
theorem dX8_init_15 : decode cX8_init 15 = .ok (.newarray .int, 2) := by decide +kernel
theorem dX8_init_17 : decode cX8_init 17 = .ok (.putfield 13, 3) := by decide +kernel
theorem dX8_init_20 : decode cX8_init 20 = .ok (.aload_n 0, 1) := by decide +kernel
theorem dX8_init_21 : decode cX8_init 21 = .ok (.bipush 60, 2) := by decide +kernel
theorem dX8_init_23 : decode cX8_init 23 = .ok (.newarray .int, 2) := by decide +kernel
theorem dX8_init_25 : decode cX8_init 25 = .ok (.putfield 16, 3) := by decide +kernel
theorem dX8_init_28 : decode cX8_init 28 = .ok (.aload_n 0, 1) := by decide +kernel
theorem dX8_init_29 : decode cX8_init 29 = .ok (.bipush 60, 2) := by decide +kernel
theorem dX8_init_31 : decode cX8_init 31 = .ok (.newarray .int, 2) := by decide +kernel
theorem dX8_init_33 : decode cX8_init 33 = .ok (.putfield 19, 3) := by decide +kernel
theorem dX8_init_36 : decode cX8_init 36 = .ok (.aload_n 0, 1) := by decide +kernel
theorem dX8_init_37 : decode cX8_init 37 = .ok (.bipush 60, 2) := by decide +kernel
theorem dX8_init_39 : decode cX8_init 39 = .ok (.newarray .int, 2) := by decide +kernel
theorem dX8_init_41 : decode cX8_init 41 = .ok (.putfield 22, 3) := by decide +kernel
theorem dX8_init_44 : decode cX8_init 44 = .ok (.aload_n 0, 1) := by decide +kernel
theorem dX8_init_45 : decode cX8_init 45 = .ok (.iconst 3, 1) := by decide +kernel
theorem dX8_init_46 : decode cX8_init 46 = .ok (.newarray .int, 2) := by decide +kernel
theorem dX8_init_48 : decode cX8_init 48 = .ok (.putfield 25, 3) := by decide +kernel
theorem dX8_init_51 : decode cX8_init 51 = .ok (.aload_n 0, 1) := by decide +kernel
theorem dX8_init_52 : decode cX8_init 52 = .ok (.iconst 3, 1) := by decide +kernel
theorem dX8_init_53 : decode cX8_init 53 = .ok (.newarray .int, 2) := by decide +kernel
theorem dX8_init_55 : decode cX8_init 55 = .ok (.putfield 28, 3) := by decide +kernel
theorem dX8_init_58 : decode cX8_init 58 = .ok (.aload_n 0, 1) := by decide +kernel
theorem dX8_init_59 : decode cX8_init 59 = .ok (.bipush 48, 2) := by decide +kernel
theorem dX8_init_61 : decode cX8_init 61 = .ok (.newarray .int, 2) := by decide +kernel
theorem dX8_init_63 : decode cX8_init 63 = .ok (.putfield 31, 3) := by decide +kernel
theorem dX8_init_66 : decode cX8_init 66 = .ok (.aload_n 0, 1) := by decide +kernel
theorem dX8_init_67 : decode cX8_init 67 = .ok (.bipush 61, 2) := by decide +kernel
theorem dX8_init_69 : decode cX8_init 69 = .ok (.newarray .int, 2) := by decide +kernel
theorem dX8_init_71 : decode cX8_init 71 = .ok (.putfield 34, 3) := by decide +kernel
theorem dX8_init_74 : decode cX8_init 74 = .ok (.aload_n 0, 1) := by decide +kernel
theorem dX8_init_75 : decode cX8_init 75 = .ok (.bipush 61, 2) := by decide +kernel
theorem dX8_init_77 : decode cX8_init 77 = .ok (.newarray .int, 2) := by decide +kernel
theorem dX8_init_79 : decode cX8_init 79 = .ok (.putfield 37, 3) := by decide +kernel
theorem dX8_init_82 : decode cX8_init 82 = .ok (.aload_n 0, 1) := by decide +kernel
theorem dX8_init_83 : decode cX8_init 83 = .ok (.sipush 183, 3) := by decide +kernel
theorem dX8_init_86 : decode cX8_init 86 = .ok (.newarray .int, 2) := by decide +kernel
theorem dX8_init_88 : decode cX8_init 88 = .ok (.putfield 40, 3) := by decide +kernel
theorem dX8_init_91 : decode cX8_init 91 = .ok (.aload_n 0, 1) := by decide +kernel
theorem dX8_init_92 : decode cX8_init 92 = .ok (.sipush 183, 3) := by decide +kernel
theorem dX8_init_95 : decode cX8_init 95 = .ok (.newarray .int, 2) := by decide +kernel
theorem dX8_init_97 : decode cX8_init 97 = .ok (.putfield 43, 3) := by decide +kernel
theorem dX8_init_100 : decode cX8_init 100 = .ok (.aload_n 0, 1) := by decide +kernel
theorem dX8_init_101 : decode cX8_init 101 = .ok (.sipush 183, 3) := by decide +kernel
theorem dX8_init_104 : decode cX8_init 104 = .ok (.newarray .int, 2) := by decide +kernel
theorem dX8_init_106 : decode cX8_init 106 = .ok (.putfield 46, 3) := by decide +kernel
theorem dX8_init_109 : decode cX8_init 109 = .ok (.aload_n 0, 1) := by decide +kernel
theorem dX8_init_110 : decode cX8_init 110 = .ok (.sipush 1024, 3) := by decide +kernel
theorem dX8_init_113 : decode cX8_init 113 = .ok (.newarray .int, 2) := by decide +kernel
theorem dX8_init_115 : decode cX8_init 115 = .ok (.putfield 49, 3) := by decide +kernel
theorem dX8_init_118 : decode cX8_init 118 = .ok (.aload_n 0, 1) := by decide +kernel
theorem dX8_init_119 : decode cX8_init 119 = .ok (.bipush 16, 2) := by decide +kernel
theorem dX8_init_121 : decode cX8_init 121 = .ok (.newarray .int, 2) := by decide +kernel
theorem dX8_init_123 : decode cX8_init 123 = .ok (.putfield 52, 3) := by decide +kernel
theorem dX8_init_126 : decode cX8_init 126 = .ok (.aload_n 0, 1) := by decide +kernel
theorem dX8_init_127 : decode cX8_init 127 = .ok (.bipush 24, 2) := by decide +kernel
theorem dX8_init_129 : decode cX8_init 129 = .ok (.newarray .int, 2) := by decide +kernel
theorem dX8_init_131 : decode cX8_init 131 = .ok (.putfield 55, 3) := by decide +kernel
theorem dX8_init_134 : decode cX8_init 134 = .ok (.aload_n 0, 1) := by decide +kernel
theorem dX8_init_135 : decode cX8_init 135 = .ok (.bipush 8, 2) := by decide +kernel
theorem dX8_init_137 : decode cX8_init 137 = .ok (.newarray .int, 2) := by decide +kernel
theorem dX8_init_139 : decode cX8_init 139 = .ok (.putfield 58, 3) := by decide +kernel
theorem dX8_init_142 : decode cX8_init 142 = .ok (.aload_n 0, 1) := by decide +kernel
theorem dX8_init_143 : decode cX8_init 143 = .ok (.bipush 8, 2) := by decide +kernel
theorem dX8_init_145 : decode cX8_init 145 = .ok (.newarray .int, 2) := by decide +kernel
theorem dX8_init_147 : decode cX8_init 147 = .ok (.putfield 61, 3) := by decide +kernel
theorem dX8_init_150 : decode cX8_init 150 = .ok (.aload_n 0, 1) := by decide +kernel
theorem dX8_init_151 : decode cX8_init 151 = .ok (.bipush 8, 2) := by decide +kernel
theorem dX8_init_153 : decode cX8_init 153 = .ok (.newarray .int, 2) := by decide +kernel
theorem dX8_init_155 : decode cX8_init 155 = .ok (.putfield 64, 3) := by decide +kernel
theorem dX8_init_158 : decode cX8_init 158 = .ok (.aload_n 0, 1) := by decide +kernel
theorem dX8_init_159 : decode cX8_init 159 = .ok (.bipush 8, 2) := by decide +kernel
theorem dX8_init_161 : decode cX8_init 161 = .ok (.newarray .int, 2) := by decide +kernel
theorem dX8_init_163 : decode cX8_init 163 = .ok (.putfield 67, 3) := by decide +kernel
theorem dX8_init_166 : decode cX8_init 166 = .ok (.aload_n 0, 1) := by decide +kernel
theorem dX8_init_167 : decode cX8_init 167 = .ok (.bipush 9, 2) := by decide +kernel
theorem dX8_init_169 : decode cX8_init 169 = .ok (.newarray .int, 2) := by decide +kernel
theorem dX8_init_171 : decode cX8_init 171 = .ok (.putfield 70, 3) := by decide +kernel
theorem dX8_init_174 : decode cX8_init 174 = .ok (.aload_n 0, 1) := by decide +kernel
theorem dX8_init_175 : decode cX8_init 175 = .ok (.bipush 16, 2) := by decide +kernel
theorem dX8_init_177 : decode cX8_init 177 = .ok (.newarray .int, 2) := by decide +kernel
theorem dX8_init_179 : decode cX8_init 179 = .ok (.putfield 73, 3) := by decide +kernel
theorem dX8_init_182 : decode cX8_init 182 = .ok (.aload_n 0, 1) := by decide +kernel
theorem dX8_init_183 : decode cX8_init 183 = .ok (.iconst (-1), 1) := by decide +kernel
theorem dX8_init_184 : decode cX8_init 184 = .ok (.putfield 76, 3) := by decide +kernel
theorem dX8_init_187 : decode cX8_init 187 = .ok (.aload_n 0, 1) := by decide +kernel
theorem dX8_init_188 : decode cX8_init 188 = .ok (.iconst 3, 1) := by decide +kernel
theorem dX8_init_189 : decode cX8_init 189 = .ok (.newarray .int, 2) := by decide +kernel
theorem dX8_init_191 : decode cX8_init 191 = .ok (.putfield 80, 3) := by decide +kernel
theorem dX8_init_194 : decode cX8_init 194 = .ok (.aload_n 0, 1) := by decide +kernel
theorem dX8_init_195 : decode cX8_init 195 = .ok (.iconst 3, 1) := by decide +kernel
theorem dX8_init_196 : decode cX8_init 196 = .ok (.newarray .int, 2) := by decide +kernel
theorem dX8_init_198 : decode cX8_init 198 = .ok (.putfield 83, 3) := by decide +kernel
theorem dX8_init_201 : decode cX8_init 201 = .ok (.aload_n 0, 1) := by decide +kernel
theorem dX8_init_202 : decode cX8_init 202 = .ok (.bipush 48, 2) := by decide +kernel
theorem dX8_init_204 : decode cX8_init 204 = .ok (.newarray .int, 2) := by decide +kernel
theorem dX8_init_206 : decode cX8_init 206 = .ok (.putfield 86, 3) := by decide +kernel
theorem dX8_init_209 : decode cX8_init 209 = .ok (.aload_n 0, 1) := by decide +kernel
theorem dX8_init_210 : decode cX8_init 210 = .ok (.iconst (-1), 1) := by decide +kernel
theorem dX8_init_211 : decode cX8_init 211 = .ok (.putfield 89, 3) := by decide +kernel
theorem dX8_init_214 : decode cX8_init 214 = .ok (.iconst 0, 1) := by decide +kernel
theorem dX8_init_215 : decode cX8_init 215 = .ok (.istore_n 1, 1) := by decide +kernel
theorem dX8_init_216 : decode cX8_init 216 = .ok (.iload_n 1, 1) := by decide +kernel
theorem dX8_init_217 : decode cX8_init 217 = .ok (.iconst 3, 1) := by decide +kernel
theorem dX8_init_218 : decode cX8_init 218 = .ok (.if_icmp .ge 16, 3) := by decide +kernel
theorem dX8_init_221 : decode cX8_init 221 = .ok (.aload_n 0, 1) := by decide +kernel
theorem dX8_init_222 : decode cX8_init 222 = .ok (.getfield 80, 3) := by decide +kernel
theorem dX8_init_225 : decode cX8_init 225 = .ok (.iload_n 1, 1) := by decide +kernel
theorem dX8_init_226 : decode cX8_init 226 = .ok (.iconst (-1), 1) := by decide +kernel
theorem dX8_init_227 : decode cX8_init 227 = .ok (.iastore, 1) := by decide +kernel
theorem dX8_init_228 : decode cX8_init 228 = .ok (.iinc 1 1, 3) := by decide +kernel
theorem dX8_init_231 : decode cX8_init 231 = .ok (.goto (-15), 3) := by decide +kernel
theorem dX8_init_234 : decode cX8_init 234 = .ok (.return_, 1) := by decide +kernel
theorem dX8_in_0 : decode cX8_in 0 = .ok (.iload_n 0, 1) := by decide +kernel
theorem dX8_in_1 : decode cX8_in 1 = .ok (.iload_n 1, 1) := by decide +kernel
theorem dX8_in_2 : decode cX8_in 2 = .ok (.if_icmp .lt 12, 3) := by decide +kernel
theorem dX8_in_5 : decode cX8_in 5 = .ok (.iload_n 0, 1) := by decide +kernel
theorem dX8_in_6 : decode cX8_in 6 = .ok (.iload_n 2, 1) := by decide +kernel
theorem dX8_in_7 : decode cX8_in 7 = .ok (.if_icmp .gt 7, 3) := by decide +kernel
theorem dX8_in_10 : decode cX8_in 10 = .ok (.iconst 1, 1) := by decide +kernel
theorem dX8_in_11 : decode cX8_in 11 = .ok (.goto 4, 3) := by decide +kernel
theorem dX8_in_14 : decode cX8_in 14 = .ok (.iconst 0, 1) := by decide +kernel
theorem dX8_in_15 : decode cX8_in 15 = .ok (.ireturn, 1) := by decide +kernel
theorem dX8_isTerm_0 : decode cX8_isTerm 0 = .ok (.iload_n 1, 1) := by decide +kernel
theorem dX8_isTerm_1 : decode cX8_isTerm 1 = .ok (.iconst 0, 1) := by decide +kernel
theorem dX8_isTerm_2 : decode cX8_isTerm 2 = .ok (.aload_n 0, 1) := by decide +kernel
theorem dX8_isTerm_3 : decode cX8_isTerm 3 = .ok (.getfield 92, 3) := by decide +kernel
theorem dX8_isTerm_6 : decode cX8_isTerm 6 = .ok (.iconst 1, 1) := by decide +kernel
theorem dX8_isTerm_7 : decode cX8_isTerm 7 = .ok (.isub, 1) := by decide +kernel
theorem dX8_isTerm_8 : decode cX8_isTerm 8 = .ok (.invokestatic 95, 3) := by decide +kernel
theorem dX8_isTerm_11 : decode cX8_isTerm 11 = .ok (.ireturn, 1) := by decide +kernel
theorem dX8_parts_0 : decode cX8_parts 0 = .ok (.iload_n 0, 1) := by decide +kernel
theorem dX8_parts_1 : decode cX8_parts 1 = .ok (.iconst 3, 1) := by decide +kernel
theorem dX8_parts_2 : decode cX8_parts 2 = .ok (.if_icmp .ge 5, 3) := by decide +kernel
theorem dX8_parts_5 : decode cX8_parts 5 = .ok (.iconst 0, 1) := by decide +kernel
theorem dX8_parts_6 : decode cX8_parts 6 = .ok (.ireturn, 1) := by decide +kernel
theorem dX8_parts_7 : decode cX8_parts 7 = .ok (.iload_n 0, 1) := by decide +kernel
theorem dX8_parts_8 : decode cX8_parts 8 = .ok (.bipush 11, 2) := by decide +kernel
theorem dX8_parts_10 : decode cX8_parts 10 = .ok (.if_icmp .eq 27, 3) := by decide +kernel
theorem dX8_parts_13 : decode cX8_parts 13 = .ok (.iload_n 0, 1) := by decide +kernel
theorem dX8_parts_14 : decode cX8_parts 14 = .ok (.bipush 12, 2) := by decide +kernel
theorem dX8_parts_16 : decode cX8_parts 16 = .ok (.if_icmp .eq 21, 3) := by decide +kernel
theorem dX8_parts_19 : decode cX8_parts 19 = .ok (.iload_n 0, 1) := by decide +kernel
theorem dX8_parts_20 : decode cX8_parts 20 = .ok (.bipush 16, 2) := by decide +kernel
theorem dX8_parts_22 : decode cX8_parts 22 = .ok (.if_icmp .eq 15, 3) := by decide +kernel
theorem dX8_parts_25 : decode cX8_parts 25 = .ok (.iload_n 0, 1) := by decide +kernel
theorem dX8_parts_26 : decode cX8_parts 26 = .ok (.bipush 17, 2) := by decide +kernel
theorem dX8_parts_28 : decode cX8_parts 28 = .ok (.if_icmp .eq 9, 3) := by decide +kernel
theorem dX8_parts_31 : decode cX8_parts 31 = .ok (.iload_n 0, 1) := by decide +kernel
theorem dX8_parts_32 : decode cX8_parts 32 = .ok (.bipush 18, 2) := by decide +kernel
theorem dX8_parts_34 : decode cX8_parts 34 = .ok (.if_icmp .ne 5, 3) := by decide +kernel
theorem dX8_parts_37 : decode cX8_parts 37 = .ok (.iconst 1, 1) := by decide +kernel
theorem dX8_parts_38 : decode cX8_parts 38 = .ok (.ireturn, 1) := by decide +kernel
theorem dX8_parts_39 : decode cX8_parts 39 = .ok (.iload_n 0, 1) := by decide +kernel
theorem dX8_parts_40 : decode cX8_parts 40 = .ok (.bipush 13, 2) := by decide +kernel
theorem dX8_parts_42 : decode cX8_parts 42 = .ok (.if_icmp .eq 15, 3) := by decide +kernel
theorem dX8_parts_45 : decode cX8_parts 45 = .ok (.iload_n 0, 1) := by decide +kernel
theorem dX8_parts_46 : decode cX8_parts 46 = .ok (.bipush 15, 2) := by decide +kernel
theorem dX8_parts_48 : decode cX8_parts 48 = .ok (.if_icmp .eq 9, 3) := by decide +kernel
theorem dX8_parts_51 : decode cX8_parts 51 = .ok (.iload_n 0, 1) := by decide +kernel
theorem dX8_parts_52 : decode cX8_parts 52 = .ok (.bipush 19, 2) := by decide +kernel
theorem dX8_parts_54 : decode cX8_parts 54 = .ok (.if_icmp .ne 7, 3) := by decide +kernel
theorem dX8_parts_57 : decode cX8_parts 57 = .ok (.iconst 3, 1) := by decide +kernel
theorem dX8_parts_58 : decode cX8_parts 58 = .ok (.goto 4, 3) := by decide +kernel
theorem dX8_parts_61 : decode cX8_parts 61 = .ok (.iconst 2, 1) := by decide +kernel
theorem dX8_parts_62 : decode cX8_parts 62 = .ok (.ireturn, 1) := by decide +kernel
theorem dX8_term_0 : decode cX8_term 0 = .ok (.iload_n 1, 1) := by decide +kernel
theorem dX8_term_1 : decode cX8_term 1 = .ok (.iconst 0, 1) := by decide +kernel
theorem dX8_term_2 : decode cX8_term 2 = .ok (.bipush 20, 2) := by decide +kernel
theorem dX8_term_4 : decode cX8_term 4 = .ok (.invokestatic 95, 3) := by decide +kernel
theorem dX8_term_7 : decode cX8_term 7 = .ok (.ifCond .eq 65, 3) := by decide +kernel
theorem dX8_term_10 : decode cX8_term 10 = .ok (.iload_n 1, 1) := by decide +kernel
theorem dX8_term_11 : decode cX8_term 11 = .ok (.invokestatic 99, 3) := by decide +kernel
theorem dX8_term_14 : decode cX8_term 14 = .ok (.ifCond .le 11, 3) := by decide +kernel
theorem dX8_term_17 : decode cX8_term 17 = .ok (.aload_n 0, 1) := by decide +kernel
theorem dX8_term_18 : decode cX8_term 18 = .ok (.iload_n 2, 1) := by decide +kernel
theorem dX8_term_19 : decode cX8_term 19 = .ok (.invokevirtual 103, 3) := by decide +kernel
theorem dX8_term_22 : decode cX8_term 22 = .ok (.ifCond .eq 50, 3) := by decide +kernel
theorem dX8_term_25 : decode cX8_term 25 = .ok (.iload_n 1, 1) := by decide +kernel
theorem dX8_term_26 : decode cX8_term 26 = .ok (.invokestatic 99, 3) := by decide +kernel
theorem dX8_term_29 : decode cX8_term 29 = .ok (.iconst 1, 1) := by decide +kernel
theorem dX8_term_30 : decode cX8_term 30 = .ok (.if_icmp .le 11, 3) := by decide +kernel
theorem dX8_term_33 : decode cX8_term 33 = .ok (.aload_n 0, 1) := by decide +kernel
theorem dX8_term_34 : decode cX8_term 34 = .ok (.iload_n 3, 1) := by decide +kernel
theorem dX8_term_35 : decode cX8_term 35 = .ok (.invokevirtual 103, 3) := by decide +kernel
theorem dX8_term_38 : decode cX8_term 38 = .ok (.ifCond .eq 34, 3) := by decide +kernel
theorem dX8_term_41 : decode cX8_term 41 = .ok (.iload_n 1, 1) := by decide +kernel
theorem dX8_term_42 : decode cX8_term 42 = .ok (.invokestatic 99, 3) := by decide +kernel
theorem dX8_term_45 : decode cX8_term 45 = .ok (.iconst 2, 1) := by decide +kernel
theorem dX8_term_46 : decode cX8_term 46 = .ok (.if_icmp .le 12, 3) := by decide +kernel
theorem dX8_term_49 : decode cX8_term 49 = .ok (.aload_n 0, 1) := by decide +kernel
theorem dX8_term_50 : decode cX8_term 50 = .ok (.iload 4, 2) := by decide +kernel
theorem dX8_term_52 : decode cX8_term 52 = .ok (.invokevirtual 103, 3) := by decide +kernel
theorem dX8_term_55 : decode cX8_term 55 = .ok (.ifCond .eq 17, 3) := by decide +kernel
theorem dX8_term_58 : decode cX8_term 58 = .ok (.iload_n 1, 1) := by decide +kernel
theorem dX8_term_59 : decode cX8_term 59 = .ok (.ifCond .ne 15, 3) := by decide +kernel
theorem dX8_term_62 : decode cX8_term 62 = .ok (.iload 5, 2) := by decide +kernel
theorem dX8_term_64 : decode cX8_term 64 = .ok (.iconst 0, 1) := by decide +kernel
theorem dX8_term_65 : decode cX8_term 65 = .ok (.iconst 2, 1) := by decide +kernel
theorem dX8_term_66 : decode cX8_term 66 = .ok (.invokestatic 95, 3) := by decide +kernel
theorem dX8_term_69 : decode cX8_term 69 = .ok (.ifCond .ne 5, 3) := by decide +kernel
theorem dX8_term_72 : decode cX8_term 72 = .ok (.iconst (-1), 1) := by decide +kernel
theorem dX8_term_73 : decode cX8_term 73 = .ok (.ireturn, 1) := by decide +kernel
theorem dX8_term_74 : decode cX8_term 74 = .ok (.aload_n 0, 1) := by decide +kernel
theorem dX8_term_75 : decode cX8_term 75 = .ok (.getfield 92, 3) := by decide +kernel
theorem dX8_term_78 : decode cX8_term 78 = .ok (.bipush 60, 2) := by decide +kernel
theorem dX8_term_80 : decode cX8_term 80 = .ok (.if_icmp .ne 6, 3) := by decide +kernel
theorem dX8_term_83 : decode cX8_term 83 = .ok (.bipush (-2), 2) := by decide +kernel
theorem dX8_term_85 : decode cX8_term 85 = .ok (.ireturn, 1) := by decide +kernel
theorem dX8_term_86 : decode cX8_term 86 = .ok (.aload_n 0, 1) := by decide +kernel
theorem dX8_term_87 : decode cX8_term 87 = .ok (.getfield 7, 3) := by decide +kernel
theorem dX8_term_90 : decode cX8_term 90 = .ok (.aload_n 0, 1) := by decide +kernel
theorem dX8_term_91 : decode cX8_term 91 = .ok (.getfield 92, 3) := by decide +kernel
theorem dX8_term_94 : decode cX8_term 94 = .ok (.iload_n 1, 1) := by decide +kernel
theorem dX8_term_95 : decode cX8_term 95 = .ok (.iastore, 1) := by decide +kernel
theorem dX8_term_96 : decode cX8_term 96 = .ok (.aload_n 0, 1) := by decide +kernel
theorem dX8_term_97 : decode cX8_term 97 = .ok (.getfield 13, 3) := by decide +kernel
theorem dX8_term_100 : decode cX8_term 100 = .ok (.aload_n 0, 1) := by decide +kernel
theorem dX8_term_101 : decode cX8_term 101 = .ok (.getfield 92, 3) := by decide +kernel
theorem dX8_term_104 : decode cX8_term 104 = .ok (.iload_n 2, 1) := by decide +kernel
theorem dX8_term_105 : decode cX8_term 105 = .ok (.iastore, 1) := by decide +kernel
theorem dX8_term_106 : decode cX8_term 106 = .ok (.aload_n 0, 1) := by decide +kernel
theorem dX8_term_107 : decode cX8_term 107 = .ok (.getfield 16, 3) := by decide +kernel
theorem dX8_term_110 : decode cX8_term 110 = .ok (.aload_n 0, 1) := by decide +kernel
theorem dX8_term_111 : decode cX8_term 111 = .ok (.getfield 92, 3) := by decide +kernel
theorem dX8_term_114 : decode cX8_term 114 = .ok (.iload_n 3, 1) := by decide +kernel
theorem dX8_term_115 : decode cX8_term 115 = .ok (.iastore, 1) := by decide +kernel
theorem dX8_term_116 : decode cX8_term 116 = .ok (.aload_n 0, 1) := by decide +kernel
theorem dX8_term_117 : decode cX8_term 117 = .ok (.getfield 19, 3) := by decide +kernel
theorem dX8_term_120 : decode cX8_term 120 = .ok (.aload_n 0, 1) := by decide +kernel
theorem dX8_term_121 : decode cX8_term 121 = .ok (.getfield 92, 3) := by decide +kernel
theorem dX8_term_124 : decode cX8_term 124 = .ok (.iload 4, 2) := by decide +kernel
theorem dX8_term_126 : decode cX8_term 126 = .ok (.iastore, 1) := by decide +kernel
theorem dX8_term_127 : decode cX8_term 127 = .ok (.aload_n 0, 1) := by decide +kernel
theorem dX8_term_128 : decode cX8_term 128 = .ok (.getfield 22, 3) := by decide +kernel
theorem dX8_term_131 : decode cX8_term 131 = .ok (.aload_n 0, 1) := by decide +kernel
theorem dX8_term_132 : decode cX8_term 132 = .ok (.getfield 92, 3) := by decide +kernel
theorem dX8_term_135 : decode cX8_term 135 = .ok (.iload 5, 2) := by decide +kernel
theorem dX8_term_137 : decode cX8_term 137 = .ok (.iastore, 1) := by decide +kernel
theorem dX8_term_138 : decode cX8_term 138 = .ok (.aload_n 0, 1) := by decide +kernel
theorem dX8_term_139 : decode cX8_term 139 = .ok (.dup, 1) := by decide +kernel
theorem dX8_term_140 : decode cX8_term 140 = .ok (.getfield 92, 3) := by decide +kernel
theorem dX8_term_143 : decode cX8_term 143 = .ok (.dup_x1, 1) := by decide +kernel
theorem dX8_term_144 : decode cX8_term 144 = .ok (.iconst 1, 1) := by decide +kernel
theorem dX8_term_145 : decode cX8_term 145 = .ok (.iadd, 1) := by decide +kernel
theorem dX8_term_146 : decode cX8_term 146 = .ok (.putfield 92, 3) := by decide +kernel
theorem dX8_term_149 : decode cX8_term 149 = .ok (.ireturn, 1) := by decide +kernel
theorem dX8_begin_0 : decode cX8_begin 0 = .ok (.aload_n 0, 1) := by decide +kernel
theorem dX8_begin_1 : decode cX8_begin 1 = .ok (.getfield 107, 3) := by decide +kernel
theorem dX8_begin_4 : decode cX8_begin 4 = .ok (.bipush 60, 2) := by decide +kernel
theorem dX8_begin_6 : decode cX8_begin 6 = .ok (.if_icmp .ne 10, 3) := by decide +kernel
theorem dX8_begin_9 : decode cX8_begin 9 = .ok (.aload_n 0, 1) := by decide +kernel
theorem dX8_begin_10 : decode cX8_begin 10 = .ok (.bipush 7, 2) := by decide +kernel
theorem dX8_begin_12 : decode cX8_begin 12 = .ok (.putfield 110, 3) := by decide +kernel
theorem dX8_begin_15 : decode cX8_begin 15 = .ok (.return_, 1) := by decide +kernel
theorem dX8_begin_16 : decode cX8_begin 16 = .ok (.aload_n 0, 1) := by decide +kernel
theorem dX8_begin_17 : decode cX8_begin 17 = .ok (.dup, 1) := by decide +kernel
theorem dX8_begin_18 : decode cX8_begin 18 = .ok (.getfield 107, 3) := by decide +kernel
theorem dX8_begin_21 : decode cX8_begin 21 = .ok (.iconst 1, 1) := by decide +kernel
theorem dX8_begin_22 : decode cX8_begin 22 = .ok (.iadd, 1) := by decide +kernel
theorem dX8_begin_23 : decode cX8_begin 23 = .ok (.putfield 107, 3) := by decide +kernel
theorem dX8_begin_26 : decode cX8_begin 26 = .ok (.aload_n 0, 1) := by decide +kernel
theorem dX8_begin_27 : decode cX8_begin 27 = .ok (.getfield 34, 3) := by decide +kernel
theorem dX8_begin_30 : decode cX8_begin 30 = .ok (.aload_n 0, 1) := by decide +kernel
theorem dX8_begin_31 : decode cX8_begin 31 = .ok (.getfield 113, 3) := by decide +kernel
theorem dX8_begin_34 : decode cX8_begin 34 = .ok (.iload_n 1, 1) := by decide +kernel
theorem dX8_begin_35 : decode cX8_begin 35 = .ok (.iastore, 1) := by decide +kernel
theorem dX8_begin_36 : decode cX8_begin 36 = .ok (.aload_n 0, 1) := by decide +kernel
theorem dX8_begin_37 : decode cX8_begin 37 = .ok (.getfield 37, 3) := by decide +kernel
theorem dX8_begin_40 : decode cX8_begin 40 = .ok (.aload_n 0, 1) := by decide +kernel
theorem dX8_begin_41 : decode cX8_begin 41 = .ok (.getfield 113, 3) := by decide +kernel
theorem dX8_begin_44 : decode cX8_begin 44 = .ok (.iconst 0, 1) := by decide +kernel
theorem dX8_begin_45 : decode cX8_begin 45 = .ok (.iastore, 1) := by decide +kernel
theorem dX8_begin_46 : decode cX8_begin 46 = .ok (.aload_n 0, 1) := by decide +kernel
theorem dX8_begin_47 : decode cX8_begin 47 = .ok (.dup, 1) := by decide +kernel
theorem dX8_begin_48 : decode cX8_begin 48 = .ok (.getfield 113, 3) := by decide +kernel
theorem dX8_begin_51 : decode cX8_begin 51 = .ok (.iconst 1, 1) := by decide +kernel
theorem dX8_begin_52 : decode cX8_begin 52 = .ok (.iadd, 1) := by decide +kernel
theorem dX8_begin_53 : decode cX8_begin 53 = .ok (.putfield 113, 3) := by decide +kernel
theorem dX8_begin_56 : decode cX8_begin 56 = .ok (.return_, 1) := by decide +kernel
theorem dX8_work_0 : decode cX8_work 0 = .ok (.aload_n 0, 1) := by decide +kernel
theorem dX8_work_1 : decode cX8_work 1 = .ok (.iconst 0, 1) := by decide +kernel
theorem dX8_work_2 : decode cX8_work 2 = .ok (.putfield 113, 3) := by decide +kernel
theorem dX8_work_5 : decode cX8_work 5 = .ok (.aload_n 0, 1) := by decide +kernel
theorem dX8_work_6 : decode cX8_work 6 = .ok (.iconst 0, 1) := by decide +kernel
theorem dX8_work_7 : decode cX8_work 7 = .ok (.putfield 110, 3) := by decide +kernel
theorem dX8_work_10 : decode cX8_work 10 = .ok (.aload_n 0, 1) := by decide +kernel
theorem dX8_work_11 : decode cX8_work 11 = .ok (.iload_n 1, 1) := by decide +kernel
theorem dX8_work_12 : decode cX8_work 12 = .ok (.invokevirtual 116, 3) := by decide +kernel
theorem dX8_work_15 : decode cX8_work 15 = .ok (.aload_n 0, 1) := by decide +kernel
theorem dX8_work_16 : decode cX8_work 16 = .ok (.getfield 113, 3) := by decide +kernel
theorem dX8_work_19 : decode cX8_work 19 = .ok (.ifCond .le 153, 3) := by decide +kernel
theorem dX8_work_22 : decode cX8_work 22 = .ok (.aload_n 0, 1) := by decide +kernel
theorem dX8_work_23 : decode cX8_work 23 = .ok (.getfield 110, 3) := by decide +kernel
theorem dX8_work_26 : decode cX8_work 26 = .ok (.ifCond .ne 146, 3) := by decide +kernel
theorem dX8_work_29 : decode cX8_work 29 = .ok (.aload_n 0, 1) := by decide +kernel
theorem dX8_work_30 : decode cX8_work 30 = .ok (.getfield 113, 3) := by decide +kernel
theorem dX8_work_33 : decode cX8_work 33 = .ok (.iconst 1, 1) := by decide +kernel
theorem dX8_work_34 : decode cX8_work 34 = .ok (.isub, 1) := by decide +kernel
theorem dX8_work_35 : decode cX8_work 35 = .ok (.istore_n 2, 1) := by decide +kernel
theorem dX8_work_36 : decode cX8_work 36 = .ok (.aload_n 0, 1) := by decide +kernel
theorem dX8_work_37 : decode cX8_work 37 = .ok (.getfield 34, 3) := by decide +kernel
theorem dX8_work_40 : decode cX8_work 40 = .ok (.iload_n 2, 1) := by decide +kernel
theorem dX8_work_41 : decode cX8_work 41 = .ok (.iaload, 1) := by decide +kernel
theorem dX8_work_42 : decode cX8_work 42 = .ok (.istore_n 3, 1) := by decide +kernel
theorem dX8_work_43 : decode cX8_work 43 = .ok (.aload_n 0, 1) := by decide +kernel
theorem dX8_work_44 : decode cX8_work 44 = .ok (.iload_n 3, 1) := by decide +kernel
theorem dX8_work_45 : decode cX8_work 45 = .ok (.iload_n 2, 1) := by decide +kernel
theorem dX8_work_46 : decode cX8_work 46 = .ok (.invokevirtual 120, 3) := by decide +kernel
theorem dX8_work_49 : decode cX8_work 49 = .ok (.istore 4, 2) := by decide +kernel
theorem dX8_work_51 : decode cX8_work 51 = .ok (.iload 4, 2) := by decide +kernel
theorem dX8_work_53 : decode cX8_work 53 = .ok (.ifCond .lt 22, 3) := by decide +kernel
theorem dX8_work_56 : decode cX8_work 56 = .ok (.aload_n 0, 1) := by decide +kernel
theorem dX8_work_57 : decode cX8_work 57 = .ok (.getfield 37, 3) := by decide +kernel
theorem dX8_work_60 : decode cX8_work 60 = .ok (.iload_n 2, 1) := by decide +kernel
theorem dX8_work_61 : decode cX8_work 61 = .ok (.dup2, 1) := by decide +kernel
theorem dX8_work_62 : decode cX8_work 62 = .ok (.iaload, 1) := by decide +kernel
theorem dX8_work_63 : decode cX8_work 63 = .ok (.iconst 1, 1) := by decide +kernel
theorem dX8_work_64 : decode cX8_work 64 = .ok (.iadd, 1) := by decide +kernel
theorem dX8_work_65 : decode cX8_work 65 = .ok (.iastore, 1) := by decide +kernel
theorem dX8_work_66 : decode cX8_work 66 = .ok (.aload_n 0, 1) := by decide +kernel
theorem dX8_work_67 : decode cX8_work 67 = .ok (.iload 4, 2) := by decide +kernel
theorem dX8_work_69 : decode cX8_work 69 = .ok (.invokevirtual 116, 3) := by decide +kernel
theorem dX8_work_72 : decode cX8_work 72 = .ok (.goto 97, 3) := by decide +kernel
theorem dX8_work_75 : decode cX8_work 75 = .ok (.aload_n 0, 1) := by decide +kernel
theorem dX8_work_76 : decode cX8_work 76 = .ok (.getfield 110, 3) := by decide +kernel
theorem dX8_work_79 : decode cX8_work 79 = .ok (.ifCond .ne 90, 3) := by decide +kernel
theorem dX8_work_82 : decode cX8_work 82 = .ok (.aload_n 0, 1) := by decide +kernel
theorem dX8_work_83 : decode cX8_work 83 = .ok (.iload_n 3, 1) := by decide +kernel
theorem dX8_work_84 : decode cX8_work 84 = .ok (.iload_n 2, 1) := by decide +kernel
theorem dX8_work_85 : decode cX8_work 85 = .ok (.invokevirtual 124, 3) := by decide +kernel
theorem dX8_work_88 : decode cX8_work 88 = .ok (.aload_n 0, 1) := by decide +kernel
theorem dX8_work_89 : decode cX8_work 89 = .ok (.dup, 1) := by decide +kernel
theorem dX8_work_90 : decode cX8_work 90 = .ok (.getfield 113, 3) := by decide +kernel
theorem dX8_work_93 : decode cX8_work 93 = .ok (.iconst 1, 1) := by decide +kernel
theorem dX8_work_94 : decode cX8_work 94 = .ok (.isub, 1) := by decide +kernel
theorem dX8_work_95 : decode cX8_work 95 = .ok (.putfield 113, 3) := by decide +kernel
theorem dX8_work_98 : decode cX8_work 98 = .ok (.aload_n 0, 1) := by decide +kernel
theorem dX8_work_99 : decode cX8_work 99 = .ok (.getfield 113, 3) := by decide +kernel
theorem dX8_work_102 : decode cX8_work 102 = .ok (.ifCond .le 67, 3) := by decide +kernel
theorem dX8_work_105 : decode cX8_work 105 = .ok (.aload_n 0, 1) := by decide +kernel
theorem dX8_work_106 : decode cX8_work 106 = .ok (.getfield 110, 3) := by decide +kernel
theorem dX8_work_109 : decode cX8_work 109 = .ok (.ifCond .ne 60, 3) := by decide +kernel
theorem dX8_work_112 : decode cX8_work 112 = .ok (.iconst 3, 1) := by decide +kernel
theorem dX8_work_113 : decode cX8_work 113 = .ok (.aload_n 0, 1) := by decide +kernel
theorem dX8_work_114 : decode cX8_work 114 = .ok (.getfield 113, 3) := by decide +kernel
theorem dX8_work_117 : decode cX8_work 117 = .ok (.iconst 1, 1) := by decide +kernel
theorem dX8_work_118 : decode cX8_work 118 = .ok (.isub, 1) := by decide +kernel
theorem dX8_work_119 : decode cX8_work 119 = .ok (.imul, 1) := by decide +kernel
theorem dX8_work_120 : decode cX8_work 120 = .ok (.aload_n 0, 1) := by decide +kernel
theorem dX8_work_121 : decode cX8_work 121 = .ok (.getfield 37, 3) := by decide +kernel
theorem dX8_work_124 : decode cX8_work 124 = .ok (.aload_n 0, 1) := by decide +kernel
theorem dX8_work_125 : decode cX8_work 125 = .ok (.getfield 113, 3) := by decide +kernel
theorem dX8_work_128 : decode cX8_work 128 = .ok (.iconst 1, 1) := by decide +kernel
theorem dX8_work_129 : decode cX8_work 129 = .ok (.isub, 1) := by decide +kernel
theorem dX8_work_130 : decode cX8_work 130 = .ok (.iaload, 1) := by decide +kernel
theorem dX8_work_131 : decode cX8_work 131 = .ok (.iadd, 1) := by decide +kernel
theorem dX8_work_132 : decode cX8_work 132 = .ok (.iconst 1, 1) := by decide +kernel
theorem dX8_work_133 : decode cX8_work 133 = .ok (.isub, 1) := by decide +kernel
theorem dX8_work_134 : decode cX8_work 134 = .ok (.istore 5, 2) := by decide +kernel
theorem dX8_work_136 : decode cX8_work 136 = .ok (.aload_n 0, 1) := by decide +kernel
theorem dX8_work_137 : decode cX8_work 137 = .ok (.getfield 40, 3) := by decide +kernel
theorem dX8_work_140 : decode cX8_work 140 = .ok (.iload 5, 2) := by decide +kernel
theorem dX8_work_142 : decode cX8_work 142 = .ok (.aload_n 0, 1) := by decide +kernel
theorem dX8_work_143 : decode cX8_work 143 = .ok (.getfield 128, 3) := by decide +kernel
theorem dX8_work_146 : decode cX8_work 146 = .ok (.iastore, 1) := by decide +kernel
theorem dX8_work_147 : decode cX8_work 147 = .ok (.aload_n 0, 1) := by decide +kernel
theorem dX8_work_148 : decode cX8_work 148 = .ok (.getfield 43, 3) := by decide +kernel
theorem dX8_work_151 : decode cX8_work 151 = .ok (.iload 5, 2) := by decide +kernel
theorem dX8_work_153 : decode cX8_work 153 = .ok (.aload_n 0, 1) := by decide +kernel
theorem dX8_work_154 : decode cX8_work 154 = .ok (.getfield 131, 3) := by decide +kernel
theorem dX8_work_157 : decode cX8_work 157 = .ok (.iastore, 1) := by decide +kernel
theorem dX8_work_158 : decode cX8_work 158 = .ok (.aload_n 0, 1) := by decide +kernel
theorem dX8_work_159 : decode cX8_work 159 = .ok (.getfield 46, 3) := by decide +kernel
theorem dX8_work_162 : decode cX8_work 162 = .ok (.iload 5, 2) := by decide +kernel
theorem dX8_work_164 : decode cX8_work 164 = .ok (.aload_n 0, 1) := by decide +kernel
theorem dX8_work_165 : decode cX8_work 165 = .ok (.getfield 134, 3) := by decide +kernel
theorem dX8_work_168 : decode cX8_work 168 = .ok (.iastore, 1) := by decide +kernel
theorem dX8_work_169 : decode cX8_work 169 = .ok (.goto (-154), 3) := by decide +kernel
theorem dX8_work_172 : decode cX8_work 172 = .ok (.aload_n 0, 1) := by decide +kernel
theorem dX8_work_173 : decode cX8_work 173 = .ok (.getfield 110, 3) := by decide +kernel
theorem dX8_work_176 : decode cX8_work 176 = .ok (.ifCond .ne 7, 3) := by decide +kernel
theorem dX8_work_179 : decode cX8_work 179 = .ok (.iconst 1, 1) := by decide +kernel
theorem dX8_work_180 : decode cX8_work 180 = .ok (.goto 4, 3) := by decide +kernel
theorem dX8_work_183 : decode cX8_work 183 = .ok (.iconst 0, 1) := by decide +kernel
theorem dX8_work_184 : decode cX8_work 184 = .ok (.ireturn, 1) := by decide +kernel
theorem dX8_wrong_0 : decode cX8_wrong 0 = .ok (.aload_n 0, 1) := by decide +kernel
theorem dX8_wrong_1 : decode cX8_wrong 1 = .ok (.getfield 40, 3) := by decide +kernel
theorem dX8_wrong_4 : decode cX8_wrong 4 = .ok (.iload_n 1, 1) := by decide +kernel
theorem dX8_wrong_5 : decode cX8_wrong 5 = .ok (.iaload, 1) := by decide +kernel
theorem dX8_wrong_6 : decode cX8_wrong 6 = .ok (.iconst 2, 1) := by decide +kernel
theorem dX8_wrong_7 : decode cX8_wrong 7 = .ok (.if_icmp .ne 7, 3) := by decide +kernel
theorem dX8_wrong_10 : decode cX8_wrong 10 = .ok (.iconst 1, 1) := by decide +kernel
theorem dX8_wrong_11 : decode cX8_wrong 11 = .ok (.goto 18, 3) := by decide +kernel
theorem dX8_wrong_14 : decode cX8_wrong 14 = .ok (.aload_n 0, 1) := by decide +kernel
theorem dX8_wrong_15 : decode cX8_wrong 15 = .ok (.getfield 40, 3) := by decide +kernel
theorem dX8_wrong_18 : decode cX8_wrong 18 = .ok (.iload_n 1, 1) := by decide +kernel
theorem dX8_wrong_19 : decode cX8_wrong 19 = .ok (.iaload, 1) := by decide +kernel
theorem dX8_wrong_20 : decode cX8_wrong 20 = .ok (.iload_n 2, 1) := by decide +kernel
theorem dX8_wrong_21 : decode cX8_wrong 21 = .ok (.if_icmp .eq 7, 3) := by decide +kernel
theorem dX8_wrong_24 : decode cX8_wrong 24 = .ok (.iconst 4, 1) := by decide +kernel
theorem dX8_wrong_25 : decode cX8_wrong 25 = .ok (.goto 4, 3) := by decide +kernel
theorem dX8_wrong_28 : decode cX8_wrong 28 = .ok (.iconst 0, 1) := by decide +kernel
theorem dX8_wrong_29 : decode cX8_wrong 29 = .ok (.ireturn, 1) := by decide +kernel
theorem dX8_nextPart_0 : decode cX8_nextPart 0 = .ok (.aload_n 0, 1) := by decide +kernel
theorem dX8_nextPart_1 : decode cX8_nextPart 1 = .ok (.getfield 37, 3) := by decide +kernel
theorem dX8_nextPart_4 : decode cX8_nextPart 4 = .ok (.iload_n 2, 1) := by decide +kernel
theorem dX8_nextPart_5 : decode cX8_nextPart 5 = .ok (.iaload, 1) := by decide +kernel
theorem dX8_nextPart_6 : decode cX8_nextPart 6 = .ok (.istore_n 3, 1) := by decide +kernel
theorem dX8_nextPart_7 : decode cX8_nextPart 7 = .ok (.aload_n 0, 1) := by decide +kernel
theorem dX8_nextPart_8 : decode cX8_nextPart 8 = .ok (.getfield 7, 3) := by decide +kernel
theorem dX8_nextPart_11 : decode cX8_nextPart 11 = .ok (.iload_n 1, 1) := by decide +kernel
theorem dX8_nextPart_12 : decode cX8_nextPart 12 = .ok (.iaload, 1) := by decide +kernel
theorem dX8_nextPart_13 : decode cX8_nextPart 13 = .ok (.istore 4, 2) := by decide +kernel
theorem dX8_nextPart_15 : decode cX8_nextPart 15 = .ok (.iload 4, 2) := by decide +kernel
theorem dX8_nextPart_17 : decode cX8_nextPart 17 = .ok (.bipush 19, 2) := by decide +kernel
theorem dX8_nextPart_19 : decode cX8_nextPart 19 = .ok (.if_icmp .eq 10, 3) := by decide +kernel
theorem dX8_nextPart_22 : decode cX8_nextPart 22 = .ok (.iload 4, 2) := by decide +kernel
theorem dX8_nextPart_24 : decode cX8_nextPart 24 = .ok (.bipush 20, 2) := by decide +kernel
theorem dX8_nextPart_26 : decode cX8_nextPart 26 = .ok (.if_icmp .ne 11, 3) := by decide +kernel
theorem dX8_nextPart_29 : decode cX8_nextPart 29 = .ok (.aload_n 0, 1) := by decide +kernel
theorem dX8_nextPart_30 : decode cX8_nextPart 30 = .ok (.iload_n 1, 1) := by decide +kernel
theorem dX8_nextPart_31 : decode cX8_nextPart 31 = .ok (.iload_n 2, 1) := by decide +kernel
theorem dX8_nextPart_32 : decode cX8_nextPart 32 = .ok (.iload_n 3, 1) := by decide +kernel
theorem dX8_nextPart_33 : decode cX8_nextPart 33 = .ok (.invokevirtual 137, 3) := by decide +kernel
theorem dX8_nextPart_36 : decode cX8_nextPart 36 = .ok (.ireturn, 1) := by decide +kernel
theorem dX8_nextPart_37 : decode cX8_nextPart 37 = .ok (.iload_n 3, 1) := by decide +kernel
theorem dX8_nextPart_38 : decode cX8_nextPart 38 = .ok (.iload 4, 2) := by decide +kernel
theorem dX8_nextPart_40 : decode cX8_nextPart 40 = .ok (.invokestatic 99, 3) := by decide +kernel
theorem dX8_nextPart_43 : decode cX8_nextPart 43 = .ok (.if_icmp .lt 7, 3) := by decide +kernel
theorem dX8_nextPart_46 : decode cX8_nextPart 46 = .ok (.iconst (-1), 1) := by decide +kernel
theorem dX8_nextPart_47 : decode cX8_nextPart 47 = .ok (.goto 36, 3) := by decide +kernel
theorem dX8_nextPart_50 : decode cX8_nextPart 50 = .ok (.iload_n 3, 1) := by decide +kernel
theorem dX8_nextPart_51 : decode cX8_nextPart 51 = .ok (.ifCond .ne 12, 3) := by decide +kernel
theorem dX8_nextPart_54 : decode cX8_nextPart 54 = .ok (.aload_n 0, 1) := by decide +kernel
theorem dX8_nextPart_55 : decode cX8_nextPart 55 = .ok (.getfield 13, 3) := by decide +kernel
theorem dX8_nextPart_58 : decode cX8_nextPart 58 = .ok (.iload_n 1, 1) := by decide +kernel
theorem dX8_nextPart_59 : decode cX8_nextPart 59 = .ok (.iaload, 1) := by decide +kernel
theorem dX8_nextPart_60 : decode cX8_nextPart 60 = .ok (.goto 23, 3) := by decide +kernel
theorem dX8_nextPart_63 : decode cX8_nextPart 63 = .ok (.iload_n 3, 1) := by decide +kernel
theorem dX8_nextPart_64 : decode cX8_nextPart 64 = .ok (.iconst 1, 1) := by decide +kernel
theorem dX8_nextPart_65 : decode cX8_nextPart 65 = .ok (.if_icmp .ne 12, 3) := by decide +kernel
theorem dX8_nextPart_68 : decode cX8_nextPart 68 = .ok (.aload_n 0, 1) := by decide +kernel
theorem dX8_nextPart_69 : decode cX8_nextPart 69 = .ok (.getfield 16, 3) := by decide +kernel
theorem dX8_nextPart_72 : decode cX8_nextPart 72 = .ok (.iload_n 1, 1) := by decide +kernel
theorem dX8_nextPart_73 : decode cX8_nextPart 73 = .ok (.iaload, 1) := by decide +kernel
theorem dX8_nextPart_74 : decode cX8_nextPart 74 = .ok (.goto 9, 3) := by decide +kernel
theorem dX8_nextPart_77 : decode cX8_nextPart 77 = .ok (.aload_n 0, 1) := by decide +kernel
theorem dX8_nextPart_78 : decode cX8_nextPart 78 = .ok (.getfield 19, 3) := by decide +kernel
theorem dX8_nextPart_81 : decode cX8_nextPart 81 = .ok (.iload_n 1, 1) := by decide +kernel
theorem dX8_nextPart_82 : decode cX8_nextPart 82 = .ok (.iaload, 1) := by decide +kernel
theorem dX8_nextPart_83 : decode cX8_nextPart 83 = .ok (.ireturn, 1) := by decide +kernel
theorem dX8_nextOfChoice_0 : decode cX8_nextOfChoice 0 = .ok (.iload_n 3, 1) := by decide +kernel
theorem dX8_nextOfChoice_1 : decode cX8_nextOfChoice 1 = .ok (.ifCond .ne 10, 3) := by decide +kernel
theorem dX8_nextOfChoice_4 : decode cX8_nextOfChoice 4 = .ok (.aload_n 0, 1) := by decide +kernel
theorem dX8_nextOfChoice_5 : decode cX8_nextOfChoice 5 = .ok (.getfield 13, 3) := by decide +kernel
theorem dX8_nextOfChoice_8 : decode cX8_nextOfChoice 8 = .ok (.iload_n 1, 1) := by decide +kernel
theorem dX8_nextOfChoice_9 : decode cX8_nextOfChoice 9 = .ok (.iaload, 1) := by decide +kernel
theorem dX8_nextOfChoice_10 : decode cX8_nextOfChoice 10 = .ok (.ireturn, 1) := by decide +kernel
theorem dX8_nextOfChoice_11 : decode cX8_nextOfChoice 11 = .ok (.iload_n 3, 1) := by decide +kernel
theorem dX8_nextOfChoice_12 : decode cX8_nextOfChoice 12 = .ok (.iconst 2, 1) := by decide +kernel
theorem dX8_nextOfChoice_13 : decode cX8_nextOfChoice 13 = .ok (.if_icmp .ne 5, 3) := by decide +kernel
theorem dX8_nextOfChoice_16 : decode cX8_nextOfChoice 16 = .ok (.iconst (-1), 1) := by decide +kernel
theorem dX8_nextOfChoice_17 : decode cX8_nextOfChoice 17 = .ok (.ireturn, 1) := by decide +kernel
theorem dX8_nextOfChoice_18 : decode cX8_nextOfChoice 18 = .ok (.aload_n 0, 1) := by decide +kernel
theorem dX8_nextOfChoice_19 : decode cX8_nextOfChoice 19 = .ok (.aload_n 0, 1) := by decide +kernel
theorem dX8_nextOfChoice_20 : decode cX8_nextOfChoice 20 = .ok (.iconst 3, 1) := by decide +kernel
theorem dX8_nextOfChoice_21 : decode cX8_nextOfChoice 21 = .ok (.iload_n 2, 1) := by decide +kernel
theorem dX8_nextOfChoice_22 : decode cX8_nextOfChoice 22 = .ok (.imul, 1) := by decide +kernel
theorem dX8_nextOfChoice_23 : decode cX8_nextOfChoice 23 = .ok (.iconst 0, 1) := by decide +kernel
theorem dX8_nextOfChoice_24 : decode cX8_nextOfChoice 24 = .ok (.invokevirtual 141, 3) := by decide +kernel
theorem dX8_nextOfChoice_27 : decode cX8_nextOfChoice 27 = .ok (.putfield 110, 3) := by decide +kernel
theorem dX8_nextOfChoice_30 : decode cX8_nextOfChoice 30 = .ok (.aload_n 0, 1) := by decide +kernel
theorem dX8_nextOfChoice_31 : decode cX8_nextOfChoice 31 = .ok (.getfield 110, 3) := by decide +kernel
theorem dX8_nextOfChoice_34 : decode cX8_nextOfChoice 34 = .ok (.ifCond .eq 5, 3) := by decide +kernel
theorem dX8_nextOfChoice_37 : decode cX8_nextOfChoice 37 = .ok (.iconst (-1), 1) := by decide +kernel
theorem dX8_nextOfChoice_38 : decode cX8_nextOfChoice 38 = .ok (.ireturn, 1) := by decide +kernel
theorem dX8_nextOfChoice_39 : decode cX8_nextOfChoice 39 = .ok (.aload_n 0, 1) := by decide +kernel
theorem dX8_nextOfChoice_40 : decode cX8_nextOfChoice 40 = .ok (.getfield 43, 3) := by decide +kernel
theorem dX8_nextOfChoice_43 : decode cX8_nextOfChoice 43 = .ok (.iconst 3, 1) := by decide +kernel
theorem dX8_nextOfChoice_44 : decode cX8_nextOfChoice 44 = .ok (.iload_n 2, 1) := by decide +kernel
theorem dX8_nextOfChoice_45 : decode cX8_nextOfChoice 45 = .ok (.imul, 1) := by decide +kernel
theorem dX8_nextOfChoice_46 : decode cX8_nextOfChoice 46 = .ok (.iaload, 1) := by decide +kernel
theorem dX8_nextOfChoice_47 : decode cX8_nextOfChoice 47 = .ok (.ifCond .eq 7, 3) := by decide +kernel
theorem dX8_nextOfChoice_50 : decode cX8_nextOfChoice 50 = .ok (.iconst 1, 1) := by decide +kernel
theorem dX8_nextOfChoice_51 : decode cX8_nextOfChoice 51 = .ok (.goto 4, 3) := by decide +kernel
theorem dX8_nextOfChoice_54 : decode cX8_nextOfChoice 54 = .ok (.iconst 0, 1) := by decide +kernel
theorem dX8_nextOfChoice_55 : decode cX8_nextOfChoice 55 = .ok (.istore 4, 2) := by decide +kernel
theorem dX8_nextOfChoice_57 : decode cX8_nextOfChoice 57 = .ok (.aload_n 0, 1) := by decide +kernel
theorem dX8_nextOfChoice_58 : decode cX8_nextOfChoice 58 = .ok (.getfield 7, 3) := by decide +kernel
theorem dX8_nextOfChoice_61 : decode cX8_nextOfChoice 61 = .ok (.iload_n 1, 1) := by decide +kernel
theorem dX8_nextOfChoice_62 : decode cX8_nextOfChoice 62 = .ok (.iaload, 1) := by decide +kernel
theorem dX8_nextOfChoice_63 : decode cX8_nextOfChoice 63 = .ok (.bipush 19, 2) := by decide +kernel
theorem dX8_nextOfChoice_65 : decode cX8_nextOfChoice 65 = .ok (.if_icmp .ne 26, 3) := by decide +kernel
theorem dX8_nextOfChoice_68 : decode cX8_nextOfChoice 68 = .ok (.iload 4, 2) := by decide +kernel
theorem dX8_nextOfChoice_70 : decode cX8_nextOfChoice 70 = .ok (.ifCond .eq 12, 3) := by decide +kernel
theorem dX8_nextOfChoice_73 : decode cX8_nextOfChoice 73 = .ok (.aload_n 0, 1) := by decide +kernel
theorem dX8_nextOfChoice_74 : decode cX8_nextOfChoice 74 = .ok (.getfield 16, 3) := by decide +kernel
theorem dX8_nextOfChoice_77 : decode cX8_nextOfChoice 77 = .ok (.iload_n 1, 1) := by decide +kernel
theorem dX8_nextOfChoice_78 : decode cX8_nextOfChoice 78 = .ok (.iaload, 1) := by decide +kernel
theorem dX8_nextOfChoice_79 : decode cX8_nextOfChoice 79 = .ok (.goto 27, 3) := by decide +kernel
theorem dX8_nextOfChoice_82 : decode cX8_nextOfChoice 82 = .ok (.aload_n 0, 1) := by decide +kernel
theorem dX8_nextOfChoice_83 : decode cX8_nextOfChoice 83 = .ok (.getfield 19, 3) := by decide +kernel
theorem dX8_nextOfChoice_86 : decode cX8_nextOfChoice 86 = .ok (.iload_n 1, 1) := by decide +kernel
theorem dX8_nextOfChoice_87 : decode cX8_nextOfChoice 87 = .ok (.iaload, 1) := by decide +kernel
theorem dX8_nextOfChoice_88 : decode cX8_nextOfChoice 88 = .ok (.goto 18, 3) := by decide +kernel
theorem dX8_nextOfChoice_91 : decode cX8_nextOfChoice 91 = .ok (.iload 4, 2) := by decide +kernel
theorem dX8_nextOfChoice_93 : decode cX8_nextOfChoice 93 = .ok (.ifCond .eq 12, 3) := by decide +kernel
theorem dX8_nextOfChoice_96 : decode cX8_nextOfChoice 96 = .ok (.aload_n 0, 1) := by decide +kernel
theorem dX8_nextOfChoice_97 : decode cX8_nextOfChoice 97 = .ok (.getfield 16, 3) := by decide +kernel
theorem dX8_nextOfChoice_100 : decode cX8_nextOfChoice 100 = .ok (.iload_n 1, 1) := by decide +kernel
theorem dX8_nextOfChoice_101 : decode cX8_nextOfChoice 101 = .ok (.iaload, 1) := by decide +kernel
theorem dX8_nextOfChoice_102 : decode cX8_nextOfChoice 102 = .ok (.goto 4, 3) := by decide +kernel
theorem dX8_nextOfChoice_105 : decode cX8_nextOfChoice 105 = .ok (.iconst (-1), 1) := by decide +kernel
theorem dX8_nextOfChoice_106 : decode cX8_nextOfChoice 106 = .ok (.ireturn, 1) := by decide +kernel
theorem dX8_whole_0 : decode cX8_whole 0 = .ok (.aload_n 0, 1) := by decide +kernel
theorem dX8_whole_1 : decode cX8_whole 1 = .ok (.iconst 0, 1) := by decide +kernel
theorem dX8_whole_2 : decode cX8_whole 2 = .ok (.putfield 128, 3) := by decide +kernel
theorem dX8_whole_5 : decode cX8_whole 5 = .ok (.aload_n 0, 1) := by decide +kernel
