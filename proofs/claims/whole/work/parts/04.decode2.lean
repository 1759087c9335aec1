theorem dX12_balanceAfter_77 : decode cX12_balanceAfter 77 = .ok (.iload_n 3, 1) := by decide +kernel
theorem dX12_balanceAfter_78 : decode cX12_balanceAfter 78 = .ok (.if_icmp .ge 5, 3) := by decide +kernel
theorem dX12_balanceAfter_81 : decode cX12_balanceAfter 81 = .ok (.iconst 0, 1) := by decide +kernel
theorem dX12_balanceAfter_82 : decode cX12_balanceAfter 82 = .ok (.istore_n 3, 1) := by decide +kernel
theorem dX12_balanceAfter_83 : decode cX12_balanceAfter 83 = .ok (.iload 4, 2) := by decide +kernel
theorem dX12_balanceAfter_85 : decode cX12_balanceAfter 85 = .ok (.iload_n 3, 1) := by decide +kernel
theorem dX12_balanceAfter_86 : decode cX12_balanceAfter 86 = .ok (.isub, 1) := by decide +kernel
theorem dX12_balanceAfter_87 : decode cX12_balanceAfter 87 = .ok (.istore 4, 2) := by decide +kernel
theorem dX12_balanceAfter_89 : decode cX12_balanceAfter 89 = .ok (.iinc 5 1, 3) := by decide +kernel
theorem dX12_balanceAfter_92 : decode cX12_balanceAfter 92 = .ok (.goto (-36), 3) := by decide +kernel
theorem dX12_balanceAfter_95 : decode cX12_balanceAfter 95 = .ok (.iload 4, 2) := by decide +kernel
theorem dX12_balanceAfter_97 : decode cX12_balanceAfter 97 = .ok (.ireturn, 1) := by decide +kernel
theorem dX12_rentPaid_0 : decode cX12_rentPaid 0 = .ok (.aload_n 0, 1) := by decide +kernel
theorem dX12_rentPaid_1 : decode cX12_rentPaid 1 = .ok (.getfield 99, 3) := by decide +kernel
theorem dX12_rentPaid_4 : decode cX12_rentPaid 4 = .ok (.getfield 274, 3) := by decide +kernel
theorem dX12_rentPaid_7 : decode cX12_rentPaid 7 = .ok (.ireturn, 1) := by decide +kernel
theorem dX12_evictionCount_0 : decode cX12_evictionCount 0 = .ok (.aload_n 0, 1) := by decide +kernel
theorem dX12_evictionCount_1 : decode cX12_evictionCount 1 = .ok (.getfield 99, 3) := by decide +kernel
theorem dX12_evictionCount_4 : decode cX12_evictionCount 4 = .ok (.getfield 277, 3) := by decide +kernel
theorem dX12_evictionCount_7 : decode cX12_evictionCount 7 = .ok (.ireturn, 1) := by decide +kernel
theorem dX12_swapCount_0 : decode cX12_swapCount 0 = .ok (.aload_n 0, 1) := by decide +kernel
theorem dX12_swapCount_1 : decode cX12_swapCount 1 = .ok (.getfield 99, 3) := by decide +kernel
theorem dX12_swapCount_4 : decode cX12_swapCount 4 = .ok (.getfield 280, 3) := by decide +kernel
theorem dX12_swapCount_7 : decode cX12_swapCount 7 = .ok (.ireturn, 1) := by decide +kernel
theorem dX12_relocationCount_0 : decode cX12_relocationCount 0 = .ok (.aload_n 0, 1) := by decide +kernel
theorem dX12_relocationCount_1 : decode cX12_relocationCount 1 = .ok (.getfield 99, 3) := by decide +kernel
theorem dX12_relocationCount_4 : decode cX12_relocationCount 4 = .ok (.getfield 283, 3) := by decide +kernel
theorem dX12_relocationCount_7 : decode cX12_relocationCount 7 = .ok (.ireturn, 1) := by decide +kernel
theorem dX12_meanRank_0 : decode cX12_meanRank 0 = .ok (.iconst 0, 1) := by decide +kernel
theorem dX12_meanRank_1 : decode cX12_meanRank 1 = .ok (.istore_n 1, 1) := by decide +kernel
theorem dX12_meanRank_2 : decode cX12_meanRank 2 = .ok (.iconst 0, 1) := by decide +kernel
theorem dX12_meanRank_3 : decode cX12_meanRank 3 = .ok (.istore_n 2, 1) := by decide +kernel
theorem dX12_meanRank_4 : decode cX12_meanRank 4 = .ok (.iconst 0, 1) := by decide +kernel
theorem dX12_meanRank_5 : decode cX12_meanRank 5 = .ok (.istore_n 3, 1) := by decide +kernel
theorem dX12_meanRank_6 : decode cX12_meanRank 6 = .ok (.iload_n 3, 1) := by decide +kernel
theorem dX12_meanRank_7 : decode cX12_meanRank 7 = .ok (.aload_n 0, 1) := by decide +kernel
theorem dX12_meanRank_8 : decode cX12_meanRank 8 = .ok (.getfield 99, 3) := by decide +kernel
theorem dX12_meanRank_11 : decode cX12_meanRank 11 = .ok (.getfield 127, 3) := by decide +kernel
theorem dX12_meanRank_14 : decode cX12_meanRank 14 = .ok (.if_icmp .ge 41, 3) := by decide +kernel
theorem dX12_meanRank_17 : decode cX12_meanRank 17 = .ok (.aload_n 0, 1) := by decide +kernel
theorem dX12_meanRank_18 : decode cX12_meanRank 18 = .ok (.getfield 99, 3) := by decide +kernel
theorem dX12_meanRank_21 : decode cX12_meanRank 21 = .ok (.iload_n 3, 1) := by decide +kernel
theorem dX12_meanRank_22 : decode cX12_meanRank 22 = .ok (.aload_n 0, 1) := by decide +kernel
theorem dX12_meanRank_23 : decode cX12_meanRank 23 = .ok (.getfield 99, 3) := by decide +kernel
theorem dX12_meanRank_26 : decode cX12_meanRank 26 = .ok (.iload_n 3, 1) := by decide +kernel
theorem dX12_meanRank_27 : decode cX12_meanRank 27 = .ok (.invokevirtual 167, 3) := by decide +kernel
theorem dX12_meanRank_30 : decode cX12_meanRank 30 = .ok (.invokevirtual 188, 3) := by decide +kernel
theorem dX12_meanRank_33 : decode cX12_meanRank 33 = .ok (.istore 4, 2) := by decide +kernel
theorem dX12_meanRank_35 : decode cX12_meanRank 35 = .ok (.iload 4, 2) := by decide +kernel
theorem dX12_meanRank_37 : decode cX12_meanRank 37 = .ok (.iconst (-1), 1) := by decide +kernel
theorem dX12_meanRank_38 : decode cX12_meanRank 38 = .ok (.if_icmp .eq 11, 3) := by decide +kernel
theorem dX12_meanRank_41 : decode cX12_meanRank 41 = .ok (.iload_n 1, 1) := by decide +kernel
theorem dX12_meanRank_42 : decode cX12_meanRank 42 = .ok (.iload 4, 2) := by decide +kernel
theorem dX12_meanRank_44 : decode cX12_meanRank 44 = .ok (.iadd, 1) := by decide +kernel
theorem dX12_meanRank_45 : decode cX12_meanRank 45 = .ok (.istore_n 1, 1) := by decide +kernel
theorem dX12_meanRank_46 : decode cX12_meanRank 46 = .ok (.iinc 2 1, 3) := by decide +kernel
theorem dX12_meanRank_49 : decode cX12_meanRank 49 = .ok (.iinc 3 1, 3) := by decide +kernel
theorem dX12_meanRank_52 : decode cX12_meanRank 52 = .ok (.goto (-46), 3) := by decide +kernel
theorem dX12_meanRank_55 : decode cX12_meanRank 55 = .ok (.iload_n 2, 1) := by decide +kernel
theorem dX12_meanRank_56 : decode cX12_meanRank 56 = .ok (.ifCond .ne 7, 3) := by decide +kernel
theorem dX12_meanRank_59 : decode cX12_meanRank 59 = .ok (.dconst 0, 1) := by decide +kernel
theorem dX12_meanRank_60 : decode cX12_meanRank 60 = .ok (.goto 8, 3) := by decide +kernel
theorem dX12_meanRank_63 : decode cX12_meanRank 63 = .ok (.iload_n 1, 1) := by decide +kernel
theorem dX12_meanRank_64 : decode cX12_meanRank 64 = .ok (.i2d, 1) := by decide +kernel
theorem dX12_meanRank_65 : decode cX12_meanRank 65 = .ok (.iload_n 2, 1) := by decide +kernel
theorem dX12_meanRank_66 : decode cX12_meanRank 66 = .ok (.i2d, 1) := by decide +kernel
theorem dX12_meanRank_67 : decode cX12_meanRank 67 = .ok (.ddiv, 1) := by decide +kernel
theorem dX12_meanRank_68 : decode cX12_meanRank 68 = .ok (.dreturn, 1) := by decide +kernel
theorem dX12_placedFraction_0 : decode cX12_placedFraction 0 = .ok (.aload_n 0, 1) := by decide +kernel
theorem dX12_placedFraction_1 : decode cX12_placedFraction 1 = .ok (.getfield 99, 3) := by decide +kernel
theorem dX12_placedFraction_4 : decode cX12_placedFraction 4 = .ok (.getfield 127, 3) := by decide +kernel
theorem dX12_placedFraction_7 : decode cX12_placedFraction 7 = .ok (.istore_n 1, 1) := by decide +kernel
theorem dX12_placedFraction_8 : decode cX12_placedFraction 8 = .ok (.iload_n 1, 1) := by decide +kernel
theorem dX12_placedFraction_9 : decode cX12_placedFraction 9 = .ok (.ifCond .ne 7, 3) := by decide +kernel
theorem dX12_placedFraction_12 : decode cX12_placedFraction 12 = .ok (.fconst 0, 1) := by decide +kernel
theorem dX12_placedFraction_13 : decode cX12_placedFraction 13 = .ok (.goto 14, 3) := by decide +kernel
theorem dX12_placedFraction_16 : decode cX12_placedFraction 16 = .ok (.aload_n 0, 1) := by decide +kernel
theorem dX12_placedFraction_17 : decode cX12_placedFraction 17 = .ok (.getfield 99, 3) := by decide +kernel
theorem dX12_placedFraction_20 : decode cX12_placedFraction 20 = .ok (.invokevirtual 223, 3) := by decide +kernel
theorem dX12_placedFraction_23 : decode cX12_placedFraction 23 = .ok (.i2f, 1) := by decide +kernel
theorem dX12_placedFraction_24 : decode cX12_placedFraction 24 = .ok (.iload_n 1, 1) := by decide +kernel
theorem dX12_placedFraction_25 : decode cX12_placedFraction 25 = .ok (.i2f, 1) := by decide +kernel
theorem dX12_placedFraction_26 : decode cX12_placedFraction 26 = .ok (.fdiv, 1) := by decide +kernel
theorem dX12_placedFraction_27 : decode cX12_placedFraction 27 = .ok (.freturn, 1) := by decide +kernel
theorem dX12_ledgerDifference_0 : decode cX12_ledgerDifference 0 = .ok (.iconst 0, 1) := by decide +kernel
theorem dX12_ledgerDifference_1 : decode cX12_ledgerDifference 1 = .ok (.istore_n 1, 1) := by decide +kernel
theorem dX12_ledgerDifference_2 : decode cX12_ledgerDifference 2 = .ok (.iconst 0, 1) := by decide +kernel
theorem dX12_ledgerDifference_3 : decode cX12_ledgerDifference 3 = .ok (.istore_n 2, 1) := by decide +kernel
theorem dX12_ledgerDifference_4 : decode cX12_ledgerDifference 4 = .ok (.iload_n 2, 1) := by decide +kernel
theorem dX12_ledgerDifference_5 : decode cX12_ledgerDifference 5 = .ok (.aload_n 0, 1) := by decide +kernel
theorem dX12_ledgerDifference_6 : decode cX12_ledgerDifference 6 = .ok (.getfield 99, 3) := by decide +kernel
theorem dX12_ledgerDifference_9 : decode cX12_ledgerDifference 9 = .ok (.getfield 127, 3) := by decide +kernel
theorem dX12_ledgerDifference_12 : decode cX12_ledgerDifference 12 = .ok (.if_icmp .ge 20, 3) := by decide +kernel
theorem dX12_ledgerDifference_15 : decode cX12_ledgerDifference 15 = .ok (.iload_n 1, 1) := by decide +kernel
theorem dX12_ledgerDifference_16 : decode cX12_ledgerDifference 16 = .ok (.aload_n 0, 1) := by decide +kernel
theorem dX12_ledgerDifference_17 : decode cX12_ledgerDifference 17 = .ok (.getfield 99, 3) := by decide +kernel
theorem dX12_ledgerDifference_20 : decode cX12_ledgerDifference 20 = .ok (.iload_n 2, 1) := by decide +kernel
theorem dX12_ledgerDifference_21 : decode cX12_ledgerDifference 21 = .ok (.invokevirtual 154, 3) := by decide +kernel
theorem dX12_ledgerDifference_24 : decode cX12_ledgerDifference 24 = .ok (.iadd, 1) := by decide +kernel
theorem dX12_ledgerDifference_25 : decode cX12_ledgerDifference 25 = .ok (.istore_n 1, 1) := by decide +kernel
theorem dX12_ledgerDifference_26 : decode cX12_ledgerDifference 26 = .ok (.iinc 2 1, 3) := by decide +kernel
theorem dX12_ledgerDifference_29 : decode cX12_ledgerDifference 29 = .ok (.goto (-25), 3) := by decide +kernel
theorem dX12_ledgerDifference_32 : decode cX12_ledgerDifference 32 = .ok (.iload_n 1, 1) := by decide +kernel
theorem dX12_ledgerDifference_33 : decode cX12_ledgerDifference 33 = .ok (.aload_n 0, 1) := by decide +kernel
theorem dX12_ledgerDifference_34 : decode cX12_ledgerDifference 34 = .ok (.getfield 99, 3) := by decide +kernel
theorem dX12_ledgerDifference_37 : decode cX12_ledgerDifference 37 = .ok (.getfield 286, 3) := by decide +kernel
theorem dX12_ledgerDifference_40 : decode cX12_ledgerDifference 40 = .ok (.isub, 1) := by decide +kernel
theorem dX12_ledgerDifference_41 : decode cX12_ledgerDifference 41 = .ok (.aload_n 0, 1) := by decide +kernel
theorem dX12_ledgerDifference_42 : decode cX12_ledgerDifference 42 = .ok (.getfield 99, 3) := by decide +kernel
theorem dX12_ledgerDifference_45 : decode cX12_ledgerDifference 45 = .ok (.getfield 289, 3) := by decide +kernel
theorem dX12_ledgerDifference_48 : decode cX12_ledgerDifference 48 = .ok (.isub, 1) := by decide +kernel
theorem dX12_ledgerDifference_49 : decode cX12_ledgerDifference 49 = .ok (.aload_n 0, 1) := by decide +kernel
theorem dX12_ledgerDifference_50 : decode cX12_ledgerDifference 50 = .ok (.getfield 99, 3) := by decide +kernel
theorem dX12_ledgerDifference_53 : decode cX12_ledgerDifference 53 = .ok (.getfield 274, 3) := by decide +kernel
theorem dX12_ledgerDifference_56 : decode cX12_ledgerDifference 56 = .ok (.iadd, 1) := by decide +kernel
theorem dX12_ledgerDifference_57 : decode cX12_ledgerDifference 57 = .ok (.ireturn, 1) := by decide +kernel
theorem dX12_assign_0 : decode cX12_assign 0 = .ok (.aload_n 0, 1) := by decide +kernel
theorem dX12_assign_1 : decode cX12_assign 1 = .ok (.iload_n 1, 1) := by decide +kernel
theorem dX12_assign_2 : decode cX12_assign 2 = .ok (.invokevirtual 151, 3) := by decide +kernel
theorem dX12_assign_5 : decode cX12_assign 5 = .ok (.aload_n 0, 1) := by decide +kernel
theorem dX12_assign_6 : decode cX12_assign 6 = .ok (.iload_n 2, 1) := by decide +kernel
theorem dX12_assign_7 : decode cX12_assign 7 = .ok (.invokevirtual 161, 3) := by decide +kernel
theorem dX12_assign_10 : decode cX12_assign 10 = .ok (.aload_n 0, 1) := by decide +kernel
theorem dX12_assign_11 : decode cX12_assign 11 = .ok (.getfield 99, 3) := by decide +kernel
theorem dX12_assign_14 : decode cX12_assign 14 = .ok (.iload_n 1, 1) := by decide +kernel
theorem dX12_assign_15 : decode cX12_assign 15 = .ok (.iload_n 2, 1) := by decide +kernel
theorem dX12_assign_16 : decode cX12_assign 16 = .ok (.invokevirtual 292, 3) := by decide +kernel
theorem dX12_assign_19 : decode cX12_assign 19 = .ok (.ifCond .ne 14, 3) := by decide +kernel
theorem dX12_assign_22 : decode cX12_assign 22 = .ok (.new 105, 3) := by decide +kernel
theorem dX12_assign_25 : decode cX12_assign 25 = .ok (.dup, 1) := by decide +kernel
theorem dX12_assign_26 : decode cX12_assign 26 = .ok (.ldc_w 296, 3) := by decide +kernel
theorem dX12_assign_29 : decode cX12_assign 29 = .ok (.invokespecial 109, 3) := by decide +kernel
theorem dX12_assign_32 : decode cX12_assign 32 = .ok (.athrow, 1) := by decide +kernel
theorem dX12_assign_33 : decode cX12_assign 33 = .ok (.aload_n 0, 1) := by decide +kernel
theorem dX12_assign_34 : decode cX12_assign 34 = .ok (.getfield 40, 3) := by decide +kernel
theorem dX12_assign_37 : decode cX12_assign 37 = .ok (.aload_n 0, 1) := by decide +kernel
theorem dX12_assign_38 : decode cX12_assign 38 = .ok (.getfield 99, 3) := by decide +kernel
theorem dX12_assign_41 : decode cX12_assign 41 = .ok (.invokevirtual 131, 3) := by decide +kernel
theorem dX12_assign_44 : decode cX12_assign 44 = .ok (.aload_n 0, 1) := by decide +kernel
theorem dX12_assign_45 : decode cX12_assign 45 = .ok (.getfield 99, 3) := by decide +kernel
theorem dX12_assign_48 : decode cX12_assign 48 = .ok (.iload_n 1, 1) := by decide +kernel
theorem dX12_assign_49 : decode cX12_assign 49 = .ok (.invokevirtual 167, 3) := by decide +kernel
theorem dX12_assign_52 : decode cX12_assign 52 = .ok (.istore_n 3, 1) := by decide +kernel
theorem dX12_assign_53 : decode cX12_assign 53 = .ok (.aload_n 0, 1) := by decide +kernel
theorem dX12_assign_54 : decode cX12_assign 54 = .ok (.getfield 99, 3) := by decide +kernel
theorem dX12_assign_57 : decode cX12_assign 57 = .ok (.iload_n 1, 1) := by decide +kernel
theorem dX12_assign_58 : decode cX12_assign 58 = .ok (.iload_n 2, 1) := by decide +kernel
theorem dX12_assign_59 : decode cX12_assign 59 = .ok (.invokevirtual 298, 3) := by decide +kernel
theorem dX12_assign_62 : decode cX12_assign 62 = .ok (.iload_n 3, 1) := by decide +kernel
theorem dX12_assign_63 : decode cX12_assign 63 = .ok (.ireturn, 1) := by decide +kernel
theorem dX12_vacate_0 : decode cX12_vacate 0 = .ok (.aload_n 0, 1) := by decide +kernel
theorem dX12_vacate_1 : decode cX12_vacate 1 = .ok (.iload_n 1, 1) := by decide +kernel
theorem dX12_vacate_2 : decode cX12_vacate 2 = .ok (.invokevirtual 151, 3) := by decide +kernel
theorem dX12_vacate_5 : decode cX12_vacate 5 = .ok (.aload_n 0, 1) := by decide +kernel
theorem dX12_vacate_6 : decode cX12_vacate 6 = .ok (.getfield 99, 3) := by decide +kernel
theorem dX12_vacate_9 : decode cX12_vacate 9 = .ok (.iload_n 1, 1) := by decide +kernel
theorem dX12_vacate_10 : decode cX12_vacate 10 = .ok (.invokevirtual 167, 3) := by decide +kernel
theorem dX12_vacate_13 : decode cX12_vacate 13 = .ok (.istore_n 2, 1) := by decide +kernel
theorem dX12_vacate_14 : decode cX12_vacate 14 = .ok (.iload_n 2, 1) := by decide +kernel
theorem dX12_vacate_15 : decode cX12_vacate 15 = .ok (.iconst (-1), 1) := by decide +kernel
theorem dX12_vacate_16 : decode cX12_vacate 16 = .ok (.if_icmp .ne 14, 3) := by decide +kernel
theorem dX12_vacate_19 : decode cX12_vacate 19 = .ok (.new 105, 3) := by decide +kernel
theorem dX12_vacate_22 : decode cX12_vacate 22 = .ok (.dup, 1) := by decide +kernel
theorem dX12_vacate_23 : decode cX12_vacate 23 = .ok (.ldc_w 301, 3) := by decide +kernel
theorem dX12_vacate_26 : decode cX12_vacate 26 = .ok (.invokespecial 109, 3) := by decide +kernel
theorem dX12_vacate_29 : decode cX12_vacate 29 = .ok (.athrow, 1) := by decide +kernel
theorem dX12_vacate_30 : decode cX12_vacate 30 = .ok (.aload_n 0, 1) := by decide +kernel
theorem dX12_vacate_31 : decode cX12_vacate 31 = .ok (.getfield 40, 3) := by decide +kernel
theorem dX12_vacate_34 : decode cX12_vacate 34 = .ok (.aload_n 0, 1) := by decide +kernel
theorem dX12_vacate_35 : decode cX12_vacate 35 = .ok (.getfield 99, 3) := by decide +kernel
theorem dX12_vacate_38 : decode cX12_vacate 38 = .ok (.invokevirtual 131, 3) := by decide +kernel
theorem dX12_vacate_41 : decode cX12_vacate 41 = .ok (.aload_n 0, 1) := by decide +kernel
theorem dX12_vacate_42 : decode cX12_vacate 42 = .ok (.getfield 99, 3) := by decide +kernel
theorem dX12_vacate_45 : decode cX12_vacate 45 = .ok (.iload_n 1, 1) := by decide +kernel
theorem dX12_vacate_46 : decode cX12_vacate 46 = .ok (.iconst (-1), 1) := by decide +kernel
theorem dX12_vacate_47 : decode cX12_vacate 47 = .ok (.invokevirtual 298, 3) := by decide +kernel
theorem dX12_vacate_50 : decode cX12_vacate 50 = .ok (.iload_n 2, 1) := by decide +kernel
theorem dX12_vacate_51 : decode cX12_vacate 51 = .ok (.ireturn, 1) := by decide +kernel
theorem dX12_swap_0 : decode cX12_swap 0 = .ok (.aload_n 0, 1) := by decide +kernel
theorem dX12_swap_1 : decode cX12_swap 1 = .ok (.iload_n 1, 1) := by decide +kernel
theorem dX12_swap_2 : decode cX12_swap 2 = .ok (.invokevirtual 151, 3) := by decide +kernel
theorem dX12_swap_5 : decode cX12_swap 5 = .ok (.aload_n 0, 1) := by decide +kernel
theorem dX12_swap_6 : decode cX12_swap 6 = .ok (.iload_n 2, 1) := by decide +kernel
theorem dX12_swap_7 : decode cX12_swap 7 = .ok (.invokevirtual 151, 3) := by decide +kernel
theorem dX12_swap_10 : decode cX12_swap 10 = .ok (.aload_n 0, 1) := by decide +kernel
theorem dX12_swap_11 : decode cX12_swap 11 = .ok (.getfield 99, 3) := by decide +kernel
theorem dX12_swap_14 : decode cX12_swap 14 = .ok (.iload_n 1, 1) := by decide +kernel
theorem dX12_swap_15 : decode cX12_swap 15 = .ok (.iload_n 2, 1) := by decide +kernel
theorem dX12_swap_16 : decode cX12_swap 16 = .ok (.invokestatic 232, 3) := by decide +kernel
theorem dX12_swap_19 : decode cX12_swap 19 = .ok (.ifCond .ne 14, 3) := by decide +kernel
theorem dX12_swap_22 : decode cX12_swap 22 = .ok (.new 105, 3) := by decide +kernel
theorem dX12_swap_25 : decode cX12_swap 25 = .ok (.dup, 1) := by decide +kernel
theorem dX12_swap_26 : decode cX12_swap 26 = .ok (.ldc_w 303, 3) := by decide +kernel
theorem dX12_swap_29 : decode cX12_swap 29 = .ok (.invokespecial 109, 3) := by decide +kernel
theorem dX12_swap_32 : decode cX12_swap 32 = .ok (.athrow, 1) := by decide +kernel
theorem dX12_swap_33 : decode cX12_swap 33 = .ok (.aload_n 0, 1) := by decide +kernel
theorem dX12_swap_34 : decode cX12_swap 34 = .ok (.getfield 40, 3) := by decide +kernel
theorem dX12_swap_37 : decode cX12_swap 37 = .ok (.aload_n 0, 1) := by decide +kernel
theorem dX12_swap_38 : decode cX12_swap 38 = .ok (.getfield 99, 3) := by decide +kernel
theorem dX12_swap_41 : decode cX12_swap 41 = .ok (.invokevirtual 131, 3) := by decide +kernel
theorem dX12_swap_44 : decode cX12_swap 44 = .ok (.aload_n 0, 1) := by decide +kernel
theorem dX12_swap_45 : decode cX12_swap 45 = .ok (.getfield 99, 3) := by decide +kernel
theorem dX12_swap_48 : decode cX12_swap 48 = .ok (.iload_n 1, 1) := by decide +kernel
theorem dX12_swap_49 : decode cX12_swap 49 = .ok (.iload_n 2, 1) := by decide +kernel
theorem dX12_swap_50 : decode cX12_swap 50 = .ok (.invokevirtual 305, 3) := by decide +kernel
theorem dX12_swap_53 : decode cX12_swap 53 = .ok (.aload_n 0, 1) := by decide +kernel
theorem dX12_swap_54 : decode cX12_swap 54 = .ok (.getfield 99, 3) := by decide +kernel
theorem dX12_swap_57 : decode cX12_swap 57 = .ok (.iload_n 1, 1) := by decide +kernel
theorem dX12_swap_58 : decode cX12_swap 58 = .ok (.invokevirtual 167, 3) := by decide +kernel
theorem dX12_swap_61 : decode cX12_swap 61 = .ok (.ireturn, 1) := by decide +kernel
theorem dX12_reallocate_0 : decode cX12_reallocate 0 = .ok (.aload_n 0, 1) := by decide +kernel
theorem dX12_reallocate_1 : decode cX12_reallocate 1 = .ok (.getfield 40, 3) := by decide +kernel
theorem dX12_reallocate_4 : decode cX12_reallocate 4 = .ok (.aload_n 0, 1) := by decide +kernel
theorem dX12_reallocate_5 : decode cX12_reallocate 5 = .ok (.getfield 99, 3) := by decide +kernel
theorem dX12_reallocate_8 : decode cX12_reallocate 8 = .ok (.invokevirtual 131, 3) := by decide +kernel
theorem dX12_reallocate_11 : decode cX12_reallocate 11 = .ok (.aload_n 0, 1) := by decide +kernel
theorem dX12_reallocate_12 : decode cX12_reallocate 12 = .ok (.getfield 47, 3) := by decide +kernel
theorem dX12_reallocate_15 : decode cX12_reallocate 15 = .ok (.aload_n 0, 1) := by decide +kernel
theorem dX12_reallocate_16 : decode cX12_reallocate 16 = .ok (.getfield 99, 3) := by decide +kernel
theorem dX12_reallocate_19 : decode cX12_reallocate 19 = .ok (.invokevirtual 250, 3) := by decide +kernel
theorem dX12_reallocate_22 : decode cX12_reallocate 22 = .ok (.aload_n 0, 1) := by decide +kernel
theorem dX12_reallocate_23 : decode cX12_reallocate 23 = .ok (.getfield 47, 3) := by decide +kernel
theorem dX12_reallocate_26 : decode cX12_reallocate 26 = .ok (.aload_n 0, 1) := by decide +kernel
theorem dX12_reallocate_27 : decode cX12_reallocate 27 = .ok (.getfield 99, 3) := by decide +kernel
theorem dX12_reallocate_30 : decode cX12_reallocate 30 = .ok (.invokevirtual 308, 3) := by decide +kernel
theorem dX12_reallocate_33 : decode cX12_reallocate 33 = .ok (.ireturn, 1) := by decide +kernel
theorem dX12_setPriority_0 : decode cX12_setPriority 0 = .ok (.aload_n 0, 1) := by decide +kernel
theorem dX12_setPriority_1 : decode cX12_setPriority 1 = .ok (.iload_n 1, 1) := by decide +kernel
theorem dX12_setPriority_2 : decode cX12_setPriority 2 = .ok (.invokevirtual 151, 3) := by decide +kernel
theorem dX12_setPriority_5 : decode cX12_setPriority 5 = .ok (.iload_n 2, 1) := by decide +kernel
theorem dX12_setPriority_6 : decode cX12_setPriority 6 = .ok (.ifCond .lt 14, 3) := by decide +kernel
theorem dX12_setPriority_9 : decode cX12_setPriority 9 = .ok (.iload_n 2, 1) := by decide +kernel
theorem dX12_setPriority_10 : decode cX12_setPriority 10 = .ok (.aload_n 0, 1) := by decide +kernel
theorem dX12_setPriority_11 : decode cX12_setPriority 11 = .ok (.getfield 99, 3) := by decide +kernel
theorem dX12_setPriority_14 : decode cX12_setPriority 14 = .ok (.getfield 127, 3) := by decide +kernel
theorem dX12_setPriority_17 : decode cX12_setPriority 17 = .ok (.if_icmp .lt 14, 3) := by decide +kernel
theorem dX12_setPriority_20 : decode cX12_setPriority 20 = .ok (.new 115, 3) := by decide +kernel
theorem dX12_setPriority_23 : decode cX12_setPriority 23 = .ok (.dup, 1) := by decide +kernel
theorem dX12_setPriority_24 : decode cX12_setPriority 24 = .ok (.ldc_w 311, 3) := by decide +kernel
theorem dX12_setPriority_27 : decode cX12_setPriority 27 = .ok (.invokespecial 119, 3) := by decide +kernel
theorem dX12_setPriority_30 : decode cX12_setPriority 30 = .ok (.athrow, 1) := by decide +kernel
theorem dX12_setPriority_31 : decode cX12_setPriority 31 = .ok (.aload_n 0, 1) := by decide +kernel
theorem dX12_setPriority_32 : decode cX12_setPriority 32 = .ok (.getfield 40, 3) := by decide +kernel
theorem dX12_setPriority_35 : decode cX12_setPriority 35 = .ok (.aload_n 0, 1) := by decide +kernel
theorem dX12_setPriority_36 : decode cX12_setPriority 36 = .ok (.getfield 99, 3) := by decide +kernel
theorem dX12_setPriority_39 : decode cX12_setPriority 39 = .ok (.invokevirtual 131, 3) := by decide +kernel
theorem dX12_setPriority_42 : decode cX12_setPriority 42 = .ok (.aload_n 0, 1) := by decide +kernel
theorem dX12_setPriority_43 : decode cX12_setPriority 43 = .ok (.getfield 99, 3) := by decide +kernel
theorem dX12_setPriority_46 : decode cX12_setPriority 46 = .ok (.iload_n 1, 1) := by decide +kernel
theorem dX12_setPriority_47 : decode cX12_setPriority 47 = .ok (.invokevirtual 173, 3) := by decide +kernel
theorem dX12_setPriority_50 : decode cX12_setPriority 50 = .ok (.istore_n 3, 1) := by decide +kernel
theorem dX12_setPriority_51 : decode cX12_setPriority 51 = .ok (.aload_n 0, 1) := by decide +kernel
theorem dX12_setPriority_52 : decode cX12_setPriority 52 = .ok (.getfield 99, 3) := by decide +kernel
theorem dX12_setPriority_55 : decode cX12_setPriority 55 = .ok (.iload_n 1, 1) := by decide +kernel
theorem dX12_setPriority_56 : decode cX12_setPriority 56 = .ok (.iload_n 2, 1) := by decide +kernel
theorem dX12_setPriority_57 : decode cX12_setPriority 57 = .ok (.invokevirtual 256, 3) := by decide +kernel
theorem dX12_setPriority_60 : decode cX12_setPriority 60 = .ok (.iload_n 3, 1) := by decide +kernel
theorem dX12_setPriority_61 : decode cX12_setPriority 61 = .ok (.ireturn, 1) := by decide +kernel
theorem dX12_preferFirst_0 : decode cX12_preferFirst 0 = .ok (.aload_n 0, 1) := by decide +kernel
theorem dX12_preferFirst_1 : decode cX12_preferFirst 1 = .ok (.iload_n 1, 1) := by decide +kernel
theorem dX12_preferFirst_2 : decode cX12_preferFirst 2 = .ok (.invokevirtual 151, 3) := by decide +kernel
theorem dX12_preferFirst_5 : decode cX12_preferFirst 5 = .ok (.aload_n 0, 1) := by decide +kernel
theorem dX12_preferFirst_6 : decode cX12_preferFirst 6 = .ok (.iload_n 2, 1) := by decide +kernel
theorem dX12_preferFirst_7 : decode cX12_preferFirst 7 = .ok (.invokevirtual 161, 3) := by decide +kernel
theorem dX12_preferFirst_10 : decode cX12_preferFirst 10 = .ok (.aload_n 0, 1) := by decide +kernel
theorem dX12_preferFirst_11 : decode cX12_preferFirst 11 = .ok (.getfield 40, 3) := by decide +kernel
theorem dX12_preferFirst_14 : decode cX12_preferFirst 14 = .ok (.aload_n 0, 1) := by decide +kernel
theorem dX12_preferFirst_15 : decode cX12_preferFirst 15 = .ok (.getfield 99, 3) := by decide +kernel
theorem dX12_preferFirst_18 : decode cX12_preferFirst 18 = .ok (.invokevirtual 131, 3) := by decide +kernel
theorem dX12_preferFirst_21 : decode cX12_preferFirst 21 = .ok (.aload_n 0, 1) := by decide +kernel
theorem dX12_preferFirst_22 : decode cX12_preferFirst 22 = .ok (.getfield 99, 3) := by decide +kernel
theorem dX12_preferFirst_25 : decode cX12_preferFirst 25 = .ok (.iload_n 1, 1) := by decide +kernel
theorem dX12_preferFirst_26 : decode cX12_preferFirst 26 = .ok (.iload_n 2, 1) := by decide +kernel
theorem dX12_preferFirst_27 : decode cX12_preferFirst 27 = .ok (.invokevirtual 260, 3) := by decide +kernel
theorem dX12_preferFirst_30 : decode cX12_preferFirst 30 = .ok (.aload_n 0, 1) := by decide +kernel
theorem dX12_preferFirst_31 : decode cX12_preferFirst 31 = .ok (.getfield 99, 3) := by decide +kernel
theorem dX12_preferFirst_34 : decode cX12_preferFirst 34 = .ok (.iload_n 1, 1) := by decide +kernel
theorem dX12_preferFirst_35 : decode cX12_preferFirst 35 = .ok (.invokevirtual 176, 3) := by decide +kernel
theorem dX12_preferFirst_38 : decode cX12_preferFirst 38 = .ok (.ireturn, 1) := by decide +kernel
theorem dX12_removePreference_0 : decode cX12_removePreference 0 = .ok (.aload_n 0, 1) := by decide +kernel
theorem dX12_removePreference_1 : decode cX12_removePreference 1 = .ok (.iload_n 1, 1) := by decide +kernel
theorem dX12_removePreference_2 : decode cX12_removePreference 2 = .ok (.invokevirtual 151, 3) := by decide +kernel
theorem dX12_removePreference_5 : decode cX12_removePreference 5 = .ok (.aload_n 0, 1) := by decide +kernel
theorem dX12_removePreference_6 : decode cX12_removePreference 6 = .ok (.iload_n 2, 1) := by decide +kernel
theorem dX12_removePreference_7 : decode cX12_removePreference 7 = .ok (.invokevirtual 161, 3) := by decide +kernel
theorem dX12_removePreference_10 : decode cX12_removePreference 10 = .ok (.aload_n 0, 1) := by decide +kernel
theorem dX12_removePreference_11 : decode cX12_removePreference 11 = .ok (.getfield 99, 3) := by decide +kernel
theorem dX12_removePreference_14 : decode cX12_removePreference 14 = .ok (.iload_n 1, 1) := by decide +kernel
theorem dX12_removePreference_15 : decode cX12_removePreference 15 = .ok (.iload_n 2, 1) := by decide +kernel
theorem dX12_removePreference_16 : decode cX12_removePreference 16 = .ok (.invokevirtual 188, 3) := by decide +kernel
theorem dX12_removePreference_19 : decode cX12_removePreference 19 = .ok (.iconst (-1), 1) := by decide +kernel
theorem dX12_removePreference_20 : decode cX12_removePreference 20 = .ok (.if_icmp .ne 14, 3) := by decide +kernel
theorem dX12_removePreference_23 : decode cX12_removePreference 23 = .ok (.new 105, 3) := by decide +kernel
theorem dX12_removePreference_26 : decode cX12_removePreference 26 = .ok (.dup, 1) := by decide +kernel
theorem dX12_removePreference_27 : decode cX12_removePreference 27 = .ok (.ldc_w 313, 3) := by decide +kernel
theorem dX12_removePreference_30 : decode cX12_removePreference 30 = .ok (.invokespecial 109, 3) := by decide +kernel
theorem dX12_removePreference_33 : decode cX12_removePreference 33 = .ok (.athrow, 1) := by decide +kernel
theorem dX12_removePreference_34 : decode cX12_removePreference 34 = .ok (.aload_n 0, 1) := by decide +kernel
theorem dX12_removePreference_35 : decode cX12_removePreference 35 = .ok (.getfield 40, 3) := by decide +kernel
theorem dX12_removePreference_38 : decode cX12_removePreference 38 = .ok (.aload_n 0, 1) := by decide +kernel
theorem dX12_removePreference_39 : decode cX12_removePreference 39 = .ok (.getfield 99, 3) := by decide +kernel
theorem dX12_removePreference_42 : decode cX12_removePreference 42 = .ok (.invokevirtual 131, 3) := by decide +kernel
theorem dX12_removePreference_45 : decode cX12_removePreference 45 = .ok (.aload_n 0, 1) := by decide +kernel
theorem dX12_removePreference_46 : decode cX12_removePreference 46 = .ok (.getfield 99, 3) := by decide +kernel
theorem dX12_removePreference_49 : decode cX12_removePreference 49 = .ok (.iload_n 1, 1) := by decide +kernel
theorem dX12_removePreference_50 : decode cX12_removePreference 50 = .ok (.iload_n 2, 1) := by decide +kernel
theorem dX12_removePreference_51 : decode cX12_removePreference 51 = .ok (.invokevirtual 315, 3) := by decide +kernel
theorem dX12_removePreference_54 : decode cX12_removePreference 54 = .ok (.aload_n 0, 1) := by decide +kernel
theorem dX12_removePreference_55 : decode cX12_removePreference 55 = .ok (.getfield 99, 3) := by decide +kernel
theorem dX12_removePreference_58 : decode cX12_removePreference 58 = .ok (.iload_n 1, 1) := by decide +kernel
theorem dX12_removePreference_59 : decode cX12_removePreference 59 = .ok (.invokevirtual 176, 3) := by decide +kernel
theorem dX12_removePreference_62 : decode cX12_removePreference 62 = .ok (.ireturn, 1) := by decide +kernel
theorem dX12_setRent_0 : decode cX12_setRent 0 = .ok (.aload_n 0, 1) := by decide +kernel
theorem dX12_setRent_1 : decode cX12_setRent 1 = .ok (.iload_n 1, 1) := by decide +kernel
theorem dX12_setRent_2 : decode cX12_setRent 2 = .ok (.invokevirtual 161, 3) := by decide +kernel
theorem dX12_setRent_5 : decode cX12_setRent 5 = .ok (.iload_n 2, 1) := by decide +kernel
theorem dX12_setRent_6 : decode cX12_setRent 6 = .ok (.ifCond .lt 9, 3) := by decide +kernel
theorem dX12_setRent_9 : decode cX12_setRent 9 = .ok (.iload_n 2, 1) := by decide +kernel
theorem dX12_setRent_10 : decode cX12_setRent 10 = .ok (.bipush 99, 2) := by decide +kernel
theorem dX12_setRent_12 : decode cX12_setRent 12 = .ok (.if_icmp .le 14, 3) := by decide +kernel
theorem dX12_setRent_15 : decode cX12_setRent 15 = .ok (.new 115, 3) := by decide +kernel
theorem dX12_setRent_18 : decode cX12_setRent 18 = .ok (.dup, 1) := by decide +kernel
theorem dX12_setRent_19 : decode cX12_setRent 19 = .ok (.ldc_w 318, 3) := by decide +kernel
theorem dX12_setRent_22 : decode cX12_setRent 22 = .ok (.invokespecial 119, 3) := by decide +kernel
theorem dX12_setRent_25 : decode cX12_setRent 25 = .ok (.athrow, 1) := by decide +kernel
theorem dX12_setRent_26 : decode cX12_setRent 26 = .ok (.aload_n 0, 1) := by decide +kernel
theorem dX12_setRent_27 : decode cX12_setRent 27 = .ok (.getfield 40, 3) := by decide +kernel
theorem dX12_setRent_30 : decode cX12_setRent 30 = .ok (.aload_n 0, 1) := by decide +kernel
theorem dX12_setRent_31 : decode cX12_setRent 31 = .ok (.getfield 99, 3) := by decide +kernel
theorem dX12_setRent_34 : decode cX12_setRent 34 = .ok (.invokevirtual 131, 3) := by decide +kernel
theorem dX12_setRent_37 : decode cX12_setRent 37 = .ok (.aload_n 0, 1) := by decide +kernel
theorem dX12_setRent_38 : decode cX12_setRent 38 = .ok (.getfield 99, 3) := by decide +kernel
theorem dX12_setRent_41 : decode cX12_setRent 41 = .ok (.iload_n 1, 1) := by decide +kernel
theorem dX12_setRent_42 : decode cX12_setRent 42 = .ok (.invokevirtual 164, 3) := by decide +kernel
theorem dX12_setRent_45 : decode cX12_setRent 45 = .ok (.istore_n 3, 1) := by decide +kernel
theorem dX12_setRent_46 : decode cX12_setRent 46 = .ok (.aload_n 0, 1) := by decide +kernel
theorem dX12_setRent_47 : decode cX12_setRent 47 = .ok (.getfield 99, 3) := by decide +kernel
theorem dX12_setRent_50 : decode cX12_setRent 50 = .ok (.iload_n 1, 1) := by decide +kernel
theorem dX12_setRent_51 : decode cX12_setRent 51 = .ok (.iload_n 2, 1) := by decide +kernel
theorem dX12_setRent_52 : decode cX12_setRent 52 = .ok (.invokevirtual 320, 3) := by decide +kernel
theorem dX12_setRent_55 : decode cX12_setRent 55 = .ok (.iload_n 3, 1) := by decide +kernel
theorem dX12_setRent_56 : decode cX12_setRent 56 = .ok (.ireturn, 1) := by decide +kernel
theorem dX12_deposit_0 : decode cX12_deposit 0 = .ok (.aload_n 0, 1) := by decide +kernel
theorem dX12_deposit_1 : decode cX12_deposit 1 = .ok (.iload_n 1, 1) := by decide +kernel
theorem dX12_deposit_2 : decode cX12_deposit 2 = .ok (.invokevirtual 151, 3) := by decide +kernel
theorem dX12_deposit_5 : decode cX12_deposit 5 = .ok (.iload_n 2, 1) := by decide +kernel
theorem dX12_deposit_6 : decode cX12_deposit 6 = .ok (.iconst 1, 1) := by decide +kernel
theorem dX12_deposit_7 : decode cX12_deposit 7 = .ok (.if_icmp .lt 10, 3) := by decide +kernel
theorem dX12_deposit_10 : decode cX12_deposit 10 = .ok (.iload_n 2, 1) := by decide +kernel
theorem dX12_deposit_11 : decode cX12_deposit 11 = .ok (.sipush 999, 3) := by decide +kernel
theorem dX12_deposit_14 : decode cX12_deposit 14 = .ok (.if_icmp .le 14, 3) := by decide +kernel
theorem dX12_deposit_17 : decode cX12_deposit 17 = .ok (.new 115, 3) := by decide +kernel
theorem dX12_deposit_20 : decode cX12_deposit 20 = .ok (.dup, 1) := by decide +kernel
theorem dX12_deposit_21 : decode cX12_deposit 21 = .ok (.ldc_w 323, 3) := by decide +kernel
theorem dX12_deposit_24 : decode cX12_deposit 24 = .ok (.invokespecial 119, 3) := by decide +kernel
theorem dX12_deposit_27 : decode cX12_deposit 27 = .ok (.athrow, 1) := by decide +kernel
theorem dX12_deposit_28 : decode cX12_deposit 28 = .ok (.aload_n 0, 1) := by decide +kernel
theorem dX12_deposit_29 : decode cX12_deposit 29 = .ok (.getfield 40, 3) := by decide +kernel
theorem dX12_deposit_32 : decode cX12_deposit 32 = .ok (.aload_n 0, 1) := by decide +kernel
theorem dX12_deposit_33 : decode cX12_deposit 33 = .ok (.getfield 99, 3) := by decide +kernel
theorem dX12_deposit_36 : decode cX12_deposit 36 = .ok (.invokevirtual 131, 3) := by decide +kernel
theorem dX12_deposit_39 : decode cX12_deposit 39 = .ok (.aload_n 0, 1) := by decide +kernel
theorem dX12_deposit_40 : decode cX12_deposit 40 = .ok (.getfield 99, 3) := by decide +kernel
theorem dX12_deposit_43 : decode cX12_deposit 43 = .ok (.iload_n 1, 1) := by decide +kernel
theorem dX12_deposit_44 : decode cX12_deposit 44 = .ok (.iload_n 2, 1) := by decide +kernel
theorem dX12_deposit_45 : decode cX12_deposit 45 = .ok (.invokevirtual 325, 3) := by decide +kernel
theorem dX12_deposit_48 : decode cX12_deposit 48 = .ok (.aload_n 0, 1) := by decide +kernel
theorem dX12_deposit_49 : decode cX12_deposit 49 = .ok (.getfield 99, 3) := by decide +kernel
theorem dX12_deposit_52 : decode cX12_deposit 52 = .ok (.iload_n 1, 1) := by decide +kernel
theorem dX12_deposit_53 : decode cX12_deposit 53 = .ok (.invokevirtual 154, 3) := by decide +kernel
theorem dX12_deposit_56 : decode cX12_deposit 56 = .ok (.ireturn, 1) := by decide +kernel
theorem dX12_advanceDays_0 : decode cX12_advanceDays 0 = .ok (.iload_n 1, 1) := by decide +kernel
theorem dX12_advanceDays_1 : decode cX12_advanceDays 1 = .ok (.iconst 1, 1) := by decide +kernel
theorem dX12_advanceDays_2 : decode cX12_advanceDays 2 = .ok (.if_icmp .lt 9, 3) := by decide +kernel
theorem dX12_advanceDays_5 : decode cX12_advanceDays 5 = .ok (.iload_n 1, 1) := by decide +kernel
theorem dX12_advanceDays_6 : decode cX12_advanceDays 6 = .ok (.bipush 99, 2) := by decide +kernel
theorem dX12_advanceDays_8 : decode cX12_advanceDays 8 = .ok (.if_icmp .le 14, 3) := by decide +kernel
theorem dX12_advanceDays_11 : decode cX12_advanceDays 11 = .ok (.new 115, 3) := by decide +kernel
theorem dX12_advanceDays_14 : decode cX12_advanceDays 14 = .ok (.dup, 1) := by decide +kernel
theorem dX12_advanceDays_15 : decode cX12_advanceDays 15 = .ok (.ldc_w 328, 3) := by decide +kernel
theorem dX12_advanceDays_18 : decode cX12_advanceDays 18 = .ok (.invokespecial 119, 3) := by decide +kernel
theorem dX12_advanceDays_21 : decode cX12_advanceDays 21 = .ok (.athrow, 1) := by decide +kernel
theorem dX12_advanceDays_22 : decode cX12_advanceDays 22 = .ok (.aload_n 0, 1) := by decide +kernel
theorem dX12_advanceDays_23 : decode cX12_advanceDays 23 = .ok (.getfield 99, 3) := by decide +kernel
theorem dX12_advanceDays_26 : decode cX12_advanceDays 26 = .ok (.iload_n 1, 1) := by decide +kernel
theorem dX12_advanceDays_27 : decode cX12_advanceDays 27 = .ok (.invokevirtual 330, 3) := by decide +kernel
theorem dX12_advanceDays_30 : decode cX12_advanceDays 30 = .ok (.ifCond .ne 14, 3) := by decide +kernel
theorem dX12_advanceDays_33 : decode cX12_advanceDays 33 = .ok (.new 105, 3) := by decide +kernel
theorem dX12_advanceDays_36 : decode cX12_advanceDays 36 = .ok (.dup, 1) := by decide +kernel
theorem dX12_advanceDays_37 : decode cX12_advanceDays 37 = .ok (.ldc_w 334, 3) := by decide +kernel
theorem dX12_advanceDays_40 : decode cX12_advanceDays 40 = .ok (.invokespecial 109, 3) := by decide +kernel
theorem dX12_advanceDays_43 : decode cX12_advanceDays 43 = .ok (.athrow, 1) := by decide +kernel
theorem dX12_advanceDays_44 : decode cX12_advanceDays 44 = .ok (.aload_n 0, 1) := by decide +kernel
theorem dX12_advanceDays_45 : decode cX12_advanceDays 45 = .ok (.getfield 40, 3) := by decide +kernel
theorem dX12_advanceDays_48 : decode cX12_advanceDays 48 = .ok (.aload_n 0, 1) := by decide +kernel
theorem dX12_advanceDays_49 : decode cX12_advanceDays 49 = .ok (.getfield 99, 3) := by decide +kernel
theorem dX12_advanceDays_52 : decode cX12_advanceDays 52 = .ok (.invokevirtual 131, 3) := by decide +kernel
theorem dX12_advanceDays_55 : decode cX12_advanceDays 55 = .ok (.aload_n 0, 1) := by decide +kernel
theorem dX12_advanceDays_56 : decode cX12_advanceDays 56 = .ok (.getfield 99, 3) := by decide +kernel
theorem dX12_advanceDays_59 : decode cX12_advanceDays 59 = .ok (.getfield 277, 3) := by decide +kernel
theorem dX12_advanceDays_62 : decode cX12_advanceDays 62 = .ok (.istore_n 2, 1) := by decide +kernel
theorem dX12_advanceDays_63 : decode cX12_advanceDays 63 = .ok (.aload_n 0, 1) := by decide +kernel
theorem dX12_advanceDays_64 : decode cX12_advanceDays 64 = .ok (.getfield 99, 3) := by decide +kernel
theorem dX12_advanceDays_67 : decode cX12_advanceDays 67 = .ok (.iload_n 1, 1) := by decide +kernel
theorem dX12_advanceDays_68 : decode cX12_advanceDays 68 = .ok (.invokevirtual 336, 3) := by decide +kernel
theorem dX12_advanceDays_71 : decode cX12_advanceDays 71 = .ok (.aload_n 0, 1) := by decide +kernel
theorem dX12_advanceDays_72 : decode cX12_advanceDays 72 = .ok (.getfield 99, 3) := by decide +kernel
theorem dX12_advanceDays_75 : decode cX12_advanceDays 75 = .ok (.getfield 277, 3) := by decide +kernel
theorem dX12_advanceDays_78 : decode cX12_advanceDays 78 = .ok (.iload_n 2, 1) := by decide +kernel
theorem dX12_advanceDays_79 : decode cX12_advanceDays 79 = .ok (.isub, 1) := by decide +kernel
theorem dX12_advanceDays_80 : decode cX12_advanceDays 80 = .ok (.ireturn, 1) := by decide +kernel
theorem dX12_writeAssignment_0 : decode cX12_writeAssignment 0 = .ok (.aload_n 0, 1) := by decide +kernel
theorem dX12_writeAssignment_1 : decode cX12_writeAssignment 1 = .ok (.getfield 12, 3) := by decide +kernel
theorem dX12_writeAssignment_4 : decode cX12_writeAssignment 4 = .ok (.iconst 0, 1) := by decide +kernel
theorem dX12_writeAssignment_5 : decode cX12_writeAssignment 5 = .ok (.invokevirtual 92, 3) := by decide +kernel
theorem dX12_writeAssignment_8 : decode cX12_writeAssignment 8 = .ok (.iconst 0, 1) := by decide +kernel
theorem dX12_writeAssignment_9 : decode cX12_writeAssignment 9 = .ok (.istore_n 1, 1) := by decide +kernel
theorem dX12_writeAssignment_10 : decode cX12_writeAssignment 10 = .ok (.iload_n 1, 1) := by decide +kernel
theorem dX12_writeAssignment_11 : decode cX12_writeAssignment 11 = .ok (.aload_n 0, 1) := by decide +kernel
theorem dX12_writeAssignment_12 : decode cX12_writeAssignment 12 = .ok (.getfield 99, 3) := by decide +kernel
theorem dX12_writeAssignment_15 : decode cX12_writeAssignment 15 = .ok (.getfield 127, 3) := by decide +kernel
theorem dX12_writeAssignment_18 : decode cX12_writeAssignment 18 = .ok (.if_icmp .ge 87, 3) := by decide +kernel
theorem dX12_writeAssignment_21 : decode cX12_writeAssignment 21 = .ok (.iload_n 1, 1) := by decide +kernel
theorem dX12_writeAssignment_22 : decode cX12_writeAssignment 22 = .ok (.ifCond .le 12, 3) := by decide +kernel
theorem dX12_writeAssignment_25 : decode cX12_writeAssignment 25 = .ok (.aload_n 0, 1) := by decide +kernel
theorem dX12_writeAssignment_26 : decode cX12_writeAssignment 26 = .ok (.getfield 12, 3) := by decide +kernel
theorem dX12_writeAssignment_29 : decode cX12_writeAssignment 29 = .ok (.bipush 32, 2) := by decide +kernel
theorem dX12_writeAssignment_31 : decode cX12_writeAssignment 31 = .ok (.invokevirtual 82, 3) := by decide +kernel
theorem dX12_writeAssignment_34 : decode cX12_writeAssignment 34 = .ok (.aload_n 0, 1) := by decide +kernel
theorem dX12_writeAssignment_35 : decode cX12_writeAssignment 35 = .ok (.getfield 12, 3) := by decide +kernel
theorem dX12_writeAssignment_38 : decode cX12_writeAssignment 38 = .ok (.aload_n 0, 1) := by decide +kernel
theorem dX12_writeAssignment_39 : decode cX12_writeAssignment 39 = .ok (.getfield 99, 3) := by decide +kernel
theorem dX12_writeAssignment_42 : decode cX12_writeAssignment 42 = .ok (.iload_n 1, 1) := by decide +kernel
theorem dX12_writeAssignment_43 : decode cX12_writeAssignment 43 = .ok (.invokevirtual 195, 3) := by decide +kernel
theorem dX12_writeAssignment_46 : decode cX12_writeAssignment 46 = .ok (.invokevirtual 339, 3) := by decide +kernel
theorem dX12_writeAssignment_49 : decode cX12_writeAssignment 49 = .ok (.aload_n 0, 1) := by decide +kernel
theorem dX12_writeAssignment_50 : decode cX12_writeAssignment 50 = .ok (.getfield 12, 3) := by decide +kernel
theorem dX12_writeAssignment_53 : decode cX12_writeAssignment 53 = .ok (.bipush 58, 2) := by decide +kernel
theorem dX12_writeAssignment_55 : decode cX12_writeAssignment 55 = .ok (.invokevirtual 82, 3) := by decide +kernel
theorem dX12_writeAssignment_58 : decode cX12_writeAssignment 58 = .ok (.aload_n 0, 1) := by decide +kernel
theorem dX12_writeAssignment_59 : decode cX12_writeAssignment 59 = .ok (.getfield 99, 3) := by decide +kernel
theorem dX12_writeAssignment_62 : decode cX12_writeAssignment 62 = .ok (.iload_n 1, 1) := by decide +kernel
theorem dX12_writeAssignment_63 : decode cX12_writeAssignment 63 = .ok (.invokevirtual 167, 3) := by decide +kernel
theorem dX12_writeAssignment_66 : decode cX12_writeAssignment 66 = .ok (.istore_n 2, 1) := by decide +kernel
theorem dX12_writeAssignment_67 : decode cX12_writeAssignment 67 = .ok (.iload_n 2, 1) := by decide +kernel
theorem dX12_writeAssignment_68 : decode cX12_writeAssignment 68 = .ok (.iconst (-1), 1) := by decide +kernel
theorem dX12_writeAssignment_69 : decode cX12_writeAssignment 69 = .ok (.if_icmp .ne 15, 3) := by decide +kernel
theorem dX12_writeAssignment_72 : decode cX12_writeAssignment 72 = .ok (.aload_n 0, 1) := by decide +kernel
theorem dX12_writeAssignment_73 : decode cX12_writeAssignment 73 = .ok (.getfield 12, 3) := by decide +kernel
theorem dX12_writeAssignment_76 : decode cX12_writeAssignment 76 = .ok (.bipush 45, 2) := by decide +kernel
theorem dX12_writeAssignment_78 : decode cX12_writeAssignment 78 = .ok (.invokevirtual 82, 3) := by decide +kernel
theorem dX12_writeAssignment_81 : decode cX12_writeAssignment 81 = .ok (.goto 18, 3) := by decide +kernel
theorem dX12_writeAssignment_84 : decode cX12_writeAssignment 84 = .ok (.aload_n 0, 1) := by decide +kernel
theorem dX12_writeAssignment_85 : decode cX12_writeAssignment 85 = .ok (.getfield 12, 3) := by decide +kernel
theorem dX12_writeAssignment_88 : decode cX12_writeAssignment 88 = .ok (.aload_n 0, 1) := by decide +kernel
theorem dX12_writeAssignment_89 : decode cX12_writeAssignment 89 = .ok (.getfield 99, 3) := by decide +kernel
theorem dX12_writeAssignment_92 : decode cX12_writeAssignment 92 = .ok (.iload_n 2, 1) := by decide +kernel
theorem dX12_writeAssignment_93 : decode cX12_writeAssignment 93 = .ok (.invokevirtual 203, 3) := by decide +kernel
theorem dX12_writeAssignment_96 : decode cX12_writeAssignment 96 = .ok (.invokevirtual 339, 3) := by decide +kernel
theorem dX12_writeAssignment_99 : decode cX12_writeAssignment 99 = .ok (.iinc 1 1, 3) := by decide +kernel
theorem dX12_writeAssignment_102 : decode cX12_writeAssignment 102 = .ok (.goto (-92), 3) := by decide +kernel
theorem dX12_writeAssignment_105 : decode cX12_writeAssignment 105 = .ok (.aload_n 0, 1) := by decide +kernel
theorem dX12_writeAssignment_106 : decode cX12_writeAssignment 106 = .ok (.getfield 12, 3) := by decide +kernel
theorem dX12_writeAssignment_109 : decode cX12_writeAssignment 109 = .ok (.getfield 102, 3) := by decide +kernel
theorem dX12_writeAssignment_112 : decode cX12_writeAssignment 112 = .ok (.ireturn, 1) := by decide +kernel
theorem dX12_writePreferences_0 : decode cX12_writePreferences 0 = .ok (.aload_n 0, 1) := by decide +kernel
theorem dX12_writePreferences_1 : decode cX12_writePreferences 1 = .ok (.iload_n 1, 1) := by decide +kernel
theorem dX12_writePreferences_2 : decode cX12_writePreferences 2 = .ok (.invokevirtual 151, 3) := by decide +kernel
theorem dX12_writePreferences_5 : decode cX12_writePreferences 5 = .ok (.aload_n 0, 1) := by decide +kernel
theorem dX12_writePreferences_6 : decode cX12_writePreferences 6 = .ok (.getfield 12, 3) := by decide +kernel
theorem dX12_writePreferences_9 : decode cX12_writePreferences 9 = .ok (.iconst 0, 1) := by decide +kernel
theorem dX12_writePreferences_10 : decode cX12_writePreferences 10 = .ok (.invokevirtual 92, 3) := by decide +kernel
theorem dX12_writePreferences_13 : decode cX12_writePreferences 13 = .ok (.iconst 0, 1) := by decide +kernel
theorem dX12_writePreferences_14 : decode cX12_writePreferences 14 = .ok (.istore_n 2, 1) := by decide +kernel
theorem dX12_writePreferences_15 : decode cX12_writePreferences 15 = .ok (.iload_n 2, 1) := by decide +kernel
theorem dX12_writePreferences_16 : decode cX12_writePreferences 16 = .ok (.aload_n 0, 1) := by decide +kernel
theorem dX12_writePreferences_17 : decode cX12_writePreferences 17 = .ok (.getfield 99, 3) := by decide +kernel
theorem dX12_writePreferences_20 : decode cX12_writePreferences 20 = .ok (.iload_n 1, 1) := by decide +kernel
theorem dX12_writePreferences_21 : decode cX12_writePreferences 21 = .ok (.invokevirtual 176, 3) := by decide +kernel
theorem dX12_writePreferences_24 : decode cX12_writePreferences 24 = .ok (.if_icmp .ge 45, 3) := by decide +kernel
theorem dX12_writePreferences_27 : decode cX12_writePreferences 27 = .ok (.iload_n 2, 1) := by decide +kernel
theorem dX12_writePreferences_28 : decode cX12_writePreferences 28 = .ok (.ifCond .le 12, 3) := by decide +kernel
theorem dX12_writePreferences_31 : decode cX12_writePreferences 31 = .ok (.aload_n 0, 1) := by decide +kernel
theorem dX12_writePreferences_32 : decode cX12_writePreferences 32 = .ok (.getfield 12, 3) := by decide +kernel
theorem dX12_writePreferences_35 : decode cX12_writePreferences 35 = .ok (.bipush 62, 2) := by decide +kernel
theorem dX12_writePreferences_37 : decode cX12_writePreferences 37 = .ok (.invokevirtual 82, 3) := by decide +kernel
theorem dX12_writePreferences_40 : decode cX12_writePreferences 40 = .ok (.aload_n 0, 1) := by decide +kernel
theorem dX12_writePreferences_41 : decode cX12_writePreferences 41 = .ok (.getfield 12, 3) := by decide +kernel
theorem dX12_writePreferences_44 : decode cX12_writePreferences 44 = .ok (.aload_n 0, 1) := by decide +kernel
theorem dX12_writePreferences_45 : decode cX12_writePreferences 45 = .ok (.getfield 99, 3) := by decide +kernel
theorem dX12_writePreferences_48 : decode cX12_writePreferences 48 = .ok (.aload_n 0, 1) := by decide +kernel
theorem dX12_writePreferences_49 : decode cX12_writePreferences 49 = .ok (.getfield 99, 3) := by decide +kernel
theorem dX12_writePreferences_52 : decode cX12_writePreferences 52 = .ok (.iload_n 1, 1) := by decide +kernel
theorem dX12_writePreferences_53 : decode cX12_writePreferences 53 = .ok (.iload_n 2, 1) := by decide +kernel
theorem dX12_writePreferences_54 : decode cX12_writePreferences 54 = .ok (.invokevirtual 184, 3) := by decide +kernel
theorem dX12_writePreferences_57 : decode cX12_writePreferences 57 = .ok (.invokevirtual 203, 3) := by decide +kernel
theorem dX12_writePreferences_60 : decode cX12_writePreferences 60 = .ok (.invokevirtual 339, 3) := by decide +kernel
theorem dX12_writePreferences_63 : decode cX12_writePreferences 63 = .ok (.iinc 2 1, 3) := by decide +kernel
theorem dX12_writePreferences_66 : decode cX12_writePreferences 66 = .ok (.goto (-51), 3) := by decide +kernel
theorem dX12_writePreferences_69 : decode cX12_writePreferences 69 = .ok (.aload_n 0, 1) := by decide +kernel
theorem dX12_writePreferences_70 : decode cX12_writePreferences 70 = .ok (.getfield 12, 3) := by decide +kernel
theorem dX12_writePreferences_73 : decode cX12_writePreferences 73 = .ok (.getfield 102, 3) := by decide +kernel
theorem dX12_writePreferences_76 : decode cX12_writePreferences 76 = .ok (.ireturn, 1) := by decide +kernel
theorem dX12_outputByte_0 : decode cX12_outputByte 0 = .ok (.aload_n 0, 1) := by decide +kernel
theorem dX12_outputByte_1 : decode cX12_outputByte 1 = .ok (.getfield 12, 3) := by decide +kernel
theorem dX12_outputByte_4 : decode cX12_outputByte 4 = .ok (.iload_n 1, 1) := by decide +kernel
theorem dX12_outputByte_5 : decode cX12_outputByte 5 = .ok (.invokevirtual 343, 3) := by decide +kernel
theorem dX12_outputByte_8 : decode cX12_outputByte 8 = .ok (.ireturn, 1) := by decide +kernel
theorem dX12_undo_0 : decode cX12_undo 0 = .ok (.aload_n 0, 1) := by decide +kernel
theorem dX12_undo_1 : decode cX12_undo 1 = .ok (.getfield 40, 3) := by decide +kernel
theorem dX12_undo_4 : decode cX12_undo 4 = .ok (.aload_n 0, 1) := by decide +kernel
theorem dX12_undo_5 : decode cX12_undo 5 = .ok (.getfield 99, 3) := by decide +kernel
theorem dX12_undo_8 : decode cX12_undo 8 = .ok (.invokevirtual 346, 3) := by decide +kernel
theorem dX12_undo_11 : decode cX12_undo 11 = .ok (.ireturn, 1) := by decide +kernel
theorem dX12_undoCount_0 : decode cX12_undoCount 0 = .ok (.aload_n 0, 1) := by decide +kernel
theorem dX12_undoCount_1 : decode cX12_undoCount 1 = .ok (.getfield 40, 3) := by decide +kernel
theorem dX12_undoCount_4 : decode cX12_undoCount 4 = .ok (.getfield 349, 3) := by decide +kernel
theorem dX12_undoCount_7 : decode cX12_undoCount 7 = .ok (.ireturn, 1) := by decide +kernel
theorem dX12_save_0 : decode cX12_save 0 = .ok (.aload_n 0, 1) := by decide +kernel
theorem dX12_save_1 : decode cX12_save 1 = .ok (.getfield 99, 3) := by decide +kernel
theorem dX12_save_4 : decode cX12_save 4 = .ok (.aload_n 0, 1) := by decide +kernel
theorem dX12_save_5 : decode cX12_save 5 = .ok (.getfield 30, 3) := by decide +kernel
theorem dX12_save_8 : decode cX12_save 8 = .ok (.invokestatic 120, 3) := by decide +kernel
theorem dX12_save_11 : decode cX12_save 11 = .ok (.aload_n 0, 1) := by decide +kernel
theorem dX12_save_12 : decode cX12_save 12 = .ok (.iconst 1, 1) := by decide +kernel
theorem dX12_save_13 : decode cX12_save 13 = .ok (.putfield 33, 3) := by decide +kernel
theorem dX12_save_16 : decode cX12_save 16 = .ok (.aload_n 0, 1) := by decide +kernel
theorem dX12_save_17 : decode cX12_save 17 = .ok (.getfield 99, 3) := by decide +kernel
theorem dX12_save_20 : decode cX12_save 20 = .ok (.getfield 148, 3) := by decide +kernel
theorem dX12_save_23 : decode cX12_save 23 = .ok (.ireturn, 1) := by decide +kernel
theorem dX12_restore_0 : decode cX12_restore 0 = .ok (.aload_n 0, 1) := by decide +kernel
theorem dX12_restore_1 : decode cX12_restore 1 = .ok (.getfield 33, 3) := by decide +kernel
theorem dX12_restore_4 : decode cX12_restore 4 = .ok (.ifCond .ne 14, 3) := by decide +kernel
theorem dX12_restore_7 : decode cX12_restore 7 = .ok (.new 105, 3) := by decide +kernel
theorem dX12_restore_10 : decode cX12_restore 10 = .ok (.dup, 1) := by decide +kernel
theorem dX12_restore_11 : decode cX12_restore 11 = .ok (.ldc_w 352, 3) := by decide +kernel
theorem dX12_restore_14 : decode cX12_restore 14 = .ok (.invokespecial 109, 3) := by decide +kernel
theorem dX12_restore_17 : decode cX12_restore 17 = .ok (.athrow, 1) := by decide +kernel
theorem dX12_restore_18 : decode cX12_restore 18 = .ok (.aload_n 0, 1) := by decide +kernel
theorem dX12_restore_19 : decode cX12_restore 19 = .ok (.getfield 30, 3) := by decide +kernel
theorem dX12_restore_22 : decode cX12_restore 22 = .ok (.aload_n 0, 1) := by decide +kernel
theorem dX12_restore_23 : decode cX12_restore 23 = .ok (.getfield 99, 3) := by decide +kernel
theorem dX12_restore_26 : decode cX12_restore 26 = .ok (.invokestatic 120, 3) := by decide +kernel
theorem dX12_restore_29 : decode cX12_restore 29 = .ok (.aload_n 0, 1) := by decide +kernel
theorem dX12_restore_30 : decode cX12_restore 30 = .ok (.getfield 40, 3) := by decide +kernel
theorem dX12_restore_33 : decode cX12_restore 33 = .ok (.invokevirtual 124, 3) := by decide +kernel
theorem dX12_restore_36 : decode cX12_restore 36 = .ok (.aload_n 0, 1) := by decide +kernel
theorem dX12_restore_37 : decode cX12_restore 37 = .ok (.getfield 99, 3) := by decide +kernel
theorem dX12_restore_40 : decode cX12_restore 40 = .ok (.getfield 148, 3) := by decide +kernel
theorem dX12_restore_43 : decode cX12_restore 43 = .ok (.ireturn, 1) := by decide +kernel
theorem dX12_requireSeller_0 : decode cX12_requireSeller 0 = .ok (.iload_n 1, 1) := by decide +kernel
theorem dX12_requireSeller_1 : decode cX12_requireSeller 1 = .ok (.ifCond .lt 14, 3) := by decide +kernel
theorem dX12_requireSeller_4 : decode cX12_requireSeller 4 = .ok (.iload_n 1, 1) := by decide +kernel
theorem dX12_requireSeller_5 : decode cX12_requireSeller 5 = .ok (.aload_n 0, 1) := by decide +kernel
theorem dX12_requireSeller_6 : decode cX12_requireSeller 6 = .ok (.getfield 99, 3) := by decide +kernel
theorem dX12_requireSeller_9 : decode cX12_requireSeller 9 = .ok (.getfield 127, 3) := by decide +kernel
theorem dX12_requireSeller_12 : decode cX12_requireSeller 12 = .ok (.if_icmp .lt 14, 3) := by decide +kernel
theorem dX12_requireSeller_15 : decode cX12_requireSeller 15 = .ok (.new 179, 3) := by decide +kernel
theorem dX12_requireSeller_18 : decode cX12_requireSeller 18 = .ok (.dup, 1) := by decide +kernel
theorem dX12_requireSeller_19 : decode cX12_requireSeller 19 = .ok (.ldc_w 354, 3) := by decide +kernel
theorem dX12_requireSeller_22 : decode cX12_requireSeller 22 = .ok (.invokespecial 183, 3) := by decide +kernel
theorem dX12_requireSeller_25 : decode cX12_requireSeller 25 = .ok (.athrow, 1) := by decide +kernel
theorem dX12_requireSeller_26 : decode cX12_requireSeller 26 = .ok (.return_, 1) := by decide +kernel
theorem dX12_requireStall_0 : decode cX12_requireStall 0 = .ok (.iload_n 1, 1) := by decide +kernel
theorem dX12_requireStall_1 : decode cX12_requireStall 1 = .ok (.ifCond .lt 14, 3) := by decide +kernel
theorem dX12_requireStall_4 : decode cX12_requireStall 4 = .ok (.iload_n 1, 1) := by decide +kernel
theorem dX12_requireStall_5 : decode cX12_requireStall 5 = .ok (.aload_n 0, 1) := by decide +kernel
theorem dX12_requireStall_6 : decode cX12_requireStall 6 = .ok (.getfield 99, 3) := by decide +kernel
theorem dX12_requireStall_9 : decode cX12_requireStall 9 = .ok (.getfield 145, 3) := by decide +kernel
theorem dX12_requireStall_12 : decode cX12_requireStall 12 = .ok (.if_icmp .lt 14, 3) := by decide +kernel
theorem dX12_requireStall_15 : decode cX12_requireStall 15 = .ok (.new 179, 3) := by decide +kernel
theorem dX12_requireStall_18 : decode cX12_requireStall 18 = .ok (.dup, 1) := by decide +kernel
theorem dX12_requireStall_19 : decode cX12_requireStall 19 = .ok (.ldc_w 356, 3) := by decide +kernel
theorem dX12_requireStall_22 : decode cX12_requireStall 22 = .ok (.invokespecial 183, 3) := by decide +kernel
theorem dX12_requireStall_25 : decode cX12_requireStall 25 = .ok (.athrow, 1) := by decide +kernel
theorem dX12_requireStall_26 : decode cX12_requireStall 26 = .ok (.return_, 1) := by decide +kernel
theorem dX12_lettersIn_0 : decode cX12_lettersIn 0 = .ok (.iconst 0, 1) := by decide +kernel
theorem dX12_lettersIn_1 : decode cX12_lettersIn 1 = .ok (.istore_n 2, 1) := by decide +kernel
theorem dX12_lettersIn_2 : decode cX12_lettersIn 2 = .ok (.iload_n 2, 1) := by decide +kernel
theorem dX12_lettersIn_3 : decode cX12_lettersIn 3 = .ok (.bipush 6, 2) := by decide +kernel
theorem dX12_lettersIn_5 : decode cX12_lettersIn 5 = .ok (.if_icmp .ge 20, 3) := by decide +kernel
theorem dX12_lettersIn_8 : decode cX12_lettersIn 8 = .ok (.lload_n 0, 1) := by decide +kernel
theorem dX12_lettersIn_9 : decode cX12_lettersIn 9 = .ok (.bipush 8, 2) := by decide +kernel
theorem dX12_lettersIn_11 : decode cX12_lettersIn 11 = .ok (.iload_n 2, 1) := by decide +kernel
theorem dX12_lettersIn_12 : decode cX12_lettersIn 12 = .ok (.imul, 1) := by decide +kernel
theorem dX12_lettersIn_13 : decode cX12_lettersIn 13 = .ok (.lushr, 1) := by decide +kernel
theorem dX12_lettersIn_14 : decode cX12_lettersIn 14 = .ok (.lconst 0, 1) := by decide +kernel
theorem dX12_lettersIn_15 : decode cX12_lettersIn 15 = .ok (.lcmp, 1) := by decide +kernel
theorem dX12_lettersIn_16 : decode cX12_lettersIn 16 = .ok (.ifCond .eq 9, 3) := by decide +kernel
theorem dX12_lettersIn_19 : decode cX12_lettersIn 19 = .ok (.iinc 2 1, 3) := by decide +kernel
theorem dX12_lettersIn_22 : decode cX12_lettersIn 22 = .ok (.goto (-20), 3) := by decide +kernel
theorem dX12_lettersIn_25 : decode cX12_lettersIn 25 = .ok (.iload_n 2, 1) := by decide +kernel
theorem dX12_lettersIn_26 : decode cX12_lettersIn 26 = .ok (.ireturn, 1) := by decide +kernel
theorem dX12_letterAt_0 : decode cX12_letterAt 0 = .ok (.lload_n 0, 1) := by decide +kernel
theorem dX12_letterAt_1 : decode cX12_letterAt 1 = .ok (.invokestatic 358, 3) := by decide +kernel
theorem dX12_letterAt_4 : decode cX12_letterAt 4 = .ok (.istore_n 3, 1) := by decide +kernel
theorem dX12_letterAt_5 : decode cX12_letterAt 5 = .ok (.iload_n 2, 1) := by decide +kernel
theorem dX12_letterAt_6 : decode cX12_letterAt 6 = .ok (.ifCond .lt 8, 3) := by decide +kernel
theorem dX12_letterAt_9 : decode cX12_letterAt 9 = .ok (.iload_n 2, 1) := by decide +kernel
theorem dX12_letterAt_10 : decode cX12_letterAt 10 = .ok (.iload_n 3, 1) := by decide +kernel
theorem dX12_letterAt_11 : decode cX12_letterAt 11 = .ok (.if_icmp .lt 5, 3) := by decide +kernel
theorem dX12_letterAt_14 : decode cX12_letterAt 14 = .ok (.iconst (-1), 1) := by decide +kernel
theorem dX12_letterAt_15 : decode cX12_letterAt 15 = .ok (.ireturn, 1) := by decide +kernel
theorem dX12_letterAt_16 : decode cX12_letterAt 16 = .ok (.lload_n 0, 1) := by decide +kernel
theorem dX12_letterAt_17 : decode cX12_letterAt 17 = .ok (.bipush 8, 2) := by decide +kernel
theorem dX12_letterAt_19 : decode cX12_letterAt 19 = .ok (.iload_n 3, 1) := by decide +kernel
theorem dX12_letterAt_20 : decode cX12_letterAt 20 = .ok (.iconst 1, 1) := by decide +kernel
theorem dX12_letterAt_21 : decode cX12_letterAt 21 = .ok (.isub, 1) := by decide +kernel
theorem dX12_letterAt_22 : decode cX12_letterAt 22 = .ok (.iload_n 2, 1) := by decide +kernel
theorem dX12_letterAt_23 : decode cX12_letterAt 23 = .ok (.isub, 1) := by decide +kernel
theorem dX12_letterAt_24 : decode cX12_letterAt 24 = .ok (.imul, 1) := by decide +kernel
theorem dX12_letterAt_25 : decode cX12_letterAt 25 = .ok (.lushr, 1) := by decide +kernel
theorem dX12_letterAt_26 : decode cX12_letterAt 26 = .ok (.l2i, 1) := by decide +kernel
theorem dX12_letterAt_27 : decode cX12_letterAt 27 = .ok (.sipush 255, 3) := by decide +kernel
theorem dX12_letterAt_30 : decode cX12_letterAt 30 = .ok (.iand, 1) := by decide +kernel
theorem dX12_letterAt_31 : decode cX12_letterAt 31 = .ok (.ireturn, 1) := by decide +kernel
theorem dX13_init_0 : decode cX13_init 0 = .ok (.aload_n 0, 1) := by decide +kernel
theorem dX13_init_1 : decode cX13_init 1 = .ok (.invokespecial 1, 3) := by decide +kernel
theorem dX13_init_4 : decode cX13_init 4 = .ok (.aload_n 0, 1) := by decide +kernel
theorem dX13_init_5 : decode cX13_init 5 = .ok (.sipush 137, 3) := by decide +kernel
theorem dX13_init_8 : decode cX13_init 8 = .ok (.newarray .int, 2) := by decide +kernel
theorem dX13_init_10 : decode cX13_init 10 = .ok (.putfield 7, 3) := by decide +kernel
theorem dX13_init_13 : decode cX13_init 13 = .ok (.aload_n 0, 1) := by decide +kernel
theorem dX13_init_14 : decode cX13_init 14 = .ok (.sipush 137, 3) := by decide +kernel
theorem dX13_init_17 : decode cX13_init 17 = .ok (.newarray .int, 2) := by decide +kernel
theorem dX13_init_19 : decode cX13_init 19 = .ok (.putfield 13, 3) := by decide +kernel
theorem dX13_init_22 : decode cX13_init 22 = .ok (.aload_n 0, 1) := by decide +kernel
theorem dX13_init_23 : decode cX13_init 23 = .ok (.sipush 137, 3) := by decide +kernel
theorem dX13_init_26 : decode cX13_init 26 = .ok (.newarray .int, 2) := by decide +kernel
theorem dX13_init_28 : decode cX13_init 28 = .ok (.putfield 16, 3) := by decide +kernel
theorem dX13_init_31 : decode cX13_init 31 = .ok (.aload_n 0, 1) := by decide +kernel
theorem dX13_init_32 : decode cX13_init 32 = .ok (.sipush 1096, 3) := by decide +kernel
theorem dX13_init_35 : decode cX13_init 35 = .ok (.newarray .int, 2) := by decide +kernel
theorem dX13_init_37 : decode cX13_init 37 = .ok (.putfield 19, 3) := by decide +kernel
theorem dX13_init_40 : decode cX13_init 40 = .ok (.aload_n 0, 1) := by decide +kernel
theorem dX13_init_41 : decode cX13_init 41 = .ok (.sipush 700, 3) := by decide +kernel
theorem dX13_init_44 : decode cX13_init 44 = .ok (.newarray .int, 2) := by decide +kernel
theorem dX13_init_46 : decode cX13_init 46 = .ok (.putfield 22, 3) := by decide +kernel
theorem dX13_init_49 : decode cX13_init 49 = .ok (.aload_n 0, 1) := by decide +kernel
theorem dX13_init_50 : decode cX13_init 50 = .ok (.iconst (-1), 1) := by decide +kernel
theorem dX13_init_51 : decode cX13_init 51 = .ok (.putfield 25, 3) := by decide +kernel
theorem dX13_init_54 : decode cX13_init 54 = .ok (.aload_n 0, 1) := by decide +kernel
theorem dX13_init_55 : decode cX13_init 55 = .ok (.sipush 160, 3) := by decide +kernel
theorem dX13_init_58 : decode cX13_init 58 = .ok (.newarray .int, 2) := by decide +kernel
theorem dX13_init_60 : decode cX13_init 60 = .ok (.putfield 29, 3) := by decide +kernel
theorem dX13_init_63 : decode cX13_init 63 = .ok (.aload_n 0, 1) := by decide +kernel
theorem dX13_init_64 : decode cX13_init 64 = .ok (.bipush 8, 2) := by decide +kernel
theorem dX13_init_66 : decode cX13_init 66 = .ok (.newarray .int, 2) := by decide +kernel
theorem dX13_init_68 : decode cX13_init 68 = .ok (.putfield 32, 3) := by decide +kernel
theorem dX13_init_71 : decode cX13_init 71 = .ok (.aload_n 0, 1) := by decide +kernel
theorem dX13_init_72 : decode cX13_init 72 = .ok (.bipush 8, 2) := by decide +kernel
theorem dX13_init_74 : decode cX13_init 74 = .ok (.newarray .int, 2) := by decide +kernel
theorem dX13_init_76 : decode cX13_init 76 = .ok (.putfield 35, 3) := by decide +kernel
theorem dX13_init_79 : decode cX13_init 79 = .ok (.aload_n 0, 1) := by decide +kernel
theorem dX13_init_80 : decode cX13_init 80 = .ok (.bipush 8, 2) := by decide +kernel
theorem dX13_init_82 : decode cX13_init 82 = .ok (.newarray .int, 2) := by decide +kernel
theorem dX13_init_84 : decode cX13_init 84 = .ok (.putfield 38, 3) := by decide +kernel
theorem dX13_init_87 : decode cX13_init 87 = .ok (.aload_n 0, 1) := by decide +kernel
theorem dX13_init_88 : decode cX13_init 88 = .ok (.bipush 8, 2) := by decide +kernel
theorem dX13_init_90 : decode cX13_init 90 = .ok (.newarray .int, 2) := by decide +kernel
theorem dX13_init_92 : decode cX13_init 92 = .ok (.putfield 41, 3) := by decide +kernel
theorem dX13_init_95 : decode cX13_init 95 = .ok (.aload_n 0, 1) := by decide +kernel
theorem dX13_init_96 : decode cX13_init 96 = .ok (.bipush 8, 2) := by decide +kernel
theorem dX13_init_98 : decode cX13_init 98 = .ok (.newarray .boolean, 2) := by decide +kernel
theorem dX13_init_100 : decode cX13_init 100 = .ok (.putfield 44, 3) := by decide +kernel
theorem dX13_init_103 : decode cX13_init 103 = .ok (.aload_n 0, 1) := by decide +kernel
theorem dX13_init_104 : decode cX13_init 104 = .ok (.bipush 8, 2) := by decide +kernel
theorem dX13_init_106 : decode cX13_init 106 = .ok (.newarray .boolean, 2) := by decide +kernel
theorem dX13_init_108 : decode cX13_init 108 = .ok (.putfield 48, 3) := by decide +kernel
theorem dX13_init_111 : decode cX13_init 111 = .ok (.aload_n 0, 1) := by decide +kernel
theorem dX13_init_112 : decode cX13_init 112 = .ok (.bipush 60, 2) := by decide +kernel
theorem dX13_init_114 : decode cX13_init 114 = .ok (.newarray .int, 2) := by decide +kernel
theorem dX13_init_116 : decode cX13_init 116 = .ok (.putfield 51, 3) := by decide +kernel
theorem dX13_init_119 : decode cX13_init 119 = .ok (.aload_n 0, 1) := by decide +kernel
theorem dX13_init_120 : decode cX13_init 120 = .ok (.sipush 256, 3) := by decide +kernel
theorem dX13_init_123 : decode cX13_init 123 = .ok (.newarray .int, 2) := by decide +kernel
theorem dX13_init_125 : decode cX13_init 125 = .ok (.putfield 54, 3) := by decide +kernel
theorem dX13_init_128 : decode cX13_init 128 = .ok (.aload_n 0, 1) := by decide +kernel
theorem dX13_init_129 : decode cX13_init 129 = .ok (.sipush 256, 3) := by decide +kernel
theorem dX13_init_132 : decode cX13_init 132 = .ok (.newarray .int, 2) := by decide +kernel
theorem dX13_init_134 : decode cX13_init 134 = .ok (.putfield 57, 3) := by decide +kernel
theorem dX13_init_137 : decode cX13_init 137 = .ok (.aload_n 0, 1) := by decide +kernel
theorem dX13_init_138 : decode cX13_init 138 = .ok (.ldc 60, 2) := by decide +kernel
theorem dX13_init_140 : decode cX13_init 140 = .ok (.invokevirtual 62, 3) := by decide +kernel
theorem dX13_init_143 : decode cX13_init 143 = .ok (.aload_n 0, 1) := by decide +kernel
theorem dX13_init_144 : decode cX13_init 144 = .ok (.ldc 66, 2) := by decide +kernel
theorem dX13_init_146 : decode cX13_init 146 = .ok (.invokevirtual 62, 3) := by decide +kernel
theorem dX13_init_149 : decode cX13_init 149 = .ok (.aload_n 0, 1) := by decide +kernel
theorem dX13_init_150 : decode cX13_init 150 = .ok (.invokevirtual 68, 3) := by decide +kernel
theorem dX13_init_153 : decode cX13_init 153 = .ok (.aload_n 0, 1) := by decide +kernel
theorem dX13_init_154 : decode cX13_init 154 = .ok (.invokevirtual 71, 3) := by decide +kernel
theorem dX13_init_157 : decode cX13_init 157 = .ok (.aload_n 0, 1) := by decide +kernel
theorem dX13_init_158 : decode cX13_init 158 = .ok (.iconst 0, 1) := by decide +kernel
theorem dX13_init_159 : decode cX13_init 159 = .ok (.putfield 74, 3) := by decide +kernel
theorem dX13_init_162 : decode cX13_init 162 = .ok (.return_, 1) := by decide +kernel
theorem dX13_thrown_0 : decode cX13_thrown 0 = .ok (.aload_n 0, 1) := by decide +kernel
theorem dX13_thrown_1 : decode cX13_thrown 1 = .ok (.getfield 77, 3) := by decide +kernel
theorem dX13_thrown_4 : decode cX13_thrown 4 = .ok (.ireturn, 1) := by decide +kernel
theorem dX13_puts_0 : decode cX13_puts 0 = .ok (.iconst 0, 1) := by decide +kernel
theorem dX13_puts_1 : decode cX13_puts 1 = .ok (.istore_n 2, 1) := by decide +kernel
theorem dX13_puts_2 : decode cX13_puts 2 = .ok (.iload_n 2, 1) := by decide +kernel
theorem dX13_puts_3 : decode cX13_puts 3 = .ok (.aload_n 1, 1) := by decide +kernel
theorem dX13_puts_4 : decode cX13_puts 4 = .ok (.invokevirtual 80, 3) := by decide +kernel
theorem dX13_puts_7 : decode cX13_puts 7 = .ok (.if_icmp .ge 33, 3) := by decide +kernel
theorem dX13_puts_10 : decode cX13_puts 10 = .ok (.aload_n 0, 1) := by decide +kernel
theorem dX13_puts_11 : decode cX13_puts 11 = .ok (.getfield 22, 3) := by decide +kernel
theorem dX13_puts_14 : decode cX13_puts 14 = .ok (.aload_n 0, 1) := by decide +kernel
theorem dX13_puts_15 : decode cX13_puts 15 = .ok (.getfield 74, 3) := by decide +kernel
theorem dX13_puts_18 : decode cX13_puts 18 = .ok (.aload_n 1, 1) := by decide +kernel
theorem dX13_puts_19 : decode cX13_puts 19 = .ok (.iload_n 2, 1) := by decide +kernel
theorem dX13_puts_20 : decode cX13_puts 20 = .ok (.invokevirtual 86, 3) := by decide +kernel
theorem dX13_puts_23 : decode cX13_puts 23 = .ok (.iastore, 1) := by decide +kernel
theorem dX13_puts_24 : decode cX13_puts 24 = .ok (.aload_n 0, 1) := by decide +kernel
theorem dX13_puts_25 : decode cX13_puts 25 = .ok (.dup, 1) := by decide +kernel
theorem dX13_puts_26 : decode cX13_puts 26 = .ok (.getfield 74, 3) := by decide +kernel
theorem dX13_puts_29 : decode cX13_puts 29 = .ok (.iconst 1, 1) := by decide +kernel
theorem dX13_puts_30 : decode cX13_puts 30 = .ok (.iadd, 1) := by decide +kernel
theorem dX13_puts_31 : decode cX13_puts 31 = .ok (.putfield 74, 3) := by decide +kernel
theorem dX13_puts_34 : decode cX13_puts 34 = .ok (.iinc 2 1, 3) := by decide +kernel
theorem dX13_puts_37 : decode cX13_puts 37 = .ok (.goto (-35), 3) := by decide +kernel
theorem dX13_puts_40 : decode cX13_puts 40 = .ok (.return_, 1) := by decide +kernel
theorem dX13_isBetween_0 : decode cX13_isBetween 0 = .ok (.iload_n 0, 1) := by decide +kernel
theorem dX13_isBetween_1 : decode cX13_isBetween 1 = .ok (.iload_n 1, 1) := by decide +kernel
theorem dX13_isBetween_2 : decode cX13_isBetween 2 = .ok (.if_icmp .lt 12, 3) := by decide +kernel
theorem dX13_isBetween_5 : decode cX13_isBetween 5 = .ok (.iload_n 0, 1) := by decide +kernel
theorem dX13_isBetween_6 : decode cX13_isBetween 6 = .ok (.iload_n 2, 1) := by decide +kernel
theorem dX13_isBetween_7 : decode cX13_isBetween 7 = .ok (.if_icmp .gt 7, 3) := by decide +kernel
theorem dX13_isBetween_10 : decode cX13_isBetween 10 = .ok (.iconst 1, 1) := by decide +kernel
theorem dX13_isBetween_11 : decode cX13_isBetween 11 = .ok (.goto 4, 3) := by decide +kernel
theorem dX13_isBetween_14 : decode cX13_isBetween 14 = .ok (.iconst 0, 1) := by decide +kernel
theorem dX13_isBetween_15 : decode cX13_isBetween 15 = .ok (.ireturn, 1) := by decide +kernel
theorem dX13_wants_0 : decode cX13_wants 0 = .ok (.aload_n 0, 1) := by decide +kernel
theorem dX13_wants_1 : decode cX13_wants 1 = .ok (.iload_n 1, 1) := by decide +kernel
theorem dX13_wants_2 : decode cX13_wants 2 = .ok (.ifCond .eq 7, 3) := by decide +kernel
theorem dX13_wants_5 : decode cX13_wants 5 = .ok (.iconst 0, 1) := by decide +kernel
theorem dX13_wants_6 : decode cX13_wants 6 = .ok (.goto 4, 3) := by decide +kernel
theorem dX13_wants_9 : decode cX13_wants 9 = .ok (.iconst 1, 1) := by decide +kernel
theorem dX13_wants_10 : decode cX13_wants 10 = .ok (.putfield 77, 3) := by decide +kernel
theorem dX13_wants_13 : decode cX13_wants 13 = .ok (.iload_n 1, 1) := by decide +kernel
theorem dX13_wants_14 : decode cX13_wants 14 = .ok (.ireturn, 1) := by decide +kernel
theorem dX13_of_0 : decode cX13_of 0 = .ok (.aload_n 0, 1) := by decide +kernel
theorem dX13_of_1 : decode cX13_of 1 = .ok (.getfield 7, 3) := by decide +kernel
theorem dX13_of_4 : decode cX13_of 4 = .ok (.bipush 25, 2) := by decide +kernel
theorem dX13_of_6 : decode cX13_of 6 = .ok (.bipush 13, 2) := by decide +kernel
theorem dX13_of_8 : decode cX13_of 8 = .ok (.iload_n 1, 1) := by decide +kernel
theorem dX13_of_9 : decode cX13_of 9 = .ok (.imul, 1) := by decide +kernel
theorem dX13_of_10 : decode cX13_of 10 = .ok (.iadd, 1) := by decide +kernel
theorem dX13_of_11 : decode cX13_of 11 = .ok (.iload_n 2, 1) := by decide +kernel
theorem dX13_of_12 : decode cX13_of 12 = .ok (.iadd, 1) := by decide +kernel
theorem dX13_of_13 : decode cX13_of 13 = .ok (.iaload, 1) := by decide +kernel
theorem dX13_of_14 : decode cX13_of 14 = .ok (.ireturn, 1) := by decide +kernel
theorem dX13_sets_0 : decode cX13_sets 0 = .ok (.aload_n 0, 1) := by decide +kernel
theorem dX13_sets_1 : decode cX13_sets 1 = .ok (.getfield 7, 3) := by decide +kernel
theorem dX13_sets_4 : decode cX13_sets 4 = .ok (.bipush 25, 2) := by decide +kernel
theorem dX13_sets_6 : decode cX13_sets 6 = .ok (.bipush 13, 2) := by decide +kernel
theorem dX13_sets_8 : decode cX13_sets 8 = .ok (.iload_n 1, 1) := by decide +kernel
theorem dX13_sets_9 : decode cX13_sets 9 = .ok (.imul, 1) := by decide +kernel
theorem dX13_sets_10 : decode cX13_sets 10 = .ok (.iadd, 1) := by decide +kernel
theorem dX13_sets_11 : decode cX13_sets 11 = .ok (.iload_n 2, 1) := by decide +kernel
theorem dX13_sets_12 : decode cX13_sets 12 = .ok (.iadd, 1) := by decide +kernel
theorem dX13_sets_13 : decode cX13_sets 13 = .ok (.iload_n 3, 1) := by decide +kernel
theorem dX13_sets_14 : decode cX13_sets 14 = .ok (.iastore, 1) := by decide +kernel
theorem dX13_sets_15 : decode cX13_sets 15 = .ok (.return_, 1) := by decide +kernel
theorem dX13_rentOf_0 : decode cX13_rentOf 0 = .ok (.aload_n 0, 1) := by decide +kernel
theorem dX13_rentOf_1 : decode cX13_rentOf 1 = .ok (.getfield 7, 3) := by decide +kernel
theorem dX13_rentOf_4 : decode cX13_rentOf 4 = .ok (.bipush 9, 2) := by decide +kernel
theorem dX13_rentOf_6 : decode cX13_rentOf 6 = .ok (.iconst 2, 1) := by decide +kernel
theorem dX13_rentOf_7 : decode cX13_rentOf 7 = .ok (.iload_n 1, 1) := by decide +kernel
theorem dX13_rentOf_8 : decode cX13_rentOf 8 = .ok (.imul, 1) := by decide +kernel
theorem dX13_rentOf_9 : decode cX13_rentOf 9 = .ok (.iadd, 1) := by decide +kernel
theorem dX13_rentOf_10 : decode cX13_rentOf 10 = .ok (.iconst 1, 1) := by decide +kernel
theorem dX13_rentOf_11 : decode cX13_rentOf 11 = .ok (.iadd, 1) := by decide +kernel
theorem dX13_rentOf_12 : decode cX13_rentOf 12 = .ok (.iaload, 1) := by decide +kernel
theorem dX13_rentOf_13 : decode cX13_rentOf 13 = .ok (.ireturn, 1) := by decide +kernel
theorem dX13_isSeller_0 : decode cX13_isSeller 0 = .ok (.iload_n 1, 1) := by decide +kernel
theorem dX13_isSeller_1 : decode cX13_isSeller 1 = .ok (.iconst 0, 1) := by decide +kernel
theorem dX13_isSeller_2 : decode cX13_isSeller 2 = .ok (.aload_n 0, 1) := by decide +kernel
theorem dX13_isSeller_3 : decode cX13_isSeller 3 = .ok (.getfield 7, 3) := by decide +kernel
theorem dX13_isSeller_6 : decode cX13_isSeller 6 = .ok (.iconst 0, 1) := by decide +kernel
theorem dX13_isSeller_7 : decode cX13_isSeller 7 = .ok (.iaload, 1) := by decide +kernel
theorem dX13_isSeller_8 : decode cX13_isSeller 8 = .ok (.iconst 1, 1) := by decide +kernel
theorem dX13_isSeller_9 : decode cX13_isSeller 9 = .ok (.isub, 1) := by decide +kernel
theorem dX13_isSeller_10 : decode cX13_isSeller 10 = .ok (.invokestatic 90, 3) := by decide +kernel
theorem dX13_isSeller_13 : decode cX13_isSeller 13 = .ok (.ireturn, 1) := by decide +kernel
theorem dX13_isStall_0 : decode cX13_isStall 0 = .ok (.iload_n 1, 1) := by decide +kernel
theorem dX13_isStall_1 : decode cX13_isStall 1 = .ok (.iconst 0, 1) := by decide +kernel
theorem dX13_isStall_2 : decode cX13_isStall 2 = .ok (.aload_n 0, 1) := by decide +kernel
theorem dX13_isStall_3 : decode cX13_isStall 3 = .ok (.getfield 7, 3) := by decide +kernel
theorem dX13_isStall_6 : decode cX13_isStall 6 = .ok (.iconst 1, 1) := by decide +kernel
theorem dX13_isStall_7 : decode cX13_isStall 7 = .ok (.iaload, 1) := by decide +kernel
theorem dX13_isStall_8 : decode cX13_isStall 8 = .ok (.iconst 1, 1) := by decide +kernel
theorem dX13_isStall_9 : decode cX13_isStall 9 = .ok (.isub, 1) := by decide +kernel
theorem dX13_isStall_10 : decode cX13_isStall 10 = .ok (.invokestatic 90, 3) := by decide +kernel
theorem dX13_isStall_13 : decode cX13_isStall 13 = .ok (.ireturn, 1) := by decide +kernel
theorem dX13_isOutcome_0 : decode cX13_isOutcome 0 = .ok (.iload_n 1, 1) := by decide +kernel
theorem dX13_isOutcome_1 : decode cX13_isOutcome 1 = .ok (.iconst (-1), 1) := by decide +kernel
theorem dX13_isOutcome_2 : decode cX13_isOutcome 2 = .ok (.if_icmp .eq 11, 3) := by decide +kernel
theorem dX13_isOutcome_5 : decode cX13_isOutcome 5 = .ok (.aload_n 0, 1) := by decide +kernel
theorem dX13_isOutcome_6 : decode cX13_isOutcome 6 = .ok (.iload_n 1, 1) := by decide +kernel
theorem dX13_isOutcome_7 : decode cX13_isOutcome 7 = .ok (.invokevirtual 94, 3) := by decide +kernel
theorem dX13_isOutcome_10 : decode cX13_isOutcome 10 = .ok (.ifCond .eq 7, 3) := by decide +kernel
theorem dX13_isOutcome_13 : decode cX13_isOutcome 13 = .ok (.iconst 1, 1) := by decide +kernel
theorem dX13_isOutcome_14 : decode cX13_isOutcome 14 = .ok (.goto 4, 3) := by decide +kernel
theorem dX13_isOutcome_17 : decode cX13_isOutcome 17 = .ok (.iconst 0, 1) := by decide +kernel
theorem dX13_isOutcome_18 : decode cX13_isOutcome 18 = .ok (.ireturn, 1) := by decide +kernel
theorem dX13_occupant_0 : decode cX13_occupant 0 = .ok (.iconst 0, 1) := by decide +kernel
theorem dX13_occupant_1 : decode cX13_occupant 1 = .ok (.istore_n 2, 1) := by decide +kernel
theorem dX13_occupant_2 : decode cX13_occupant 2 = .ok (.iload_n 2, 1) := by decide +kernel
theorem dX13_occupant_3 : decode cX13_occupant 3 = .ok (.aload_n 0, 1) := by decide +kernel
theorem dX13_occupant_4 : decode cX13_occupant 4 = .ok (.getfield 7, 3) := by decide +kernel
theorem dX13_occupant_7 : decode cX13_occupant 7 = .ok (.iconst 0, 1) := by decide +kernel
theorem dX13_occupant_8 : decode cX13_occupant 8 = .ok (.iaload, 1) := by decide +kernel
theorem dX13_occupant_9 : decode cX13_occupant 9 = .ok (.if_icmp .ge 21, 3) := by decide +kernel
theorem dX13_occupant_12 : decode cX13_occupant 12 = .ok (.aload_n 0, 1) := by decide +kernel
theorem dX13_occupant_13 : decode cX13_occupant 13 = .ok (.iload_n 2, 1) := by decide +kernel
theorem dX13_occupant_14 : decode cX13_occupant 14 = .ok (.iconst 3, 1) := by decide +kernel
theorem dX13_occupant_15 : decode cX13_occupant 15 = .ok (.invokevirtual 98, 3) := by decide +kernel
theorem dX13_occupant_18 : decode cX13_occupant 18 = .ok (.iload_n 1, 1) := by decide +kernel
theorem dX13_occupant_19 : decode cX13_occupant 19 = .ok (.if_icmp .ne 5, 3) := by decide +kernel
theorem dX13_occupant_22 : decode cX13_occupant 22 = .ok (.iload_n 2, 1) := by decide +kernel
theorem dX13_occupant_23 : decode cX13_occupant 23 = .ok (.ireturn, 1) := by decide +kernel
theorem dX13_occupant_24 : decode cX13_occupant 24 = .ok (.iinc 2 1, 3) := by decide +kernel
theorem dX13_occupant_27 : decode cX13_occupant 27 = .ok (.goto (-25), 3) := by decide +kernel
theorem dX13_occupant_30 : decode cX13_occupant 30 = .ok (.iconst (-1), 1) := by decide +kernel
theorem dX13_occupant_31 : decode cX13_occupant 31 = .ok (.ireturn, 1) := by decide +kernel
theorem dX13_rank_0 : decode cX13_rank 0 = .ok (.iconst 0, 1) := by decide +kernel
theorem dX13_rank_1 : decode cX13_rank 1 = .ok (.istore_n 3, 1) := by decide +kernel
theorem dX13_rank_2 : decode cX13_rank 2 = .ok (.iload_n 3, 1) := by decide +kernel
theorem dX13_rank_3 : decode cX13_rank 3 = .ok (.aload_n 0, 1) := by decide +kernel
theorem dX13_rank_4 : decode cX13_rank 4 = .ok (.iload_n 1, 1) := by decide +kernel
theorem dX13_rank_5 : decode cX13_rank 5 = .ok (.iconst 4, 1) := by decide +kernel
theorem dX13_rank_6 : decode cX13_rank 6 = .ok (.invokevirtual 98, 3) := by decide +kernel
theorem dX13_rank_9 : decode cX13_rank 9 = .ok (.if_icmp .ge 23, 3) := by decide +kernel
theorem dX13_rank_12 : decode cX13_rank 12 = .ok (.aload_n 0, 1) := by decide +kernel
theorem dX13_rank_13 : decode cX13_rank 13 = .ok (.iload_n 1, 1) := by decide +kernel
theorem dX13_rank_14 : decode cX13_rank 14 = .ok (.iconst 5, 1) := by decide +kernel
theorem dX13_rank_15 : decode cX13_rank 15 = .ok (.iload_n 3, 1) := by decide +kernel
theorem dX13_rank_16 : decode cX13_rank 16 = .ok (.iadd, 1) := by decide +kernel
theorem dX13_rank_17 : decode cX13_rank 17 = .ok (.invokevirtual 98, 3) := by decide +kernel
theorem dX13_rank_20 : decode cX13_rank 20 = .ok (.iload_n 2, 1) := by decide +kernel
theorem dX13_rank_21 : decode cX13_rank 21 = .ok (.if_icmp .ne 5, 3) := by decide +kernel
theorem dX13_rank_24 : decode cX13_rank 24 = .ok (.iload_n 3, 1) := by decide +kernel
theorem dX13_rank_25 : decode cX13_rank 25 = .ok (.ireturn, 1) := by decide +kernel
theorem dX13_rank_26 : decode cX13_rank 26 = .ok (.iinc 3 1, 3) := by decide +kernel
theorem dX13_rank_29 : decode cX13_rank 29 = .ok (.goto (-27), 3) := by decide +kernel
theorem dX13_rank_32 : decode cX13_rank 32 = .ok (.iconst (-1), 1) := by decide +kernel
theorem dX13_rank_33 : decode cX13_rank 33 = .ok (.ireturn, 1) := by decide +kernel
theorem dX13_badness_0 : decode cX13_badness 0 = .ok (.iload_n 2, 1) := by decide +kernel
theorem dX13_badness_1 : decode cX13_badness 1 = .ok (.iconst (-1), 1) := by decide +kernel
theorem dX13_badness_2 : decode cX13_badness 2 = .ok (.if_icmp .ne 6, 3) := by decide +kernel
theorem dX13_badness_5 : decode cX13_badness 5 = .ok (.bipush 8, 2) := by decide +kernel
theorem dX13_badness_7 : decode cX13_badness 7 = .ok (.ireturn, 1) := by decide +kernel
theorem dX13_badness_8 : decode cX13_badness 8 = .ok (.aload_n 0, 1) := by decide +kernel
theorem dX13_badness_9 : decode cX13_badness 9 = .ok (.iload_n 1, 1) := by decide +kernel
theorem dX13_badness_10 : decode cX13_badness 10 = .ok (.iload_n 2, 1) := by decide +kernel
theorem dX13_badness_11 : decode cX13_badness 11 = .ok (.invokevirtual 102, 3) := by decide +kernel
theorem dX13_badness_14 : decode cX13_badness 14 = .ok (.istore_n 3, 1) := by decide +kernel
theorem dX13_badness_15 : decode cX13_badness 15 = .ok (.iload_n 3, 1) := by decide +kernel
theorem dX13_badness_16 : decode cX13_badness 16 = .ok (.iconst (-1), 1) := by decide +kernel
theorem dX13_badness_17 : decode cX13_badness 17 = .ok (.if_icmp .ne 8, 3) := by decide +kernel
theorem dX13_badness_20 : decode cX13_badness 20 = .ok (.bipush 9, 2) := by decide +kernel
theorem dX13_badness_22 : decode cX13_badness 22 = .ok (.goto 4, 3) := by decide +kernel
theorem dX13_badness_25 : decode cX13_badness 25 = .ok (.iload_n 3, 1) := by decide +kernel
theorem dX13_badness_26 : decode cX13_badness 26 = .ok (.ireturn, 1) := by decide +kernel
theorem dX13_isBetter_0 : decode cX13_isBetter 0 = .ok (.aload_n 0, 1) := by decide +kernel
theorem dX13_isBetter_1 : decode cX13_isBetter 1 = .ok (.iload_n 1, 1) := by decide +kernel
theorem dX13_isBetter_2 : decode cX13_isBetter 2 = .ok (.iload_n 2, 1) := by decide +kernel
theorem dX13_isBetter_3 : decode cX13_isBetter 3 = .ok (.invokevirtual 105, 3) := by decide +kernel
theorem dX13_isBetter_6 : decode cX13_isBetter 6 = .ok (.aload_n 0, 1) := by decide +kernel
theorem dX13_isBetter_7 : decode cX13_isBetter 7 = .ok (.iload_n 1, 1) := by decide +kernel
theorem dX13_isBetter_8 : decode cX13_isBetter 8 = .ok (.iload_n 3, 1) := by decide +kernel
theorem dX13_isBetter_9 : decode cX13_isBetter 9 = .ok (.invokevirtual 105, 3) := by decide +kernel
theorem dX13_isBetter_12 : decode cX13_isBetter 12 = .ok (.if_icmp .ge 7, 3) := by decide +kernel
theorem dX13_isBetter_15 : decode cX13_isBetter 15 = .ok (.iconst 1, 1) := by decide +kernel
theorem dX13_isBetter_16 : decode cX13_isBetter 16 = .ok (.goto 4, 3) := by decide +kernel
theorem dX13_isBetter_19 : decode cX13_isBetter 19 = .ok (.iconst 0, 1) := by decide +kernel
theorem dX13_isBetter_20 : decode cX13_isBetter 20 = .ok (.ireturn, 1) := by decide +kernel
theorem dX13_positionOf_0 : decode cX13_positionOf 0 = .ok (.iconst 0, 1) := by decide +kernel
theorem dX13_positionOf_1 : decode cX13_positionOf 1 = .ok (.istore_n 2, 1) := by decide +kernel
theorem dX13_positionOf_2 : decode cX13_positionOf 2 = .ok (.aload_n 0, 1) := by decide +kernel
theorem dX13_positionOf_3 : decode cX13_positionOf 3 = .ok (.getfield 7, 3) := by decide +kernel
theorem dX13_positionOf_6 : decode cX13_positionOf 6 = .ok (.sipush 129, 3) := by decide +kernel
theorem dX13_positionOf_9 : decode cX13_positionOf 9 = .ok (.iload_n 2, 1) := by decide +kernel
theorem dX13_positionOf_10 : decode cX13_positionOf 10 = .ok (.iadd, 1) := by decide +kernel
theorem dX13_positionOf_11 : decode cX13_positionOf 11 = .ok (.iaload, 1) := by decide +kernel
theorem dX13_positionOf_12 : decode cX13_positionOf 12 = .ok (.iload_n 1, 1) := by decide +kernel
theorem dX13_positionOf_13 : decode cX13_positionOf 13 = .ok (.if_icmp .eq 9, 3) := by decide +kernel
theorem dX13_positionOf_16 : decode cX13_positionOf 16 = .ok (.iinc 2 1, 3) := by decide +kernel
theorem dX13_positionOf_19 : decode cX13_positionOf 19 = .ok (.goto (-17), 3) := by decide +kernel
theorem dX13_positionOf_22 : decode cX13_positionOf 22 = .ok (.iload_n 2, 1) := by decide +kernel
theorem dX13_positionOf_23 : decode cX13_positionOf 23 = .ok (.ireturn, 1) := by decide +kernel
theorem dX13_longsFor_0 : decode cX13_longsFor 0 = .ok (.aload_n 0, 1) := by decide +kernel
theorem dX13_longsFor_1 : decode cX13_longsFor 1 = .ok (.iload_n 2, 1) := by decide +kernel
theorem dX13_longsFor_2 : decode cX13_longsFor 2 = .ok (.iconst 3, 1) := by decide +kernel
theorem dX13_longsFor_3 : decode cX13_longsFor 3 = .ok (.invokevirtual 98, 3) := by decide +kernel
theorem dX13_longsFor_6 : decode cX13_longsFor 6 = .ok (.istore_n 3, 1) := by decide +kernel
theorem dX13_longsFor_7 : decode cX13_longsFor 7 = .ok (.iload_n 3, 1) := by decide +kernel
theorem dX13_longsFor_8 : decode cX13_longsFor 8 = .ok (.iconst (-1), 1) := by decide +kernel
theorem dX13_longsFor_9 : decode cX13_longsFor 9 = .ok (.if_icmp .eq 22, 3) := by decide +kernel
theorem dX13_longsFor_12 : decode cX13_longsFor 12 = .ok (.aload_n 0, 1) := by decide +kernel
theorem dX13_longsFor_13 : decode cX13_longsFor 13 = .ok (.iload_n 1, 1) := by decide +kernel
theorem dX13_longsFor_14 : decode cX13_longsFor 14 = .ok (.iload_n 3, 1) := by decide +kernel
theorem dX13_longsFor_15 : decode cX13_longsFor 15 = .ok (.aload_n 0, 1) := by decide +kernel
theorem dX13_longsFor_16 : decode cX13_longsFor 16 = .ok (.iload_n 1, 1) := by decide +kernel
theorem dX13_longsFor_17 : decode cX13_longsFor 17 = .ok (.iconst 3, 1) := by decide +kernel
theorem dX13_longsFor_18 : decode cX13_longsFor 18 = .ok (.invokevirtual 98, 3) := by decide +kernel
theorem dX13_longsFor_21 : decode cX13_longsFor 21 = .ok (.invokevirtual 108, 3) := by decide +kernel
theorem dX13_longsFor_24 : decode cX13_longsFor 24 = .ok (.ifCond .eq 7, 3) := by decide +kernel
theorem dX13_longsFor_27 : decode cX13_longsFor 27 = .ok (.iconst 1, 1) := by decide +kernel
theorem dX13_longsFor_28 : decode cX13_longsFor 28 = .ok (.goto 4, 3) := by decide +kernel
theorem dX13_longsFor_31 : decode cX13_longsFor 31 = .ok (.iconst 0, 1) := by decide +kernel
theorem dX13_longsFor_32 : decode cX13_longsFor 32 = .ok (.ireturn, 1) := by decide +kernel
theorem dX13_exchange_0 : decode cX13_exchange 0 = .ok (.iload_n 1, 1) := by decide +kernel
theorem dX13_exchange_1 : decode cX13_exchange 1 = .ok (.iload_n 2, 1) := by decide +kernel
theorem dX13_exchange_2 : decode cX13_exchange 2 = .ok (.if_icmp .eq 27, 3) := by decide +kernel
theorem dX13_exchange_5 : decode cX13_exchange 5 = .ok (.aload_n 0, 1) := by decide +kernel
theorem dX13_exchange_6 : decode cX13_exchange 6 = .ok (.iload_n 1, 1) := by decide +kernel
theorem dX13_exchange_7 : decode cX13_exchange 7 = .ok (.iconst 3, 1) := by decide +kernel
theorem dX13_exchange_8 : decode cX13_exchange 8 = .ok (.invokevirtual 98, 3) := by decide +kernel
theorem dX13_exchange_11 : decode cX13_exchange 11 = .ok (.iconst (-1), 1) := by decide +kernel
theorem dX13_exchange_12 : decode cX13_exchange 12 = .ok (.if_icmp .eq 17, 3) := by decide +kernel
theorem dX13_exchange_15 : decode cX13_exchange 15 = .ok (.aload_n 0, 1) := by decide +kernel
theorem dX13_exchange_16 : decode cX13_exchange 16 = .ok (.iload_n 2, 1) := by decide +kernel
theorem dX13_exchange_17 : decode cX13_exchange 17 = .ok (.iconst 3, 1) := by decide +kernel
theorem dX13_exchange_18 : decode cX13_exchange 18 = .ok (.invokevirtual 98, 3) := by decide +kernel
theorem dX13_exchange_21 : decode cX13_exchange 21 = .ok (.iconst (-1), 1) := by decide +kernel
theorem dX13_exchange_22 : decode cX13_exchange 22 = .ok (.if_icmp .eq 7, 3) := by decide +kernel
theorem dX13_exchange_25 : decode cX13_exchange 25 = .ok (.iconst 1, 1) := by decide +kernel
theorem dX13_exchange_26 : decode cX13_exchange 26 = .ok (.goto 4, 3) := by decide +kernel
theorem dX13_exchange_29 : decode cX13_exchange 29 = .ok (.iconst 0, 1) := by decide +kernel
theorem dX13_exchange_30 : decode cX13_exchange 30 = .ok (.istore_n 3, 1) := by decide +kernel
theorem dX13_exchange_31 : decode cX13_exchange 31 = .ok (.iload_n 3, 1) := by decide +kernel
theorem dX13_exchange_32 : decode cX13_exchange 32 = .ok (.ifCond .eq 25, 3) := by decide +kernel
theorem dX13_exchange_35 : decode cX13_exchange 35 = .ok (.aload_n 0, 1) := by decide +kernel
theorem dX13_exchange_36 : decode cX13_exchange 36 = .ok (.iload_n 1, 1) := by decide +kernel
theorem dX13_exchange_37 : decode cX13_exchange 37 = .ok (.iload_n 2, 1) := by decide +kernel
theorem dX13_exchange_38 : decode cX13_exchange 38 = .ok (.invokevirtual 111, 3) := by decide +kernel
theorem dX13_exchange_41 : decode cX13_exchange 41 = .ok (.ifCond .eq 16, 3) := by decide +kernel
theorem dX13_exchange_44 : decode cX13_exchange 44 = .ok (.aload_n 0, 1) := by decide +kernel
theorem dX13_exchange_45 : decode cX13_exchange 45 = .ok (.iload_n 2, 1) := by decide +kernel
theorem dX13_exchange_46 : decode cX13_exchange 46 = .ok (.iload_n 1, 1) := by decide +kernel
theorem dX13_exchange_47 : decode cX13_exchange 47 = .ok (.invokevirtual 111, 3) := by decide +kernel
theorem dX13_exchange_50 : decode cX13_exchange 50 = .ok (.ifCond .eq 7, 3) := by decide +kernel
theorem dX13_exchange_53 : decode cX13_exchange 53 = .ok (.iconst 1, 1) := by decide +kernel
theorem dX13_exchange_54 : decode cX13_exchange 54 = .ok (.goto 4, 3) := by decide +kernel
theorem dX13_exchange_57 : decode cX13_exchange 57 = .ok (.iconst 0, 1) := by decide +kernel
theorem dX13_exchange_58 : decode cX13_exchange 58 = .ok (.ireturn, 1) := by decide +kernel
theorem dX13_betterFree_0 : decode cX13_betterFree 0 = .ok (.iconst 0, 1) := by decide +kernel
theorem dX13_betterFree_1 : decode cX13_betterFree 1 = .ok (.istore_n 2, 1) := by decide +kernel
theorem dX13_betterFree_2 : decode cX13_betterFree 2 = .ok (.iload_n 2, 1) := by decide +kernel
theorem dX13_betterFree_3 : decode cX13_betterFree 3 = .ok (.aload_n 0, 1) := by decide +kernel
theorem dX13_betterFree_4 : decode cX13_betterFree 4 = .ok (.iload_n 1, 1) := by decide +kernel
theorem dX13_betterFree_5 : decode cX13_betterFree 5 = .ok (.iconst 4, 1) := by decide +kernel
theorem dX13_betterFree_6 : decode cX13_betterFree 6 = .ok (.invokevirtual 98, 3) := by decide +kernel
theorem dX13_betterFree_9 : decode cX13_betterFree 9 = .ok (.if_icmp .ge 44, 3) := by decide +kernel
theorem dX13_betterFree_12 : decode cX13_betterFree 12 = .ok (.aload_n 0, 1) := by decide +kernel
theorem dX13_betterFree_13 : decode cX13_betterFree 13 = .ok (.iload_n 1, 1) := by decide +kernel
theorem dX13_betterFree_14 : decode cX13_betterFree 14 = .ok (.iconst 5, 1) := by decide +kernel
theorem dX13_betterFree_15 : decode cX13_betterFree 15 = .ok (.iload_n 2, 1) := by decide +kernel
theorem dX13_betterFree_16 : decode cX13_betterFree 16 = .ok (.iadd, 1) := by decide +kernel
theorem dX13_betterFree_17 : decode cX13_betterFree 17 = .ok (.invokevirtual 98, 3) := by decide +kernel
theorem dX13_betterFree_20 : decode cX13_betterFree 20 = .ok (.istore_n 3, 1) := by decide +kernel
theorem dX13_betterFree_21 : decode cX13_betterFree 21 = .ok (.aload_n 0, 1) := by decide +kernel
theorem dX13_betterFree_22 : decode cX13_betterFree 22 = .ok (.iload_n 3, 1) := by decide +kernel
theorem dX13_betterFree_23 : decode cX13_betterFree 23 = .ok (.invokevirtual 115, 3) := by decide +kernel
theorem dX13_betterFree_26 : decode cX13_betterFree 26 = .ok (.iconst (-1), 1) := by decide +kernel
theorem dX13_betterFree_27 : decode cX13_betterFree 27 = .ok (.if_icmp .ne 20, 3) := by decide +kernel
theorem dX13_betterFree_30 : decode cX13_betterFree 30 = .ok (.aload_n 0, 1) := by decide +kernel
theorem dX13_betterFree_31 : decode cX13_betterFree 31 = .ok (.iload_n 1, 1) := by decide +kernel
theorem dX13_betterFree_32 : decode cX13_betterFree 32 = .ok (.iload_n 3, 1) := by decide +kernel
theorem dX13_betterFree_33 : decode cX13_betterFree 33 = .ok (.aload_n 0, 1) := by decide +kernel
theorem dX13_betterFree_34 : decode cX13_betterFree 34 = .ok (.iload_n 1, 1) := by decide +kernel
theorem dX13_betterFree_35 : decode cX13_betterFree 35 = .ok (.iconst 3, 1) := by decide +kernel
theorem dX13_betterFree_36 : decode cX13_betterFree 36 = .ok (.invokevirtual 98, 3) := by decide +kernel
theorem dX13_betterFree_39 : decode cX13_betterFree 39 = .ok (.invokevirtual 108, 3) := by decide +kernel
theorem dX13_betterFree_42 : decode cX13_betterFree 42 = .ok (.ifCond .eq 5, 3) := by decide +kernel
theorem dX13_betterFree_45 : decode cX13_betterFree 45 = .ok (.iload_n 3, 1) := by decide +kernel
theorem dX13_betterFree_46 : decode cX13_betterFree 46 = .ok (.ireturn, 1) := by decide +kernel
theorem dX13_betterFree_47 : decode cX13_betterFree 47 = .ok (.iinc 2 1, 3) := by decide +kernel
theorem dX13_betterFree_50 : decode cX13_betterFree 50 = .ok (.goto (-48), 3) := by decide +kernel
theorem dX13_betterFree_53 : decode cX13_betterFree 53 = .ok (.iconst (-1), 1) := by decide +kernel
theorem dX13_betterFree_54 : decode cX13_betterFree 54 = .ok (.ireturn, 1) := by decide +kernel
theorem dX13_shortestCycle_0 : decode cX13_shortestCycle 0 = .ok (.iconst 0, 1) := by decide +kernel
theorem dX13_shortestCycle_1 : decode cX13_shortestCycle 1 = .ok (.istore_n 2, 1) := by decide +kernel
theorem dX13_shortestCycle_2 : decode cX13_shortestCycle 2 = .ok (.iload_n 2, 1) := by decide +kernel
theorem dX13_shortestCycle_3 : decode cX13_shortestCycle 3 = .ok (.bipush 8, 2) := by decide +kernel
theorem dX13_shortestCycle_5 : decode cX13_shortestCycle 5 = .ok (.if_icmp .ge 16, 3) := by decide +kernel
theorem dX13_shortestCycle_8 : decode cX13_shortestCycle 8 = .ok (.aload_n 0, 1) := by decide +kernel
theorem dX13_shortestCycle_9 : decode cX13_shortestCycle 9 = .ok (.getfield 32, 3) := by decide +kernel
theorem dX13_shortestCycle_12 : decode cX13_shortestCycle 12 = .ok (.iload_n 2, 1) := by decide +kernel
theorem dX13_shortestCycle_13 : decode cX13_shortestCycle 13 = .ok (.iconst (-1), 1) := by decide +kernel
theorem dX13_shortestCycle_14 : decode cX13_shortestCycle 14 = .ok (.iastore, 1) := by decide +kernel
theorem dX13_shortestCycle_15 : decode cX13_shortestCycle 15 = .ok (.iinc 2 1, 3) := by decide +kernel
theorem dX13_shortestCycle_18 : decode cX13_shortestCycle 18 = .ok (.goto (-16), 3) := by decide +kernel
theorem dX13_shortestCycle_21 : decode cX13_shortestCycle 21 = .ok (.aload_n 0, 1) := by decide +kernel
theorem dX13_shortestCycle_22 : decode cX13_shortestCycle 22 = .ok (.iload_n 1, 1) := by decide +kernel
theorem dX13_shortestCycle_23 : decode cX13_shortestCycle 23 = .ok (.iconst 3, 1) := by decide +kernel
theorem dX13_shortestCycle_24 : decode cX13_shortestCycle 24 = .ok (.invokevirtual 98, 3) := by decide +kernel
theorem dX13_shortestCycle_27 : decode cX13_shortestCycle 27 = .ok (.iconst (-1), 1) := by decide +kernel
theorem dX13_shortestCycle_28 : decode cX13_shortestCycle 28 = .ok (.if_icmp .ne 5, 3) := by decide +kernel
theorem dX13_shortestCycle_31 : decode cX13_shortestCycle 31 = .ok (.iconst (-1), 1) := by decide +kernel
theorem dX13_shortestCycle_32 : decode cX13_shortestCycle 32 = .ok (.ireturn, 1) := by decide +kernel
theorem dX13_shortestCycle_33 : decode cX13_shortestCycle 33 = .ok (.aload_n 0, 1) := by decide +kernel
theorem dX13_shortestCycle_34 : decode cX13_shortestCycle 34 = .ok (.getfield 32, 3) := by decide +kernel
theorem dX13_shortestCycle_37 : decode cX13_shortestCycle 37 = .ok (.iload_n 1, 1) := by decide +kernel
theorem dX13_shortestCycle_38 : decode cX13_shortestCycle 38 = .ok (.iconst 0, 1) := by decide +kernel
theorem dX13_shortestCycle_39 : decode cX13_shortestCycle 39 = .ok (.iastore, 1) := by decide +kernel
theorem dX13_shortestCycle_40 : decode cX13_shortestCycle 40 = .ok (.iconst 0, 1) := by decide +kernel
theorem dX13_shortestCycle_41 : decode cX13_shortestCycle 41 = .ok (.istore_n 2, 1) := by decide +kernel
theorem dX13_shortestCycle_42 : decode cX13_shortestCycle 42 = .ok (.iload_n 2, 1) := by decide +kernel
theorem dX13_shortestCycle_43 : decode cX13_shortestCycle 43 = .ok (.bipush 8, 2) := by decide +kernel
theorem dX13_shortestCycle_45 : decode cX13_shortestCycle 45 = .ok (.if_icmp .ge 63, 3) := by decide +kernel
theorem dX13_shortestCycle_48 : decode cX13_shortestCycle 48 = .ok (.iconst 0, 1) := by decide +kernel
theorem dX13_shortestCycle_49 : decode cX13_shortestCycle 49 = .ok (.istore_n 3, 1) := by decide +kernel
theorem dX13_shortestCycle_50 : decode cX13_shortestCycle 50 = .ok (.iload_n 3, 1) := by decide +kernel
theorem dX13_shortestCycle_51 : decode cX13_shortestCycle 51 = .ok (.aload_n 0, 1) := by decide +kernel
theorem dX13_shortestCycle_52 : decode cX13_shortestCycle 52 = .ok (.getfield 7, 3) := by decide +kernel
theorem dX13_shortestCycle_55 : decode cX13_shortestCycle 55 = .ok (.iconst 0, 1) := by decide +kernel
theorem dX13_shortestCycle_56 : decode cX13_shortestCycle 56 = .ok (.iaload, 1) := by decide +kernel
theorem dX13_shortestCycle_57 : decode cX13_shortestCycle 57 = .ok (.if_icmp .ge 45, 3) := by decide +kernel
theorem dX13_shortestCycle_60 : decode cX13_shortestCycle 60 = .ok (.aload_n 0, 1) := by decide +kernel
theorem dX13_shortestCycle_61 : decode cX13_shortestCycle 61 = .ok (.getfield 32, 3) := by decide +kernel
theorem dX13_shortestCycle_64 : decode cX13_shortestCycle 64 = .ok (.iload_n 3, 1) := by decide +kernel
theorem dX13_shortestCycle_65 : decode cX13_shortestCycle 65 = .ok (.iaload, 1) := by decide +kernel
theorem dX13_shortestCycle_66 : decode cX13_shortestCycle 66 = .ok (.iload_n 2, 1) := by decide +kernel
theorem dX13_shortestCycle_67 : decode cX13_shortestCycle 67 = .ok (.if_icmp .ne 29, 3) := by decide +kernel
theorem dX13_shortestCycle_70 : decode cX13_shortestCycle 70 = .ok (.iload_n 3, 1) := by decide +kernel
theorem dX13_shortestCycle_71 : decode cX13_shortestCycle 71 = .ok (.iload_n 1, 1) := by decide +kernel
theorem dX13_shortestCycle_72 : decode cX13_shortestCycle 72 = .ok (.if_icmp .eq 16, 3) := by decide +kernel
theorem dX13_shortestCycle_75 : decode cX13_shortestCycle 75 = .ok (.aload_n 0, 1) := by decide +kernel
theorem dX13_shortestCycle_76 : decode cX13_shortestCycle 76 = .ok (.iload_n 3, 1) := by decide +kernel
theorem dX13_shortestCycle_77 : decode cX13_shortestCycle 77 = .ok (.iload_n 1, 1) := by decide +kernel
theorem dX13_shortestCycle_78 : decode cX13_shortestCycle 78 = .ok (.invokevirtual 111, 3) := by decide +kernel
theorem dX13_shortestCycle_81 : decode cX13_shortestCycle 81 = .ok (.ifCond .eq 7, 3) := by decide +kernel
theorem dX13_shortestCycle_84 : decode cX13_shortestCycle 84 = .ok (.iload_n 2, 1) := by decide +kernel
theorem dX13_shortestCycle_85 : decode cX13_shortestCycle 85 = .ok (.iconst 1, 1) := by decide +kernel
theorem dX13_shortestCycle_86 : decode cX13_shortestCycle 86 = .ok (.iadd, 1) := by decide +kernel
theorem dX13_shortestCycle_87 : decode cX13_shortestCycle 87 = .ok (.ireturn, 1) := by decide +kernel
theorem dX13_shortestCycle_88 : decode cX13_shortestCycle 88 = .ok (.aload_n 0, 1) := by decide +kernel
theorem dX13_shortestCycle_89 : decode cX13_shortestCycle 89 = .ok (.iload_n 3, 1) := by decide +kernel
theorem dX13_shortestCycle_90 : decode cX13_shortestCycle 90 = .ok (.iload_n 2, 1) := by decide +kernel
theorem dX13_shortestCycle_91 : decode cX13_shortestCycle 91 = .ok (.iconst 1, 1) := by decide +kernel
theorem dX13_shortestCycle_92 : decode cX13_shortestCycle 92 = .ok (.iadd, 1) := by decide +kernel
theorem dX13_shortestCycle_93 : decode cX13_shortestCycle 93 = .ok (.invokevirtual 119, 3) := by decide +kernel
theorem dX13_shortestCycle_96 : decode cX13_shortestCycle 96 = .ok (.iinc 3 1, 3) := by decide +kernel
theorem dX13_shortestCycle_99 : decode cX13_shortestCycle 99 = .ok (.goto (-49), 3) := by decide +kernel
theorem dX13_shortestCycle_102 : decode cX13_shortestCycle 102 = .ok (.iinc 2 1, 3) := by decide +kernel
theorem dX13_shortestCycle_105 : decode cX13_shortestCycle 105 = .ok (.goto (-63), 3) := by decide +kernel
theorem dX13_shortestCycle_108 : decode cX13_shortestCycle 108 = .ok (.iconst (-1), 1) := by decide +kernel
theorem dX13_shortestCycle_109 : decode cX13_shortestCycle 109 = .ok (.ireturn, 1) := by decide +kernel
theorem dX13_spreads_0 : decode cX13_spreads 0 = .ok (.iconst 0, 1) := by decide +kernel
theorem dX13_spreads_1 : decode cX13_spreads 1 = .ok (.istore_n 3, 1) := by decide +kernel
theorem dX13_spreads_2 : decode cX13_spreads 2 = .ok (.iload_n 3, 1) := by decide +kernel
theorem dX13_spreads_3 : decode cX13_spreads 3 = .ok (.aload_n 0, 1) := by decide +kernel
theorem dX13_spreads_4 : decode cX13_spreads 4 = .ok (.getfield 7, 3) := by decide +kernel
theorem dX13_spreads_7 : decode cX13_spreads 7 = .ok (.iconst 0, 1) := by decide +kernel
theorem dX13_spreads_8 : decode cX13_spreads 8 = .ok (.iaload, 1) := by decide +kernel
theorem dX13_spreads_9 : decode cX13_spreads 9 = .ok (.if_icmp .ge 45, 3) := by decide +kernel
theorem dX13_spreads_12 : decode cX13_spreads 12 = .ok (.aload_n 0, 1) := by decide +kernel
theorem dX13_spreads_13 : decode cX13_spreads 13 = .ok (.getfield 32, 3) := by decide +kernel
theorem dX13_spreads_16 : decode cX13_spreads 16 = .ok (.iload_n 3, 1) := by decide +kernel
theorem dX13_spreads_17 : decode cX13_spreads 17 = .ok (.iaload, 1) := by decide +kernel
theorem dX13_spreads_18 : decode cX13_spreads 18 = .ok (.iconst (-1), 1) := by decide +kernel
theorem dX13_spreads_19 : decode cX13_spreads 19 = .ok (.if_icmp .ne 29, 3) := by decide +kernel
theorem dX13_spreads_22 : decode cX13_spreads 22 = .ok (.aload_n 0, 1) := by decide +kernel
theorem dX13_spreads_23 : decode cX13_spreads 23 = .ok (.iload_n 3, 1) := by decide +kernel
theorem dX13_spreads_24 : decode cX13_spreads 24 = .ok (.iconst 3, 1) := by decide +kernel
theorem dX13_spreads_25 : decode cX13_spreads 25 = .ok (.invokevirtual 98, 3) := by decide +kernel
theorem dX13_spreads_28 : decode cX13_spreads 28 = .ok (.iconst (-1), 1) := by decide +kernel
theorem dX13_spreads_29 : decode cX13_spreads 29 = .ok (.if_icmp .eq 19, 3) := by decide +kernel
theorem dX13_spreads_32 : decode cX13_spreads 32 = .ok (.aload_n 0, 1) := by decide +kernel
theorem dX13_spreads_33 : decode cX13_spreads 33 = .ok (.iload_n 1, 1) := by decide +kernel
theorem dX13_spreads_34 : decode cX13_spreads 34 = .ok (.iload_n 3, 1) := by decide +kernel
theorem dX13_spreads_35 : decode cX13_spreads 35 = .ok (.invokevirtual 111, 3) := by decide +kernel
theorem dX13_spreads_38 : decode cX13_spreads 38 = .ok (.ifCond .eq 10, 3) := by decide +kernel
theorem dX13_spreads_41 : decode cX13_spreads 41 = .ok (.aload_n 0, 1) := by decide +kernel
theorem dX13_spreads_42 : decode cX13_spreads 42 = .ok (.getfield 32, 3) := by decide +kernel
theorem dX13_spreads_45 : decode cX13_spreads 45 = .ok (.iload_n 3, 1) := by decide +kernel
theorem dX13_spreads_46 : decode cX13_spreads 46 = .ok (.iload_n 2, 1) := by decide +kernel
theorem dX13_spreads_47 : decode cX13_spreads 47 = .ok (.iastore, 1) := by decide +kernel
theorem dX13_spreads_48 : decode cX13_spreads 48 = .ok (.iinc 3 1, 3) := by decide +kernel
theorem dX13_spreads_51 : decode cX13_spreads 51 = .ok (.goto (-49), 3) := by decide +kernel
theorem dX13_spreads_54 : decode cX13_spreads 54 = .ok (.return_, 1) := by decide +kernel
theorem dX13_request_0 : decode cX13_request 0 = .ok (.iconst 0, 1) := by decide +kernel
theorem dX13_request_1 : decode cX13_request 1 = .ok (.istore_n 2, 1) := by decide +kernel
theorem dX13_request_2 : decode cX13_request 2 = .ok (.iload_n 2, 1) := by decide +kernel
theorem dX13_request_3 : decode cX13_request 3 = .ok (.aload_n 0, 1) := by decide +kernel
theorem dX13_request_4 : decode cX13_request 4 = .ok (.iload_n 1, 1) := by decide +kernel
theorem dX13_request_5 : decode cX13_request 5 = .ok (.iconst 4, 1) := by decide +kernel
theorem dX13_request_6 : decode cX13_request 6 = .ok (.invokevirtual 98, 3) := by decide +kernel
theorem dX13_request_9 : decode cX13_request 9 = .ok (.if_icmp .ge 34, 3) := by decide +kernel
theorem dX13_request_12 : decode cX13_request 12 = .ok (.aload_n 0, 1) := by decide +kernel
theorem dX13_request_13 : decode cX13_request 13 = .ok (.getfield 48, 3) := by decide +kernel
theorem dX13_request_16 : decode cX13_request 16 = .ok (.aload_n 0, 1) := by decide +kernel
theorem dX13_request_17 : decode cX13_request 17 = .ok (.iload_n 1, 1) := by decide +kernel
theorem dX13_request_18 : decode cX13_request 18 = .ok (.iconst 5, 1) := by decide +kernel
theorem dX13_request_19 : decode cX13_request 19 = .ok (.iload_n 2, 1) := by decide +kernel
theorem dX13_request_20 : decode cX13_request 20 = .ok (.iadd, 1) := by decide +kernel
theorem dX13_request_21 : decode cX13_request 21 = .ok (.invokevirtual 98, 3) := by decide +kernel
theorem dX13_request_24 : decode cX13_request 24 = .ok (.baload, 1) := by decide +kernel
theorem dX13_request_25 : decode cX13_request 25 = .ok (.ifCond .ne 12, 3) := by decide +kernel
theorem dX13_request_28 : decode cX13_request 28 = .ok (.aload_n 0, 1) := by decide +kernel
theorem dX13_request_29 : decode cX13_request 29 = .ok (.iload_n 1, 1) := by decide +kernel
theorem dX13_request_30 : decode cX13_request 30 = .ok (.iconst 5, 1) := by decide +kernel
theorem dX13_request_31 : decode cX13_request 31 = .ok (.iload_n 2, 1) := by decide +kernel
theorem dX13_request_32 : decode cX13_request 32 = .ok (.iadd, 1) := by decide +kernel
theorem dX13_request_33 : decode cX13_request 33 = .ok (.invokevirtual 98, 3) := by decide +kernel
theorem dX13_request_36 : decode cX13_request 36 = .ok (.ireturn, 1) := by decide +kernel
theorem dX13_request_37 : decode cX13_request 37 = .ok (.iinc 2 1, 3) := by decide +kernel
theorem dX13_request_40 : decode cX13_request 40 = .ok (.goto (-38), 3) := by decide +kernel
theorem dX13_request_43 : decode cX13_request 43 = .ok (.iconst (-1), 1) := by decide +kernel
theorem dX13_request_44 : decode cX13_request 44 = .ok (.ireturn, 1) := by decide +kernel
theorem dX13_finishes_0 : decode cX13_finishes 0 = .ok (.aload_n 0, 1) := by decide +kernel
theorem dX13_finishes_1 : decode cX13_finishes 1 = .ok (.getfield 41, 3) := by decide +kernel
theorem dX13_finishes_4 : decode cX13_finishes 4 = .ok (.iload_n 1, 1) := by decide +kernel
theorem dX13_finishes_5 : decode cX13_finishes 5 = .ok (.iload_n 2, 1) := by decide +kernel
theorem dX13_finishes_6 : decode cX13_finishes 6 = .ok (.iastore, 1) := by decide +kernel
theorem dX13_finishes_7 : decode cX13_finishes 7 = .ok (.aload_n 0, 1) := by decide +kernel
theorem dX13_finishes_8 : decode cX13_finishes 8 = .ok (.getfield 44, 3) := by decide +kernel
theorem dX13_finishes_11 : decode cX13_finishes 11 = .ok (.iload_n 1, 1) := by decide +kernel
theorem dX13_finishes_12 : decode cX13_finishes 12 = .ok (.iconst 1, 1) := by decide +kernel
theorem dX13_finishes_13 : decode cX13_finishes 13 = .ok (.bastore, 1) := by decide +kernel
theorem dX13_finishes_14 : decode cX13_finishes 14 = .ok (.iload_n 2, 1) := by decide +kernel
theorem dX13_finishes_15 : decode cX13_finishes 15 = .ok (.iconst (-1), 1) := by decide +kernel
theorem dX13_finishes_16 : decode cX13_finishes 16 = .ok (.if_icmp .eq 10, 3) := by decide +kernel
theorem dX13_finishes_19 : decode cX13_finishes 19 = .ok (.aload_n 0, 1) := by decide +kernel
theorem dX13_finishes_20 : decode cX13_finishes 20 = .ok (.getfield 48, 3) := by decide +kernel
theorem dX13_finishes_23 : decode cX13_finishes 23 = .ok (.iload_n 2, 1) := by decide +kernel
theorem dX13_finishes_24 : decode cX13_finishes 24 = .ok (.iconst 1, 1) := by decide +kernel
theorem dX13_finishes_25 : decode cX13_finishes 25 = .ok (.bastore, 1) := by decide +kernel
theorem dX13_finishes_26 : decode cX13_finishes 26 = .ok (.return_, 1) := by decide +kernel
theorem dX13_firstUnfinished_0 : decode cX13_firstUnfinished 0 = .ok (.iconst 0, 1) := by decide +kernel
theorem dX13_firstUnfinished_1 : decode cX13_firstUnfinished 1 = .ok (.istore_n 1, 1) := by decide +kernel
theorem dX13_firstUnfinished_2 : decode cX13_firstUnfinished 2 = .ok (.iload_n 1, 1) := by decide +kernel
theorem dX13_firstUnfinished_3 : decode cX13_firstUnfinished 3 = .ok (.aload_n 0, 1) := by decide +kernel
theorem dX13_firstUnfinished_4 : decode cX13_firstUnfinished 4 = .ok (.getfield 7, 3) := by decide +kernel
theorem dX13_firstUnfinished_7 : decode cX13_firstUnfinished 7 = .ok (.iconst 0, 1) := by decide +kernel
theorem dX13_firstUnfinished_8 : decode cX13_firstUnfinished 8 = .ok (.iaload, 1) := by decide +kernel
theorem dX13_firstUnfinished_9 : decode cX13_firstUnfinished 9 = .ok (.if_icmp .ge 38, 3) := by decide +kernel
theorem dX13_firstUnfinished_12 : decode cX13_firstUnfinished 12 = .ok (.aload_n 0, 1) := by decide +kernel
theorem dX13_firstUnfinished_13 : decode cX13_firstUnfinished 13 = .ok (.getfield 44, 3) := by decide +kernel
theorem dX13_firstUnfinished_16 : decode cX13_firstUnfinished 16 = .ok (.aload_n 0, 1) := by decide +kernel
theorem dX13_firstUnfinished_17 : decode cX13_firstUnfinished 17 = .ok (.getfield 7, 3) := by decide +kernel
theorem dX13_firstUnfinished_20 : decode cX13_firstUnfinished 20 = .ok (.sipush 129, 3) := by decide +kernel
theorem dX13_firstUnfinished_23 : decode cX13_firstUnfinished 23 = .ok (.iload_n 1, 1) := by decide +kernel
theorem dX13_firstUnfinished_24 : decode cX13_firstUnfinished 24 = .ok (.iadd, 1) := by decide +kernel
theorem dX13_firstUnfinished_25 : decode cX13_firstUnfinished 25 = .ok (.iaload, 1) := by decide +kernel
theorem dX13_firstUnfinished_26 : decode cX13_firstUnfinished 26 = .ok (.baload, 1) := by decide +kernel
theorem dX13_firstUnfinished_27 : decode cX13_firstUnfinished 27 = .ok (.ifCond .ne 14, 3) := by decide +kernel
theorem dX13_firstUnfinished_30 : decode cX13_firstUnfinished 30 = .ok (.aload_n 0, 1) := by decide +kernel
theorem dX13_firstUnfinished_31 : decode cX13_firstUnfinished 31 = .ok (.getfield 7, 3) := by decide +kernel
theorem dX13_firstUnfinished_34 : decode cX13_firstUnfinished 34 = .ok (.sipush 129, 3) := by decide +kernel
theorem dX13_firstUnfinished_37 : decode cX13_firstUnfinished 37 = .ok (.iload_n 1, 1) := by decide +kernel
theorem dX13_firstUnfinished_38 : decode cX13_firstUnfinished 38 = .ok (.iadd, 1) := by decide +kernel
theorem dX13_firstUnfinished_39 : decode cX13_firstUnfinished 39 = .ok (.iaload, 1) := by decide +kernel
theorem dX13_firstUnfinished_40 : decode cX13_firstUnfinished 40 = .ok (.ireturn, 1) := by decide +kernel
theorem dX13_firstUnfinished_41 : decode cX13_firstUnfinished 41 = .ok (.iinc 1 1, 3) := by decide +kernel
theorem dX13_firstUnfinished_44 : decode cX13_firstUnfinished 44 = .ok (.goto (-42), 3) := by decide +kernel
theorem dX13_firstUnfinished_47 : decode cX13_firstUnfinished 47 = .ok (.iconst (-1), 1) := by decide +kernel
theorem dX13_firstUnfinished_48 : decode cX13_firstUnfinished 48 = .ok (.ireturn, 1) := by decide +kernel
theorem dX13_inChain_0 : decode cX13_inChain 0 = .ok (.iconst 0, 1) := by decide +kernel
theorem dX13_inChain_1 : decode cX13_inChain 1 = .ok (.istore_n 2, 1) := by decide +kernel
theorem dX13_inChain_2 : decode cX13_inChain 2 = .ok (.iload_n 2, 1) := by decide +kernel
theorem dX13_inChain_3 : decode cX13_inChain 3 = .ok (.aload_n 0, 1) := by decide +kernel
theorem dX13_inChain_4 : decode cX13_inChain 4 = .ok (.getfield 123, 3) := by decide +kernel
theorem dX13_inChain_7 : decode cX13_inChain 7 = .ok (.if_icmp .ge 21, 3) := by decide +kernel
theorem dX13_inChain_10 : decode cX13_inChain 10 = .ok (.aload_n 0, 1) := by decide +kernel
theorem dX13_inChain_11 : decode cX13_inChain 11 = .ok (.getfield 35, 3) := by decide +kernel
theorem dX13_inChain_14 : decode cX13_inChain 14 = .ok (.iload_n 2, 1) := by decide +kernel
theorem dX13_inChain_15 : decode cX13_inChain 15 = .ok (.iaload, 1) := by decide +kernel
theorem dX13_inChain_16 : decode cX13_inChain 16 = .ok (.iload_n 1, 1) := by decide +kernel
theorem dX13_inChain_17 : decode cX13_inChain 17 = .ok (.if_icmp .ne 5, 3) := by decide +kernel
theorem dX13_inChain_20 : decode cX13_inChain 20 = .ok (.iload_n 2, 1) := by decide +kernel
theorem dX13_inChain_21 : decode cX13_inChain 21 = .ok (.ireturn, 1) := by decide +kernel
theorem dX13_inChain_22 : decode cX13_inChain 22 = .ok (.iinc 2 1, 3) := by decide +kernel
theorem dX13_inChain_25 : decode cX13_inChain 25 = .ok (.goto (-23), 3) := by decide +kernel
theorem dX13_inChain_28 : decode cX13_inChain 28 = .ok (.iconst (-1), 1) := by decide +kernel
theorem dX13_inChain_29 : decode cX13_inChain 29 = .ok (.ireturn, 1) := by decide +kernel
theorem dX13_appends_0 : decode cX13_appends 0 = .ok (.aload_n 0, 1) := by decide +kernel
theorem dX13_appends_1 : decode cX13_appends 1 = .ok (.getfield 35, 3) := by decide +kernel
theorem dX13_appends_4 : decode cX13_appends 4 = .ok (.aload_n 0, 1) := by decide +kernel
theorem dX13_appends_5 : decode cX13_appends 5 = .ok (.getfield 123, 3) := by decide +kernel
theorem dX13_appends_8 : decode cX13_appends 8 = .ok (.iload_n 1, 1) := by decide +kernel
theorem dX13_appends_9 : decode cX13_appends 9 = .ok (.iastore, 1) := by decide +kernel
theorem dX13_appends_10 : decode cX13_appends 10 = .ok (.aload_n 0, 1) := by decide +kernel
theorem dX13_appends_11 : decode cX13_appends 11 = .ok (.dup, 1) := by decide +kernel
theorem dX13_appends_12 : decode cX13_appends 12 = .ok (.getfield 123, 3) := by decide +kernel
theorem dX13_appends_15 : decode cX13_appends 15 = .ok (.iconst 1, 1) := by decide +kernel
theorem dX13_appends_16 : decode cX13_appends 16 = .ok (.iadd, 1) := by decide +kernel
theorem dX13_appends_17 : decode cX13_appends 17 = .ok (.putfield 123, 3) := by decide +kernel
theorem dX13_appends_20 : decode cX13_appends 20 = .ok (.return_, 1) := by decide +kernel
theorem dX13_steps_0 : decode cX13_steps 0 = .ok (.aload_n 0, 1) := by decide +kernel
theorem dX13_steps_1 : decode cX13_steps 1 = .ok (.getfield 35, 3) := by decide +kernel
theorem dX13_steps_4 : decode cX13_steps 4 = .ok (.aload_n 0, 1) := by decide +kernel
theorem dX13_steps_5 : decode cX13_steps 5 = .ok (.getfield 123, 3) := by decide +kernel
theorem dX13_steps_8 : decode cX13_steps 8 = .ok (.iconst 1, 1) := by decide +kernel
theorem dX13_steps_9 : decode cX13_steps 9 = .ok (.isub, 1) := by decide +kernel
theorem dX13_steps_10 : decode cX13_steps 10 = .ok (.iaload, 1) := by decide +kernel
theorem dX13_steps_11 : decode cX13_steps 11 = .ok (.istore_n 1, 1) := by decide +kernel
theorem dX13_steps_12 : decode cX13_steps 12 = .ok (.aload_n 0, 1) := by decide +kernel
theorem dX13_steps_13 : decode cX13_steps 13 = .ok (.iload_n 1, 1) := by decide +kernel
theorem dX13_steps_14 : decode cX13_steps 14 = .ok (.invokevirtual 126, 3) := by decide +kernel
theorem dX13_steps_17 : decode cX13_steps 17 = .ok (.istore_n 2, 1) := by decide +kernel
theorem dX13_steps_18 : decode cX13_steps 18 = .ok (.aload_n 0, 1) := by decide +kernel
theorem dX13_steps_19 : decode cX13_steps 19 = .ok (.getfield 38, 3) := by decide +kernel
theorem dX13_steps_22 : decode cX13_steps 22 = .ok (.iload_n 1, 1) := by decide +kernel
theorem dX13_steps_23 : decode cX13_steps 23 = .ok (.iload_n 2, 1) := by decide +kernel
theorem dX13_steps_24 : decode cX13_steps 24 = .ok (.iastore, 1) := by decide +kernel
theorem dX13_steps_25 : decode cX13_steps 25 = .ok (.iload_n 2, 1) := by decide +kernel
theorem dX13_steps_26 : decode cX13_steps 26 = .ok (.iconst (-1), 1) := by decide +kernel
theorem dX13_steps_27 : decode cX13_steps 27 = .ok (.if_icmp .ne 7, 3) := by decide +kernel
theorem dX13_steps_30 : decode cX13_steps 30 = .ok (.iconst (-1), 1) := by decide +kernel
theorem dX13_steps_31 : decode cX13_steps 31 = .ok (.goto 8, 3) := by decide +kernel
theorem dX13_steps_34 : decode cX13_steps 34 = .ok (.aload_n 0, 1) := by decide +kernel
theorem dX13_steps_35 : decode cX13_steps 35 = .ok (.iload_n 2, 1) := by decide +kernel
theorem dX13_steps_36 : decode cX13_steps 36 = .ok (.invokevirtual 115, 3) := by decide +kernel
theorem dX13_steps_39 : decode cX13_steps 39 = .ok (.istore_n 3, 1) := by decide +kernel
theorem dX13_steps_40 : decode cX13_steps 40 = .ok (.iload_n 3, 1) := by decide +kernel
theorem dX13_steps_41 : decode cX13_steps 41 = .ok (.iconst (-1), 1) := by decide +kernel
theorem dX13_steps_42 : decode cX13_steps 42 = .ok (.if_icmp .eq 17, 3) := by decide +kernel
theorem dX13_steps_45 : decode cX13_steps 45 = .ok (.iload_n 3, 1) := by decide +kernel
theorem dX13_steps_46 : decode cX13_steps 46 = .ok (.iload_n 1, 1) := by decide +kernel
theorem dX13_steps_47 : decode cX13_steps 47 = .ok (.if_icmp .eq 12, 3) := by decide +kernel
theorem dX13_steps_50 : decode cX13_steps 50 = .ok (.aload_n 0, 1) := by decide +kernel
theorem dX13_steps_51 : decode cX13_steps 51 = .ok (.getfield 44, 3) := by decide +kernel
theorem dX13_steps_54 : decode cX13_steps 54 = .ok (.iload_n 3, 1) := by decide +kernel
theorem dX13_steps_55 : decode cX13_steps 55 = .ok (.baload, 1) := by decide +kernel
theorem dX13_steps_56 : decode cX13_steps 56 = .ok (.ifCond .eq 20, 3) := by decide +kernel
theorem dX13_steps_59 : decode cX13_steps 59 = .ok (.aload_n 0, 1) := by decide +kernel
theorem dX13_steps_60 : decode cX13_steps 60 = .ok (.iload_n 1, 1) := by decide +kernel
theorem dX13_steps_61 : decode cX13_steps 61 = .ok (.iload_n 2, 1) := by decide +kernel
theorem dX13_steps_62 : decode cX13_steps 62 = .ok (.invokevirtual 129, 3) := by decide +kernel
theorem dX13_steps_65 : decode cX13_steps 65 = .ok (.aload_n 0, 1) := by decide +kernel
theorem dX13_steps_66 : decode cX13_steps 66 = .ok (.dup, 1) := by decide +kernel
theorem dX13_steps_67 : decode cX13_steps 67 = .ok (.getfield 123, 3) := by decide +kernel
theorem dX13_steps_70 : decode cX13_steps 70 = .ok (.iconst 1, 1) := by decide +kernel
theorem dX13_steps_71 : decode cX13_steps 71 = .ok (.isub, 1) := by decide +kernel
theorem dX13_steps_72 : decode cX13_steps 72 = .ok (.putfield 123, 3) := by decide +kernel
theorem dX13_steps_75 : decode cX13_steps 75 = .ok (.return_, 1) := by decide +kernel
theorem dX13_steps_76 : decode cX13_steps 76 = .ok (.aload_n 0, 1) := by decide +kernel
theorem dX13_steps_77 : decode cX13_steps 77 = .ok (.iload_n 3, 1) := by decide +kernel
theorem dX13_steps_78 : decode cX13_steps 78 = .ok (.invokevirtual 132, 3) := by decide +kernel
theorem dX13_steps_81 : decode cX13_steps 81 = .ok (.istore 4, 2) := by decide +kernel
theorem dX13_steps_83 : decode cX13_steps 83 = .ok (.iload 4, 2) := by decide +kernel
theorem dX13_steps_85 : decode cX13_steps 85 = .ok (.iconst (-1), 1) := by decide +kernel
theorem dX13_steps_86 : decode cX13_steps 86 = .ok (.if_icmp .ne 9, 3) := by decide +kernel
theorem dX13_steps_89 : decode cX13_steps 89 = .ok (.aload_n 0, 1) := by decide +kernel
theorem dX13_steps_90 : decode cX13_steps 90 = .ok (.iload_n 3, 1) := by decide +kernel
theorem dX13_steps_91 : decode cX13_steps 91 = .ok (.invokevirtual 135, 3) := by decide +kernel
theorem dX13_steps_94 : decode cX13_steps 94 = .ok (.return_, 1) := by decide +kernel
theorem dX13_steps_95 : decode cX13_steps 95 = .ok (.iload 4, 2) := by decide +kernel
theorem dX13_steps_97 : decode cX13_steps 97 = .ok (.istore 5, 2) := by decide +kernel
theorem dX13_steps_99 : decode cX13_steps 99 = .ok (.iload 5, 2) := by decide +kernel
theorem dX13_steps_101 : decode cX13_steps 101 = .ok (.aload_n 0, 1) := by decide +kernel
theorem dX13_steps_102 : decode cX13_steps 102 = .ok (.getfield 123, 3) := by decide +kernel
theorem dX13_steps_105 : decode cX13_steps 105 = .ok (.if_icmp .ge 32, 3) := by decide +kernel
theorem dX13_steps_108 : decode cX13_steps 108 = .ok (.aload_n 0, 1) := by decide +kernel
theorem dX13_steps_109 : decode cX13_steps 109 = .ok (.aload_n 0, 1) := by decide +kernel
theorem dX13_steps_110 : decode cX13_steps 110 = .ok (.getfield 35, 3) := by decide +kernel
theorem dX13_steps_113 : decode cX13_steps 113 = .ok (.iload 5, 2) := by decide +kernel
theorem dX13_steps_115 : decode cX13_steps 115 = .ok (.iaload, 1) := by decide +kernel
theorem dX13_steps_116 : decode cX13_steps 116 = .ok (.aload_n 0, 1) := by decide +kernel
theorem dX13_steps_117 : decode cX13_steps 117 = .ok (.getfield 38, 3) := by decide +kernel
theorem dX13_steps_120 : decode cX13_steps 120 = .ok (.aload_n 0, 1) := by decide +kernel
theorem dX13_steps_121 : decode cX13_steps 121 = .ok (.getfield 35, 3) := by decide +kernel
theorem dX13_steps_124 : decode cX13_steps 124 = .ok (.iload 5, 2) := by decide +kernel
theorem dX13_steps_126 : decode cX13_steps 126 = .ok (.iaload, 1) := by decide +kernel
theorem dX13_steps_127 : decode cX13_steps 127 = .ok (.iaload, 1) := by decide +kernel
theorem dX13_steps_128 : decode cX13_steps 128 = .ok (.invokevirtual 129, 3) := by decide +kernel
theorem dX13_steps_131 : decode cX13_steps 131 = .ok (.iinc 5 1, 3) := by decide +kernel
theorem dX13_steps_134 : decode cX13_steps 134 = .ok (.goto (-35), 3) := by decide +kernel
theorem dX13_steps_137 : decode cX13_steps 137 = .ok (.aload_n 0, 1) := by decide +kernel
theorem dX13_steps_138 : decode cX13_steps 138 = .ok (.iload 4, 2) := by decide +kernel
theorem dX13_steps_140 : decode cX13_steps 140 = .ok (.putfield 123, 3) := by decide +kernel
theorem dX13_steps_143 : decode cX13_steps 143 = .ok (.return_, 1) := by decide +kernel
theorem dX13_allocates_0 : decode cX13_allocates 0 = .ok (.iconst 0, 1) := by decide +kernel
theorem dX13_allocates_1 : decode cX13_allocates 1 = .ok (.istore_n 1, 1) := by decide +kernel
theorem dX13_allocates_2 : decode cX13_allocates 2 = .ok (.iload_n 1, 1) := by decide +kernel
theorem dX13_allocates_3 : decode cX13_allocates 3 = .ok (.bipush 8, 2) := by decide +kernel
theorem dX13_allocates_5 : decode cX13_allocates 5 = .ok (.if_icmp .ge 23, 3) := by decide +kernel
theorem dX13_allocates_8 : decode cX13_allocates 8 = .ok (.aload_n 0, 1) := by decide +kernel
theorem dX13_allocates_9 : decode cX13_allocates 9 = .ok (.getfield 44, 3) := by decide +kernel
theorem dX13_allocates_12 : decode cX13_allocates 12 = .ok (.iload_n 1, 1) := by decide +kernel
theorem dX13_allocates_13 : decode cX13_allocates 13 = .ok (.iconst 0, 1) := by decide +kernel
theorem dX13_allocates_14 : decode cX13_allocates 14 = .ok (.bastore, 1) := by decide +kernel
theorem dX13_allocates_15 : decode cX13_allocates 15 = .ok (.aload_n 0, 1) := by decide +kernel
theorem dX13_allocates_16 : decode cX13_allocates 16 = .ok (.getfield 48, 3) := by decide +kernel
theorem dX13_allocates_19 : decode cX13_allocates 19 = .ok (.iload_n 1, 1) := by decide +kernel
theorem dX13_allocates_20 : decode cX13_allocates 20 = .ok (.iconst 0, 1) := by decide +kernel
theorem dX13_allocates_21 : decode cX13_allocates 21 = .ok (.bastore, 1) := by decide +kernel
theorem dX13_allocates_22 : decode cX13_allocates 22 = .ok (.iinc 1 1, 3) := by decide +kernel
theorem dX13_allocates_25 : decode cX13_allocates 25 = .ok (.goto (-23), 3) := by decide +kernel
theorem dX13_allocates_28 : decode cX13_allocates 28 = .ok (.aload_n 0, 1) := by decide +kernel
theorem dX13_allocates_29 : decode cX13_allocates 29 = .ok (.iconst 0, 1) := by decide +kernel
theorem dX13_allocates_30 : decode cX13_allocates 30 = .ok (.putfield 123, 3) := by decide +kernel
theorem dX13_allocates_33 : decode cX13_allocates 33 = .ok (.aload_n 0, 1) := by decide +kernel
theorem dX13_allocates_34 : decode cX13_allocates 34 = .ok (.invokevirtual 139, 3) := by decide +kernel
theorem dX13_allocates_37 : decode cX13_allocates 37 = .ok (.istore_n 1, 1) := by decide +kernel
theorem dX13_allocates_38 : decode cX13_allocates 38 = .ok (.iload_n 1, 1) := by decide +kernel
theorem dX13_allocates_39 : decode cX13_allocates 39 = .ok (.iconst (-1), 1) := by decide +kernel
theorem dX13_allocates_40 : decode cX13_allocates 40 = .ok (.if_icmp .eq 27, 3) := by decide +kernel
theorem dX13_allocates_43 : decode cX13_allocates 43 = .ok (.aload_n 0, 1) := by decide +kernel
theorem dX13_allocates_44 : decode cX13_allocates 44 = .ok (.getfield 123, 3) := by decide +kernel
theorem dX13_allocates_47 : decode cX13_allocates 47 = .ok (.ifCond .ne 8, 3) := by decide +kernel
theorem dX13_allocates_50 : decode cX13_allocates 50 = .ok (.aload_n 0, 1) := by decide +kernel
theorem dX13_allocates_51 : decode cX13_allocates 51 = .ok (.iload_n 1, 1) := by decide +kernel
theorem dX13_allocates_52 : decode cX13_allocates 52 = .ok (.invokevirtual 135, 3) := by decide +kernel
theorem dX13_allocates_55 : decode cX13_allocates 55 = .ok (.aload_n 0, 1) := by decide +kernel
theorem dX13_allocates_56 : decode cX13_allocates 56 = .ok (.invokevirtual 142, 3) := by decide +kernel
theorem dX13_allocates_59 : decode cX13_allocates 59 = .ok (.aload_n 0, 1) := by decide +kernel
theorem dX13_allocates_60 : decode cX13_allocates 60 = .ok (.invokevirtual 139, 3) := by decide +kernel
theorem dX13_allocates_63 : decode cX13_allocates 63 = .ok (.istore_n 1, 1) := by decide +kernel
theorem dX13_allocates_64 : decode cX13_allocates 64 = .ok (.goto (-26), 3) := by decide +kernel
theorem dX13_allocates_67 : decode cX13_allocates 67 = .ok (.return_, 1) := by decide +kernel
theorem dX13_assigns_0 : decode cX13_assigns 0 = .ok (.aload_n 0, 1) := by decide +kernel
theorem dX13_assigns_1 : decode cX13_assigns 1 = .ok (.iload_n 1, 1) := by decide +kernel
theorem dX13_assigns_2 : decode cX13_assigns 2 = .ok (.iconst 3, 1) := by decide +kernel
theorem dX13_assigns_3 : decode cX13_assigns 3 = .ok (.invokevirtual 98, 3) := by decide +kernel
theorem dX13_assigns_6 : decode cX13_assigns 6 = .ok (.istore_n 3, 1) := by decide +kernel
theorem dX13_assigns_7 : decode cX13_assigns 7 = .ok (.aload_n 0, 1) := by decide +kernel
theorem dX13_assigns_8 : decode cX13_assigns 8 = .ok (.iload_n 1, 1) := by decide +kernel
theorem dX13_assigns_9 : decode cX13_assigns 9 = .ok (.iconst 3, 1) := by decide +kernel
theorem dX13_assigns_10 : decode cX13_assigns 10 = .ok (.iload_n 2, 1) := by decide +kernel
theorem dX13_assigns_11 : decode cX13_assigns 11 = .ok (.invokevirtual 145, 3) := by decide +kernel
theorem dX13_assigns_14 : decode cX13_assigns 14 = .ok (.iload_n 3, 1) := by decide +kernel
theorem dX13_assigns_15 : decode cX13_assigns 15 = .ok (.ireturn, 1) := by decide +kernel
theorem dX13_canAssign_0 : decode cX13_canAssign 0 = .ok (.aload_n 0, 1) := by decide +kernel
theorem dX13_canAssign_1 : decode cX13_canAssign 1 = .ok (.iload_n 2, 1) := by decide +kernel
theorem dX13_canAssign_2 : decode cX13_canAssign 2 = .ok (.invokevirtual 115, 3) := by decide +kernel
theorem dX13_canAssign_5 : decode cX13_canAssign 5 = .ok (.iconst (-1), 1) := by decide +kernel
theorem dX13_canAssign_6 : decode cX13_canAssign 6 = .ok (.if_icmp .ne 21, 3) := by decide +kernel
theorem dX13_canAssign_9 : decode cX13_canAssign 9 = .ok (.aload_n 0, 1) := by decide +kernel
theorem dX13_canAssign_10 : decode cX13_canAssign 10 = .ok (.iload_n 2, 1) := by decide +kernel
theorem dX13_canAssign_11 : decode cX13_canAssign 11 = .ok (.invokevirtual 149, 3) := by decide +kernel
theorem dX13_canAssign_14 : decode cX13_canAssign 14 = .ok (.aload_n 0, 1) := by decide +kernel
theorem dX13_canAssign_15 : decode cX13_canAssign 15 = .ok (.iload_n 1, 1) := by decide +kernel
theorem dX13_canAssign_16 : decode cX13_canAssign 16 = .ok (.iconst 1, 1) := by decide +kernel
theorem dX13_canAssign_17 : decode cX13_canAssign 17 = .ok (.invokevirtual 98, 3) := by decide +kernel
theorem dX13_canAssign_20 : decode cX13_canAssign 20 = .ok (.if_icmp .gt 7, 3) := by decide +kernel
theorem dX13_canAssign_23 : decode cX13_canAssign 23 = .ok (.iconst 1, 1) := by decide +kernel
theorem dX13_canAssign_24 : decode cX13_canAssign 24 = .ok (.goto 4, 3) := by decide +kernel
theorem dX13_canAssign_27 : decode cX13_canAssign 27 = .ok (.iconst 0, 1) := by decide +kernel
theorem dX13_canAssign_28 : decode cX13_canAssign 28 = .ok (.ireturn, 1) := by decide +kernel
theorem dX13_swaps_0 : decode cX13_swaps 0 = .ok (.aload_n 0, 1) := by decide +kernel
theorem dX13_swaps_1 : decode cX13_swaps 1 = .ok (.iload_n 2, 1) := by decide +kernel
theorem dX13_swaps_2 : decode cX13_swaps 2 = .ok (.iconst 3, 1) := by decide +kernel
theorem dX13_swaps_3 : decode cX13_swaps 3 = .ok (.invokevirtual 98, 3) := by decide +kernel
theorem dX13_swaps_6 : decode cX13_swaps 6 = .ok (.istore_n 3, 1) := by decide +kernel
theorem dX13_swaps_7 : decode cX13_swaps 7 = .ok (.aload_n 0, 1) := by decide +kernel
theorem dX13_swaps_8 : decode cX13_swaps 8 = .ok (.iload_n 2, 1) := by decide +kernel
theorem dX13_swaps_9 : decode cX13_swaps 9 = .ok (.iconst 3, 1) := by decide +kernel
theorem dX13_swaps_10 : decode cX13_swaps 10 = .ok (.aload_n 0, 1) := by decide +kernel
theorem dX13_swaps_11 : decode cX13_swaps 11 = .ok (.iload_n 1, 1) := by decide +kernel
theorem dX13_swaps_12 : decode cX13_swaps 12 = .ok (.iconst 3, 1) := by decide +kernel
theorem dX13_swaps_13 : decode cX13_swaps 13 = .ok (.invokevirtual 98, 3) := by decide +kernel
theorem dX13_swaps_16 : decode cX13_swaps 16 = .ok (.invokevirtual 145, 3) := by decide +kernel
theorem dX13_swaps_19 : decode cX13_swaps 19 = .ok (.aload_n 0, 1) := by decide +kernel
theorem dX13_swaps_20 : decode cX13_swaps 20 = .ok (.iload_n 1, 1) := by decide +kernel
theorem dX13_swaps_21 : decode cX13_swaps 21 = .ok (.iconst 3, 1) := by decide +kernel
theorem dX13_swaps_22 : decode cX13_swaps 22 = .ok (.iload_n 3, 1) := by decide +kernel
theorem dX13_swaps_23 : decode cX13_swaps 23 = .ok (.invokevirtual 145, 3) := by decide +kernel
theorem dX13_swaps_26 : decode cX13_swaps 26 = .ok (.aload_n 0, 1) := by decide +kernel
theorem dX13_swaps_27 : decode cX13_swaps 27 = .ok (.getfield 7, 3) := by decide +kernel
theorem dX13_swaps_30 : decode cX13_swaps 30 = .ok (.iconst 5, 1) := by decide +kernel
theorem dX13_swaps_31 : decode cX13_swaps 31 = .ok (.dup2, 1) := by decide +kernel
theorem dX13_swaps_32 : decode cX13_swaps 32 = .ok (.iaload, 1) := by decide +kernel
theorem dX13_swaps_33 : decode cX13_swaps 33 = .ok (.iconst 1, 1) := by decide +kernel
theorem dX13_swaps_34 : decode cX13_swaps 34 = .ok (.iadd, 1) := by decide +kernel
theorem dX13_swaps_35 : decode cX13_swaps 35 = .ok (.iastore, 1) := by decide +kernel
theorem dX13_swaps_36 : decode cX13_swaps 36 = .ok (.iload_n 3, 1) := by decide +kernel
theorem dX13_swaps_37 : decode cX13_swaps 37 = .ok (.ireturn, 1) := by decide +kernel
theorem dX13_reallocates_0 : decode cX13_reallocates 0 = .ok (.aload_n 0, 1) := by decide +kernel
theorem dX13_reallocates_1 : decode cX13_reallocates 1 = .ok (.invokevirtual 152, 3) := by decide +kernel
theorem dX13_reallocates_4 : decode cX13_reallocates 4 = .ok (.iconst 0, 1) := by decide +kernel
theorem dX13_reallocates_5 : decode cX13_reallocates 5 = .ok (.istore_n 1, 1) := by decide +kernel
theorem dX13_reallocates_6 : decode cX13_reallocates 6 = .ok (.iconst 0, 1) := by decide +kernel
theorem dX13_reallocates_7 : decode cX13_reallocates 7 = .ok (.istore_n 2, 1) := by decide +kernel
theorem dX13_reallocates_8 : decode cX13_reallocates 8 = .ok (.iload_n 2, 1) := by decide +kernel
theorem dX13_reallocates_9 : decode cX13_reallocates 9 = .ok (.aload_n 0, 1) := by decide +kernel
theorem dX13_reallocates_10 : decode cX13_reallocates 10 = .ok (.getfield 7, 3) := by decide +kernel
theorem dX13_reallocates_13 : decode cX13_reallocates 13 = .ok (.iconst 0, 1) := by decide +kernel
theorem dX13_reallocates_14 : decode cX13_reallocates 14 = .ok (.iaload, 1) := by decide +kernel
theorem dX13_reallocates_15 : decode cX13_reallocates 15 = .ok (.if_icmp .ge 71, 3) := by decide +kernel
theorem dX13_reallocates_18 : decode cX13_reallocates 18 = .ok (.aload_n 0, 1) := by decide +kernel
theorem dX13_reallocates_19 : decode cX13_reallocates 19 = .ok (.getfield 41, 3) := by decide +kernel
theorem dX13_reallocates_22 : decode cX13_reallocates 22 = .ok (.iload_n 2, 1) := by decide +kernel
theorem dX13_reallocates_23 : decode cX13_reallocates 23 = .ok (.iaload, 1) := by decide +kernel
theorem dX13_reallocates_24 : decode cX13_reallocates 24 = .ok (.aload_n 0, 1) := by decide +kernel
theorem dX13_reallocates_25 : decode cX13_reallocates 25 = .ok (.iload_n 2, 1) := by decide +kernel
theorem dX13_reallocates_26 : decode cX13_reallocates 26 = .ok (.iconst 3, 1) := by decide +kernel
theorem dX13_reallocates_27 : decode cX13_reallocates 27 = .ok (.invokevirtual 98, 3) := by decide +kernel
theorem dX13_reallocates_30 : decode cX13_reallocates 30 = .ok (.if_icmp .eq 7, 3) := by decide +kernel
theorem dX13_reallocates_33 : decode cX13_reallocates 33 = .ok (.iconst 1, 1) := by decide +kernel
theorem dX13_reallocates_34 : decode cX13_reallocates 34 = .ok (.goto 4, 3) := by decide +kernel
theorem dX13_reallocates_37 : decode cX13_reallocates 37 = .ok (.iconst 0, 1) := by decide +kernel
theorem dX13_reallocates_38 : decode cX13_reallocates 38 = .ok (.istore_n 3, 1) := by decide +kernel
theorem dX13_reallocates_39 : decode cX13_reallocates 39 = .ok (.iload_n 1, 1) := by decide +kernel
theorem dX13_reallocates_40 : decode cX13_reallocates 40 = .ok (.iload_n 3, 1) := by decide +kernel
theorem dX13_reallocates_41 : decode cX13_reallocates 41 = .ok (.ifCond .eq 7, 3) := by decide +kernel
theorem dX13_reallocates_44 : decode cX13_reallocates 44 = .ok (.iconst 1, 1) := by decide +kernel
theorem dX13_reallocates_45 : decode cX13_reallocates 45 = .ok (.goto 4, 3) := by decide +kernel
theorem dX13_reallocates_48 : decode cX13_reallocates 48 = .ok (.iconst 0, 1) := by decide +kernel
theorem dX13_reallocates_49 : decode cX13_reallocates 49 = .ok (.iadd, 1) := by decide +kernel
theorem dX13_reallocates_50 : decode cX13_reallocates 50 = .ok (.istore_n 1, 1) := by decide +kernel
theorem dX13_reallocates_51 : decode cX13_reallocates 51 = .ok (.aload_n 0, 1) := by decide +kernel
theorem dX13_reallocates_52 : decode cX13_reallocates 52 = .ok (.getfield 7, 3) := by decide +kernel
theorem dX13_reallocates_55 : decode cX13_reallocates 55 = .ok (.bipush 6, 2) := by decide +kernel
theorem dX13_reallocates_57 : decode cX13_reallocates 57 = .ok (.dup2, 1) := by decide +kernel
theorem dX13_reallocates_58 : decode cX13_reallocates 58 = .ok (.iaload, 1) := by decide +kernel
theorem dX13_reallocates_59 : decode cX13_reallocates 59 = .ok (.iload_n 3, 1) := by decide +kernel
theorem dX13_reallocates_60 : decode cX13_reallocates 60 = .ok (.ifCond .eq 17, 3) := by decide +kernel
theorem dX13_reallocates_63 : decode cX13_reallocates 63 = .ok (.aload_n 0, 1) := by decide +kernel
theorem dX13_reallocates_64 : decode cX13_reallocates 64 = .ok (.getfield 41, 3) := by decide +kernel
theorem dX13_reallocates_67 : decode cX13_reallocates 67 = .ok (.iload_n 2, 1) := by decide +kernel
theorem dX13_reallocates_68 : decode cX13_reallocates 68 = .ok (.iaload, 1) := by decide +kernel
theorem dX13_reallocates_69 : decode cX13_reallocates 69 = .ok (.iconst (-1), 1) := by decide +kernel
theorem dX13_reallocates_70 : decode cX13_reallocates 70 = .ok (.if_icmp .eq 7, 3) := by decide +kernel
theorem dX13_reallocates_73 : decode cX13_reallocates 73 = .ok (.iconst 1, 1) := by decide +kernel
theorem dX13_reallocates_74 : decode cX13_reallocates 74 = .ok (.goto 4, 3) := by decide +kernel
theorem dX13_reallocates_77 : decode cX13_reallocates 77 = .ok (.iconst 0, 1) := by decide +kernel
theorem dX13_reallocates_78 : decode cX13_reallocates 78 = .ok (.iadd, 1) := by decide +kernel
theorem dX13_reallocates_79 : decode cX13_reallocates 79 = .ok (.iastore, 1) := by decide +kernel
theorem dX13_reallocates_80 : decode cX13_reallocates 80 = .ok (.iinc 2 1, 3) := by decide +kernel
theorem dX13_reallocates_83 : decode cX13_reallocates 83 = .ok (.goto (-75), 3) := by decide +kernel
theorem dX13_reallocates_86 : decode cX13_reallocates 86 = .ok (.iconst 0, 1) := by decide +kernel
theorem dX13_reallocates_87 : decode cX13_reallocates 87 = .ok (.istore_n 2, 1) := by decide +kernel
theorem dX13_reallocates_88 : decode cX13_reallocates 88 = .ok (.iload_n 2, 1) := by decide +kernel
theorem dX13_reallocates_89 : decode cX13_reallocates 89 = .ok (.aload_n 0, 1) := by decide +kernel
theorem dX13_reallocates_90 : decode cX13_reallocates 90 = .ok (.getfield 7, 3) := by decide +kernel
theorem dX13_reallocates_93 : decode cX13_reallocates 93 = .ok (.iconst 0, 1) := by decide +kernel
theorem dX13_reallocates_94 : decode cX13_reallocates 94 = .ok (.iaload, 1) := by decide +kernel
theorem dX13_reallocates_95 : decode cX13_reallocates 95 = .ok (.if_icmp .ge 21, 3) := by decide +kernel
theorem dX13_reallocates_98 : decode cX13_reallocates 98 = .ok (.aload_n 0, 1) := by decide +kernel
theorem dX13_reallocates_99 : decode cX13_reallocates 99 = .ok (.iload_n 2, 1) := by decide +kernel
theorem dX13_reallocates_100 : decode cX13_reallocates 100 = .ok (.iconst 3, 1) := by decide +kernel
theorem dX13_reallocates_101 : decode cX13_reallocates 101 = .ok (.aload_n 0, 1) := by decide +kernel
theorem dX13_reallocates_102 : decode cX13_reallocates 102 = .ok (.getfield 41, 3) := by decide +kernel
theorem dX13_reallocates_105 : decode cX13_reallocates 105 = .ok (.iload_n 2, 1) := by decide +kernel
theorem dX13_reallocates_106 : decode cX13_reallocates 106 = .ok (.iaload, 1) := by decide +kernel
theorem dX13_reallocates_107 : decode cX13_reallocates 107 = .ok (.invokevirtual 145, 3) := by decide +kernel
theorem dX13_reallocates_110 : decode cX13_reallocates 110 = .ok (.iinc 2 1, 3) := by decide +kernel
theorem dX13_reallocates_113 : decode cX13_reallocates 113 = .ok (.goto (-25), 3) := by decide +kernel
theorem dX13_reallocates_116 : decode cX13_reallocates 116 = .ok (.iload_n 1, 1) := by decide +kernel
theorem dX13_reallocates_117 : decode cX13_reallocates 117 = .ok (.ireturn, 1) := by decide +kernel
theorem dX13_moves_0 : decode cX13_moves 0 = .ok (.aload_n 0, 1) := by decide +kernel
theorem dX13_moves_1 : decode cX13_moves 1 = .ok (.iload_n 1, 1) := by decide +kernel
theorem dX13_moves_2 : decode cX13_moves 2 = .ok (.invokevirtual 155, 3) := by decide +kernel
theorem dX13_moves_5 : decode cX13_moves 5 = .ok (.istore_n 3, 1) := by decide +kernel
theorem dX13_moves_6 : decode cX13_moves 6 = .ok (.iload_n 2, 1) := by decide +kernel
theorem dX13_moves_7 : decode cX13_moves 7 = .ok (.iload_n 3, 1) := by decide +kernel
theorem dX13_moves_8 : decode cX13_moves 8 = .ok (.if_icmp .le 7, 3) := by decide +kernel
theorem dX13_moves_11 : decode cX13_moves 11 = .ok (.iconst 1, 1) := by decide +kernel
theorem dX13_moves_12 : decode cX13_moves 12 = .ok (.goto 4, 3) := by decide +kernel
theorem dX13_moves_15 : decode cX13_moves 15 = .ok (.iconst (-1), 1) := by decide +kernel
theorem dX13_moves_16 : decode cX13_moves 16 = .ok (.istore 4, 2) := by decide +kernel
theorem dX13_moves_18 : decode cX13_moves 18 = .ok (.iload_n 3, 1) := by decide +kernel
theorem dX13_moves_19 : decode cX13_moves 19 = .ok (.istore 5, 2) := by decide +kernel
theorem dX13_moves_21 : decode cX13_moves 21 = .ok (.iload 5, 2) := by decide +kernel
theorem dX13_moves_23 : decode cX13_moves 23 = .ok (.iload_n 2, 1) := by decide +kernel
theorem dX13_moves_24 : decode cX13_moves 24 = .ok (.if_icmp .eq 38, 3) := by decide +kernel
theorem dX13_moves_27 : decode cX13_moves 27 = .ok (.aload_n 0, 1) := by decide +kernel
theorem dX13_moves_28 : decode cX13_moves 28 = .ok (.getfield 7, 3) := by decide +kernel
theorem dX13_moves_31 : decode cX13_moves 31 = .ok (.sipush 129, 3) := by decide +kernel
theorem dX13_moves_34 : decode cX13_moves 34 = .ok (.iload 5, 2) := by decide +kernel
theorem dX13_moves_36 : decode cX13_moves 36 = .ok (.iadd, 1) := by decide +kernel
theorem dX13_moves_37 : decode cX13_moves 37 = .ok (.aload_n 0, 1) := by decide +kernel
theorem dX13_moves_38 : decode cX13_moves 38 = .ok (.getfield 7, 3) := by decide +kernel
theorem dX13_moves_41 : decode cX13_moves 41 = .ok (.sipush 129, 3) := by decide +kernel
theorem dX13_moves_44 : decode cX13_moves 44 = .ok (.iload 5, 2) := by decide +kernel
theorem dX13_moves_46 : decode cX13_moves 46 = .ok (.iadd, 1) := by decide +kernel
theorem dX13_moves_47 : decode cX13_moves 47 = .ok (.iload 4, 2) := by decide +kernel
theorem dX13_moves_49 : decode cX13_moves 49 = .ok (.iadd, 1) := by decide +kernel
theorem dX13_moves_50 : decode cX13_moves 50 = .ok (.iaload, 1) := by decide +kernel
theorem dX13_moves_51 : decode cX13_moves 51 = .ok (.iastore, 1) := by decide +kernel
theorem dX13_moves_52 : decode cX13_moves 52 = .ok (.iload 5, 2) := by decide +kernel
theorem dX13_moves_54 : decode cX13_moves 54 = .ok (.iload 4, 2) := by decide +kernel
theorem dX13_moves_56 : decode cX13_moves 56 = .ok (.iadd, 1) := by decide +kernel
theorem dX13_moves_57 : decode cX13_moves 57 = .ok (.istore 5, 2) := by decide +kernel
theorem dX13_moves_59 : decode cX13_moves 59 = .ok (.goto (-38), 3) := by decide +kernel
theorem dX13_moves_62 : decode cX13_moves 62 = .ok (.aload_n 0, 1) := by decide +kernel
theorem dX13_moves_63 : decode cX13_moves 63 = .ok (.getfield 7, 3) := by decide +kernel
theorem dX13_moves_66 : decode cX13_moves 66 = .ok (.sipush 129, 3) := by decide +kernel
theorem dX13_moves_69 : decode cX13_moves 69 = .ok (.iload_n 2, 1) := by decide +kernel
theorem dX13_moves_70 : decode cX13_moves 70 = .ok (.iadd, 1) := by decide +kernel
theorem dX13_moves_71 : decode cX13_moves 71 = .ok (.iload_n 1, 1) := by decide +kernel
theorem dX13_moves_72 : decode cX13_moves 72 = .ok (.iastore, 1) := by decide +kernel
theorem dX13_moves_73 : decode cX13_moves 73 = .ok (.iload_n 3, 1) := by decide +kernel
theorem dX13_moves_74 : decode cX13_moves 74 = .ok (.ireturn, 1) := by decide +kernel
theorem dX13_removes_0 : decode cX13_removes 0 = .ok (.aload_n 0, 1) := by decide +kernel
theorem dX13_removes_1 : decode cX13_removes 1 = .ok (.iload_n 1, 1) := by decide +kernel
theorem dX13_removes_2 : decode cX13_removes 2 = .ok (.iconst 4, 1) := by decide +kernel
theorem dX13_removes_3 : decode cX13_removes 3 = .ok (.invokevirtual 98, 3) := by decide +kernel
theorem dX13_removes_6 : decode cX13_removes 6 = .ok (.iconst 1, 1) := by decide +kernel
theorem dX13_removes_7 : decode cX13_removes 7 = .ok (.isub, 1) := by decide +kernel
theorem dX13_removes_8 : decode cX13_removes 8 = .ok (.istore_n 3, 1) := by decide +kernel
theorem dX13_removes_9 : decode cX13_removes 9 = .ok (.aload_n 0, 1) := by decide +kernel
theorem dX13_removes_10 : decode cX13_removes 10 = .ok (.iload_n 1, 1) := by decide +kernel
theorem dX13_removes_11 : decode cX13_removes 11 = .ok (.iload_n 2, 1) := by decide +kernel
theorem dX13_removes_12 : decode cX13_removes 12 = .ok (.invokevirtual 102, 3) := by decide +kernel
theorem dX13_removes_15 : decode cX13_removes 15 = .ok (.istore 4, 2) := by decide +kernel
theorem dX13_removes_17 : decode cX13_removes 17 = .ok (.iload 4, 2) := by decide +kernel
theorem dX13_removes_19 : decode cX13_removes 19 = .ok (.iload_n 3, 1) := by decide +kernel
theorem dX13_removes_20 : decode cX13_removes 20 = .ok (.if_icmp .ge 29, 3) := by decide +kernel
theorem dX13_removes_23 : decode cX13_removes 23 = .ok (.aload_n 0, 1) := by decide +kernel
theorem dX13_removes_24 : decode cX13_removes 24 = .ok (.iload_n 1, 1) := by decide +kernel
theorem dX13_removes_25 : decode cX13_removes 25 = .ok (.iconst 5, 1) := by decide +kernel
theorem dX13_removes_26 : decode cX13_removes 26 = .ok (.iload 4, 2) := by decide +kernel
theorem dX13_removes_28 : decode cX13_removes 28 = .ok (.iadd, 1) := by decide +kernel
theorem dX13_removes_29 : decode cX13_removes 29 = .ok (.aload_n 0, 1) := by decide +kernel
theorem dX13_removes_30 : decode cX13_removes 30 = .ok (.iload_n 1, 1) := by decide +kernel
theorem dX13_removes_31 : decode cX13_removes 31 = .ok (.iconst 5, 1) := by decide +kernel
theorem dX13_removes_32 : decode cX13_removes 32 = .ok (.iload 4, 2) := by decide +kernel
theorem dX13_removes_34 : decode cX13_removes 34 = .ok (.iadd, 1) := by decide +kernel
theorem dX13_removes_35 : decode cX13_removes 35 = .ok (.iconst 1, 1) := by decide +kernel
theorem dX13_removes_36 : decode cX13_removes 36 = .ok (.iadd, 1) := by decide +kernel
theorem dX13_removes_37 : decode cX13_removes 37 = .ok (.invokevirtual 98, 3) := by decide +kernel
theorem dX13_removes_40 : decode cX13_removes 40 = .ok (.invokevirtual 145, 3) := by decide +kernel
theorem dX13_removes_43 : decode cX13_removes 43 = .ok (.iinc 4 1, 3) := by decide +kernel
theorem dX13_removes_46 : decode cX13_removes 46 = .ok (.goto (-29), 3) := by decide +kernel
theorem dX13_removes_49 : decode cX13_removes 49 = .ok (.aload_n 0, 1) := by decide +kernel
theorem dX13_removes_50 : decode cX13_removes 50 = .ok (.iload_n 1, 1) := by decide +kernel
theorem dX13_removes_51 : decode cX13_removes 51 = .ok (.iconst 4, 1) := by decide +kernel
theorem dX13_removes_52 : decode cX13_removes 52 = .ok (.iload_n 3, 1) := by decide +kernel
theorem dX13_removes_53 : decode cX13_removes 53 = .ok (.invokevirtual 145, 3) := by decide +kernel
theorem dX13_removes_56 : decode cX13_removes 56 = .ok (.iload_n 3, 1) := by decide +kernel
theorem dX13_removes_57 : decode cX13_removes 57 = .ok (.ireturn, 1) := by decide +kernel
theorem dX13_putsFirst_0 : decode cX13_putsFirst 0 = .ok (.aload_n 0, 1) := by decide +kernel
theorem dX13_putsFirst_1 : decode cX13_putsFirst 1 = .ok (.iload_n 1, 1) := by decide +kernel
theorem dX13_putsFirst_2 : decode cX13_putsFirst 2 = .ok (.iload_n 2, 1) := by decide +kernel
theorem dX13_putsFirst_3 : decode cX13_putsFirst 3 = .ok (.invokevirtual 102, 3) := by decide +kernel
theorem dX13_putsFirst_6 : decode cX13_putsFirst 6 = .ok (.iconst (-1), 1) := by decide +kernel
theorem dX13_putsFirst_7 : decode cX13_putsFirst 7 = .ok (.if_icmp .eq 10, 3) := by decide +kernel
theorem dX13_putsFirst_10 : decode cX13_putsFirst 10 = .ok (.aload_n 0, 1) := by decide +kernel
theorem dX13_putsFirst_11 : decode cX13_putsFirst 11 = .ok (.iload_n 1, 1) := by decide +kernel
theorem dX13_putsFirst_12 : decode cX13_putsFirst 12 = .ok (.iload_n 2, 1) := by decide +kernel
theorem dX13_putsFirst_13 : decode cX13_putsFirst 13 = .ok (.invokevirtual 158, 3) := by decide +kernel
theorem dX13_putsFirst_16 : decode cX13_putsFirst 16 = .ok (.pop, 1) := by decide +kernel
theorem dX13_putsFirst_17 : decode cX13_putsFirst 17 = .ok (.aload_n 0, 1) := by decide +kernel
theorem dX13_putsFirst_18 : decode cX13_putsFirst 18 = .ok (.iload_n 1, 1) := by decide +kernel
theorem dX13_putsFirst_19 : decode cX13_putsFirst 19 = .ok (.iconst 4, 1) := by decide +kernel
theorem dX13_putsFirst_20 : decode cX13_putsFirst 20 = .ok (.invokevirtual 98, 3) := by decide +kernel
theorem dX13_putsFirst_23 : decode cX13_putsFirst 23 = .ok (.istore_n 3, 1) := by decide +kernel
theorem dX13_putsFirst_24 : decode cX13_putsFirst 24 = .ok (.iload_n 3, 1) := by decide +kernel
theorem dX13_putsFirst_25 : decode cX13_putsFirst 25 = .ok (.istore 4, 2) := by decide +kernel
theorem dX13_putsFirst_27 : decode cX13_putsFirst 27 = .ok (.iload 4, 2) := by decide +kernel
theorem dX13_putsFirst_29 : decode cX13_putsFirst 29 = .ok (.ifCond .le 29, 3) := by decide +kernel
theorem dX13_putsFirst_32 : decode cX13_putsFirst 32 = .ok (.aload_n 0, 1) := by decide +kernel
theorem dX13_putsFirst_33 : decode cX13_putsFirst 33 = .ok (.iload_n 1, 1) := by decide +kernel
theorem dX13_putsFirst_34 : decode cX13_putsFirst 34 = .ok (.iconst 5, 1) := by decide +kernel
theorem dX13_putsFirst_35 : decode cX13_putsFirst 35 = .ok (.iload 4, 2) := by decide +kernel
theorem dX13_putsFirst_37 : decode cX13_putsFirst 37 = .ok (.iadd, 1) := by decide +kernel
theorem dX13_putsFirst_38 : decode cX13_putsFirst 38 = .ok (.aload_n 0, 1) := by decide +kernel
theorem dX13_putsFirst_39 : decode cX13_putsFirst 39 = .ok (.iload_n 1, 1) := by decide +kernel
theorem dX13_putsFirst_40 : decode cX13_putsFirst 40 = .ok (.iconst 5, 1) := by decide +kernel
theorem dX13_putsFirst_41 : decode cX13_putsFirst 41 = .ok (.iload 4, 2) := by decide +kernel
theorem dX13_putsFirst_43 : decode cX13_putsFirst 43 = .ok (.iadd, 1) := by decide +kernel
theorem dX13_putsFirst_44 : decode cX13_putsFirst 44 = .ok (.iconst 1, 1) := by decide +kernel
theorem dX13_putsFirst_45 : decode cX13_putsFirst 45 = .ok (.isub, 1) := by decide +kernel
theorem dX13_putsFirst_46 : decode cX13_putsFirst 46 = .ok (.invokevirtual 98, 3) := by decide +kernel
theorem dX13_putsFirst_49 : decode cX13_putsFirst 49 = .ok (.invokevirtual 145, 3) := by decide +kernel
theorem dX13_putsFirst_52 : decode cX13_putsFirst 52 = .ok (.iinc 4 (-1), 3) := by decide +kernel
theorem dX13_putsFirst_55 : decode cX13_putsFirst 55 = .ok (.goto (-28), 3) := by decide +kernel
theorem dX13_putsFirst_58 : decode cX13_putsFirst 58 = .ok (.aload_n 0, 1) := by decide +kernel
theorem dX13_putsFirst_59 : decode cX13_putsFirst 59 = .ok (.iload_n 1, 1) := by decide +kernel
theorem dX13_putsFirst_60 : decode cX13_putsFirst 60 = .ok (.iconst 5, 1) := by decide +kernel
theorem dX13_putsFirst_61 : decode cX13_putsFirst 61 = .ok (.iload_n 2, 1) := by decide +kernel
theorem dX13_putsFirst_62 : decode cX13_putsFirst 62 = .ok (.invokevirtual 145, 3) := by decide +kernel
theorem dX13_putsFirst_65 : decode cX13_putsFirst 65 = .ok (.aload_n 0, 1) := by decide +kernel
theorem dX13_putsFirst_66 : decode cX13_putsFirst 66 = .ok (.iload_n 1, 1) := by decide +kernel
theorem dX13_putsFirst_67 : decode cX13_putsFirst 67 = .ok (.iconst 4, 1) := by decide +kernel
theorem dX13_putsFirst_68 : decode cX13_putsFirst 68 = .ok (.iload_n 3, 1) := by decide +kernel
theorem dX13_putsFirst_69 : decode cX13_putsFirst 69 = .ok (.iconst 1, 1) := by decide +kernel
theorem dX13_putsFirst_70 : decode cX13_putsFirst 70 = .ok (.iadd, 1) := by decide +kernel
theorem dX13_putsFirst_71 : decode cX13_putsFirst 71 = .ok (.invokevirtual 145, 3) := by decide +kernel
theorem dX13_putsFirst_74 : decode cX13_putsFirst 74 = .ok (.iload_n 3, 1) := by decide +kernel
theorem dX13_putsFirst_75 : decode cX13_putsFirst 75 = .ok (.iconst 1, 1) := by decide +kernel
theorem dX13_putsFirst_76 : decode cX13_putsFirst 76 = .ok (.iadd, 1) := by decide +kernel
theorem dX13_putsFirst_77 : decode cX13_putsFirst 77 = .ok (.ireturn, 1) := by decide +kernel
theorem dX13_deposits_0 : decode cX13_deposits 0 = .ok (.aload_n 0, 1) := by decide +kernel
theorem dX13_deposits_1 : decode cX13_deposits 1 = .ok (.iload_n 1, 1) := by decide +kernel
theorem dX13_deposits_2 : decode cX13_deposits 2 = .ok (.iconst 1, 1) := by decide +kernel
theorem dX13_deposits_3 : decode cX13_deposits 3 = .ok (.aload_n 0, 1) := by decide +kernel
theorem dX13_deposits_4 : decode cX13_deposits 4 = .ok (.iload_n 1, 1) := by decide +kernel
theorem dX13_deposits_5 : decode cX13_deposits 5 = .ok (.iconst 1, 1) := by decide +kernel
theorem dX13_deposits_6 : decode cX13_deposits 6 = .ok (.invokevirtual 98, 3) := by decide +kernel
theorem dX13_deposits_9 : decode cX13_deposits 9 = .ok (.iload_n 2, 1) := by decide +kernel
theorem dX13_deposits_10 : decode cX13_deposits 10 = .ok (.iadd, 1) := by decide +kernel
theorem dX13_deposits_11 : decode cX13_deposits 11 = .ok (.invokevirtual 145, 3) := by decide +kernel
theorem dX13_deposits_14 : decode cX13_deposits 14 = .ok (.aload_n 0, 1) := by decide +kernel
theorem dX13_deposits_15 : decode cX13_deposits 15 = .ok (.getfield 7, 3) := by decide +kernel
theorem dX13_deposits_18 : decode cX13_deposits 18 = .ok (.bipush 8, 2) := by decide +kernel
theorem dX13_deposits_20 : decode cX13_deposits 20 = .ok (.dup2, 1) := by decide +kernel
theorem dX13_deposits_21 : decode cX13_deposits 21 = .ok (.iaload, 1) := by decide +kernel
theorem dX13_deposits_22 : decode cX13_deposits 22 = .ok (.iload_n 2, 1) := by decide +kernel
theorem dX13_deposits_23 : decode cX13_deposits 23 = .ok (.iadd, 1) := by decide +kernel
theorem dX13_deposits_24 : decode cX13_deposits 24 = .ok (.iastore, 1) := by decide +kernel
theorem dX13_deposits_25 : decode cX13_deposits 25 = .ok (.aload_n 0, 1) := by decide +kernel
theorem dX13_deposits_26 : decode cX13_deposits 26 = .ok (.iload_n 1, 1) := by decide +kernel
theorem dX13_deposits_27 : decode cX13_deposits 27 = .ok (.iconst 1, 1) := by decide +kernel
theorem dX13_deposits_28 : decode cX13_deposits 28 = .ok (.invokevirtual 98, 3) := by decide +kernel
theorem dX13_deposits_31 : decode cX13_deposits 31 = .ok (.ireturn, 1) := by decide +kernel
theorem dX13_isEvicted_0 : decode cX13_isEvicted 0 = .ok (.aload_n 0, 1) := by decide +kernel
theorem dX13_isEvicted_1 : decode cX13_isEvicted 1 = .ok (.iload_n 1, 1) := by decide +kernel
theorem dX13_isEvicted_2 : decode cX13_isEvicted 2 = .ok (.iconst 3, 1) := by decide +kernel
theorem dX13_isEvicted_3 : decode cX13_isEvicted 3 = .ok (.invokevirtual 98, 3) := by decide +kernel
theorem dX13_isEvicted_6 : decode cX13_isEvicted 6 = .ok (.istore_n 2, 1) := by decide +kernel
theorem dX13_isEvicted_7 : decode cX13_isEvicted 7 = .ok (.iload_n 2, 1) := by decide +kernel
theorem dX13_isEvicted_8 : decode cX13_isEvicted 8 = .ok (.iconst (-1), 1) := by decide +kernel
theorem dX13_isEvicted_9 : decode cX13_isEvicted 9 = .ok (.if_icmp .ne 5, 3) := by decide +kernel
theorem dX13_isEvicted_12 : decode cX13_isEvicted 12 = .ok (.iconst 0, 1) := by decide +kernel
theorem dX13_isEvicted_13 : decode cX13_isEvicted 13 = .ok (.ireturn, 1) := by decide +kernel
theorem dX13_isEvicted_14 : decode cX13_isEvicted 14 = .ok (.aload_n 0, 1) := by decide +kernel
theorem dX13_isEvicted_15 : decode cX13_isEvicted 15 = .ok (.iload_n 2, 1) := by decide +kernel
theorem dX13_isEvicted_16 : decode cX13_isEvicted 16 = .ok (.invokevirtual 149, 3) := by decide +kernel
theorem dX13_isEvicted_19 : decode cX13_isEvicted 19 = .ok (.istore_n 3, 1) := by decide +kernel
theorem dX13_isEvicted_20 : decode cX13_isEvicted 20 = .ok (.aload_n 0, 1) := by decide +kernel
theorem dX13_isEvicted_21 : decode cX13_isEvicted 21 = .ok (.iload_n 1, 1) := by decide +kernel
theorem dX13_isEvicted_22 : decode cX13_isEvicted 22 = .ok (.iconst 1, 1) := by decide +kernel
theorem dX13_isEvicted_23 : decode cX13_isEvicted 23 = .ok (.invokevirtual 98, 3) := by decide +kernel
theorem dX13_isEvicted_26 : decode cX13_isEvicted 26 = .ok (.iload_n 3, 1) := by decide +kernel
theorem dX13_isEvicted_27 : decode cX13_isEvicted 27 = .ok (.if_icmp .ge 22, 3) := by decide +kernel
theorem dX13_isEvicted_30 : decode cX13_isEvicted 30 = .ok (.aload_n 0, 1) := by decide +kernel
theorem dX13_isEvicted_31 : decode cX13_isEvicted 31 = .ok (.iload_n 1, 1) := by decide +kernel
theorem dX13_isEvicted_32 : decode cX13_isEvicted 32 = .ok (.iconst 3, 1) := by decide +kernel
theorem dX13_isEvicted_33 : decode cX13_isEvicted 33 = .ok (.iconst (-1), 1) := by decide +kernel
theorem dX13_isEvicted_34 : decode cX13_isEvicted 34 = .ok (.invokevirtual 145, 3) := by decide +kernel
theorem dX13_isEvicted_37 : decode cX13_isEvicted 37 = .ok (.aload_n 0, 1) := by decide +kernel
theorem dX13_isEvicted_38 : decode cX13_isEvicted 38 = .ok (.getfield 7, 3) := by decide +kernel
theorem dX13_isEvicted_41 : decode cX13_isEvicted 41 = .ok (.iconst 4, 1) := by decide +kernel
theorem dX13_isEvicted_42 : decode cX13_isEvicted 42 = .ok (.dup2, 1) := by decide +kernel
theorem dX13_isEvicted_43 : decode cX13_isEvicted 43 = .ok (.iaload, 1) := by decide +kernel
theorem dX13_isEvicted_44 : decode cX13_isEvicted 44 = .ok (.iconst 1, 1) := by decide +kernel
theorem dX13_isEvicted_45 : decode cX13_isEvicted 45 = .ok (.iadd, 1) := by decide +kernel
theorem dX13_isEvicted_46 : decode cX13_isEvicted 46 = .ok (.iastore, 1) := by decide +kernel
theorem dX13_isEvicted_47 : decode cX13_isEvicted 47 = .ok (.iconst 1, 1) := by decide +kernel
theorem dX13_isEvicted_48 : decode cX13_isEvicted 48 = .ok (.ireturn, 1) := by decide +kernel
theorem dX13_isEvicted_49 : decode cX13_isEvicted 49 = .ok (.aload_n 0, 1) := by decide +kernel
theorem dX13_isEvicted_50 : decode cX13_isEvicted 50 = .ok (.iload_n 1, 1) := by decide +kernel
theorem dX13_isEvicted_51 : decode cX13_isEvicted 51 = .ok (.iconst 1, 1) := by decide +kernel
theorem dX13_isEvicted_52 : decode cX13_isEvicted 52 = .ok (.aload_n 0, 1) := by decide +kernel
theorem dX13_isEvicted_53 : decode cX13_isEvicted 53 = .ok (.iload_n 1, 1) := by decide +kernel
theorem dX13_isEvicted_54 : decode cX13_isEvicted 54 = .ok (.iconst 1, 1) := by decide +kernel
theorem dX13_isEvicted_55 : decode cX13_isEvicted 55 = .ok (.invokevirtual 98, 3) := by decide +kernel
theorem dX13_isEvicted_58 : decode cX13_isEvicted 58 = .ok (.iload_n 3, 1) := by decide +kernel
theorem dX13_isEvicted_59 : decode cX13_isEvicted 59 = .ok (.isub, 1) := by decide +kernel
theorem dX13_isEvicted_60 : decode cX13_isEvicted 60 = .ok (.invokevirtual 145, 3) := by decide +kernel
theorem dX13_isEvicted_63 : decode cX13_isEvicted 63 = .ok (.aload_n 0, 1) := by decide +kernel
theorem dX13_isEvicted_64 : decode cX13_isEvicted 64 = .ok (.getfield 7, 3) := by decide +kernel
theorem dX13_isEvicted_67 : decode cX13_isEvicted 67 = .ok (.iconst 3, 1) := by decide +kernel
theorem dX13_isEvicted_68 : decode cX13_isEvicted 68 = .ok (.dup2, 1) := by decide +kernel
theorem dX13_isEvicted_69 : decode cX13_isEvicted 69 = .ok (.iaload, 1) := by decide +kernel
theorem dX13_isEvicted_70 : decode cX13_isEvicted 70 = .ok (.iload_n 3, 1) := by decide +kernel
theorem dX13_isEvicted_71 : decode cX13_isEvicted 71 = .ok (.iadd, 1) := by decide +kernel
theorem dX13_isEvicted_72 : decode cX13_isEvicted 72 = .ok (.iastore, 1) := by decide +kernel
theorem dX13_isEvicted_73 : decode cX13_isEvicted 73 = .ok (.iconst 0, 1) := by decide +kernel
theorem dX13_isEvicted_74 : decode cX13_isEvicted 74 = .ok (.ireturn, 1) := by decide +kernel
theorem dX13_passesDay_0 : decode cX13_passesDay 0 = .ok (.aload_n 0, 1) := by decide +kernel
theorem dX13_passesDay_1 : decode cX13_passesDay 1 = .ok (.getfield 7, 3) := by decide +kernel
theorem dX13_passesDay_4 : decode cX13_passesDay 4 = .ok (.iconst 2, 1) := by decide +kernel
theorem dX13_passesDay_5 : decode cX13_passesDay 5 = .ok (.dup2, 1) := by decide +kernel
theorem dX13_passesDay_6 : decode cX13_passesDay 6 = .ok (.iaload, 1) := by decide +kernel
theorem dX13_passesDay_7 : decode cX13_passesDay 7 = .ok (.iconst 1, 1) := by decide +kernel
theorem dX13_passesDay_8 : decode cX13_passesDay 8 = .ok (.iadd, 1) := by decide +kernel
theorem dX13_passesDay_9 : decode cX13_passesDay 9 = .ok (.iastore, 1) := by decide +kernel
theorem dX13_passesDay_10 : decode cX13_passesDay 10 = .ok (.iconst 0, 1) := by decide +kernel
theorem dX13_passesDay_11 : decode cX13_passesDay 11 = .ok (.istore_n 1, 1) := by decide +kernel
theorem dX13_passesDay_12 : decode cX13_passesDay 12 = .ok (.iconst 0, 1) := by decide +kernel
theorem dX13_passesDay_13 : decode cX13_passesDay 13 = .ok (.istore_n 2, 1) := by decide +kernel
theorem dX13_passesDay_14 : decode cX13_passesDay 14 = .ok (.iload_n 2, 1) := by decide +kernel
theorem dX13_passesDay_15 : decode cX13_passesDay 15 = .ok (.aload_n 0, 1) := by decide +kernel
theorem dX13_passesDay_16 : decode cX13_passesDay 16 = .ok (.getfield 7, 3) := by decide +kernel
theorem dX13_passesDay_19 : decode cX13_passesDay 19 = .ok (.iconst 0, 1) := by decide +kernel
theorem dX13_passesDay_20 : decode cX13_passesDay 20 = .ok (.iaload, 1) := by decide +kernel
theorem dX13_passesDay_21 : decode cX13_passesDay 21 = .ok (.if_icmp .ge 21, 3) := by decide +kernel
theorem dX13_passesDay_24 : decode cX13_passesDay 24 = .ok (.aload_n 0, 1) := by decide +kernel
theorem dX13_passesDay_25 : decode cX13_passesDay 25 = .ok (.iload_n 2, 1) := by decide +kernel
theorem dX13_passesDay_26 : decode cX13_passesDay 26 = .ok (.aload_n 0, 1) := by decide +kernel
theorem dX13_passesDay_27 : decode cX13_passesDay 27 = .ok (.iload_n 2, 1) := by decide +kernel
theorem dX13_passesDay_28 : decode cX13_passesDay 28 = .ok (.iconst 2, 1) := by decide +kernel
theorem dX13_passesDay_29 : decode cX13_passesDay 29 = .ok (.invokevirtual 98, 3) := by decide +kernel
theorem dX13_passesDay_32 : decode cX13_passesDay 32 = .ok (.invokevirtual 161, 3) := by decide +kernel
theorem dX13_passesDay_35 : decode cX13_passesDay 35 = .ok (.pop, 1) := by decide +kernel
theorem dX13_passesDay_36 : decode cX13_passesDay 36 = .ok (.iinc 2 1, 3) := by decide +kernel
theorem dX13_passesDay_39 : decode cX13_passesDay 39 = .ok (.goto (-25), 3) := by decide +kernel
theorem dX13_passesDay_42 : decode cX13_passesDay 42 = .ok (.iconst 0, 1) := by decide +kernel
theorem dX13_passesDay_43 : decode cX13_passesDay 43 = .ok (.istore_n 2, 1) := by decide +kernel
theorem dX13_passesDay_44 : decode cX13_passesDay 44 = .ok (.iload_n 2, 1) := by decide +kernel
theorem dX13_passesDay_45 : decode cX13_passesDay 45 = .ok (.aload_n 0, 1) := by decide +kernel
theorem dX13_passesDay_46 : decode cX13_passesDay 46 = .ok (.getfield 7, 3) := by decide +kernel
theorem dX13_passesDay_49 : decode cX13_passesDay 49 = .ok (.iconst 0, 1) := by decide +kernel
theorem dX13_passesDay_50 : decode cX13_passesDay 50 = .ok (.iaload, 1) := by decide +kernel
theorem dX13_passesDay_51 : decode cX13_passesDay 51 = .ok (.if_icmp .ge 25, 3) := by decide +kernel
theorem dX13_passesDay_54 : decode cX13_passesDay 54 = .ok (.iload_n 1, 1) := by decide +kernel
theorem dX13_passesDay_55 : decode cX13_passesDay 55 = .ok (.aload_n 0, 1) := by decide +kernel
theorem dX13_passesDay_56 : decode cX13_passesDay 56 = .ok (.iload_n 2, 1) := by decide +kernel
theorem dX13_passesDay_57 : decode cX13_passesDay 57 = .ok (.invokevirtual 164, 3) := by decide +kernel
theorem dX13_passesDay_60 : decode cX13_passesDay 60 = .ok (.ifCond .eq 7, 3) := by decide +kernel
theorem dX13_passesDay_63 : decode cX13_passesDay 63 = .ok (.iconst 1, 1) := by decide +kernel
theorem dX13_passesDay_64 : decode cX13_passesDay 64 = .ok (.goto 4, 3) := by decide +kernel
theorem dX13_passesDay_67 : decode cX13_passesDay 67 = .ok (.iconst 0, 1) := by decide +kernel
theorem dX13_passesDay_68 : decode cX13_passesDay 68 = .ok (.iadd, 1) := by decide +kernel
theorem dX13_passesDay_69 : decode cX13_passesDay 69 = .ok (.istore_n 1, 1) := by decide +kernel
theorem dX13_passesDay_70 : decode cX13_passesDay 70 = .ok (.iinc 2 1, 3) := by decide +kernel
theorem dX13_passesDay_73 : decode cX13_passesDay 73 = .ok (.goto (-29), 3) := by decide +kernel
theorem dX13_passesDay_76 : decode cX13_passesDay 76 = .ok (.iload_n 1, 1) := by decide +kernel
theorem dX13_passesDay_77 : decode cX13_passesDay 77 = .ok (.ireturn, 1) := by decide +kernel
theorem dX13_passes_0 : decode cX13_passes 0 = .ok (.iconst 0, 1) := by decide +kernel
theorem dX13_passes_1 : decode cX13_passes 1 = .ok (.istore_n 2, 1) := by decide +kernel
theorem dX13_passes_2 : decode cX13_passes 2 = .ok (.iconst 0, 1) := by decide +kernel
theorem dX13_passes_3 : decode cX13_passes 3 = .ok (.istore_n 3, 1) := by decide +kernel
theorem dX13_passes_4 : decode cX13_passes 4 = .ok (.iload_n 3, 1) := by decide +kernel
theorem dX13_passes_5 : decode cX13_passes 5 = .ok (.iload_n 1, 1) := by decide +kernel
theorem dX13_passes_6 : decode cX13_passes 6 = .ok (.if_icmp .ge 16, 3) := by decide +kernel
theorem dX13_passes_9 : decode cX13_passes 9 = .ok (.iload_n 2, 1) := by decide +kernel
theorem dX13_passes_10 : decode cX13_passes 10 = .ok (.aload_n 0, 1) := by decide +kernel
theorem dX13_passes_11 : decode cX13_passes 11 = .ok (.invokevirtual 167, 3) := by decide +kernel
theorem dX13_passes_14 : decode cX13_passes 14 = .ok (.iadd, 1) := by decide +kernel
theorem dX13_passes_15 : decode cX13_passes 15 = .ok (.istore_n 2, 1) := by decide +kernel
theorem dX13_passes_16 : decode cX13_passes 16 = .ok (.iinc 3 1, 3) := by decide +kernel
theorem dX13_passes_19 : decode cX13_passes 19 = .ok (.goto (-15), 3) := by decide +kernel
theorem dX13_passes_22 : decode cX13_passes 22 = .ok (.iload_n 2, 1) := by decide +kernel
theorem dX13_passes_23 : decode cX13_passes 23 = .ok (.ireturn, 1) := by decide +kernel
theorem dX13_balances_0 : decode cX13_balances 0 = .ok (.iconst 0, 1) := by decide +kernel
theorem dX13_balances_1 : decode cX13_balances 1 = .ok (.istore_n 1, 1) := by decide +kernel
theorem dX13_balances_2 : decode cX13_balances 2 = .ok (.iconst 0, 1) := by decide +kernel
theorem dX13_balances_3 : decode cX13_balances 3 = .ok (.istore_n 2, 1) := by decide +kernel
theorem dX13_balances_4 : decode cX13_balances 4 = .ok (.iload_n 2, 1) := by decide +kernel
theorem dX13_balances_5 : decode cX13_balances 5 = .ok (.aload_n 0, 1) := by decide +kernel
theorem dX13_balances_6 : decode cX13_balances 6 = .ok (.getfield 7, 3) := by decide +kernel
theorem dX13_balances_9 : decode cX13_balances 9 = .ok (.iconst 0, 1) := by decide +kernel
theorem dX13_balances_10 : decode cX13_balances 10 = .ok (.iaload, 1) := by decide +kernel
theorem dX13_balances_11 : decode cX13_balances 11 = .ok (.if_icmp .ge 18, 3) := by decide +kernel
theorem dX13_balances_14 : decode cX13_balances 14 = .ok (.iload_n 1, 1) := by decide +kernel
theorem dX13_balances_15 : decode cX13_balances 15 = .ok (.aload_n 0, 1) := by decide +kernel
theorem dX13_balances_16 : decode cX13_balances 16 = .ok (.iload_n 2, 1) := by decide +kernel
theorem dX13_balances_17 : decode cX13_balances 17 = .ok (.iconst 1, 1) := by decide +kernel
theorem dX13_balances_18 : decode cX13_balances 18 = .ok (.invokevirtual 98, 3) := by decide +kernel
theorem dX13_balances_21 : decode cX13_balances 21 = .ok (.iadd, 1) := by decide +kernel
theorem dX13_balances_22 : decode cX13_balances 22 = .ok (.istore_n 1, 1) := by decide +kernel
theorem dX13_balances_23 : decode cX13_balances 23 = .ok (.iinc 2 1, 3) := by decide +kernel
theorem dX13_balances_26 : decode cX13_balances 26 = .ok (.goto (-22), 3) := by decide +kernel
theorem dX13_balances_29 : decode cX13_balances 29 = .ok (.iload_n 1, 1) := by decide +kernel
theorem dX13_balances_30 : decode cX13_balances 30 = .ok (.ireturn, 1) := by decide +kernel
theorem dX13_remembers_0 : decode cX13_remembers 0 = .ok (.aload_n 0, 1) := by decide +kernel
theorem dX13_remembers_1 : decode cX13_remembers 1 = .ok (.getfield 170, 3) := by decide +kernel
theorem dX13_remembers_4 : decode cX13_remembers 4 = .ok (.bipush 8, 2) := by decide +kernel
theorem dX13_remembers_6 : decode cX13_remembers 6 = .ok (.if_icmp .ne 44, 3) := by decide +kernel
theorem dX13_remembers_9 : decode cX13_remembers 9 = .ok (.iconst 0, 1) := by decide +kernel
theorem dX13_remembers_10 : decode cX13_remembers 10 = .ok (.istore_n 1, 1) := by decide +kernel
theorem dX13_remembers_11 : decode cX13_remembers 11 = .ok (.iload_n 1, 1) := by decide +kernel
theorem dX13_remembers_12 : decode cX13_remembers 12 = .ok (.sipush 959, 3) := by decide +kernel
theorem dX13_remembers_15 : decode cX13_remembers 15 = .ok (.if_icmp .ge 25, 3) := by decide +kernel
theorem dX13_remembers_18 : decode cX13_remembers 18 = .ok (.aload_n 0, 1) := by decide +kernel
theorem dX13_remembers_19 : decode cX13_remembers 19 = .ok (.getfield 19, 3) := by decide +kernel
theorem dX13_remembers_22 : decode cX13_remembers 22 = .ok (.iload_n 1, 1) := by decide +kernel
theorem dX13_remembers_23 : decode cX13_remembers 23 = .ok (.aload_n 0, 1) := by decide +kernel
theorem dX13_remembers_24 : decode cX13_remembers 24 = .ok (.getfield 19, 3) := by decide +kernel
theorem dX13_remembers_27 : decode cX13_remembers 27 = .ok (.iload_n 1, 1) := by decide +kernel
theorem dX13_remembers_28 : decode cX13_remembers 28 = .ok (.sipush 137, 3) := by decide +kernel
theorem dX13_remembers_31 : decode cX13_remembers 31 = .ok (.iadd, 1) := by decide +kernel
theorem dX13_remembers_32 : decode cX13_remembers 32 = .ok (.iaload, 1) := by decide +kernel
theorem dX13_remembers_33 : decode cX13_remembers 33 = .ok (.iastore, 1) := by decide +kernel
theorem dX13_remembers_34 : decode cX13_remembers 34 = .ok (.iinc 1 1, 3) := by decide +kernel
theorem dX13_remembers_37 : decode cX13_remembers 37 = .ok (.goto (-26), 3) := by decide +kernel
theorem dX13_remembers_40 : decode cX13_remembers 40 = .ok (.aload_n 0, 1) := by decide +kernel
theorem dX13_remembers_41 : decode cX13_remembers 41 = .ok (.dup, 1) := by decide +kernel
theorem dX13_remembers_42 : decode cX13_remembers 42 = .ok (.getfield 170, 3) := by decide +kernel
theorem dX13_remembers_45 : decode cX13_remembers 45 = .ok (.iconst 1, 1) := by decide +kernel
theorem dX13_remembers_46 : decode cX13_remembers 46 = .ok (.isub, 1) := by decide +kernel
theorem dX13_remembers_47 : decode cX13_remembers 47 = .ok (.putfield 170, 3) := by decide +kernel
theorem dX13_remembers_50 : decode cX13_remembers 50 = .ok (.iconst 0, 1) := by decide +kernel
theorem dX13_remembers_51 : decode cX13_remembers 51 = .ok (.istore_n 1, 1) := by decide +kernel
theorem dX13_remembers_52 : decode cX13_remembers 52 = .ok (.iload_n 1, 1) := by decide +kernel
theorem dX13_remembers_53 : decode cX13_remembers 53 = .ok (.sipush 137, 3) := by decide +kernel
theorem dX13_remembers_56 : decode cX13_remembers 56 = .ok (.if_icmp .ge 30, 3) := by decide +kernel
theorem dX13_remembers_59 : decode cX13_remembers 59 = .ok (.aload_n 0, 1) := by decide +kernel
theorem dX13_remembers_60 : decode cX13_remembers 60 = .ok (.getfield 19, 3) := by decide +kernel
theorem dX13_remembers_63 : decode cX13_remembers 63 = .ok (.sipush 137, 3) := by decide +kernel
theorem dX13_remembers_66 : decode cX13_remembers 66 = .ok (.aload_n 0, 1) := by decide +kernel
theorem dX13_remembers_67 : decode cX13_remembers 67 = .ok (.getfield 170, 3) := by decide +kernel
theorem dX13_remembers_70 : decode cX13_remembers 70 = .ok (.imul, 1) := by decide +kernel
theorem dX13_remembers_71 : decode cX13_remembers 71 = .ok (.iload_n 1, 1) := by decide +kernel
theorem dX13_remembers_72 : decode cX13_remembers 72 = .ok (.iadd, 1) := by decide +kernel
theorem dX13_remembers_73 : decode cX13_remembers 73 = .ok (.aload_n 0, 1) := by decide +kernel
theorem dX13_remembers_74 : decode cX13_remembers 74 = .ok (.getfield 7, 3) := by decide +kernel
theorem dX13_remembers_77 : decode cX13_remembers 77 = .ok (.iload_n 1, 1) := by decide +kernel
theorem dX13_remembers_78 : decode cX13_remembers 78 = .ok (.iaload, 1) := by decide +kernel
theorem dX13_remembers_79 : decode cX13_remembers 79 = .ok (.iastore, 1) := by decide +kernel
theorem dX13_remembers_80 : decode cX13_remembers 80 = .ok (.iinc 1 1, 3) := by decide +kernel
theorem dX13_remembers_83 : decode cX13_remembers 83 = .ok (.goto (-31), 3) := by decide +kernel
theorem dX13_remembers_86 : decode cX13_remembers 86 = .ok (.aload_n 0, 1) := by decide +kernel
theorem dX13_remembers_87 : decode cX13_remembers 87 = .ok (.dup, 1) := by decide +kernel
theorem dX13_remembers_88 : decode cX13_remembers 88 = .ok (.getfield 170, 3) := by decide +kernel
theorem dX13_remembers_91 : decode cX13_remembers 91 = .ok (.iconst 1, 1) := by decide +kernel
theorem dX13_remembers_92 : decode cX13_remembers 92 = .ok (.iadd, 1) := by decide +kernel
theorem dX13_remembers_93 : decode cX13_remembers 93 = .ok (.putfield 170, 3) := by decide +kernel
theorem dX13_remembers_96 : decode cX13_remembers 96 = .ok (.return_, 1) := by decide +kernel
theorem dX13_copies_0 : decode cX13_copies 0 = .ok (.iconst 0, 1) := by decide +kernel
theorem dX13_copies_1 : decode cX13_copies 1 = .ok (.istore_n 2, 1) := by decide +kernel
theorem dX13_copies_2 : decode cX13_copies 2 = .ok (.iload_n 2, 1) := by decide +kernel
theorem dX13_copies_3 : decode cX13_copies 3 = .ok (.sipush 137, 3) := by decide +kernel
theorem dX13_copies_6 : decode cX13_copies 6 = .ok (.if_icmp .ge 15, 3) := by decide +kernel
theorem dX13_copies_9 : decode cX13_copies 9 = .ok (.aload_n 1, 1) := by decide +kernel
theorem dX13_copies_10 : decode cX13_copies 10 = .ok (.iload_n 2, 1) := by decide +kernel
theorem dX13_copies_11 : decode cX13_copies 11 = .ok (.aload_n 0, 1) := by decide +kernel
theorem dX13_copies_12 : decode cX13_copies 12 = .ok (.iload_n 2, 1) := by decide +kernel
theorem dX13_copies_13 : decode cX13_copies 13 = .ok (.iaload, 1) := by decide +kernel
theorem dX13_copies_14 : decode cX13_copies 14 = .ok (.iastore, 1) := by decide +kernel
theorem dX13_copies_15 : decode cX13_copies 15 = .ok (.iinc 2 1, 3) := by decide +kernel
theorem dX13_copies_18 : decode cX13_copies 18 = .ok (.goto (-16), 3) := by decide +kernel
theorem dX13_copies_21 : decode cX13_copies 21 = .ok (.return_, 1) := by decide +kernel
theorem dX13_isLetter_0 : decode cX13_isLetter 0 = .ok (.iload_n 1, 1) := by decide +kernel
theorem dX13_isLetter_1 : decode cX13_isLetter 1 = .ok (.aload_n 0, 1) := by decide +kernel
theorem dX13_isLetter_2 : decode cX13_isLetter 2 = .ok (.getfield 74, 3) := by decide +kernel
theorem dX13_isLetter_5 : decode cX13_isLetter 5 = .ok (.if_icmp .ge 23, 3) := by decide +kernel
theorem dX13_isLetter_8 : decode cX13_isLetter 8 = .ok (.aload_n 0, 1) := by decide +kernel
theorem dX13_isLetter_9 : decode cX13_isLetter 9 = .ok (.getfield 22, 3) := by decide +kernel
theorem dX13_isLetter_12 : decode cX13_isLetter 12 = .ok (.iload_n 1, 1) := by decide +kernel
theorem dX13_isLetter_13 : decode cX13_isLetter 13 = .ok (.iaload, 1) := by decide +kernel
theorem dX13_isLetter_14 : decode cX13_isLetter 14 = .ok (.bipush 97, 2) := by decide +kernel
theorem dX13_isLetter_16 : decode cX13_isLetter 16 = .ok (.bipush 122, 2) := by decide +kernel
theorem dX13_isLetter_18 : decode cX13_isLetter 18 = .ok (.invokestatic 90, 3) := by decide +kernel
theorem dX13_isLetter_21 : decode cX13_isLetter 21 = .ok (.ifCond .eq 7, 3) := by decide +kernel
theorem dX13_isLetter_24 : decode cX13_isLetter 24 = .ok (.iconst 1, 1) := by decide +kernel
theorem dX13_isLetter_25 : decode cX13_isLetter 25 = .ok (.goto 4, 3) := by decide +kernel
theorem dX13_isLetter_28 : decode cX13_isLetter 28 = .ok (.iconst 0, 1) := by decide +kernel
theorem dX13_isLetter_29 : decode cX13_isLetter 29 = .ok (.ireturn, 1) := by decide +kernel
theorem dX13_isDigit_0 : decode cX13_isDigit 0 = .ok (.iload_n 1, 1) := by decide +kernel
theorem dX13_isDigit_1 : decode cX13_isDigit 1 = .ok (.aload_n 0, 1) := by decide +kernel
theorem dX13_isDigit_2 : decode cX13_isDigit 2 = .ok (.getfield 74, 3) := by decide +kernel
theorem dX13_isDigit_5 : decode cX13_isDigit 5 = .ok (.if_icmp .ge 23, 3) := by decide +kernel
theorem dX13_isDigit_8 : decode cX13_isDigit 8 = .ok (.aload_n 0, 1) := by decide +kernel
theorem dX13_isDigit_9 : decode cX13_isDigit 9 = .ok (.getfield 22, 3) := by decide +kernel
theorem dX13_isDigit_12 : decode cX13_isDigit 12 = .ok (.iload_n 1, 1) := by decide +kernel
theorem dX13_isDigit_13 : decode cX13_isDigit 13 = .ok (.iaload, 1) := by decide +kernel
theorem dX13_isDigit_14 : decode cX13_isDigit 14 = .ok (.bipush 48, 2) := by decide +kernel
theorem dX13_isDigit_16 : decode cX13_isDigit 16 = .ok (.bipush 57, 2) := by decide +kernel
theorem dX13_isDigit_18 : decode cX13_isDigit 18 = .ok (.invokestatic 90, 3) := by decide +kernel
theorem dX13_isDigit_21 : decode cX13_isDigit 21 = .ok (.ifCond .eq 7, 3) := by decide +kernel
theorem dX13_isDigit_24 : decode cX13_isDigit 24 = .ok (.iconst 1, 1) := by decide +kernel
theorem dX13_isDigit_25 : decode cX13_isDigit 25 = .ok (.goto 4, 3) := by decide +kernel
theorem dX13_isDigit_28 : decode cX13_isDigit 28 = .ok (.iconst 0, 1) := by decide +kernel
theorem dX13_isDigit_29 : decode cX13_isDigit 29 = .ok (.ireturn, 1) := by decide +kernel
theorem dX13_nextToken_0 : decode cX13_nextToken 0 = .ok (.aload_n 0, 1) := by decide +kernel
theorem dX13_nextToken_1 : decode cX13_nextToken 1 = .ok (.aload_n 0, 1) := by decide +kernel
theorem dX13_nextToken_2 : decode cX13_nextToken 2 = .ok (.getfield 173, 3) := by decide +kernel
theorem dX13_nextToken_5 : decode cX13_nextToken 5 = .ok (.putfield 176, 3) := by decide +kernel
theorem dX13_nextToken_8 : decode cX13_nextToken 8 = .ok (.aload_n 0, 1) := by decide +kernel
theorem dX13_nextToken_9 : decode cX13_nextToken 9 = .ok (.getfield 176, 3) := by decide +kernel
theorem dX13_nextToken_12 : decode cX13_nextToken 12 = .ok (.aload_n 0, 1) := by decide +kernel
theorem dX13_nextToken_13 : decode cX13_nextToken 13 = .ok (.getfield 74, 3) := by decide +kernel
theorem dX13_nextToken_16 : decode cX13_nextToken 16 = .ok (.if_icmp .ge 30, 3) := by decide +kernel
theorem dX13_nextToken_19 : decode cX13_nextToken 19 = .ok (.aload_n 0, 1) := by decide +kernel
theorem dX13_nextToken_20 : decode cX13_nextToken 20 = .ok (.getfield 22, 3) := by decide +kernel
theorem dX13_nextToken_23 : decode cX13_nextToken 23 = .ok (.aload_n 0, 1) := by decide +kernel
theorem dX13_nextToken_24 : decode cX13_nextToken 24 = .ok (.getfield 176, 3) := by decide +kernel
theorem dX13_nextToken_27 : decode cX13_nextToken 27 = .ok (.iaload, 1) := by decide +kernel
theorem dX13_nextToken_28 : decode cX13_nextToken 28 = .ok (.bipush 32, 2) := by decide +kernel
theorem dX13_nextToken_30 : decode cX13_nextToken 30 = .ok (.if_icmp .ne 16, 3) := by decide +kernel
theorem dX13_nextToken_33 : decode cX13_nextToken 33 = .ok (.aload_n 0, 1) := by decide +kernel
theorem dX13_nextToken_34 : decode cX13_nextToken 34 = .ok (.dup, 1) := by decide +kernel
theorem dX13_nextToken_35 : decode cX13_nextToken 35 = .ok (.getfield 176, 3) := by decide +kernel
theorem dX13_nextToken_38 : decode cX13_nextToken 38 = .ok (.iconst 1, 1) := by decide +kernel
theorem dX13_nextToken_39 : decode cX13_nextToken 39 = .ok (.iadd, 1) := by decide +kernel
theorem dX13_nextToken_40 : decode cX13_nextToken 40 = .ok (.putfield 176, 3) := by decide +kernel
theorem dX13_nextToken_43 : decode cX13_nextToken 43 = .ok (.goto (-35), 3) := by decide +kernel
theorem dX13_nextToken_46 : decode cX13_nextToken 46 = .ok (.aload_n 0, 1) := by decide +kernel
theorem dX13_nextToken_47 : decode cX13_nextToken 47 = .ok (.aload_n 0, 1) := by decide +kernel
theorem dX13_nextToken_48 : decode cX13_nextToken 48 = .ok (.getfield 176, 3) := by decide +kernel
theorem dX13_nextToken_51 : decode cX13_nextToken 51 = .ok (.putfield 173, 3) := by decide +kernel
theorem dX13_nextToken_54 : decode cX13_nextToken 54 = .ok (.aload_n 0, 1) := by decide +kernel
theorem dX13_nextToken_55 : decode cX13_nextToken 55 = .ok (.getfield 176, 3) := by decide +kernel
theorem dX13_nextToken_58 : decode cX13_nextToken 58 = .ok (.aload_n 0, 1) := by decide +kernel
theorem dX13_nextToken_59 : decode cX13_nextToken 59 = .ok (.getfield 74, 3) := by decide +kernel
theorem dX13_nextToken_62 : decode cX13_nextToken 62 = .ok (.if_icmp .ne 11, 3) := by decide +kernel
theorem dX13_nextToken_65 : decode cX13_nextToken 65 = .ok (.aload_n 0, 1) := by decide +kernel
theorem dX13_nextToken_66 : decode cX13_nextToken 66 = .ok (.iconst 0, 1) := by decide +kernel
theorem dX13_nextToken_67 : decode cX13_nextToken 67 = .ok (.putfield 179, 3) := by decide +kernel
theorem dX13_nextToken_70 : decode cX13_nextToken 70 = .ok (.goto 149, 3) := by decide +kernel
theorem dX13_nextToken_73 : decode cX13_nextToken 73 = .ok (.aload_n 0, 1) := by decide +kernel
theorem dX13_nextToken_74 : decode cX13_nextToken 74 = .ok (.aload_n 0, 1) := by decide +kernel
theorem dX13_nextToken_75 : decode cX13_nextToken 75 = .ok (.getfield 176, 3) := by decide +kernel
theorem dX13_nextToken_78 : decode cX13_nextToken 78 = .ok (.invokevirtual 182, 3) := by decide +kernel
theorem dX13_nextToken_81 : decode cX13_nextToken 81 = .ok (.ifCond .eq 32, 3) := by decide +kernel
theorem dX13_nextToken_84 : decode cX13_nextToken 84 = .ok (.aload_n 0, 1) := by decide +kernel
theorem dX13_nextToken_85 : decode cX13_nextToken 85 = .ok (.iconst 1, 1) := by decide +kernel
theorem dX13_nextToken_86 : decode cX13_nextToken 86 = .ok (.putfield 179, 3) := by decide +kernel
theorem dX13_nextToken_89 : decode cX13_nextToken 89 = .ok (.aload_n 0, 1) := by decide +kernel
theorem dX13_nextToken_90 : decode cX13_nextToken 90 = .ok (.aload_n 0, 1) := by decide +kernel
theorem dX13_nextToken_91 : decode cX13_nextToken 91 = .ok (.getfield 173, 3) := by decide +kernel
theorem dX13_nextToken_94 : decode cX13_nextToken 94 = .ok (.invokevirtual 182, 3) := by decide +kernel
theorem dX13_nextToken_97 : decode cX13_nextToken 97 = .ok (.ifCond .eq 122, 3) := by decide +kernel
theorem dX13_nextToken_100 : decode cX13_nextToken 100 = .ok (.aload_n 0, 1) := by decide +kernel
theorem dX13_nextToken_101 : decode cX13_nextToken 101 = .ok (.dup, 1) := by decide +kernel
theorem dX13_nextToken_102 : decode cX13_nextToken 102 = .ok (.getfield 173, 3) := by decide +kernel
theorem dX13_nextToken_105 : decode cX13_nextToken 105 = .ok (.iconst 1, 1) := by decide +kernel
theorem dX13_nextToken_106 : decode cX13_nextToken 106 = .ok (.iadd, 1) := by decide +kernel
theorem dX13_nextToken_107 : decode cX13_nextToken 107 = .ok (.putfield 173, 3) := by decide +kernel
theorem dX13_nextToken_110 : decode cX13_nextToken 110 = .ok (.goto (-21), 3) := by decide +kernel
theorem dX13_nextToken_113 : decode cX13_nextToken 113 = .ok (.aload_n 0, 1) := by decide +kernel
theorem dX13_nextToken_114 : decode cX13_nextToken 114 = .ok (.aload_n 0, 1) := by decide +kernel
theorem dX13_nextToken_115 : decode cX13_nextToken 115 = .ok (.getfield 176, 3) := by decide +kernel
theorem dX13_nextToken_118 : decode cX13_nextToken 118 = .ok (.invokevirtual 185, 3) := by decide +kernel
theorem dX13_nextToken_121 : decode cX13_nextToken 121 = .ok (.ifCond .eq 83, 3) := by decide +kernel
theorem dX13_nextToken_124 : decode cX13_nextToken 124 = .ok (.aload_n 0, 1) := by decide +kernel
theorem dX13_nextToken_125 : decode cX13_nextToken 125 = .ok (.iconst 2, 1) := by decide +kernel
theorem dX13_nextToken_126 : decode cX13_nextToken 126 = .ok (.putfield 179, 3) := by decide +kernel
theorem dX13_nextToken_129 : decode cX13_nextToken 129 = .ok (.aload_n 0, 1) := by decide +kernel
theorem dX13_nextToken_130 : decode cX13_nextToken 130 = .ok (.iconst 0, 1) := by decide +kernel
theorem dX13_nextToken_131 : decode cX13_nextToken 131 = .ok (.putfield 188, 3) := by decide +kernel
theorem dX13_nextToken_134 : decode cX13_nextToken 134 = .ok (.aload_n 0, 1) := by decide +kernel
theorem dX13_nextToken_135 : decode cX13_nextToken 135 = .ok (.aload_n 0, 1) := by decide +kernel
theorem dX13_nextToken_136 : decode cX13_nextToken 136 = .ok (.getfield 173, 3) := by decide +kernel
theorem dX13_nextToken_139 : decode cX13_nextToken 139 = .ok (.invokevirtual 185, 3) := by decide +kernel
theorem dX13_nextToken_142 : decode cX13_nextToken 142 = .ok (.ifCond .eq 77, 3) := by decide +kernel
theorem dX13_nextToken_145 : decode cX13_nextToken 145 = .ok (.aload_n 0, 1) := by decide +kernel
theorem dX13_nextToken_146 : decode cX13_nextToken 146 = .ok (.bipush 10, 2) := by decide +kernel
theorem dX13_nextToken_148 : decode cX13_nextToken 148 = .ok (.aload_n 0, 1) := by decide +kernel
theorem dX13_nextToken_149 : decode cX13_nextToken 149 = .ok (.getfield 188, 3) := by decide +kernel
theorem dX13_nextToken_152 : decode cX13_nextToken 152 = .ok (.imul, 1) := by decide +kernel
theorem dX13_nextToken_153 : decode cX13_nextToken 153 = .ok (.aload_n 0, 1) := by decide +kernel
theorem dX13_nextToken_154 : decode cX13_nextToken 154 = .ok (.getfield 22, 3) := by decide +kernel
theorem dX13_nextToken_157 : decode cX13_nextToken 157 = .ok (.aload_n 0, 1) := by decide +kernel
theorem dX13_nextToken_158 : decode cX13_nextToken 158 = .ok (.getfield 173, 3) := by decide +kernel
theorem dX13_nextToken_161 : decode cX13_nextToken 161 = .ok (.iaload, 1) := by decide +kernel
theorem dX13_nextToken_162 : decode cX13_nextToken 162 = .ok (.iadd, 1) := by decide +kernel
theorem dX13_nextToken_163 : decode cX13_nextToken 163 = .ok (.bipush 48, 2) := by decide +kernel
theorem dX13_nextToken_165 : decode cX13_nextToken 165 = .ok (.isub, 1) := by decide +kernel
theorem dX13_nextToken_166 : decode cX13_nextToken 166 = .ok (.putfield 188, 3) := by decide +kernel
theorem dX13_nextToken_169 : decode cX13_nextToken 169 = .ok (.aload_n 0, 1) := by decide +kernel
theorem dX13_nextToken_170 : decode cX13_nextToken 170 = .ok (.aload_n 0, 1) := by decide +kernel
theorem dX13_nextToken_171 : decode cX13_nextToken 171 = .ok (.getfield 188, 3) := by decide +kernel
theorem dX13_nextToken_174 : decode cX13_nextToken 174 = .ok (.ldc 191, 2) := by decide +kernel
theorem dX13_nextToken_176 : decode cX13_nextToken 176 = .ok (.if_icmp .le 8, 3) := by decide +kernel
theorem dX13_nextToken_179 : decode cX13_nextToken 179 = .ok (.ldc 191, 2) := by decide +kernel
theorem dX13_nextToken_181 : decode cX13_nextToken 181 = .ok (.goto 7, 3) := by decide +kernel
theorem dX13_nextToken_184 : decode cX13_nextToken 184 = .ok (.aload_n 0, 1) := by decide +kernel
theorem dX13_nextToken_185 : decode cX13_nextToken 185 = .ok (.getfield 188, 3) := by decide +kernel
theorem dX13_nextToken_188 : decode cX13_nextToken 188 = .ok (.putfield 188, 3) := by decide +kernel
theorem dX13_nextToken_191 : decode cX13_nextToken 191 = .ok (.aload_n 0, 1) := by decide +kernel
theorem dX13_nextToken_192 : decode cX13_nextToken 192 = .ok (.dup, 1) := by decide +kernel
theorem dX13_nextToken_193 : decode cX13_nextToken 193 = .ok (.getfield 173, 3) := by decide +kernel
theorem dX13_nextToken_196 : decode cX13_nextToken 196 = .ok (.iconst 1, 1) := by decide +kernel
theorem dX13_nextToken_197 : decode cX13_nextToken 197 = .ok (.iadd, 1) := by decide +kernel
theorem dX13_nextToken_198 : decode cX13_nextToken 198 = .ok (.putfield 173, 3) := by decide +kernel
theorem dX13_nextToken_201 : decode cX13_nextToken 201 = .ok (.goto (-67), 3) := by decide +kernel
theorem dX13_nextToken_204 : decode cX13_nextToken 204 = .ok (.aload_n 0, 1) := by decide +kernel
theorem dX13_nextToken_205 : decode cX13_nextToken 205 = .ok (.iconst 3, 1) := by decide +kernel
theorem dX13_nextToken_206 : decode cX13_nextToken 206 = .ok (.putfield 179, 3) := by decide +kernel
theorem dX13_nextToken_209 : decode cX13_nextToken 209 = .ok (.aload_n 0, 1) := by decide +kernel
theorem dX13_nextToken_210 : decode cX13_nextToken 210 = .ok (.dup, 1) := by decide +kernel
theorem dX13_nextToken_211 : decode cX13_nextToken 211 = .ok (.getfield 173, 3) := by decide +kernel
theorem dX13_nextToken_214 : decode cX13_nextToken 214 = .ok (.iconst 1, 1) := by decide +kernel
theorem dX13_nextToken_215 : decode cX13_nextToken 215 = .ok (.iadd, 1) := by decide +kernel
theorem dX13_nextToken_216 : decode cX13_nextToken 216 = .ok (.putfield 173, 3) := by decide +kernel
theorem dX13_nextToken_219 : decode cX13_nextToken 219 = .ok (.return_, 1) := by decide +kernel
theorem dX13_starts_0 : decode cX13_starts 0 = .ok (.aload_n 0, 1) := by decide +kernel
theorem dX13_starts_1 : decode cX13_starts 1 = .ok (.iconst 0, 1) := by decide +kernel
theorem dX13_starts_2 : decode cX13_starts 2 = .ok (.putfield 173, 3) := by decide +kernel
theorem dX13_starts_5 : decode cX13_starts 5 = .ok (.aload_n 0, 1) := by decide +kernel
theorem dX13_starts_6 : decode cX13_starts 6 = .ok (.iconst 0, 1) := by decide +kernel
theorem dX13_starts_7 : decode cX13_starts 7 = .ok (.putfield 192, 3) := by decide +kernel
theorem dX13_starts_10 : decode cX13_starts 10 = .ok (.aload_n 0, 1) := by decide +kernel
theorem dX13_starts_11 : decode cX13_starts 11 = .ok (.iconst 0, 1) := by decide +kernel
theorem dX13_starts_12 : decode cX13_starts 12 = .ok (.putfield 196, 3) := by decide +kernel
theorem dX13_starts_15 : decode cX13_starts 15 = .ok (.aload_n 0, 1) := by decide +kernel
theorem dX13_starts_16 : decode cX13_starts 16 = .ok (.iconst (-1), 1) := by decide +kernel
theorem dX13_starts_17 : decode cX13_starts 17 = .ok (.putfield 25, 3) := by decide +kernel
theorem dX13_starts_20 : decode cX13_starts 20 = .ok (.aload_n 0, 1) := by decide +kernel
theorem dX13_starts_21 : decode cX13_starts 21 = .ok (.invokevirtual 199, 3) := by decide +kernel
theorem dX13_starts_24 : decode cX13_starts 24 = .ok (.return_, 1) := by decide +kernel
theorem dX13_wrong_0 : decode cX13_wrong 0 = .ok (.aload_n 0, 1) := by decide +kernel
theorem dX13_wrong_1 : decode cX13_wrong 1 = .ok (.getfield 192, 3) := by decide +kernel
theorem dX13_wrong_4 : decode cX13_wrong 4 = .ok (.ifCond .ne 21, 3) := by decide +kernel
theorem dX13_wrong_7 : decode cX13_wrong 7 = .ok (.aload_n 0, 1) := by decide +kernel
theorem dX13_wrong_8 : decode cX13_wrong 8 = .ok (.iconst 1, 1) := by decide +kernel
theorem dX13_wrong_9 : decode cX13_wrong 9 = .ok (.putfield 192, 3) := by decide +kernel
theorem dX13_wrong_12 : decode cX13_wrong 12 = .ok (.aload_n 0, 1) := by decide +kernel
theorem dX13_wrong_13 : decode cX13_wrong 13 = .ok (.iload_n 1, 1) := by decide +kernel
theorem dX13_wrong_14 : decode cX13_wrong 14 = .ok (.putfield 196, 3) := by decide +kernel
theorem dX13_wrong_17 : decode cX13_wrong 17 = .ok (.aload_n 0, 1) := by decide +kernel
theorem dX13_wrong_18 : decode cX13_wrong 18 = .ok (.aload_n 0, 1) := by decide +kernel
theorem dX13_wrong_19 : decode cX13_wrong 19 = .ok (.getfield 176, 3) := by decide +kernel
theorem dX13_wrong_22 : decode cX13_wrong 22 = .ok (.putfield 25, 3) := by decide +kernel
theorem dX13_wrong_25 : decode cX13_wrong 25 = .ok (.return_, 1) := by decide +kernel
theorem dX13_isWord_0 : decode cX13_isWord 0 = .ok (.aload_n 0, 1) := by decide +kernel
theorem dX13_isWord_1 : decode cX13_isWord 1 = .ok (.getfield 192, 3) := by decide +kernel
theorem dX13_isWord_4 : decode cX13_isWord 4 = .ok (.ifCond .ne 31, 3) := by decide +kernel
theorem dX13_isWord_7 : decode cX13_isWord 7 = .ok (.aload_n 0, 1) := by decide +kernel
theorem dX13_isWord_8 : decode cX13_isWord 8 = .ok (.getfield 179, 3) := by decide +kernel
theorem dX13_isWord_11 : decode cX13_isWord 11 = .ok (.iconst 1, 1) := by decide +kernel
theorem dX13_isWord_12 : decode cX13_isWord 12 = .ok (.if_icmp .ne 23, 3) := by decide +kernel
theorem dX13_isWord_15 : decode cX13_isWord 15 = .ok (.aload_n 0, 1) := by decide +kernel
theorem dX13_isWord_16 : decode cX13_isWord 16 = .ok (.getfield 173, 3) := by decide +kernel
theorem dX13_isWord_19 : decode cX13_isWord 19 = .ok (.aload_n 0, 1) := by decide +kernel
theorem dX13_isWord_20 : decode cX13_isWord 20 = .ok (.getfield 176, 3) := by decide +kernel
theorem dX13_isWord_23 : decode cX13_isWord 23 = .ok (.isub, 1) := by decide +kernel
theorem dX13_isWord_24 : decode cX13_isWord 24 = .ok (.aload_n 1, 1) := by decide +kernel
theorem dX13_isWord_25 : decode cX13_isWord 25 = .ok (.invokevirtual 80, 3) := by decide +kernel
theorem dX13_isWord_28 : decode cX13_isWord 28 = .ok (.if_icmp .ne 7, 3) := by decide +kernel
theorem dX13_isWord_31 : decode cX13_isWord 31 = .ok (.iconst 1, 1) := by decide +kernel
theorem dX13_isWord_32 : decode cX13_isWord 32 = .ok (.goto 4, 3) := by decide +kernel
theorem dX13_isWord_35 : decode cX13_isWord 35 = .ok (.iconst 0, 1) := by decide +kernel
theorem dX13_isWord_36 : decode cX13_isWord 36 = .ok (.istore_n 2, 1) := by decide +kernel
theorem dX13_isWord_37 : decode cX13_isWord 37 = .ok (.iconst 0, 1) := by decide +kernel
theorem dX13_isWord_38 : decode cX13_isWord 38 = .ok (.istore_n 3, 1) := by decide +kernel
theorem dX13_isWord_39 : decode cX13_isWord 39 = .ok (.iload_n 3, 1) := by decide +kernel
theorem dX13_isWord_40 : decode cX13_isWord 40 = .ok (.aload_n 1, 1) := by decide +kernel
theorem dX13_isWord_41 : decode cX13_isWord 41 = .ok (.invokevirtual 80, 3) := by decide +kernel
theorem dX13_isWord_44 : decode cX13_isWord 44 = .ok (.if_icmp .ge 38, 3) := by decide +kernel
theorem dX13_isWord_47 : decode cX13_isWord 47 = .ok (.iload_n 2, 1) := by decide +kernel
theorem dX13_isWord_48 : decode cX13_isWord 48 = .ok (.ifCond .eq 34, 3) := by decide +kernel
theorem dX13_isWord_51 : decode cX13_isWord 51 = .ok (.aload_n 0, 1) := by decide +kernel
theorem dX13_isWord_52 : decode cX13_isWord 52 = .ok (.getfield 22, 3) := by decide +kernel
theorem dX13_isWord_55 : decode cX13_isWord 55 = .ok (.aload_n 0, 1) := by decide +kernel
theorem dX13_isWord_56 : decode cX13_isWord 56 = .ok (.getfield 176, 3) := by decide +kernel
theorem dX13_isWord_59 : decode cX13_isWord 59 = .ok (.iload_n 3, 1) := by decide +kernel
theorem dX13_isWord_60 : decode cX13_isWord 60 = .ok (.iadd, 1) := by decide +kernel
theorem dX13_isWord_61 : decode cX13_isWord 61 = .ok (.iaload, 1) := by decide +kernel
theorem dX13_isWord_62 : decode cX13_isWord 62 = .ok (.aload_n 1, 1) := by decide +kernel
theorem dX13_isWord_63 : decode cX13_isWord 63 = .ok (.iload_n 3, 1) := by decide +kernel
theorem dX13_isWord_64 : decode cX13_isWord 64 = .ok (.invokevirtual 86, 3) := by decide +kernel
theorem dX13_isWord_67 : decode cX13_isWord 67 = .ok (.if_icmp .ne 7, 3) := by decide +kernel
theorem dX13_isWord_70 : decode cX13_isWord 70 = .ok (.iconst 1, 1) := by decide +kernel
theorem dX13_isWord_71 : decode cX13_isWord 71 = .ok (.goto 4, 3) := by decide +kernel
theorem dX13_isWord_74 : decode cX13_isWord 74 = .ok (.iconst 0, 1) := by decide +kernel
theorem dX13_isWord_75 : decode cX13_isWord 75 = .ok (.istore_n 2, 1) := by decide +kernel
theorem dX13_isWord_76 : decode cX13_isWord 76 = .ok (.iinc 3 1, 3) := by decide +kernel
theorem dX13_isWord_79 : decode cX13_isWord 79 = .ok (.goto (-40), 3) := by decide +kernel
theorem dX13_isWord_82 : decode cX13_isWord 82 = .ok (.iload_n 2, 1) := by decide +kernel
theorem dX13_isWord_83 : decode cX13_isWord 83 = .ok (.ireturn, 1) := by decide +kernel
theorem dX13_goesOn_0 : decode cX13_goesOn 0 = .ok (.aload_n 0, 1) := by decide +kernel
theorem dX13_goesOn_1 : decode cX13_goesOn 1 = .ok (.getfield 192, 3) := by decide +kernel
theorem dX13_goesOn_4 : decode cX13_goesOn 4 = .ok (.ifCond .ne 7, 3) := by decide +kernel
theorem dX13_goesOn_7 : decode cX13_goesOn 7 = .ok (.aload_n 0, 1) := by decide +kernel
theorem dX13_goesOn_8 : decode cX13_goesOn 8 = .ok (.invokevirtual 199, 3) := by decide +kernel
theorem dX13_goesOn_11 : decode cX13_goesOn 11 = .ok (.return_, 1) := by decide +kernel
theorem dX13_wantsWord_0 : decode cX13_wantsWord 0 = .ok (.aload_n 0, 1) := by decide +kernel
theorem dX13_wantsWord_1 : decode cX13_wantsWord 1 = .ok (.aload_n 1, 1) := by decide +kernel
theorem dX13_wantsWord_2 : decode cX13_wantsWord 2 = .ok (.invokevirtual 202, 3) := by decide +kernel
theorem dX13_wantsWord_5 : decode cX13_wantsWord 5 = .ok (.ifCond .ne 8, 3) := by decide +kernel
theorem dX13_wantsWord_8 : decode cX13_wantsWord 8 = .ok (.aload_n 0, 1) := by decide +kernel
theorem dX13_wantsWord_9 : decode cX13_wantsWord 9 = .ok (.iconst 1, 1) := by decide +kernel
theorem dX13_wantsWord_10 : decode cX13_wantsWord 10 = .ok (.invokevirtual 206, 3) := by decide +kernel
theorem dX13_wantsWord_13 : decode cX13_wantsWord 13 = .ok (.aload_n 0, 1) := by decide +kernel
theorem dX13_wantsWord_14 : decode cX13_wantsWord 14 = .ok (.invokevirtual 209, 3) := by decide +kernel
theorem dX13_wantsWord_17 : decode cX13_wantsWord 17 = .ok (.return_, 1) := by decide +kernel
theorem dX13_wantsSemicolon_0 : decode cX13_wantsSemicolon 0 = .ok (.aload_n 0, 1) := by decide +kernel
theorem dX13_wantsSemicolon_1 : decode cX13_wantsSemicolon 1 = .ok (.getfield 192, 3) := by decide +kernel
theorem dX13_wantsSemicolon_4 : decode cX13_wantsSemicolon 4 = .ok (.ifCond .ne 25, 3) := by decide +kernel
theorem dX13_wantsSemicolon_7 : decode cX13_wantsSemicolon 7 = .ok (.aload_n 0, 1) := by decide +kernel
theorem dX13_wantsSemicolon_8 : decode cX13_wantsSemicolon 8 = .ok (.getfield 179, 3) := by decide +kernel
theorem dX13_wantsSemicolon_11 : decode cX13_wantsSemicolon 11 = .ok (.iconst 3, 1) := by decide +kernel
theorem dX13_wantsSemicolon_12 : decode cX13_wantsSemicolon 12 = .ok (.if_icmp .ne 17, 3) := by decide +kernel
theorem dX13_wantsSemicolon_15 : decode cX13_wantsSemicolon 15 = .ok (.aload_n 0, 1) := by decide +kernel
theorem dX13_wantsSemicolon_16 : decode cX13_wantsSemicolon 16 = .ok (.getfield 22, 3) := by decide +kernel
theorem dX13_wantsSemicolon_19 : decode cX13_wantsSemicolon 19 = .ok (.aload_n 0, 1) := by decide +kernel
theorem dX13_wantsSemicolon_20 : decode cX13_wantsSemicolon 20 = .ok (.getfield 176, 3) := by decide +kernel
theorem dX13_wantsSemicolon_23 : decode cX13_wantsSemicolon 23 = .ok (.iaload, 1) := by decide +kernel
theorem dX13_wantsSemicolon_24 : decode cX13_wantsSemicolon 24 = .ok (.bipush 59, 2) := by decide +kernel
theorem dX13_wantsSemicolon_26 : decode cX13_wantsSemicolon 26 = .ok (.if_icmp .eq 8, 3) := by decide +kernel
theorem dX13_wantsSemicolon_29 : decode cX13_wantsSemicolon 29 = .ok (.aload_n 0, 1) := by decide +kernel
theorem dX13_wantsSemicolon_30 : decode cX13_wantsSemicolon 30 = .ok (.iconst 1, 1) := by decide +kernel
theorem dX13_wantsSemicolon_31 : decode cX13_wantsSemicolon 31 = .ok (.invokevirtual 206, 3) := by decide +kernel
theorem dX13_wantsSemicolon_34 : decode cX13_wantsSemicolon 34 = .ok (.aload_n 0, 1) := by decide +kernel
theorem dX13_wantsSemicolon_35 : decode cX13_wantsSemicolon 35 = .ok (.invokevirtual 209, 3) := by decide +kernel
theorem dX13_wantsSemicolon_38 : decode cX13_wantsSemicolon 38 = .ok (.return_, 1) := by decide +kernel
theorem dX13_wantsNumber_0 : decode cX13_wantsNumber 0 = .ok (.iload_n 1, 1) := by decide +kernel
theorem dX13_wantsNumber_1 : decode cX13_wantsNumber 1 = .ok (.istore_n 3, 1) := by decide +kernel
theorem dX13_wantsNumber_2 : decode cX13_wantsNumber 2 = .ok (.aload_n 0, 1) := by decide +kernel
theorem dX13_wantsNumber_3 : decode cX13_wantsNumber 3 = .ok (.getfield 192, 3) := by decide +kernel
theorem dX13_wantsNumber_6 : decode cX13_wantsNumber 6 = .ok (.ifCond .ne 48, 3) := by decide +kernel
theorem dX13_wantsNumber_9 : decode cX13_wantsNumber 9 = .ok (.aload_n 0, 1) := by decide +kernel
theorem dX13_wantsNumber_10 : decode cX13_wantsNumber 10 = .ok (.getfield 179, 3) := by decide +kernel
theorem dX13_wantsNumber_13 : decode cX13_wantsNumber 13 = .ok (.iconst 2, 1) := by decide +kernel
theorem dX13_wantsNumber_14 : decode cX13_wantsNumber 14 = .ok (.if_icmp .eq 11, 3) := by decide +kernel
theorem dX13_wantsNumber_17 : decode cX13_wantsNumber 17 = .ok (.aload_n 0, 1) := by decide +kernel
theorem dX13_wantsNumber_18 : decode cX13_wantsNumber 18 = .ok (.iconst 1, 1) := by decide +kernel
theorem dX13_wantsNumber_19 : decode cX13_wantsNumber 19 = .ok (.invokevirtual 206, 3) := by decide +kernel
theorem dX13_wantsNumber_22 : decode cX13_wantsNumber 22 = .ok (.goto 32, 3) := by decide +kernel
theorem dX13_wantsNumber_25 : decode cX13_wantsNumber 25 = .ok (.aload_n 0, 1) := by decide +kernel
theorem dX13_wantsNumber_26 : decode cX13_wantsNumber 26 = .ok (.getfield 188, 3) := by decide +kernel
theorem dX13_wantsNumber_29 : decode cX13_wantsNumber 29 = .ok (.iload_n 1, 1) := by decide +kernel
theorem dX13_wantsNumber_30 : decode cX13_wantsNumber 30 = .ok (.iload_n 2, 1) := by decide +kernel
theorem dX13_wantsNumber_31 : decode cX13_wantsNumber 31 = .ok (.invokestatic 90, 3) := by decide +kernel
theorem dX13_wantsNumber_34 : decode cX13_wantsNumber 34 = .ok (.ifCond .ne 11, 3) := by decide +kernel
theorem dX13_wantsNumber_37 : decode cX13_wantsNumber 37 = .ok (.aload_n 0, 1) := by decide +kernel
theorem dX13_wantsNumber_38 : decode cX13_wantsNumber 38 = .ok (.iconst 2, 1) := by decide +kernel
theorem dX13_wantsNumber_39 : decode cX13_wantsNumber 39 = .ok (.invokevirtual 206, 3) := by decide +kernel
theorem dX13_wantsNumber_42 : decode cX13_wantsNumber 42 = .ok (.goto 12, 3) := by decide +kernel
theorem dX13_wantsNumber_45 : decode cX13_wantsNumber 45 = .ok (.aload_n 0, 1) := by decide +kernel
theorem dX13_wantsNumber_46 : decode cX13_wantsNumber 46 = .ok (.getfield 188, 3) := by decide +kernel
theorem dX13_wantsNumber_49 : decode cX13_wantsNumber 49 = .ok (.istore_n 3, 1) := by decide +kernel
theorem dX13_wantsNumber_50 : decode cX13_wantsNumber 50 = .ok (.aload_n 0, 1) := by decide +kernel
theorem dX13_wantsNumber_51 : decode cX13_wantsNumber 51 = .ok (.invokevirtual 199, 3) := by decide +kernel
theorem dX13_wantsNumber_54 : decode cX13_wantsNumber 54 = .ok (.iload_n 3, 1) := by decide +kernel
theorem dX13_wantsNumber_55 : decode cX13_wantsNumber 55 = .ok (.ireturn, 1) := by decide +kernel
theorem dX13_letterSum_0 : decode cX13_letterSum 0 = .ok (.iconst 0, 1) := by decide +kernel
theorem dX13_letterSum_1 : decode cX13_letterSum 1 = .ok (.istore_n 3, 1) := by decide +kernel
theorem dX13_letterSum_2 : decode cX13_letterSum 2 = .ok (.iload_n 1, 1) := by decide +kernel
theorem dX13_letterSum_3 : decode cX13_letterSum 3 = .ok (.istore 4, 2) := by decide +kernel
theorem dX13_letterSum_5 : decode cX13_letterSum 5 = .ok (.iload 4, 2) := by decide +kernel
theorem dX13_letterSum_7 : decode cX13_letterSum 7 = .ok (.iload_n 2, 1) := by decide +kernel
theorem dX13_letterSum_8 : decode cX13_letterSum 8 = .ok (.if_icmp .ge 25, 3) := by decide +kernel
theorem dX13_letterSum_11 : decode cX13_letterSum 11 = .ok (.bipush 27, 2) := by decide +kernel
theorem dX13_letterSum_13 : decode cX13_letterSum 13 = .ok (.iload_n 3, 1) := by decide +kernel
theorem dX13_letterSum_14 : decode cX13_letterSum 14 = .ok (.imul, 1) := by decide +kernel
theorem dX13_letterSum_15 : decode cX13_letterSum 15 = .ok (.aload_n 0, 1) := by decide +kernel
theorem dX13_letterSum_16 : decode cX13_letterSum 16 = .ok (.getfield 22, 3) := by decide +kernel
theorem dX13_letterSum_19 : decode cX13_letterSum 19 = .ok (.iload 4, 2) := by decide +kernel
theorem dX13_letterSum_21 : decode cX13_letterSum 21 = .ok (.iaload, 1) := by decide +kernel
theorem dX13_letterSum_22 : decode cX13_letterSum 22 = .ok (.iadd, 1) := by decide +kernel
theorem dX13_letterSum_23 : decode cX13_letterSum 23 = .ok (.bipush 96, 2) := by decide +kernel
theorem dX13_letterSum_25 : decode cX13_letterSum 25 = .ok (.isub, 1) := by decide +kernel
theorem dX13_letterSum_26 : decode cX13_letterSum 26 = .ok (.istore_n 3, 1) := by decide +kernel
theorem dX13_letterSum_27 : decode cX13_letterSum 27 = .ok (.iinc 4 1, 3) := by decide +kernel
theorem dX13_letterSum_30 : decode cX13_letterSum 30 = .ok (.goto (-25), 3) := by decide +kernel
theorem dX13_letterSum_33 : decode cX13_letterSum 33 = .ok (.iload_n 3, 1) := by decide +kernel
theorem dX13_letterSum_34 : decode cX13_letterSum 34 = .ok (.ireturn, 1) := by decide +kernel
theorem dX13_stallNamed_0 : decode cX13_stallNamed 0 = .ok (.iconst 0, 1) := by decide +kernel
theorem dX13_stallNamed_1 : decode cX13_stallNamed 1 = .ok (.istore_n 2, 1) := by decide +kernel
theorem dX13_stallNamed_2 : decode cX13_stallNamed 2 = .ok (.iload_n 2, 1) := by decide +kernel
theorem dX13_stallNamed_3 : decode cX13_stallNamed 3 = .ok (.aload_n 0, 1) := by decide +kernel
theorem dX13_stallNamed_4 : decode cX13_stallNamed 4 = .ok (.getfield 7, 3) := by decide +kernel
theorem dX13_stallNamed_7 : decode cX13_stallNamed 7 = .ok (.iconst 1, 1) := by decide +kernel
theorem dX13_stallNamed_8 : decode cX13_stallNamed 8 = .ok (.iaload, 1) := by decide +kernel
theorem dX13_stallNamed_9 : decode cX13_stallNamed 9 = .ok (.if_icmp .ge 26, 3) := by decide +kernel
theorem dX13_stallNamed_12 : decode cX13_stallNamed 12 = .ok (.aload_n 0, 1) := by decide +kernel
theorem dX13_stallNamed_13 : decode cX13_stallNamed 13 = .ok (.getfield 7, 3) := by decide +kernel
theorem dX13_stallNamed_16 : decode cX13_stallNamed 16 = .ok (.bipush 9, 2) := by decide +kernel
theorem dX13_stallNamed_18 : decode cX13_stallNamed 18 = .ok (.iconst 2, 1) := by decide +kernel
theorem dX13_stallNamed_19 : decode cX13_stallNamed 19 = .ok (.iload_n 2, 1) := by decide +kernel
theorem dX13_stallNamed_20 : decode cX13_stallNamed 20 = .ok (.imul, 1) := by decide +kernel
theorem dX13_stallNamed_21 : decode cX13_stallNamed 21 = .ok (.iadd, 1) := by decide +kernel
theorem dX13_stallNamed_22 : decode cX13_stallNamed 22 = .ok (.iaload, 1) := by decide +kernel
theorem dX13_stallNamed_23 : decode cX13_stallNamed 23 = .ok (.iload_n 1, 1) := by decide +kernel
theorem dX13_stallNamed_24 : decode cX13_stallNamed 24 = .ok (.if_icmp .ne 5, 3) := by decide +kernel
theorem dX13_stallNamed_27 : decode cX13_stallNamed 27 = .ok (.iload_n 2, 1) := by decide +kernel
theorem dX13_stallNamed_28 : decode cX13_stallNamed 28 = .ok (.ireturn, 1) := by decide +kernel
theorem dX13_stallNamed_29 : decode cX13_stallNamed 29 = .ok (.iinc 2 1, 3) := by decide +kernel
theorem dX13_stallNamed_32 : decode cX13_stallNamed 32 = .ok (.goto (-30), 3) := by decide +kernel
theorem dX13_stallNamed_35 : decode cX13_stallNamed 35 = .ok (.iconst (-1), 1) := by decide +kernel
theorem dX13_stallNamed_36 : decode cX13_stallNamed 36 = .ok (.ireturn, 1) := by decide +kernel
theorem dX13_sellerNamed_0 : decode cX13_sellerNamed 0 = .ok (.iconst 0, 1) := by decide +kernel
theorem dX13_sellerNamed_1 : decode cX13_sellerNamed 1 = .ok (.istore_n 2, 1) := by decide +kernel
theorem dX13_sellerNamed_2 : decode cX13_sellerNamed 2 = .ok (.iload_n 2, 1) := by decide +kernel
theorem dX13_sellerNamed_3 : decode cX13_sellerNamed 3 = .ok (.aload_n 0, 1) := by decide +kernel
theorem dX13_sellerNamed_4 : decode cX13_sellerNamed 4 = .ok (.getfield 7, 3) := by decide +kernel
theorem dX13_sellerNamed_7 : decode cX13_sellerNamed 7 = .ok (.iconst 0, 1) := by decide +kernel
theorem dX13_sellerNamed_8 : decode cX13_sellerNamed 8 = .ok (.iaload, 1) := by decide +kernel
theorem dX13_sellerNamed_9 : decode cX13_sellerNamed 9 = .ok (.if_icmp .ge 21, 3) := by decide +kernel
theorem dX13_sellerNamed_12 : decode cX13_sellerNamed 12 = .ok (.aload_n 0, 1) := by decide +kernel
theorem dX13_sellerNamed_13 : decode cX13_sellerNamed 13 = .ok (.iload_n 2, 1) := by decide +kernel
theorem dX13_sellerNamed_14 : decode cX13_sellerNamed 14 = .ok (.iconst 0, 1) := by decide +kernel
theorem dX13_sellerNamed_15 : decode cX13_sellerNamed 15 = .ok (.invokevirtual 98, 3) := by decide +kernel
theorem dX13_sellerNamed_18 : decode cX13_sellerNamed 18 = .ok (.iload_n 1, 1) := by decide +kernel
theorem dX13_sellerNamed_19 : decode cX13_sellerNamed 19 = .ok (.if_icmp .ne 5, 3) := by decide +kernel
theorem dX13_sellerNamed_22 : decode cX13_sellerNamed 22 = .ok (.iload_n 2, 1) := by decide +kernel
theorem dX13_sellerNamed_23 : decode cX13_sellerNamed 23 = .ok (.ireturn, 1) := by decide +kernel
theorem dX13_sellerNamed_24 : decode cX13_sellerNamed 24 = .ok (.iinc 2 1, 3) := by decide +kernel
theorem dX13_sellerNamed_27 : decode cX13_sellerNamed 27 = .ok (.goto (-25), 3) := by decide +kernel
theorem dX13_sellerNamed_30 : decode cX13_sellerNamed 30 = .ok (.iconst (-1), 1) := by decide +kernel
theorem dX13_sellerNamed_31 : decode cX13_sellerNamed 31 = .ok (.ireturn, 1) := by decide +kernel
theorem dX13_seesName_0 : decode cX13_seesName 0 = .ok (.iconst 0, 1) := by decide +kernel
theorem dX13_seesName_1 : decode cX13_seesName 1 = .ok (.istore_n 1, 1) := by decide +kernel
theorem dX13_seesName_2 : decode cX13_seesName 2 = .ok (.aload_n 0, 1) := by decide +kernel
theorem dX13_seesName_3 : decode cX13_seesName 3 = .ok (.getfield 192, 3) := by decide +kernel
theorem dX13_seesName_6 : decode cX13_seesName 6 = .ok (.ifCond .ne 54, 3) := by decide +kernel
theorem dX13_seesName_9 : decode cX13_seesName 9 = .ok (.aload_n 0, 1) := by decide +kernel
theorem dX13_seesName_10 : decode cX13_seesName 10 = .ok (.getfield 179, 3) := by decide +kernel
theorem dX13_seesName_13 : decode cX13_seesName 13 = .ok (.iconst 1, 1) := by decide +kernel
theorem dX13_seesName_14 : decode cX13_seesName 14 = .ok (.if_icmp .eq 11, 3) := by decide +kernel
theorem dX13_seesName_17 : decode cX13_seesName 17 = .ok (.aload_n 0, 1) := by decide +kernel
theorem dX13_seesName_18 : decode cX13_seesName 18 = .ok (.iconst 1, 1) := by decide +kernel
theorem dX13_seesName_19 : decode cX13_seesName 19 = .ok (.invokevirtual 206, 3) := by decide +kernel
theorem dX13_seesName_22 : decode cX13_seesName 22 = .ok (.goto 38, 3) := by decide +kernel
theorem dX13_seesName_25 : decode cX13_seesName 25 = .ok (.aload_n 0, 1) := by decide +kernel
theorem dX13_seesName_26 : decode cX13_seesName 26 = .ok (.getfield 173, 3) := by decide +kernel
theorem dX13_seesName_29 : decode cX13_seesName 29 = .ok (.aload_n 0, 1) := by decide +kernel
theorem dX13_seesName_30 : decode cX13_seesName 30 = .ok (.getfield 176, 3) := by decide +kernel
theorem dX13_seesName_33 : decode cX13_seesName 33 = .ok (.isub, 1) := by decide +kernel
theorem dX13_seesName_34 : decode cX13_seesName 34 = .ok (.bipush 6, 2) := by decide +kernel
theorem dX13_seesName_36 : decode cX13_seesName 36 = .ok (.if_icmp .le 11, 3) := by decide +kernel
theorem dX13_seesName_39 : decode cX13_seesName 39 = .ok (.aload_n 0, 1) := by decide +kernel
theorem dX13_seesName_40 : decode cX13_seesName 40 = .ok (.iconst 3, 1) := by decide +kernel
theorem dX13_seesName_41 : decode cX13_seesName 41 = .ok (.invokevirtual 206, 3) := by decide +kernel
theorem dX13_seesName_44 : decode cX13_seesName 44 = .ok (.goto 16, 3) := by decide +kernel
theorem dX13_seesName_47 : decode cX13_seesName 47 = .ok (.aload_n 0, 1) := by decide +kernel
theorem dX13_seesName_48 : decode cX13_seesName 48 = .ok (.aload_n 0, 1) := by decide +kernel
theorem dX13_seesName_49 : decode cX13_seesName 49 = .ok (.getfield 176, 3) := by decide +kernel
theorem dX13_seesName_52 : decode cX13_seesName 52 = .ok (.aload_n 0, 1) := by decide +kernel
theorem dX13_seesName_53 : decode cX13_seesName 53 = .ok (.getfield 173, 3) := by decide +kernel
theorem dX13_seesName_56 : decode cX13_seesName 56 = .ok (.invokevirtual 212, 3) := by decide +kernel
theorem dX13_seesName_59 : decode cX13_seesName 59 = .ok (.istore_n 1, 1) := by decide +kernel
theorem dX13_seesName_60 : decode cX13_seesName 60 = .ok (.iload_n 1, 1) := by decide +kernel
theorem dX13_seesName_61 : decode cX13_seesName 61 = .ok (.ireturn, 1) := by decide +kernel
theorem dX13_seesStall_0 : decode cX13_seesStall 0 = .ok (.aload_n 0, 1) := by decide +kernel
theorem dX13_seesStall_1 : decode cX13_seesStall 1 = .ok (.ldc 215, 2) := by decide +kernel
theorem dX13_seesStall_3 : decode cX13_seesStall 3 = .ok (.invokevirtual 202, 3) := by decide +kernel
theorem dX13_seesStall_6 : decode cX13_seesStall 6 = .ok (.ifCond .eq 8, 3) := by decide +kernel
theorem dX13_seesStall_9 : decode cX13_seesStall 9 = .ok (.aload_n 0, 1) := by decide +kernel
theorem dX13_seesStall_10 : decode cX13_seesStall 10 = .ok (.iconst 1, 1) := by decide +kernel
theorem dX13_seesStall_11 : decode cX13_seesStall 11 = .ok (.invokevirtual 206, 3) := by decide +kernel
theorem dX13_seesStall_14 : decode cX13_seesStall 14 = .ok (.aload_n 0, 1) := by decide +kernel
theorem dX13_seesStall_15 : decode cX13_seesStall 15 = .ok (.aload_n 0, 1) := by decide +kernel
theorem dX13_seesStall_16 : decode cX13_seesStall 16 = .ok (.invokevirtual 217, 3) := by decide +kernel
theorem dX13_seesStall_19 : decode cX13_seesStall 19 = .ok (.invokevirtual 220, 3) := by decide +kernel
theorem dX13_seesStall_22 : decode cX13_seesStall 22 = .ok (.istore_n 1, 1) := by decide +kernel
theorem dX13_seesStall_23 : decode cX13_seesStall 23 = .ok (.aload_n 0, 1) := by decide +kernel
theorem dX13_seesStall_24 : decode cX13_seesStall 24 = .ok (.getfield 192, 3) := by decide +kernel
theorem dX13_seesStall_27 : decode cX13_seesStall 27 = .ok (.ifCond .ne 13, 3) := by decide +kernel
theorem dX13_seesStall_30 : decode cX13_seesStall 30 = .ok (.iload_n 1, 1) := by decide +kernel
theorem dX13_seesStall_31 : decode cX13_seesStall 31 = .ok (.iconst (-1), 1) := by decide +kernel
theorem dX13_seesStall_32 : decode cX13_seesStall 32 = .ok (.if_icmp .ne 8, 3) := by decide +kernel
theorem dX13_seesStall_35 : decode cX13_seesStall 35 = .ok (.aload_n 0, 1) := by decide +kernel
theorem dX13_seesStall_36 : decode cX13_seesStall 36 = .ok (.iconst 3, 1) := by decide +kernel
theorem dX13_seesStall_37 : decode cX13_seesStall 37 = .ok (.invokevirtual 206, 3) := by decide +kernel
theorem dX13_seesStall_40 : decode cX13_seesStall 40 = .ok (.iload_n 1, 1) := by decide +kernel
theorem dX13_seesStall_41 : decode cX13_seesStall 41 = .ok (.ireturn, 1) := by decide +kernel
theorem dX13_wantsStall_0 : decode cX13_wantsStall 0 = .ok (.aload_n 0, 1) := by decide +kernel
theorem dX13_wantsStall_1 : decode cX13_wantsStall 1 = .ok (.invokevirtual 223, 3) := by decide +kernel
theorem dX13_wantsStall_4 : decode cX13_wantsStall 4 = .ok (.istore_n 1, 1) := by decide +kernel
theorem dX13_wantsStall_5 : decode cX13_wantsStall 5 = .ok (.aload_n 0, 1) := by decide +kernel
theorem dX13_wantsStall_6 : decode cX13_wantsStall 6 = .ok (.invokevirtual 209, 3) := by decide +kernel
theorem dX13_wantsStall_9 : decode cX13_wantsStall 9 = .ok (.iload_n 1, 1) := by decide +kernel
theorem dX13_wantsStall_10 : decode cX13_wantsStall 10 = .ok (.ireturn, 1) := by decide +kernel
theorem dX13_wantsSeller_0 : decode cX13_wantsSeller 0 = .ok (.aload_n 0, 1) := by decide +kernel
theorem dX13_wantsSeller_1 : decode cX13_wantsSeller 1 = .ok (.aload_n 0, 1) := by decide +kernel
theorem dX13_wantsSeller_2 : decode cX13_wantsSeller 2 = .ok (.invokevirtual 217, 3) := by decide +kernel
theorem dX13_wantsSeller_5 : decode cX13_wantsSeller 5 = .ok (.invokevirtual 226, 3) := by decide +kernel
theorem dX13_wantsSeller_8 : decode cX13_wantsSeller 8 = .ok (.istore_n 1, 1) := by decide +kernel
theorem dX13_wantsSeller_9 : decode cX13_wantsSeller 9 = .ok (.aload_n 0, 1) := by decide +kernel
theorem dX13_wantsSeller_10 : decode cX13_wantsSeller 10 = .ok (.getfield 192, 3) := by decide +kernel
theorem dX13_wantsSeller_13 : decode cX13_wantsSeller 13 = .ok (.ifCond .ne 13, 3) := by decide +kernel
theorem dX13_wantsSeller_16 : decode cX13_wantsSeller 16 = .ok (.iload_n 1, 1) := by decide +kernel
theorem dX13_wantsSeller_17 : decode cX13_wantsSeller 17 = .ok (.iconst (-1), 1) := by decide +kernel
theorem dX13_wantsSeller_18 : decode cX13_wantsSeller 18 = .ok (.if_icmp .ne 8, 3) := by decide +kernel
theorem dX13_wantsSeller_21 : decode cX13_wantsSeller 21 = .ok (.aload_n 0, 1) := by decide +kernel
theorem dX13_wantsSeller_22 : decode cX13_wantsSeller 22 = .ok (.iconst 3, 1) := by decide +kernel
theorem dX13_wantsSeller_23 : decode cX13_wantsSeller 23 = .ok (.invokevirtual 206, 3) := by decide +kernel
theorem dX13_wantsSeller_26 : decode cX13_wantsSeller 26 = .ok (.aload_n 0, 1) := by decide +kernel
theorem dX13_wantsSeller_27 : decode cX13_wantsSeller 27 = .ok (.invokevirtual 209, 3) := by decide +kernel
theorem dX13_wantsSeller_30 : decode cX13_wantsSeller 30 = .ok (.iload_n 1, 1) := by decide +kernel
theorem dX13_wantsSeller_31 : decode cX13_wantsSeller 31 = .ok (.ireturn, 1) := by decide +kernel
theorem dX13_begins_0 : decode cX13_begins 0 = .ok (.iload_n 1, 1) := by decide +kernel
theorem dX13_begins_1 : decode cX13_begins 1 = .ok (.bipush 8, 2) := by decide +kernel
theorem dX13_begins_3 : decode cX13_begins 3 = .ok (.if_icmp .ne 10, 3) := by decide +kernel
theorem dX13_begins_6 : decode cX13_begins 6 = .ok (.aload_n 0, 1) := by decide +kernel
theorem dX13_begins_7 : decode cX13_begins 7 = .ok (.iconst 5, 1) := by decide +kernel
theorem dX13_begins_8 : decode cX13_begins 8 = .ok (.invokevirtual 206, 3) := by decide +kernel
theorem dX13_begins_11 : decode cX13_begins 11 = .ok (.iconst 0, 1) := by decide +kernel
theorem dX13_begins_12 : decode cX13_begins 12 = .ok (.ireturn, 1) := by decide +kernel
theorem dX13_begins_13 : decode cX13_begins 13 = .ok (.aload_n 0, 1) := by decide +kernel
theorem dX13_begins_14 : decode cX13_begins 14 = .ok (.invokevirtual 199, 3) := by decide +kernel
theorem dX13_begins_17 : decode cX13_begins 17 = .ok (.iconst 1, 1) := by decide +kernel
theorem dX13_begins_18 : decode cX13_begins 18 = .ok (.ireturn, 1) := by decide +kernel
theorem dX13_readsStall_0 : decode cX13_readsStall 0 = .ok (.aload_n 0, 1) := by decide +kernel
theorem dX13_readsStall_1 : decode cX13_readsStall 1 = .ok (.aload_n 0, 1) := by decide +kernel
theorem dX13_readsStall_2 : decode cX13_readsStall 2 = .ok (.getfield 7, 3) := by decide +kernel
theorem dX13_readsStall_5 : decode cX13_readsStall 5 = .ok (.iconst 1, 1) := by decide +kernel
theorem dX13_readsStall_6 : decode cX13_readsStall 6 = .ok (.iaload, 1) := by decide +kernel
theorem dX13_readsStall_7 : decode cX13_readsStall 7 = .ok (.invokevirtual 229, 3) := by decide +kernel
theorem dX13_readsStall_10 : decode cX13_readsStall 10 = .ok (.ifCond .eq 109, 3) := by decide +kernel
theorem dX13_readsStall_13 : decode cX13_readsStall 13 = .ok (.aload_n 0, 1) := by decide +kernel
theorem dX13_readsStall_14 : decode cX13_readsStall 14 = .ok (.ldc 215, 2) := by decide +kernel
theorem dX13_readsStall_16 : decode cX13_readsStall 16 = .ok (.invokevirtual 202, 3) := by decide +kernel
theorem dX13_readsStall_19 : decode cX13_readsStall 19 = .ok (.istore_n 1, 1) := by decide +kernel
theorem dX13_readsStall_20 : decode cX13_readsStall 20 = .ok (.aload_n 0, 1) := by decide +kernel
theorem dX13_readsStall_21 : decode cX13_readsStall 21 = .ok (.invokevirtual 217, 3) := by decide +kernel
theorem dX13_readsStall_24 : decode cX13_readsStall 24 = .ok (.istore_n 2, 1) := by decide +kernel
theorem dX13_readsStall_25 : decode cX13_readsStall 25 = .ok (.aload_n 0, 1) := by decide +kernel
theorem dX13_readsStall_26 : decode cX13_readsStall 26 = .ok (.getfield 192, 3) := by decide +kernel
theorem dX13_readsStall_29 : decode cX13_readsStall 29 = .ok (.ifCond .ne 21, 3) := by decide +kernel
theorem dX13_readsStall_32 : decode cX13_readsStall 32 = .ok (.iload_n 1, 1) := by decide +kernel
theorem dX13_readsStall_33 : decode cX13_readsStall 33 = .ok (.ifCond .ne 12, 3) := by decide +kernel
theorem dX13_readsStall_36 : decode cX13_readsStall 36 = .ok (.aload_n 0, 1) := by decide +kernel
theorem dX13_readsStall_37 : decode cX13_readsStall 37 = .ok (.iload_n 2, 1) := by decide +kernel
theorem dX13_readsStall_38 : decode cX13_readsStall 38 = .ok (.invokevirtual 220, 3) := by decide +kernel
theorem dX13_readsStall_41 : decode cX13_readsStall 41 = .ok (.iconst (-1), 1) := by decide +kernel
theorem dX13_readsStall_42 : decode cX13_readsStall 42 = .ok (.if_icmp .eq 8, 3) := by decide +kernel
theorem dX13_readsStall_45 : decode cX13_readsStall 45 = .ok (.aload_n 0, 1) := by decide +kernel
theorem dX13_readsStall_46 : decode cX13_readsStall 46 = .ok (.iconst 3, 1) := by decide +kernel
theorem dX13_readsStall_47 : decode cX13_readsStall 47 = .ok (.invokevirtual 206, 3) := by decide +kernel
theorem dX13_readsStall_50 : decode cX13_readsStall 50 = .ok (.aload_n 0, 1) := by decide +kernel
theorem dX13_readsStall_51 : decode cX13_readsStall 51 = .ok (.invokevirtual 209, 3) := by decide +kernel
theorem dX13_readsStall_54 : decode cX13_readsStall 54 = .ok (.aload_n 0, 1) := by decide +kernel
theorem dX13_readsStall_55 : decode cX13_readsStall 55 = .ok (.iconst 0, 1) := by decide +kernel
theorem dX13_readsStall_56 : decode cX13_readsStall 56 = .ok (.bipush 99, 2) := by decide +kernel
theorem dX13_readsStall_58 : decode cX13_readsStall 58 = .ok (.invokevirtual 232, 3) := by decide +kernel
theorem dX13_readsStall_61 : decode cX13_readsStall 61 = .ok (.istore_n 3, 1) := by decide +kernel
theorem dX13_readsStall_62 : decode cX13_readsStall 62 = .ok (.aload_n 0, 1) := by decide +kernel
theorem dX13_readsStall_63 : decode cX13_readsStall 63 = .ok (.invokevirtual 235, 3) := by decide +kernel
theorem dX13_readsStall_66 : decode cX13_readsStall 66 = .ok (.aload_n 0, 1) := by decide +kernel
theorem dX13_readsStall_67 : decode cX13_readsStall 67 = .ok (.getfield 192, 3) := by decide +kernel
theorem dX13_readsStall_70 : decode cX13_readsStall 70 = .ok (.ifCond .ne 49, 3) := by decide +kernel
theorem dX13_readsStall_73 : decode cX13_readsStall 73 = .ok (.aload_n 0, 1) := by decide +kernel
theorem dX13_readsStall_74 : decode cX13_readsStall 74 = .ok (.getfield 7, 3) := by decide +kernel
theorem dX13_readsStall_77 : decode cX13_readsStall 77 = .ok (.bipush 9, 2) := by decide +kernel
theorem dX13_readsStall_79 : decode cX13_readsStall 79 = .ok (.iconst 2, 1) := by decide +kernel
theorem dX13_readsStall_80 : decode cX13_readsStall 80 = .ok (.aload_n 0, 1) := by decide +kernel
theorem dX13_readsStall_81 : decode cX13_readsStall 81 = .ok (.getfield 7, 3) := by decide +kernel
theorem dX13_readsStall_84 : decode cX13_readsStall 84 = .ok (.iconst 1, 1) := by decide +kernel
theorem dX13_readsStall_85 : decode cX13_readsStall 85 = .ok (.iaload, 1) := by decide +kernel
theorem dX13_readsStall_86 : decode cX13_readsStall 86 = .ok (.imul, 1) := by decide +kernel
theorem dX13_readsStall_87 : decode cX13_readsStall 87 = .ok (.iadd, 1) := by decide +kernel
theorem dX13_readsStall_88 : decode cX13_readsStall 88 = .ok (.iload_n 2, 1) := by decide +kernel
theorem dX13_readsStall_89 : decode cX13_readsStall 89 = .ok (.iastore, 1) := by decide +kernel
theorem dX13_readsStall_90 : decode cX13_readsStall 90 = .ok (.aload_n 0, 1) := by decide +kernel
theorem dX13_readsStall_91 : decode cX13_readsStall 91 = .ok (.getfield 7, 3) := by decide +kernel
theorem dX13_readsStall_94 : decode cX13_readsStall 94 = .ok (.bipush 9, 2) := by decide +kernel
theorem dX13_readsStall_96 : decode cX13_readsStall 96 = .ok (.iconst 2, 1) := by decide +kernel
theorem dX13_readsStall_97 : decode cX13_readsStall 97 = .ok (.aload_n 0, 1) := by decide +kernel
theorem dX13_readsStall_98 : decode cX13_readsStall 98 = .ok (.getfield 7, 3) := by decide +kernel
theorem dX13_readsStall_101 : decode cX13_readsStall 101 = .ok (.iconst 1, 1) := by decide +kernel
theorem dX13_readsStall_102 : decode cX13_readsStall 102 = .ok (.iaload, 1) := by decide +kernel
theorem dX13_readsStall_103 : decode cX13_readsStall 103 = .ok (.imul, 1) := by decide +kernel
theorem dX13_readsStall_104 : decode cX13_readsStall 104 = .ok (.iadd, 1) := by decide +kernel
theorem dX13_readsStall_105 : decode cX13_readsStall 105 = .ok (.iconst 1, 1) := by decide +kernel
theorem dX13_readsStall_106 : decode cX13_readsStall 106 = .ok (.iadd, 1) := by decide +kernel
theorem dX13_readsStall_107 : decode cX13_readsStall 107 = .ok (.iload_n 3, 1) := by decide +kernel
theorem dX13_readsStall_108 : decode cX13_readsStall 108 = .ok (.iastore, 1) := by decide +kernel
theorem dX13_readsStall_109 : decode cX13_readsStall 109 = .ok (.aload_n 0, 1) := by decide +kernel
theorem dX13_readsStall_110 : decode cX13_readsStall 110 = .ok (.getfield 7, 3) := by decide +kernel
theorem dX13_readsStall_113 : decode cX13_readsStall 113 = .ok (.iconst 1, 1) := by decide +kernel
theorem dX13_readsStall_114 : decode cX13_readsStall 114 = .ok (.dup2, 1) := by decide +kernel
theorem dX13_readsStall_115 : decode cX13_readsStall 115 = .ok (.iaload, 1) := by decide +kernel
theorem dX13_readsStall_116 : decode cX13_readsStall 116 = .ok (.iconst 1, 1) := by decide +kernel
theorem dX13_readsStall_117 : decode cX13_readsStall 117 = .ok (.iadd, 1) := by decide +kernel
theorem dX13_readsStall_118 : decode cX13_readsStall 118 = .ok (.iastore, 1) := by decide +kernel
theorem dX13_readsStall_119 : decode cX13_readsStall 119 = .ok (.return_, 1) := by decide +kernel
theorem dX13_readsList_0 : decode cX13_readsList 0 = .ok (.aload_n 0, 1) := by decide +kernel
theorem dX13_readsList_1 : decode cX13_readsList 1 = .ok (.getfield 192, 3) := by decide +kernel
theorem dX13_readsList_4 : decode cX13_readsList 4 = .ok (.ifCond .ne 89, 3) := by decide +kernel
theorem dX13_readsList_7 : decode cX13_readsList 7 = .ok (.aload_n 0, 1) := by decide +kernel
theorem dX13_readsList_8 : decode cX13_readsList 8 = .ok (.getfield 179, 3) := by decide +kernel
theorem dX13_readsList_11 : decode cX13_readsList 11 = .ok (.iconst 1, 1) := by decide +kernel
theorem dX13_readsList_12 : decode cX13_readsList 12 = .ok (.if_icmp .ne 81, 3) := by decide +kernel
theorem dX13_readsList_15 : decode cX13_readsList 15 = .ok (.aload_n 0, 1) := by decide +kernel
theorem dX13_readsList_16 : decode cX13_readsList 16 = .ok (.ldc 215, 2) := by decide +kernel
theorem dX13_readsList_18 : decode cX13_readsList 18 = .ok (.invokevirtual 202, 3) := by decide +kernel
theorem dX13_readsList_21 : decode cX13_readsList 21 = .ok (.ifCond .ne 72, 3) := by decide +kernel
theorem dX13_readsList_24 : decode cX13_readsList 24 = .ok (.aload_n 0, 1) := by decide +kernel
theorem dX13_readsList_25 : decode cX13_readsList 25 = .ok (.invokevirtual 223, 3) := by decide +kernel
theorem dX13_readsList_28 : decode cX13_readsList 28 = .ok (.istore_n 2, 1) := by decide +kernel
theorem dX13_readsList_29 : decode cX13_readsList 29 = .ok (.aload_n 0, 1) := by decide +kernel
theorem dX13_readsList_30 : decode cX13_readsList 30 = .ok (.getfield 192, 3) := by decide +kernel
theorem dX13_readsList_33 : decode cX13_readsList 33 = .ok (.ifCond .ne 18, 3) := by decide +kernel
theorem dX13_readsList_36 : decode cX13_readsList 36 = .ok (.aload_n 0, 1) := by decide +kernel
theorem dX13_readsList_37 : decode cX13_readsList 37 = .ok (.iload_n 1, 1) := by decide +kernel
theorem dX13_readsList_38 : decode cX13_readsList 38 = .ok (.iload_n 2, 1) := by decide +kernel
theorem dX13_readsList_39 : decode cX13_readsList 39 = .ok (.invokevirtual 102, 3) := by decide +kernel
theorem dX13_readsList_42 : decode cX13_readsList 42 = .ok (.iconst (-1), 1) := by decide +kernel
theorem dX13_readsList_43 : decode cX13_readsList 43 = .ok (.if_icmp .eq 8, 3) := by decide +kernel
theorem dX13_readsList_46 : decode cX13_readsList 46 = .ok (.aload_n 0, 1) := by decide +kernel
theorem dX13_readsList_47 : decode cX13_readsList 47 = .ok (.iconst 4, 1) := by decide +kernel
theorem dX13_readsList_48 : decode cX13_readsList 48 = .ok (.invokevirtual 206, 3) := by decide +kernel
theorem dX13_readsList_51 : decode cX13_readsList 51 = .ok (.aload_n 0, 1) := by decide +kernel
theorem dX13_readsList_52 : decode cX13_readsList 52 = .ok (.invokevirtual 209, 3) := by decide +kernel
theorem dX13_readsList_55 : decode cX13_readsList 55 = .ok (.aload_n 0, 1) := by decide +kernel
theorem dX13_readsList_56 : decode cX13_readsList 56 = .ok (.getfield 192, 3) := by decide +kernel
theorem dX13_readsList_59 : decode cX13_readsList 59 = .ok (.ifCond .ne 31, 3) := by decide +kernel
theorem dX13_readsList_62 : decode cX13_readsList 62 = .ok (.aload_n 0, 1) := by decide +kernel
theorem dX13_readsList_63 : decode cX13_readsList 63 = .ok (.iload_n 1, 1) := by decide +kernel
theorem dX13_readsList_64 : decode cX13_readsList 64 = .ok (.iconst 5, 1) := by decide +kernel
theorem dX13_readsList_65 : decode cX13_readsList 65 = .ok (.aload_n 0, 1) := by decide +kernel
theorem dX13_readsList_66 : decode cX13_readsList 66 = .ok (.iload_n 1, 1) := by decide +kernel
theorem dX13_readsList_67 : decode cX13_readsList 67 = .ok (.iconst 4, 1) := by decide +kernel
theorem dX13_readsList_68 : decode cX13_readsList 68 = .ok (.invokevirtual 98, 3) := by decide +kernel
theorem dX13_readsList_71 : decode cX13_readsList 71 = .ok (.iadd, 1) := by decide +kernel
theorem dX13_readsList_72 : decode cX13_readsList 72 = .ok (.iload_n 2, 1) := by decide +kernel
theorem dX13_readsList_73 : decode cX13_readsList 73 = .ok (.invokevirtual 145, 3) := by decide +kernel
theorem dX13_readsList_76 : decode cX13_readsList 76 = .ok (.aload_n 0, 1) := by decide +kernel
theorem dX13_readsList_77 : decode cX13_readsList 77 = .ok (.iload_n 1, 1) := by decide +kernel
theorem dX13_readsList_78 : decode cX13_readsList 78 = .ok (.iconst 4, 1) := by decide +kernel
theorem dX13_readsList_79 : decode cX13_readsList 79 = .ok (.aload_n 0, 1) := by decide +kernel
theorem dX13_readsList_80 : decode cX13_readsList 80 = .ok (.iload_n 1, 1) := by decide +kernel
theorem dX13_readsList_81 : decode cX13_readsList 81 = .ok (.iconst 4, 1) := by decide +kernel
theorem dX13_readsList_82 : decode cX13_readsList 82 = .ok (.invokevirtual 98, 3) := by decide +kernel
theorem dX13_readsList_85 : decode cX13_readsList 85 = .ok (.iconst 1, 1) := by decide +kernel
theorem dX13_readsList_86 : decode cX13_readsList 86 = .ok (.iadd, 1) := by decide +kernel
theorem dX13_readsList_87 : decode cX13_readsList 87 = .ok (.invokevirtual 145, 3) := by decide +kernel
theorem dX13_readsList_90 : decode cX13_readsList 90 = .ok (.goto (-90), 3) := by decide +kernel
theorem dX13_readsList_93 : decode cX13_readsList 93 = .ok (.return_, 1) := by decide +kernel
theorem dX13_readsPlace_0 : decode cX13_readsPlace 0 = .ok (.aload_n 0, 1) := by decide +kernel
theorem dX13_readsPlace_1 : decode cX13_readsPlace 1 = .ok (.ldc 215, 2) := by decide +kernel
theorem dX13_readsPlace_3 : decode cX13_readsPlace 3 = .ok (.invokevirtual 202, 3) := by decide +kernel
theorem dX13_readsPlace_6 : decode cX13_readsPlace 6 = .ok (.ifCond .eq 55, 3) := by decide +kernel
theorem dX13_readsPlace_9 : decode cX13_readsPlace 9 = .ok (.aload_n 0, 1) := by decide +kernel
theorem dX13_readsPlace_10 : decode cX13_readsPlace 10 = .ok (.invokevirtual 199, 3) := by decide +kernel
theorem dX13_readsPlace_13 : decode cX13_readsPlace 13 = .ok (.aload_n 0, 1) := by decide +kernel
theorem dX13_readsPlace_14 : decode cX13_readsPlace 14 = .ok (.invokevirtual 223, 3) := by decide +kernel
theorem dX13_readsPlace_17 : decode cX13_readsPlace 17 = .ok (.istore_n 2, 1) := by decide +kernel
theorem dX13_readsPlace_18 : decode cX13_readsPlace 18 = .ok (.aload_n 0, 1) := by decide +kernel
theorem dX13_readsPlace_19 : decode cX13_readsPlace 19 = .ok (.getfield 192, 3) := by decide +kernel
theorem dX13_readsPlace_22 : decode cX13_readsPlace 22 = .ok (.ifCond .ne 17, 3) := by decide +kernel
theorem dX13_readsPlace_25 : decode cX13_readsPlace 25 = .ok (.aload_n 0, 1) := by decide +kernel
theorem dX13_readsPlace_26 : decode cX13_readsPlace 26 = .ok (.iload_n 2, 1) := by decide +kernel
theorem dX13_readsPlace_27 : decode cX13_readsPlace 27 = .ok (.invokevirtual 115, 3) := by decide +kernel
theorem dX13_readsPlace_30 : decode cX13_readsPlace 30 = .ok (.iconst (-1), 1) := by decide +kernel
theorem dX13_readsPlace_31 : decode cX13_readsPlace 31 = .ok (.if_icmp .eq 8, 3) := by decide +kernel
theorem dX13_readsPlace_34 : decode cX13_readsPlace 34 = .ok (.aload_n 0, 1) := by decide +kernel
theorem dX13_readsPlace_35 : decode cX13_readsPlace 35 = .ok (.iconst 4, 1) := by decide +kernel
theorem dX13_readsPlace_36 : decode cX13_readsPlace 36 = .ok (.invokevirtual 206, 3) := by decide +kernel
theorem dX13_readsPlace_39 : decode cX13_readsPlace 39 = .ok (.aload_n 0, 1) := by decide +kernel
theorem dX13_readsPlace_40 : decode cX13_readsPlace 40 = .ok (.invokevirtual 209, 3) := by decide +kernel
theorem dX13_readsPlace_43 : decode cX13_readsPlace 43 = .ok (.aload_n 0, 1) := by decide +kernel
theorem dX13_readsPlace_44 : decode cX13_readsPlace 44 = .ok (.iload_n 1, 1) := by decide +kernel
theorem dX13_readsPlace_45 : decode cX13_readsPlace 45 = .ok (.iconst 3, 1) := by decide +kernel
theorem dX13_readsPlace_46 : decode cX13_readsPlace 46 = .ok (.aload_n 0, 1) := by decide +kernel
theorem dX13_readsPlace_47 : decode cX13_readsPlace 47 = .ok (.getfield 192, 3) := by decide +kernel
theorem dX13_readsPlace_50 : decode cX13_readsPlace 50 = .ok (.ifCond .eq 7, 3) := by decide +kernel
theorem dX13_readsPlace_53 : decode cX13_readsPlace 53 = .ok (.iconst (-1), 1) := by decide +kernel
theorem dX13_readsPlace_54 : decode cX13_readsPlace 54 = .ok (.goto 4, 3) := by decide +kernel
theorem dX13_readsPlace_57 : decode cX13_readsPlace 57 = .ok (.iload_n 2, 1) := by decide +kernel
theorem dX13_readsPlace_58 : decode cX13_readsPlace 58 = .ok (.invokevirtual 145, 3) := by decide +kernel
theorem dX13_readsPlace_61 : decode cX13_readsPlace 61 = .ok (.return_, 1) := by decide +kernel
theorem dX13_readsSeller_0 : decode cX13_readsSeller 0 = .ok (.aload_n 0, 1) := by decide +kernel
theorem dX13_readsSeller_1 : decode cX13_readsSeller 1 = .ok (.aload_n 0, 1) := by decide +kernel
theorem dX13_readsSeller_2 : decode cX13_readsSeller 2 = .ok (.getfield 7, 3) := by decide +kernel
theorem dX13_readsSeller_5 : decode cX13_readsSeller 5 = .ok (.iconst 0, 1) := by decide +kernel
theorem dX13_readsSeller_6 : decode cX13_readsSeller 6 = .ok (.iaload, 1) := by decide +kernel
theorem dX13_readsSeller_7 : decode cX13_readsSeller 7 = .ok (.invokevirtual 229, 3) := by decide +kernel
theorem dX13_readsSeller_10 : decode cX13_readsSeller 10 = .ok (.ifCond .eq 116, 3) := by decide +kernel
theorem dX13_readsSeller_13 : decode cX13_readsSeller 13 = .ok (.aload_n 0, 1) := by decide +kernel
theorem dX13_readsSeller_14 : decode cX13_readsSeller 14 = .ok (.getfield 7, 3) := by decide +kernel
theorem dX13_readsSeller_17 : decode cX13_readsSeller 17 = .ok (.iconst 0, 1) := by decide +kernel
theorem dX13_readsSeller_18 : decode cX13_readsSeller 18 = .ok (.iaload, 1) := by decide +kernel
theorem dX13_readsSeller_19 : decode cX13_readsSeller 19 = .ok (.istore_n 1, 1) := by decide +kernel
theorem dX13_readsSeller_20 : decode cX13_readsSeller 20 = .ok (.aload_n 0, 1) := by decide +kernel
theorem dX13_readsSeller_21 : decode cX13_readsSeller 21 = .ok (.invokevirtual 217, 3) := by decide +kernel
theorem dX13_readsSeller_24 : decode cX13_readsSeller 24 = .ok (.istore_n 2, 1) := by decide +kernel
theorem dX13_readsSeller_25 : decode cX13_readsSeller 25 = .ok (.aload_n 0, 1) := by decide +kernel
theorem dX13_readsSeller_26 : decode cX13_readsSeller 26 = .ok (.getfield 192, 3) := by decide +kernel
theorem dX13_readsSeller_29 : decode cX13_readsSeller 29 = .ok (.ifCond .ne 17, 3) := by decide +kernel
theorem dX13_readsSeller_32 : decode cX13_readsSeller 32 = .ok (.aload_n 0, 1) := by decide +kernel
theorem dX13_readsSeller_33 : decode cX13_readsSeller 33 = .ok (.iload_n 2, 1) := by decide +kernel
theorem dX13_readsSeller_34 : decode cX13_readsSeller 34 = .ok (.invokevirtual 226, 3) := by decide +kernel
theorem dX13_readsSeller_37 : decode cX13_readsSeller 37 = .ok (.iconst (-1), 1) := by decide +kernel
theorem dX13_readsSeller_38 : decode cX13_readsSeller 38 = .ok (.if_icmp .eq 8, 3) := by decide +kernel
theorem dX13_readsSeller_41 : decode cX13_readsSeller 41 = .ok (.aload_n 0, 1) := by decide +kernel
theorem dX13_readsSeller_42 : decode cX13_readsSeller 42 = .ok (.iconst 3, 1) := by decide +kernel
theorem dX13_readsSeller_43 : decode cX13_readsSeller 43 = .ok (.invokevirtual 206, 3) := by decide +kernel
theorem dX13_readsSeller_46 : decode cX13_readsSeller 46 = .ok (.aload_n 0, 1) := by decide +kernel
theorem dX13_readsSeller_47 : decode cX13_readsSeller 47 = .ok (.invokevirtual 209, 3) := by decide +kernel
theorem dX13_readsSeller_50 : decode cX13_readsSeller 50 = .ok (.aload_n 0, 1) := by decide +kernel
theorem dX13_readsSeller_51 : decode cX13_readsSeller 51 = .ok (.iload_n 1, 1) := by decide +kernel
theorem dX13_readsSeller_52 : decode cX13_readsSeller 52 = .ok (.iconst 0, 1) := by decide +kernel
theorem dX13_readsSeller_53 : decode cX13_readsSeller 53 = .ok (.iload_n 2, 1) := by decide +kernel
theorem dX13_readsSeller_54 : decode cX13_readsSeller 54 = .ok (.invokevirtual 145, 3) := by decide +kernel
theorem dX13_readsSeller_57 : decode cX13_readsSeller 57 = .ok (.aload_n 0, 1) := by decide +kernel
theorem dX13_readsSeller_58 : decode cX13_readsSeller 58 = .ok (.iload_n 1, 1) := by decide +kernel
theorem dX13_readsSeller_59 : decode cX13_readsSeller 59 = .ok (.iconst 1, 1) := by decide +kernel
theorem dX13_readsSeller_60 : decode cX13_readsSeller 60 = .ok (.aload_n 0, 1) := by decide +kernel
theorem dX13_readsSeller_61 : decode cX13_readsSeller 61 = .ok (.iconst 0, 1) := by decide +kernel
theorem dX13_readsSeller_62 : decode cX13_readsSeller 62 = .ok (.sipush 9999, 3) := by decide +kernel
theorem dX13_readsSeller_65 : decode cX13_readsSeller 65 = .ok (.invokevirtual 232, 3) := by decide +kernel
theorem dX13_readsSeller_68 : decode cX13_readsSeller 68 = .ok (.invokevirtual 145, 3) := by decide +kernel
theorem dX13_readsSeller_71 : decode cX13_readsSeller 71 = .ok (.aload_n 0, 1) := by decide +kernel
theorem dX13_readsSeller_72 : decode cX13_readsSeller 72 = .ok (.iload_n 1, 1) := by decide +kernel
theorem dX13_readsSeller_73 : decode cX13_readsSeller 73 = .ok (.iconst 2, 1) := by decide +kernel
theorem dX13_readsSeller_74 : decode cX13_readsSeller 74 = .ok (.aload_n 0, 1) := by decide +kernel
theorem dX13_readsSeller_75 : decode cX13_readsSeller 75 = .ok (.iconst 0, 1) := by decide +kernel
theorem dX13_readsSeller_76 : decode cX13_readsSeller 76 = .ok (.bipush 99, 2) := by decide +kernel
theorem dX13_readsSeller_78 : decode cX13_readsSeller 78 = .ok (.invokevirtual 232, 3) := by decide +kernel
theorem dX13_readsSeller_81 : decode cX13_readsSeller 81 = .ok (.invokevirtual 145, 3) := by decide +kernel
theorem dX13_readsSeller_84 : decode cX13_readsSeller 84 = .ok (.aload_n 0, 1) := by decide +kernel
theorem dX13_readsSeller_85 : decode cX13_readsSeller 85 = .ok (.iload_n 1, 1) := by decide +kernel
theorem dX13_readsSeller_86 : decode cX13_readsSeller 86 = .ok (.iconst 3, 1) := by decide +kernel
theorem dX13_readsSeller_87 : decode cX13_readsSeller 87 = .ok (.iconst (-1), 1) := by decide +kernel
theorem dX13_readsSeller_88 : decode cX13_readsSeller 88 = .ok (.invokevirtual 145, 3) := by decide +kernel
theorem dX13_readsSeller_91 : decode cX13_readsSeller 91 = .ok (.aload_n 0, 1) := by decide +kernel
theorem dX13_readsSeller_92 : decode cX13_readsSeller 92 = .ok (.iload_n 1, 1) := by decide +kernel
theorem dX13_readsSeller_93 : decode cX13_readsSeller 93 = .ok (.invokevirtual 238, 3) := by decide +kernel
theorem dX13_readsSeller_96 : decode cX13_readsSeller 96 = .ok (.aload_n 0, 1) := by decide +kernel
theorem dX13_readsSeller_97 : decode cX13_readsSeller 97 = .ok (.iload_n 1, 1) := by decide +kernel
theorem dX13_readsSeller_98 : decode cX13_readsSeller 98 = .ok (.invokevirtual 241, 3) := by decide +kernel
theorem dX13_readsSeller_101 : decode cX13_readsSeller 101 = .ok (.aload_n 0, 1) := by decide +kernel
theorem dX13_readsSeller_102 : decode cX13_readsSeller 102 = .ok (.invokevirtual 235, 3) := by decide +kernel
theorem dX13_readsSeller_105 : decode cX13_readsSeller 105 = .ok (.aload_n 0, 1) := by decide +kernel
theorem dX13_readsSeller_106 : decode cX13_readsSeller 106 = .ok (.getfield 7, 3) := by decide +kernel
theorem dX13_readsSeller_109 : decode cX13_readsSeller 109 = .ok (.sipush 129, 3) := by decide +kernel
theorem dX13_readsSeller_112 : decode cX13_readsSeller 112 = .ok (.iload_n 1, 1) := by decide +kernel
theorem dX13_readsSeller_113 : decode cX13_readsSeller 113 = .ok (.iadd, 1) := by decide +kernel
theorem dX13_readsSeller_114 : decode cX13_readsSeller 114 = .ok (.iload_n 1, 1) := by decide +kernel
theorem dX13_readsSeller_115 : decode cX13_readsSeller 115 = .ok (.iastore, 1) := by decide +kernel
theorem dX13_readsSeller_116 : decode cX13_readsSeller 116 = .ok (.aload_n 0, 1) := by decide +kernel
theorem dX13_readsSeller_117 : decode cX13_readsSeller 117 = .ok (.getfield 7, 3) := by decide +kernel
theorem dX13_readsSeller_120 : decode cX13_readsSeller 120 = .ok (.iconst 0, 1) := by decide +kernel
theorem dX13_readsSeller_121 : decode cX13_readsSeller 121 = .ok (.dup2, 1) := by decide +kernel
theorem dX13_readsSeller_122 : decode cX13_readsSeller 122 = .ok (.iaload, 1) := by decide +kernel
theorem dX13_readsSeller_123 : decode cX13_readsSeller 123 = .ok (.iconst 1, 1) := by decide +kernel
theorem dX13_readsSeller_124 : decode cX13_readsSeller 124 = .ok (.iadd, 1) := by decide +kernel
theorem dX13_readsSeller_125 : decode cX13_readsSeller 125 = .ok (.iastore, 1) := by decide +kernel
theorem dX13_readsSeller_126 : decode cX13_readsSeller 126 = .ok (.return_, 1) := by decide +kernel
theorem dX13_readsSetup_0 : decode cX13_readsSetup 0 = .ok (.iconst 0, 1) := by decide +kernel
theorem dX13_readsSetup_1 : decode cX13_readsSetup 1 = .ok (.istore_n 1, 1) := by decide +kernel
theorem dX13_readsSetup_2 : decode cX13_readsSetup 2 = .ok (.iload_n 1, 1) := by decide +kernel
theorem dX13_readsSetup_3 : decode cX13_readsSetup 3 = .ok (.sipush 137, 3) := by decide +kernel
theorem dX13_readsSetup_6 : decode cX13_readsSetup 6 = .ok (.if_icmp .ge 16, 3) := by decide +kernel
theorem dX13_readsSetup_9 : decode cX13_readsSetup 9 = .ok (.aload_n 0, 1) := by decide +kernel
theorem dX13_readsSetup_10 : decode cX13_readsSetup 10 = .ok (.getfield 7, 3) := by decide +kernel
theorem dX13_readsSetup_13 : decode cX13_readsSetup 13 = .ok (.iload_n 1, 1) := by decide +kernel
theorem dX13_readsSetup_14 : decode cX13_readsSetup 14 = .ok (.iconst 0, 1) := by decide +kernel
theorem dX13_readsSetup_15 : decode cX13_readsSetup 15 = .ok (.iastore, 1) := by decide +kernel
theorem dX13_readsSetup_16 : decode cX13_readsSetup 16 = .ok (.iinc 1 1, 3) := by decide +kernel
theorem dX13_readsSetup_19 : decode cX13_readsSetup 19 = .ok (.goto (-17), 3) := by decide +kernel
theorem dX13_readsSetup_22 : decode cX13_readsSetup 22 = .ok (.aload_n 0, 1) := by decide +kernel
theorem dX13_readsSetup_23 : decode cX13_readsSetup 23 = .ok (.ldc 244, 2) := by decide +kernel
theorem dX13_readsSetup_25 : decode cX13_readsSetup 25 = .ok (.invokevirtual 246, 3) := by decide +kernel
theorem dX13_readsSetup_28 : decode cX13_readsSetup 28 = .ok (.aload_n 0, 1) := by decide +kernel
theorem dX13_readsSetup_29 : decode cX13_readsSetup 29 = .ok (.invokevirtual 235, 3) := by decide +kernel
theorem dX13_readsSetup_32 : decode cX13_readsSetup 32 = .ok (.aload_n 0, 1) := by decide +kernel
theorem dX13_readsSetup_33 : decode cX13_readsSetup 33 = .ok (.ldc 249, 2) := by decide +kernel
theorem dX13_readsSetup_35 : decode cX13_readsSetup 35 = .ok (.invokevirtual 202, 3) := by decide +kernel
theorem dX13_readsSetup_38 : decode cX13_readsSetup 38 = .ok (.ifCond .ne 8, 3) := by decide +kernel
theorem dX13_readsSetup_41 : decode cX13_readsSetup 41 = .ok (.aload_n 0, 1) := by decide +kernel
theorem dX13_readsSetup_42 : decode cX13_readsSetup 42 = .ok (.iconst 1, 1) := by decide +kernel
theorem dX13_readsSetup_43 : decode cX13_readsSetup 43 = .ok (.invokevirtual 206, 3) := by decide +kernel
theorem dX13_readsSetup_46 : decode cX13_readsSetup 46 = .ok (.aload_n 0, 1) := by decide +kernel
theorem dX13_readsSetup_47 : decode cX13_readsSetup 47 = .ok (.ldc 249, 2) := by decide +kernel
theorem dX13_readsSetup_49 : decode cX13_readsSetup 49 = .ok (.invokevirtual 202, 3) := by decide +kernel
theorem dX13_readsSetup_52 : decode cX13_readsSetup 52 = .ok (.ifCond .eq 10, 3) := by decide +kernel
theorem dX13_readsSetup_55 : decode cX13_readsSetup 55 = .ok (.aload_n 0, 1) := by decide +kernel
theorem dX13_readsSetup_56 : decode cX13_readsSetup 56 = .ok (.invokevirtual 251, 3) := by decide +kernel
theorem dX13_readsSetup_59 : decode cX13_readsSetup 59 = .ok (.goto (-13), 3) := by decide +kernel
theorem dX13_readsSetup_62 : decode cX13_readsSetup 62 = .ok (.aload_n 0, 1) := by decide +kernel
theorem dX13_readsSetup_63 : decode cX13_readsSetup 63 = .ok (.ldc 254, 2) := by decide +kernel
theorem dX13_readsSetup_65 : decode cX13_readsSetup 65 = .ok (.invokevirtual 202, 3) := by decide +kernel
theorem dX13_readsSetup_68 : decode cX13_readsSetup 68 = .ok (.ifCond .ne 8, 3) := by decide +kernel
theorem dX13_readsSetup_71 : decode cX13_readsSetup 71 = .ok (.aload_n 0, 1) := by decide +kernel
theorem dX13_readsSetup_72 : decode cX13_readsSetup 72 = .ok (.iconst 1, 1) := by decide +kernel
theorem dX13_readsSetup_73 : decode cX13_readsSetup 73 = .ok (.invokevirtual 206, 3) := by decide +kernel
theorem dX13_readsSetup_76 : decode cX13_readsSetup 76 = .ok (.aload_n 0, 1) := by decide +kernel
theorem dX13_readsSetup_77 : decode cX13_readsSetup 77 = .ok (.ldc 254, 2) := by decide +kernel
theorem dX13_readsSetup_79 : decode cX13_readsSetup 79 = .ok (.invokevirtual 202, 3) := by decide +kernel
theorem dX13_readsSetup_82 : decode cX13_readsSetup 82 = .ok (.ifCond .eq 10, 3) := by decide +kernel
theorem dX13_readsSetup_85 : decode cX13_readsSetup 85 = .ok (.aload_n 0, 1) := by decide +kernel
theorem dX13_readsSetup_86 : decode cX13_readsSetup 86 = .ok (.invokevirtual 256, 3) := by decide +kernel
theorem dX13_readsSetup_89 : decode cX13_readsSetup 89 = .ok (.goto (-13), 3) := by decide +kernel
theorem dX13_readsSetup_92 : decode cX13_readsSetup 92 = .ok (.aload_n 0, 1) := by decide +kernel
theorem dX13_readsSetup_93 : decode cX13_readsSetup 93 = .ok (.getfield 179, 3) := by decide +kernel
theorem dX13_readsSetup_96 : decode cX13_readsSetup 96 = .ok (.ifCond .eq 8, 3) := by decide +kernel
theorem dX13_readsSetup_99 : decode cX13_readsSetup 99 = .ok (.aload_n 0, 1) := by decide +kernel
theorem dX13_readsSetup_100 : decode cX13_readsSetup 100 = .ok (.iconst 1, 1) := by decide +kernel
theorem dX13_readsSetup_101 : decode cX13_readsSetup 101 = .ok (.invokevirtual 206, 3) := by decide +kernel
theorem dX13_readsSetup_104 : decode cX13_readsSetup 104 = .ok (.aload_n 0, 1) := by decide +kernel
theorem dX13_readsSetup_105 : decode cX13_readsSetup 105 = .ok (.getfield 7, 3) := by decide +kernel
theorem dX13_readsSetup_108 : decode cX13_readsSetup 108 = .ok (.bipush 7, 2) := by decide +kernel
theorem dX13_readsSetup_110 : decode cX13_readsSetup 110 = .ok (.aload_n 0, 1) := by decide +kernel
theorem dX13_readsSetup_111 : decode cX13_readsSetup 111 = .ok (.invokevirtual 259, 3) := by decide +kernel
theorem dX13_readsSetup_114 : decode cX13_readsSetup 114 = .ok (.iastore, 1) := by decide +kernel
theorem dX13_readsSetup_115 : decode cX13_readsSetup 115 = .ok (.return_, 1) := by decide +kernel
theorem dX13_kindOfWord_0 : decode cX13_kindOfWord 0 = .ok (.aload_n 0, 1) := by decide +kernel
theorem dX13_kindOfWord_1 : decode cX13_kindOfWord 1 = .ok (.ldc_w 262, 3) := by decide +kernel
theorem dX13_kindOfWord_4 : decode cX13_kindOfWord 4 = .ok (.invokevirtual 202, 3) := by decide +kernel
theorem dX13_kindOfWord_7 : decode cX13_kindOfWord 7 = .ok (.ifCond .eq 5, 3) := by decide +kernel
theorem dX13_kindOfWord_10 : decode cX13_kindOfWord 10 = .ok (.iconst 0, 1) := by decide +kernel
theorem dX13_kindOfWord_11 : decode cX13_kindOfWord 11 = .ok (.ireturn, 1) := by decide +kernel
theorem dX13_kindOfWord_12 : decode cX13_kindOfWord 12 = .ok (.aload_n 0, 1) := by decide +kernel
theorem dX13_kindOfWord_13 : decode cX13_kindOfWord 13 = .ok (.ldc_w 264, 3) := by decide +kernel
theorem dX13_kindOfWord_16 : decode cX13_kindOfWord 16 = .ok (.invokevirtual 202, 3) := by decide +kernel
theorem dX13_kindOfWord_19 : decode cX13_kindOfWord 19 = .ok (.ifCond .eq 5, 3) := by decide +kernel
theorem dX13_kindOfWord_22 : decode cX13_kindOfWord 22 = .ok (.iconst 1, 1) := by decide +kernel
theorem dX13_kindOfWord_23 : decode cX13_kindOfWord 23 = .ok (.ireturn, 1) := by decide +kernel
theorem dX13_kindOfWord_24 : decode cX13_kindOfWord 24 = .ok (.aload_n 0, 1) := by decide +kernel
theorem dX13_kindOfWord_25 : decode cX13_kindOfWord 25 = .ok (.ldc_w 266, 3) := by decide +kernel
theorem dX13_kindOfWord_28 : decode cX13_kindOfWord 28 = .ok (.invokevirtual 202, 3) := by decide +kernel
theorem dX13_kindOfWord_31 : decode cX13_kindOfWord 31 = .ok (.ifCond .eq 5, 3) := by decide +kernel
theorem dX13_kindOfWord_34 : decode cX13_kindOfWord 34 = .ok (.iconst 2, 1) := by decide +kernel
theorem dX13_kindOfWord_35 : decode cX13_kindOfWord 35 = .ok (.ireturn, 1) := by decide +kernel
theorem dX13_kindOfWord_36 : decode cX13_kindOfWord 36 = .ok (.aload_n 0, 1) := by decide +kernel
theorem dX13_kindOfWord_37 : decode cX13_kindOfWord 37 = .ok (.ldc_w 268, 3) := by decide +kernel
theorem dX13_kindOfWord_40 : decode cX13_kindOfWord 40 = .ok (.invokevirtual 202, 3) := by decide +kernel
theorem dX13_kindOfWord_43 : decode cX13_kindOfWord 43 = .ok (.ifCond .eq 5, 3) := by decide +kernel
theorem dX13_kindOfWord_46 : decode cX13_kindOfWord 46 = .ok (.iconst 3, 1) := by decide +kernel
theorem dX13_kindOfWord_47 : decode cX13_kindOfWord 47 = .ok (.ireturn, 1) := by decide +kernel
theorem dX13_kindOfWord_48 : decode cX13_kindOfWord 48 = .ok (.aload_n 0, 1) := by decide +kernel
theorem dX13_kindOfWord_49 : decode cX13_kindOfWord 49 = .ok (.ldc_w 270, 3) := by decide +kernel
theorem dX13_kindOfWord_52 : decode cX13_kindOfWord 52 = .ok (.invokevirtual 202, 3) := by decide +kernel
theorem dX13_kindOfWord_55 : decode cX13_kindOfWord 55 = .ok (.ifCond .eq 5, 3) := by decide +kernel
theorem dX13_kindOfWord_58 : decode cX13_kindOfWord 58 = .ok (.iconst 4, 1) := by decide +kernel
theorem dX13_kindOfWord_59 : decode cX13_kindOfWord 59 = .ok (.ireturn, 1) := by decide +kernel
theorem dX13_kindOfWord_60 : decode cX13_kindOfWord 60 = .ok (.aload_n 0, 1) := by decide +kernel
theorem dX13_kindOfWord_61 : decode cX13_kindOfWord 61 = .ok (.ldc_w 272, 3) := by decide +kernel
theorem dX13_kindOfWord_64 : decode cX13_kindOfWord 64 = .ok (.invokevirtual 202, 3) := by decide +kernel
theorem dX13_kindOfWord_67 : decode cX13_kindOfWord 67 = .ok (.ifCond .eq 7, 3) := by decide +kernel
theorem dX13_kindOfWord_70 : decode cX13_kindOfWord 70 = .ok (.iconst 5, 1) := by decide +kernel
theorem dX13_kindOfWord_71 : decode cX13_kindOfWord 71 = .ok (.goto 49, 3) := by decide +kernel
theorem dX13_kindOfWord_74 : decode cX13_kindOfWord 74 = .ok (.aload_n 0, 1) := by decide +kernel
theorem dX13_kindOfWord_75 : decode cX13_kindOfWord 75 = .ok (.ldc_w 274, 3) := by decide +kernel
theorem dX13_kindOfWord_78 : decode cX13_kindOfWord 78 = .ok (.invokevirtual 202, 3) := by decide +kernel
theorem dX13_kindOfWord_81 : decode cX13_kindOfWord 81 = .ok (.ifCond .eq 8, 3) := by decide +kernel
theorem dX13_kindOfWord_84 : decode cX13_kindOfWord 84 = .ok (.bipush 6, 2) := by decide +kernel
theorem dX13_kindOfWord_86 : decode cX13_kindOfWord 86 = .ok (.goto 34, 3) := by decide +kernel
theorem dX13_kindOfWord_89 : decode cX13_kindOfWord 89 = .ok (.aload_n 0, 1) := by decide +kernel
theorem dX13_kindOfWord_90 : decode cX13_kindOfWord 90 = .ok (.ldc_w 276, 3) := by decide +kernel
theorem dX13_kindOfWord_93 : decode cX13_kindOfWord 93 = .ok (.invokevirtual 202, 3) := by decide +kernel
theorem dX13_kindOfWord_96 : decode cX13_kindOfWord 96 = .ok (.ifCond .eq 8, 3) := by decide +kernel
theorem dX13_kindOfWord_99 : decode cX13_kindOfWord 99 = .ok (.bipush 7, 2) := by decide +kernel
theorem dX13_kindOfWord_101 : decode cX13_kindOfWord 101 = .ok (.goto 19, 3) := by decide +kernel
theorem dX13_kindOfWord_104 : decode cX13_kindOfWord 104 = .ok (.aload_n 0, 1) := by decide +kernel
theorem dX13_kindOfWord_105 : decode cX13_kindOfWord 105 = .ok (.ldc_w 278, 3) := by decide +kernel
theorem dX13_kindOfWord_108 : decode cX13_kindOfWord 108 = .ok (.invokevirtual 202, 3) := by decide +kernel
theorem dX13_kindOfWord_111 : decode cX13_kindOfWord 111 = .ok (.ifCond .eq 8, 3) := by decide +kernel
theorem dX13_kindOfWord_114 : decode cX13_kindOfWord 114 = .ok (.bipush 8, 2) := by decide +kernel
theorem dX13_kindOfWord_116 : decode cX13_kindOfWord 116 = .ok (.goto 4, 3) := by decide +kernel
theorem dX13_kindOfWord_119 : decode cX13_kindOfWord 119 = .ok (.iconst (-1), 1) := by decide +kernel
theorem dX13_kindOfWord_120 : decode cX13_kindOfWord 120 = .ok (.ireturn, 1) := by decide +kernel
theorem dX13_readsNumbers_0 : decode cX13_readsNumbers 0 = .ok (.iload_n 2, 1) := by decide +kernel
theorem dX13_readsNumbers_1 : decode cX13_readsNumbers 1 = .ok (.lookupswitch 95 #[(3, 35), (6, 65), (8, 47)], 35) := by decide +kernel
theorem dX13_readsNumbers_36 : decode cX13_readsNumbers 36 = .ok (.aload_n 0, 1) := by decide +kernel
theorem dX13_readsNumbers_37 : decode cX13_readsNumbers 37 = .ok (.getfield 51, 3) := by decide +kernel
theorem dX13_readsNumbers_40 : decode cX13_readsNumbers 40 = .ok (.iload_n 1, 1) := by decide +kernel
theorem dX13_readsNumbers_41 : decode cX13_readsNumbers 41 = .ok (.iconst 1, 1) := by decide +kernel
theorem dX13_readsNumbers_42 : decode cX13_readsNumbers 42 = .ok (.iadd, 1) := by decide +kernel
theorem dX13_readsNumbers_43 : decode cX13_readsNumbers 43 = .ok (.iconst 0, 1) := by decide +kernel
theorem dX13_readsNumbers_44 : decode cX13_readsNumbers 44 = .ok (.iastore, 1) := by decide +kernel
theorem dX13_readsNumbers_45 : decode cX13_readsNumbers 45 = .ok (.goto 76, 3) := by decide +kernel
theorem dX13_readsNumbers_48 : decode cX13_readsNumbers 48 = .ok (.aload_n 0, 1) := by decide +kernel
theorem dX13_readsNumbers_49 : decode cX13_readsNumbers 49 = .ok (.getfield 51, 3) := by decide +kernel
theorem dX13_readsNumbers_52 : decode cX13_readsNumbers 52 = .ok (.iload_n 1, 1) := by decide +kernel
theorem dX13_readsNumbers_53 : decode cX13_readsNumbers 53 = .ok (.iconst 1, 1) := by decide +kernel
theorem dX13_readsNumbers_54 : decode cX13_readsNumbers 54 = .ok (.iadd, 1) := by decide +kernel
theorem dX13_readsNumbers_55 : decode cX13_readsNumbers 55 = .ok (.aload_n 0, 1) := by decide +kernel
theorem dX13_readsNumbers_56 : decode cX13_readsNumbers 56 = .ok (.iconst 1, 1) := by decide +kernel
theorem dX13_readsNumbers_57 : decode cX13_readsNumbers 57 = .ok (.bipush 99, 2) := by decide +kernel
theorem dX13_readsNumbers_59 : decode cX13_readsNumbers 59 = .ok (.invokevirtual 232, 3) := by decide +kernel
theorem dX13_readsNumbers_62 : decode cX13_readsNumbers 62 = .ok (.iastore, 1) := by decide +kernel
theorem dX13_readsNumbers_63 : decode cX13_readsNumbers 63 = .ok (.goto 58, 3) := by decide +kernel
theorem dX13_readsNumbers_66 : decode cX13_readsNumbers 66 = .ok (.aload_n 0, 1) := by decide +kernel
theorem dX13_readsNumbers_67 : decode cX13_readsNumbers 67 = .ok (.getfield 51, 3) := by decide +kernel
theorem dX13_readsNumbers_70 : decode cX13_readsNumbers 70 = .ok (.iload_n 1, 1) := by decide +kernel
theorem dX13_readsNumbers_71 : decode cX13_readsNumbers 71 = .ok (.iconst 1, 1) := by decide +kernel
theorem dX13_readsNumbers_72 : decode cX13_readsNumbers 72 = .ok (.iadd, 1) := by decide +kernel
theorem dX13_readsNumbers_73 : decode cX13_readsNumbers 73 = .ok (.aload_n 0, 1) := by decide +kernel
theorem dX13_readsNumbers_74 : decode cX13_readsNumbers 74 = .ok (.invokevirtual 280, 3) := by decide +kernel
theorem dX13_readsNumbers_77 : decode cX13_readsNumbers 77 = .ok (.iastore, 1) := by decide +kernel
theorem dX13_readsNumbers_78 : decode cX13_readsNumbers 78 = .ok (.aload_n 0, 1) := by decide +kernel
theorem dX13_readsNumbers_79 : decode cX13_readsNumbers 79 = .ok (.getfield 51, 3) := by decide +kernel
theorem dX13_readsNumbers_82 : decode cX13_readsNumbers 82 = .ok (.iload_n 1, 1) := by decide +kernel
theorem dX13_readsNumbers_83 : decode cX13_readsNumbers 83 = .ok (.iconst 2, 1) := by decide +kernel
theorem dX13_readsNumbers_84 : decode cX13_readsNumbers 84 = .ok (.iadd, 1) := by decide +kernel
theorem dX13_readsNumbers_85 : decode cX13_readsNumbers 85 = .ok (.aload_n 0, 1) := by decide +kernel
theorem dX13_readsNumbers_86 : decode cX13_readsNumbers 86 = .ok (.iconst 0, 1) := by decide +kernel
theorem dX13_readsNumbers_87 : decode cX13_readsNumbers 87 = .ok (.bipush 99, 2) := by decide +kernel
theorem dX13_readsNumbers_89 : decode cX13_readsNumbers 89 = .ok (.invokevirtual 232, 3) := by decide +kernel
theorem dX13_readsNumbers_92 : decode cX13_readsNumbers 92 = .ok (.iastore, 1) := by decide +kernel
theorem dX13_readsNumbers_93 : decode cX13_readsNumbers 93 = .ok (.goto 28, 3) := by decide +kernel
theorem dX13_readsNumbers_96 : decode cX13_readsNumbers 96 = .ok (.aload_n 0, 1) := by decide +kernel
theorem dX13_readsNumbers_97 : decode cX13_readsNumbers 97 = .ok (.getfield 51, 3) := by decide +kernel
theorem dX13_readsNumbers_100 : decode cX13_readsNumbers 100 = .ok (.iload_n 1, 1) := by decide +kernel
theorem dX13_readsNumbers_101 : decode cX13_readsNumbers 101 = .ok (.iconst 1, 1) := by decide +kernel
theorem dX13_readsNumbers_102 : decode cX13_readsNumbers 102 = .ok (.iadd, 1) := by decide +kernel
theorem dX13_readsNumbers_103 : decode cX13_readsNumbers 103 = .ok (.aload_n 0, 1) := by decide +kernel
theorem dX13_readsNumbers_104 : decode cX13_readsNumbers 104 = .ok (.invokevirtual 283, 3) := by decide +kernel
theorem dX13_readsNumbers_107 : decode cX13_readsNumbers 107 = .ok (.iastore, 1) := by decide +kernel
theorem dX13_readsNumbers_108 : decode cX13_readsNumbers 108 = .ok (.aload_n 0, 1) := by decide +kernel
theorem dX13_readsNumbers_109 : decode cX13_readsNumbers 109 = .ok (.getfield 51, 3) := by decide +kernel
theorem dX13_readsNumbers_112 : decode cX13_readsNumbers 112 = .ok (.iload_n 1, 1) := by decide +kernel
theorem dX13_readsNumbers_113 : decode cX13_readsNumbers 113 = .ok (.iconst 2, 1) := by decide +kernel
theorem dX13_readsNumbers_114 : decode cX13_readsNumbers 114 = .ok (.iadd, 1) := by decide +kernel
theorem dX13_readsNumbers_115 : decode cX13_readsNumbers 115 = .ok (.aload_n 0, 1) := by decide +kernel
theorem dX13_readsNumbers_116 : decode cX13_readsNumbers 116 = .ok (.iload_n 2, 1) := by decide +kernel
theorem dX13_readsNumbers_117 : decode cX13_readsNumbers 117 = .ok (.invokevirtual 286, 3) := by decide +kernel
theorem dX13_readsNumbers_120 : decode cX13_readsNumbers 120 = .ok (.iastore, 1) := by decide +kernel
theorem dX13_readsNumbers_121 : decode cX13_readsNumbers 121 = .ok (.return_, 1) := by decide +kernel
theorem dX13_secondOf_0 : decode cX13_secondOf 0 = .ok (.iload_n 1, 1) := by decide +kernel
theorem dX13_secondOf_1 : decode cX13_secondOf 1 = .ok (.lookupswitch 51 #[(1, 35), (2, 37), (7, 42)], 35) := by decide +kernel
theorem dX13_secondOf_36 : decode cX13_secondOf 36 = .ok (.iconst 0, 1) := by decide +kernel
theorem dX13_secondOf_37 : decode cX13_secondOf 37 = .ok (.ireturn, 1) := by decide +kernel
theorem dX13_secondOf_38 : decode cX13_secondOf 38 = .ok (.aload_n 0, 1) := by decide +kernel
theorem dX13_secondOf_39 : decode cX13_secondOf 39 = .ok (.invokevirtual 283, 3) := by decide +kernel
theorem dX13_secondOf_42 : decode cX13_secondOf 42 = .ok (.ireturn, 1) := by decide +kernel
theorem dX13_secondOf_43 : decode cX13_secondOf 43 = .ok (.aload_n 0, 1) := by decide +kernel
theorem dX13_secondOf_44 : decode cX13_secondOf 44 = .ok (.iconst 1, 1) := by decide +kernel
theorem dX13_secondOf_45 : decode cX13_secondOf 45 = .ok (.sipush 999, 3) := by decide +kernel
theorem dX13_secondOf_48 : decode cX13_secondOf 48 = .ok (.invokevirtual 232, 3) := by decide +kernel
theorem dX13_secondOf_51 : decode cX13_secondOf 51 = .ok (.ireturn, 1) := by decide +kernel
theorem dX13_secondOf_52 : decode cX13_secondOf 52 = .ok (.aload_n 0, 1) := by decide +kernel
theorem dX13_secondOf_53 : decode cX13_secondOf 53 = .ok (.invokevirtual 280, 3) := by decide +kernel
theorem dX13_secondOf_56 : decode cX13_secondOf 56 = .ok (.ireturn, 1) := by decide +kernel
theorem dX13_readsCommand_0 : decode cX13_readsCommand 0 = .ok (.aload_n 0, 1) := by decide +kernel
theorem dX13_readsCommand_1 : decode cX13_readsCommand 1 = .ok (.invokevirtual 289, 3) := by decide +kernel
theorem dX13_readsCommand_4 : decode cX13_readsCommand 4 = .ok (.istore_n 1, 1) := by decide +kernel
theorem dX13_readsCommand_5 : decode cX13_readsCommand 5 = .ok (.iload_n 1, 1) := by decide +kernel
theorem dX13_readsCommand_6 : decode cX13_readsCommand 6 = .ok (.iconst (-1), 1) := by decide +kernel
theorem dX13_readsCommand_7 : decode cX13_readsCommand 7 = .ok (.if_icmp .ne 9, 3) := by decide +kernel
theorem dX13_readsCommand_10 : decode cX13_readsCommand 10 = .ok (.aload_n 0, 1) := by decide +kernel
theorem dX13_readsCommand_11 : decode cX13_readsCommand 11 = .ok (.iconst 1, 1) := by decide +kernel
theorem dX13_readsCommand_12 : decode cX13_readsCommand 12 = .ok (.invokevirtual 206, 3) := by decide +kernel
theorem dX13_readsCommand_15 : decode cX13_readsCommand 15 = .ok (.return_, 1) := by decide +kernel
theorem dX13_readsCommand_16 : decode cX13_readsCommand 16 = .ok (.aload_n 0, 1) := by decide +kernel
theorem dX13_readsCommand_17 : decode cX13_readsCommand 17 = .ok (.getfield 292, 3) := by decide +kernel
theorem dX13_readsCommand_20 : decode cX13_readsCommand 20 = .ok (.bipush 20, 2) := by decide +kernel
theorem dX13_readsCommand_22 : decode cX13_readsCommand 22 = .ok (.if_icmp .ne 9, 3) := by decide +kernel
theorem dX13_readsCommand_25 : decode cX13_readsCommand 25 = .ok (.aload_n 0, 1) := by decide +kernel
theorem dX13_readsCommand_26 : decode cX13_readsCommand 26 = .ok (.iconst 5, 1) := by decide +kernel
theorem dX13_readsCommand_27 : decode cX13_readsCommand 27 = .ok (.invokevirtual 206, 3) := by decide +kernel
theorem dX13_readsCommand_30 : decode cX13_readsCommand 30 = .ok (.return_, 1) := by decide +kernel
theorem dX13_readsCommand_31 : decode cX13_readsCommand 31 = .ok (.aload_n 0, 1) := by decide +kernel
theorem dX13_readsCommand_32 : decode cX13_readsCommand 32 = .ok (.invokevirtual 199, 3) := by decide +kernel
theorem dX13_readsCommand_35 : decode cX13_readsCommand 35 = .ok (.iconst 3, 1) := by decide +kernel
theorem dX13_readsCommand_36 : decode cX13_readsCommand 36 = .ok (.aload_n 0, 1) := by decide +kernel
theorem dX13_readsCommand_37 : decode cX13_readsCommand 37 = .ok (.getfield 292, 3) := by decide +kernel
theorem dX13_readsCommand_40 : decode cX13_readsCommand 40 = .ok (.imul, 1) := by decide +kernel
theorem dX13_readsCommand_41 : decode cX13_readsCommand 41 = .ok (.istore_n 2, 1) := by decide +kernel
theorem dX13_readsCommand_42 : decode cX13_readsCommand 42 = .ok (.aload_n 0, 1) := by decide +kernel
theorem dX13_readsCommand_43 : decode cX13_readsCommand 43 = .ok (.getfield 51, 3) := by decide +kernel
theorem dX13_readsCommand_46 : decode cX13_readsCommand 46 = .ok (.iload_n 2, 1) := by decide +kernel
theorem dX13_readsCommand_47 : decode cX13_readsCommand 47 = .ok (.iload_n 1, 1) := by decide +kernel
theorem dX13_readsCommand_48 : decode cX13_readsCommand 48 = .ok (.iastore, 1) := by decide +kernel
theorem dX13_readsCommand_49 : decode cX13_readsCommand 49 = .ok (.aload_n 0, 1) := by decide +kernel
theorem dX13_readsCommand_50 : decode cX13_readsCommand 50 = .ok (.iload_n 2, 1) := by decide +kernel
theorem dX13_readsCommand_51 : decode cX13_readsCommand 51 = .ok (.iload_n 1, 1) := by decide +kernel
theorem dX13_readsCommand_52 : decode cX13_readsCommand 52 = .ok (.invokevirtual 295, 3) := by decide +kernel
theorem dX13_readsCommand_55 : decode cX13_readsCommand 55 = .ok (.aload_n 0, 1) := by decide +kernel
theorem dX13_readsCommand_56 : decode cX13_readsCommand 56 = .ok (.invokevirtual 235, 3) := by decide +kernel
theorem dX13_readsCommand_59 : decode cX13_readsCommand 59 = .ok (.aload_n 0, 1) := by decide +kernel
theorem dX13_readsCommand_60 : decode cX13_readsCommand 60 = .ok (.dup, 1) := by decide +kernel
theorem dX13_readsCommand_61 : decode cX13_readsCommand 61 = .ok (.getfield 292, 3) := by decide +kernel
theorem dX13_readsCommand_64 : decode cX13_readsCommand 64 = .ok (.iconst 1, 1) := by decide +kernel
theorem dX13_readsCommand_65 : decode cX13_readsCommand 65 = .ok (.iadd, 1) := by decide +kernel
theorem dX13_readsCommand_66 : decode cX13_readsCommand 66 = .ok (.putfield 292, 3) := by decide +kernel
theorem dX13_readsCommand_69 : decode cX13_readsCommand 69 = .ok (.return_, 1) := by decide +kernel
theorem dX13_does_0 : decode cX13_does 0 = .ok (.aload_n 0, 1) := by decide +kernel
theorem dX13_does_1 : decode cX13_does 1 = .ok (.getfield 51, 3) := by decide +kernel
theorem dX13_does_4 : decode cX13_does 4 = .ok (.iload_n 1, 1) := by decide +kernel
theorem dX13_does_5 : decode cX13_does 5 = .ok (.iconst 1, 1) := by decide +kernel
theorem dX13_does_6 : decode cX13_does 6 = .ok (.iadd, 1) := by decide +kernel
theorem dX13_does_7 : decode cX13_does 7 = .ok (.iaload, 1) := by decide +kernel
theorem dX13_does_8 : decode cX13_does 8 = .ok (.istore_n 2, 1) := by decide +kernel
theorem dX13_does_9 : decode cX13_does 9 = .ok (.aload_n 0, 1) := by decide +kernel
theorem dX13_does_10 : decode cX13_does 10 = .ok (.getfield 51, 3) := by decide +kernel
theorem dX13_does_13 : decode cX13_does 13 = .ok (.iload_n 1, 1) := by decide +kernel
theorem dX13_does_14 : decode cX13_does 14 = .ok (.iconst 2, 1) := by decide +kernel
theorem dX13_does_15 : decode cX13_does 15 = .ok (.iadd, 1) := by decide +kernel
theorem dX13_does_16 : decode cX13_does 16 = .ok (.iaload, 1) := by decide +kernel
theorem dX13_does_17 : decode cX13_does 17 = .ok (.istore_n 3, 1) := by decide +kernel
theorem dX13_does_18 : decode cX13_does 18 = .ok (.aload_n 0, 1) := by decide +kernel
theorem dX13_does_19 : decode cX13_does 19 = .ok (.getfield 51, 3) := by decide +kernel
theorem dX13_does_22 : decode cX13_does 22 = .ok (.iload_n 1, 1) := by decide +kernel
theorem dX13_does_23 : decode cX13_does 23 = .ok (.iaload, 1) := by decide +kernel
theorem dX13_does_24 : decode cX13_does 24 = .ok (.tableswitch 206 0 7 #[48, 73, 98, 122, 135, 150, 175, 191], 48) := by decide +kernel
theorem dX13_does_72 : decode cX13_does 72 = .ok (.aload_n 0, 1) := by decide +kernel
theorem dX13_does_73 : decode cX13_does 73 = .ok (.iload_n 2, 1) := by decide +kernel
theorem dX13_does_74 : decode cX13_does 74 = .ok (.iload_n 3, 1) := by decide +kernel
theorem dX13_does_75 : decode cX13_does 75 = .ok (.invokevirtual 298, 3) := by decide +kernel
theorem dX13_does_78 : decode cX13_does 78 = .ok (.ifCond .eq 17, 3) := by decide +kernel
theorem dX13_does_81 : decode cX13_does 81 = .ok (.aload_n 0, 1) := by decide +kernel
theorem dX13_does_82 : decode cX13_does 82 = .ok (.iload_n 2, 1) := by decide +kernel
theorem dX13_does_83 : decode cX13_does 83 = .ok (.iload_n 3, 1) := by decide +kernel
theorem dX13_does_84 : decode cX13_does 84 = .ok (.invokevirtual 301, 3) := by decide +kernel
theorem dX13_does_87 : decode cX13_does 87 = .ok (.iconst (-1), 1) := by decide +kernel
theorem dX13_does_88 : decode cX13_does 88 = .ok (.if_icmp .lt 7, 3) := by decide +kernel
theorem dX13_does_91 : decode cX13_does 91 = .ok (.iconst 1, 1) := by decide +kernel
theorem dX13_does_92 : decode cX13_does 92 = .ok (.goto 4, 3) := by decide +kernel
theorem dX13_does_95 : decode cX13_does 95 = .ok (.iconst 0, 1) := by decide +kernel
theorem dX13_does_96 : decode cX13_does 96 = .ok (.ireturn, 1) := by decide +kernel
theorem dX13_does_97 : decode cX13_does 97 = .ok (.aload_n 0, 1) := by decide +kernel
theorem dX13_does_98 : decode cX13_does 98 = .ok (.iload_n 2, 1) := by decide +kernel
theorem dX13_does_99 : decode cX13_does 99 = .ok (.iconst 3, 1) := by decide +kernel
theorem dX13_does_100 : decode cX13_does 100 = .ok (.invokevirtual 98, 3) := by decide +kernel
theorem dX13_does_103 : decode cX13_does 103 = .ok (.iconst (-1), 1) := by decide +kernel
theorem dX13_does_104 : decode cX13_does 104 = .ok (.if_icmp .eq 16, 3) := by decide +kernel
theorem dX13_does_107 : decode cX13_does 107 = .ok (.aload_n 0, 1) := by decide +kernel
theorem dX13_does_108 : decode cX13_does 108 = .ok (.iload_n 2, 1) := by decide +kernel
theorem dX13_does_109 : decode cX13_does 109 = .ok (.iconst (-1), 1) := by decide +kernel
theorem dX13_does_110 : decode cX13_does 110 = .ok (.invokevirtual 301, 3) := by decide +kernel
theorem dX13_does_113 : decode cX13_does 113 = .ok (.ifCond .lt 7, 3) := by decide +kernel
theorem dX13_does_116 : decode cX13_does 116 = .ok (.iconst 1, 1) := by decide +kernel
theorem dX13_does_117 : decode cX13_does 117 = .ok (.goto 4, 3) := by decide +kernel
theorem dX13_does_120 : decode cX13_does 120 = .ok (.iconst 0, 1) := by decide +kernel
theorem dX13_does_121 : decode cX13_does 121 = .ok (.ireturn, 1) := by decide +kernel
theorem dX13_does_122 : decode cX13_does 122 = .ok (.aload_n 0, 1) := by decide +kernel
theorem dX13_does_123 : decode cX13_does 123 = .ok (.iload_n 2, 1) := by decide +kernel
theorem dX13_does_124 : decode cX13_does 124 = .ok (.iload_n 3, 1) := by decide +kernel
theorem dX13_does_125 : decode cX13_does 125 = .ok (.invokevirtual 304, 3) := by decide +kernel
theorem dX13_does_128 : decode cX13_does 128 = .ok (.ifCond .eq 16, 3) := by decide +kernel
theorem dX13_does_131 : decode cX13_does 131 = .ok (.aload_n 0, 1) := by decide +kernel
theorem dX13_does_132 : decode cX13_does 132 = .ok (.iload_n 2, 1) := by decide +kernel
theorem dX13_does_133 : decode cX13_does 133 = .ok (.iload_n 3, 1) := by decide +kernel
theorem dX13_does_134 : decode cX13_does 134 = .ok (.invokevirtual 307, 3) := by decide +kernel
theorem dX13_does_137 : decode cX13_does 137 = .ok (.ifCond .lt 7, 3) := by decide +kernel
theorem dX13_does_140 : decode cX13_does 140 = .ok (.iconst 1, 1) := by decide +kernel
theorem dX13_does_141 : decode cX13_does 141 = .ok (.goto 4, 3) := by decide +kernel
theorem dX13_does_144 : decode cX13_does 144 = .ok (.iconst 0, 1) := by decide +kernel
theorem dX13_does_145 : decode cX13_does 145 = .ok (.ireturn, 1) := by decide +kernel
theorem dX13_does_146 : decode cX13_does 146 = .ok (.aload_n 0, 1) := by decide +kernel
theorem dX13_does_147 : decode cX13_does 147 = .ok (.invokevirtual 310, 3) := by decide +kernel
theorem dX13_does_150 : decode cX13_does 150 = .ok (.ifCond .lt 7, 3) := by decide +kernel
theorem dX13_does_153 : decode cX13_does 153 = .ok (.iconst 1, 1) := by decide +kernel
theorem dX13_does_154 : decode cX13_does 154 = .ok (.goto 4, 3) := by decide +kernel
theorem dX13_does_157 : decode cX13_does 157 = .ok (.iconst 0, 1) := by decide +kernel
theorem dX13_does_158 : decode cX13_does 158 = .ok (.ireturn, 1) := by decide +kernel
theorem dX13_does_159 : decode cX13_does 159 = .ok (.aload_n 0, 1) := by decide +kernel
theorem dX13_does_160 : decode cX13_does 160 = .ok (.iload_n 2, 1) := by decide +kernel
theorem dX13_does_161 : decode cX13_does 161 = .ok (.iload_n 3, 1) := by decide +kernel
theorem dX13_does_162 : decode cX13_does 162 = .ok (.invokevirtual 313, 3) := by decide +kernel
theorem dX13_does_165 : decode cX13_does 165 = .ok (.ifCond .le 7, 3) := by decide +kernel
theorem dX13_does_168 : decode cX13_does 168 = .ok (.iconst 1, 1) := by decide +kernel
theorem dX13_does_169 : decode cX13_does 169 = .ok (.goto 4, 3) := by decide +kernel
theorem dX13_does_172 : decode cX13_does 172 = .ok (.iconst 0, 1) := by decide +kernel
theorem dX13_does_173 : decode cX13_does 173 = .ok (.ireturn, 1) := by decide +kernel
theorem dX13_does_174 : decode cX13_does 174 = .ok (.aload_n 0, 1) := by decide +kernel
theorem dX13_does_175 : decode cX13_does 175 = .ok (.iload_n 2, 1) := by decide +kernel
theorem dX13_does_176 : decode cX13_does 176 = .ok (.iload_n 3, 1) := by decide +kernel
theorem dX13_does_177 : decode cX13_does 177 = .ok (.invokevirtual 102, 3) := by decide +kernel
theorem dX13_does_180 : decode cX13_does 180 = .ok (.iconst (-1), 1) := by decide +kernel
theorem dX13_does_181 : decode cX13_does 181 = .ok (.if_icmp .eq 16, 3) := by decide +kernel
theorem dX13_does_184 : decode cX13_does 184 = .ok (.aload_n 0, 1) := by decide +kernel
theorem dX13_does_185 : decode cX13_does 185 = .ok (.iload_n 2, 1) := by decide +kernel
theorem dX13_does_186 : decode cX13_does 186 = .ok (.iload_n 3, 1) := by decide +kernel
theorem dX13_does_187 : decode cX13_does 187 = .ok (.invokevirtual 158, 3) := by decide +kernel
theorem dX13_does_190 : decode cX13_does 190 = .ok (.ifCond .lt 7, 3) := by decide +kernel
theorem dX13_does_193 : decode cX13_does 193 = .ok (.iconst 1, 1) := by decide +kernel
theorem dX13_does_194 : decode cX13_does 194 = .ok (.goto 4, 3) := by decide +kernel
theorem dX13_does_197 : decode cX13_does 197 = .ok (.iconst 0, 1) := by decide +kernel
theorem dX13_does_198 : decode cX13_does 198 = .ok (.ireturn, 1) := by decide +kernel
theorem dX13_does_199 : decode cX13_does 199 = .ok (.aload_n 0, 1) := by decide +kernel
theorem dX13_does_200 : decode cX13_does 200 = .ok (.getfield 7, 3) := by decide +kernel
theorem dX13_does_203 : decode cX13_does 203 = .ok (.bipush 9, 2) := by decide +kernel
theorem dX13_does_205 : decode cX13_does 205 = .ok (.iconst 2, 1) := by decide +kernel
theorem dX13_does_206 : decode cX13_does 206 = .ok (.iload_n 2, 1) := by decide +kernel
theorem dX13_does_207 : decode cX13_does 207 = .ok (.imul, 1) := by decide +kernel
theorem dX13_does_208 : decode cX13_does 208 = .ok (.iadd, 1) := by decide +kernel
theorem dX13_does_209 : decode cX13_does 209 = .ok (.iconst 1, 1) := by decide +kernel
theorem dX13_does_210 : decode cX13_does 210 = .ok (.iadd, 1) := by decide +kernel
theorem dX13_does_211 : decode cX13_does 211 = .ok (.iload_n 3, 1) := by decide +kernel
theorem dX13_does_212 : decode cX13_does 212 = .ok (.iastore, 1) := by decide +kernel
theorem dX13_does_213 : decode cX13_does 213 = .ok (.iconst 1, 1) := by decide +kernel
theorem dX13_does_214 : decode cX13_does 214 = .ok (.ireturn, 1) := by decide +kernel
theorem dX13_does_215 : decode cX13_does 215 = .ok (.aload_n 0, 1) := by decide +kernel
theorem dX13_does_216 : decode cX13_does 216 = .ok (.iload_n 2, 1) := by decide +kernel
theorem dX13_does_217 : decode cX13_does 217 = .ok (.iload_n 3, 1) := by decide +kernel
theorem dX13_does_218 : decode cX13_does 218 = .ok (.invokevirtual 161, 3) := by decide +kernel
theorem dX13_does_221 : decode cX13_does 221 = .ok (.ifCond .le 7, 3) := by decide +kernel
theorem dX13_does_224 : decode cX13_does 224 = .ok (.iconst 1, 1) := by decide +kernel
theorem dX13_does_225 : decode cX13_does 225 = .ok (.goto 4, 3) := by decide +kernel
theorem dX13_does_228 : decode cX13_does 228 = .ok (.iconst 0, 1) := by decide +kernel
theorem dX13_does_229 : decode cX13_does 229 = .ok (.ireturn, 1) := by decide +kernel
theorem dX13_does_230 : decode cX13_does 230 = .ok (.aload_n 0, 1) := by decide +kernel
theorem dX13_does_231 : decode cX13_does 231 = .ok (.getfield 7, 3) := by decide +kernel
theorem dX13_does_234 : decode cX13_does 234 = .ok (.iconst 2, 1) := by decide +kernel
theorem dX13_does_235 : decode cX13_does 235 = .ok (.iaload, 1) := by decide +kernel
theorem dX13_does_236 : decode cX13_does 236 = .ok (.iload_n 2, 1) := by decide +kernel
theorem dX13_does_237 : decode cX13_does 237 = .ok (.iadd, 1) := by decide +kernel
theorem dX13_does_238 : decode cX13_does 238 = .ok (.sipush 9999, 3) := by decide +kernel
theorem dX13_does_241 : decode cX13_does 241 = .ok (.if_icmp .gt 15, 3) := by decide +kernel
theorem dX13_does_244 : decode cX13_does 244 = .ok (.aload_n 0, 1) := by decide +kernel
theorem dX13_does_245 : decode cX13_does 245 = .ok (.iload_n 2, 1) := by decide +kernel
theorem dX13_does_246 : decode cX13_does 246 = .ok (.invokevirtual 316, 3) := by decide +kernel
theorem dX13_does_249 : decode cX13_does 249 = .ok (.ifCond .lt 7, 3) := by decide +kernel
theorem dX13_does_252 : decode cX13_does 252 = .ok (.iconst 1, 1) := by decide +kernel
theorem dX13_does_253 : decode cX13_does 253 = .ok (.goto 4, 3) := by decide +kernel
theorem dX13_does_256 : decode cX13_does 256 = .ok (.iconst 0, 1) := by decide +kernel
theorem dX13_does_257 : decode cX13_does 257 = .ok (.ireturn, 1) := by decide +kernel
theorem dX13_appendInput_0 : decode cX13_appendInput 0 = .ok (.aload_n 0, 1) := by decide +kernel
theorem dX13_appendInput_1 : decode cX13_appendInput 1 = .ok (.aload_n 0, 1) := by decide +kernel
theorem dX13_appendInput_2 : decode cX13_appendInput 2 = .ok (.getfield 74, 3) := by decide +kernel
theorem dX13_appendInput_5 : decode cX13_appendInput 5 = .ok (.bipush 20, 2) := by decide +kernel
theorem dX13_appendInput_7 : decode cX13_appendInput 7 = .ok (.iadd, 1) := by decide +kernel
theorem dX13_appendInput_8 : decode cX13_appendInput 8 = .ok (.sipush 700, 3) := by decide +kernel
theorem dX13_appendInput_11 : decode cX13_appendInput 11 = .ok (.if_icmp .le 7, 3) := by decide +kernel
theorem dX13_appendInput_14 : decode cX13_appendInput 14 = .ok (.iconst 1, 1) := by decide +kernel
theorem dX13_appendInput_15 : decode cX13_appendInput 15 = .ok (.goto 4, 3) := by decide +kernel
theorem dX13_appendInput_18 : decode cX13_appendInput 18 = .ok (.iconst 0, 1) := by decide +kernel
theorem dX13_appendInput_19 : decode cX13_appendInput 19 = .ok (.putfield 77, 3) := by decide +kernel
theorem dX13_appendInput_22 : decode cX13_appendInput 22 = .ok (.aload_n 0, 1) := by decide +kernel
theorem dX13_appendInput_23 : decode cX13_appendInput 23 = .ok (.getfield 77, 3) := by decide +kernel
theorem dX13_appendInput_26 : decode cX13_appendInput 26 = .ok (.ifCond .le 5, 3) := by decide +kernel
theorem dX13_appendInput_29 : decode cX13_appendInput 29 = .ok (.iconst 0, 1) := by decide +kernel
theorem dX13_appendInput_30 : decode cX13_appendInput 30 = .ok (.ireturn, 1) := by decide +kernel
theorem dX13_appendInput_31 : decode cX13_appendInput 31 = .ok (.aload_n 0, 1) := by decide +kernel
theorem dX13_appendInput_32 : decode cX13_appendInput 32 = .ok (.iload_n 1, 1) := by decide +kernel
theorem dX13_appendInput_33 : decode cX13_appendInput 33 = .ok (.invokevirtual 319, 3) := by decide +kernel
theorem dX13_appendInput_36 : decode cX13_appendInput 36 = .ok (.aload_n 0, 1) := by decide +kernel
theorem dX13_appendInput_37 : decode cX13_appendInput 37 = .ok (.iload_n 2, 1) := by decide +kernel
theorem dX13_appendInput_38 : decode cX13_appendInput 38 = .ok (.invokevirtual 319, 3) := by decide +kernel
theorem dX13_appendInput_41 : decode cX13_appendInput 41 = .ok (.aload_n 0, 1) := by decide +kernel
theorem dX13_appendInput_42 : decode cX13_appendInput 42 = .ok (.iload_n 3, 1) := by decide +kernel
theorem dX13_appendInput_43 : decode cX13_appendInput 43 = .ok (.invokevirtual 319, 3) := by decide +kernel
theorem dX13_appendInput_46 : decode cX13_appendInput 46 = .ok (.aload_n 0, 1) := by decide +kernel
theorem dX13_appendInput_47 : decode cX13_appendInput 47 = .ok (.iload 4, 2) := by decide +kernel
theorem dX13_appendInput_49 : decode cX13_appendInput 49 = .ok (.invokevirtual 319, 3) := by decide +kernel
theorem dX13_appendInput_52 : decode cX13_appendInput 52 = .ok (.aload_n 0, 1) := by decide +kernel
theorem dX13_appendInput_53 : decode cX13_appendInput 53 = .ok (.iload 5, 2) := by decide +kernel
theorem dX13_appendInput_55 : decode cX13_appendInput 55 = .ok (.invokevirtual 319, 3) := by decide +kernel
theorem dX13_appendInput_58 : decode cX13_appendInput 58 = .ok (.aload_n 0, 1) := by decide +kernel
theorem dX13_appendInput_59 : decode cX13_appendInput 59 = .ok (.getfield 74, 3) := by decide +kernel
theorem dX13_appendInput_62 : decode cX13_appendInput 62 = .ok (.ireturn, 1) := by decide +kernel
theorem dX13_four_0 : decode cX13_four 0 = .ok (.bipush 24, 2) := by decide +kernel
theorem dX13_four_2 : decode cX13_four 2 = .ok (.istore_n 2, 1) := by decide +kernel
theorem dX13_four_3 : decode cX13_four 3 = .ok (.iload_n 2, 1) := by decide +kernel
theorem dX13_four_4 : decode cX13_four 4 = .ok (.ifCond .lt 35, 3) := by decide +kernel
theorem dX13_four_7 : decode cX13_four 7 = .ok (.aload_n 0, 1) := by decide +kernel
theorem dX13_four_8 : decode cX13_four 8 = .ok (.getfield 22, 3) := by decide +kernel
theorem dX13_four_11 : decode cX13_four 11 = .ok (.aload_n 0, 1) := by decide +kernel
theorem dX13_four_12 : decode cX13_four 12 = .ok (.getfield 74, 3) := by decide +kernel
theorem dX13_four_15 : decode cX13_four 15 = .ok (.iload_n 1, 1) := by decide +kernel
theorem dX13_four_16 : decode cX13_four 16 = .ok (.iload_n 2, 1) := by decide +kernel
theorem dX13_four_17 : decode cX13_four 17 = .ok (.ishr, 1) := by decide +kernel
theorem dX13_four_18 : decode cX13_four 18 = .ok (.sipush 255, 3) := by decide +kernel
theorem dX13_four_21 : decode cX13_four 21 = .ok (.iand, 1) := by decide +kernel
theorem dX13_four_22 : decode cX13_four 22 = .ok (.iastore, 1) := by decide +kernel
theorem dX13_four_23 : decode cX13_four 23 = .ok (.aload_n 0, 1) := by decide +kernel
theorem dX13_four_24 : decode cX13_four 24 = .ok (.dup, 1) := by decide +kernel
theorem dX13_four_25 : decode cX13_four 25 = .ok (.getfield 74, 3) := by decide +kernel
theorem dX13_four_28 : decode cX13_four 28 = .ok (.iconst 1, 1) := by decide +kernel
theorem dX13_four_29 : decode cX13_four 29 = .ok (.iadd, 1) := by decide +kernel
theorem dX13_four_30 : decode cX13_four 30 = .ok (.putfield 74, 3) := by decide +kernel
theorem dX13_four_33 : decode cX13_four 33 = .ok (.iinc 2 (-8), 3) := by decide +kernel
theorem dX13_four_36 : decode cX13_four 36 = .ok (.goto (-33), 3) := by decide +kernel
theorem dX13_four_39 : decode cX13_four 39 = .ok (.return_, 1) := by decide +kernel
theorem dX13_truncateInput_0 : decode cX13_truncateInput 0 = .ok (.aload_n 0, 1) := by decide +kernel
theorem dX13_truncateInput_1 : decode cX13_truncateInput 1 = .ok (.iload_n 1, 1) := by decide +kernel
theorem dX13_truncateInput_2 : decode cX13_truncateInput 2 = .ok (.iconst 0, 1) := by decide +kernel
theorem dX13_truncateInput_3 : decode cX13_truncateInput 3 = .ok (.aload_n 0, 1) := by decide +kernel
theorem dX13_truncateInput_4 : decode cX13_truncateInput 4 = .ok (.getfield 74, 3) := by decide +kernel
theorem dX13_truncateInput_7 : decode cX13_truncateInput 7 = .ok (.invokestatic 90, 3) := by decide +kernel
theorem dX13_truncateInput_10 : decode cX13_truncateInput 10 = .ok (.invokevirtual 322, 3) := by decide +kernel
theorem dX13_truncateInput_13 : decode cX13_truncateInput 13 = .ok (.ifCond .ne 5, 3) := by decide +kernel
theorem dX13_truncateInput_16 : decode cX13_truncateInput 16 = .ok (.iconst 0, 1) := by decide +kernel
theorem dX13_truncateInput_17 : decode cX13_truncateInput 17 = .ok (.ireturn, 1) := by decide +kernel
theorem dX13_truncateInput_18 : decode cX13_truncateInput 18 = .ok (.aload_n 0, 1) := by decide +kernel
theorem dX13_truncateInput_19 : decode cX13_truncateInput 19 = .ok (.iload_n 1, 1) := by decide +kernel
theorem dX13_truncateInput_20 : decode cX13_truncateInput 20 = .ok (.putfield 74, 3) := by decide +kernel
theorem dX13_truncateInput_23 : decode cX13_truncateInput 23 = .ok (.iload_n 1, 1) := by decide +kernel
theorem dX13_truncateInput_24 : decode cX13_truncateInput 24 = .ok (.ireturn, 1) := by decide +kernel
theorem dX13_loadSetup_0 : decode cX13_loadSetup 0 = .ok (.aload_n 0, 1) := by decide +kernel
theorem dX13_loadSetup_1 : decode cX13_loadSetup 1 = .ok (.iconst 0, 1) := by decide +kernel
theorem dX13_loadSetup_2 : decode cX13_loadSetup 2 = .ok (.putfield 77, 3) := by decide +kernel
theorem dX13_loadSetup_5 : decode cX13_loadSetup 5 = .ok (.aload_n 0, 1) := by decide +kernel
theorem dX13_loadSetup_6 : decode cX13_loadSetup 6 = .ok (.getfield 7, 3) := by decide +kernel
theorem dX13_loadSetup_9 : decode cX13_loadSetup 9 = .ok (.aload_n 0, 1) := by decide +kernel
theorem dX13_loadSetup_10 : decode cX13_loadSetup 10 = .ok (.getfield 13, 3) := by decide +kernel
theorem dX13_loadSetup_13 : decode cX13_loadSetup 13 = .ok (.invokestatic 326, 3) := by decide +kernel
theorem dX13_loadSetup_16 : decode cX13_loadSetup 16 = .ok (.aload_n 0, 1) := by decide +kernel
theorem dX13_loadSetup_17 : decode cX13_loadSetup 17 = .ok (.invokevirtual 68, 3) := by decide +kernel
theorem dX13_loadSetup_20 : decode cX13_loadSetup 20 = .ok (.aload_n 0, 1) := by decide +kernel
theorem dX13_loadSetup_21 : decode cX13_loadSetup 21 = .ok (.invokevirtual 71, 3) := by decide +kernel
theorem dX13_loadSetup_24 : decode cX13_loadSetup 24 = .ok (.aload_n 0, 1) := by decide +kernel
theorem dX13_loadSetup_25 : decode cX13_loadSetup 25 = .ok (.iconst 0, 1) := by decide +kernel
theorem dX13_loadSetup_26 : decode cX13_loadSetup 26 = .ok (.putfield 74, 3) := by decide +kernel
theorem dX13_loadSetup_29 : decode cX13_loadSetup 29 = .ok (.aload_n 0, 1) := by decide +kernel
theorem dX13_loadSetup_30 : decode cX13_loadSetup 30 = .ok (.getfield 192, 3) := by decide +kernel
theorem dX13_loadSetup_33 : decode cX13_loadSetup 33 = .ok (.ifCond .eq 16, 3) := by decide +kernel
theorem dX13_loadSetup_36 : decode cX13_loadSetup 36 = .ok (.aload_n 0, 1) := by decide +kernel
theorem dX13_loadSetup_37 : decode cX13_loadSetup 37 = .ok (.getfield 13, 3) := by decide +kernel
theorem dX13_loadSetup_40 : decode cX13_loadSetup 40 = .ok (.aload_n 0, 1) := by decide +kernel
theorem dX13_loadSetup_41 : decode cX13_loadSetup 41 = .ok (.getfield 7, 3) := by decide +kernel
theorem dX13_loadSetup_44 : decode cX13_loadSetup 44 = .ok (.invokestatic 326, 3) := by decide +kernel
theorem dX13_loadSetup_47 : decode cX13_loadSetup 47 = .ok (.iconst (-1), 1) := by decide +kernel
theorem dX13_loadSetup_48 : decode cX13_loadSetup 48 = .ok (.ireturn, 1) := by decide +kernel
theorem dX13_loadSetup_49 : decode cX13_loadSetup 49 = .ok (.aload_n 0, 1) := by decide +kernel
theorem dX13_loadSetup_50 : decode cX13_loadSetup 50 = .ok (.iconst 0, 1) := by decide +kernel
theorem dX13_loadSetup_51 : decode cX13_loadSetup 51 = .ok (.putfield 170, 3) := by decide +kernel
theorem dX13_loadSetup_54 : decode cX13_loadSetup 54 = .ok (.aload_n 0, 1) := by decide +kernel
theorem dX13_loadSetup_55 : decode cX13_loadSetup 55 = .ok (.getfield 7, 3) := by decide +kernel
theorem dX13_loadSetup_58 : decode cX13_loadSetup 58 = .ok (.iconst 0, 1) := by decide +kernel
theorem dX13_loadSetup_59 : decode cX13_loadSetup 59 = .ok (.iaload, 1) := by decide +kernel
theorem dX13_loadSetup_60 : decode cX13_loadSetup 60 = .ok (.ireturn, 1) := by decide +kernel
theorem dX13_runScript_0 : decode cX13_runScript 0 = .ok (.aload_n 0, 1) := by decide +kernel
theorem dX13_runScript_1 : decode cX13_runScript 1 = .ok (.iconst 0, 1) := by decide +kernel
theorem dX13_runScript_2 : decode cX13_runScript 2 = .ok (.putfield 77, 3) := by decide +kernel
theorem dX13_runScript_5 : decode cX13_runScript 5 = .ok (.aload_n 0, 1) := by decide +kernel
theorem dX13_runScript_6 : decode cX13_runScript 6 = .ok (.invokevirtual 68, 3) := by decide +kernel
theorem dX13_runScript_9 : decode cX13_runScript 9 = .ok (.aload_n 0, 1) := by decide +kernel
theorem dX13_runScript_10 : decode cX13_runScript 10 = .ok (.iconst 0, 1) := by decide +kernel
theorem dX13_runScript_11 : decode cX13_runScript 11 = .ok (.putfield 292, 3) := by decide +kernel
theorem dX13_runScript_14 : decode cX13_runScript 14 = .ok (.aload_n 0, 1) := by decide +kernel
theorem dX13_runScript_15 : decode cX13_runScript 15 = .ok (.getfield 192, 3) := by decide +kernel
theorem dX13_runScript_18 : decode cX13_runScript 18 = .ok (.ifCond .ne 17, 3) := by decide +kernel
theorem dX13_runScript_21 : decode cX13_runScript 21 = .ok (.aload_n 0, 1) := by decide +kernel
theorem dX13_runScript_22 : decode cX13_runScript 22 = .ok (.getfield 179, 3) := by decide +kernel
theorem dX13_runScript_25 : decode cX13_runScript 25 = .ok (.ifCond .eq 10, 3) := by decide +kernel
theorem dX13_runScript_28 : decode cX13_runScript 28 = .ok (.aload_n 0, 1) := by decide +kernel
theorem dX13_runScript_29 : decode cX13_runScript 29 = .ok (.invokevirtual 330, 3) := by decide +kernel
theorem dX13_runScript_32 : decode cX13_runScript 32 = .ok (.goto (-18), 3) := by decide +kernel
theorem dX13_runScript_35 : decode cX13_runScript 35 = .ok (.aload_n 0, 1) := by decide +kernel
theorem dX13_runScript_36 : decode cX13_runScript 36 = .ok (.iconst 0, 1) := by decide +kernel
theorem dX13_runScript_37 : decode cX13_runScript 37 = .ok (.putfield 74, 3) := by decide +kernel
theorem dX13_runScript_40 : decode cX13_runScript 40 = .ok (.aload_n 0, 1) := by decide +kernel
theorem dX13_runScript_41 : decode cX13_runScript 41 = .ok (.getfield 192, 3) := by decide +kernel
theorem dX13_runScript_44 : decode cX13_runScript 44 = .ok (.ifCond .eq 5, 3) := by decide +kernel
theorem dX13_runScript_47 : decode cX13_runScript 47 = .ok (.iconst (-1), 1) := by decide +kernel
theorem dX13_runScript_48 : decode cX13_runScript 48 = .ok (.ireturn, 1) := by decide +kernel
theorem dX13_runScript_49 : decode cX13_runScript 49 = .ok (.aload_n 0, 1) := by decide +kernel
theorem dX13_runScript_50 : decode cX13_runScript 50 = .ok (.invokevirtual 333, 3) := by decide +kernel
theorem dX13_runScript_53 : decode cX13_runScript 53 = .ok (.iconst 0, 1) := by decide +kernel
theorem dX13_runScript_54 : decode cX13_runScript 54 = .ok (.istore_n 1, 1) := by decide +kernel
theorem dX13_runScript_55 : decode cX13_runScript 55 = .ok (.iload_n 1, 1) := by decide +kernel
theorem dX13_runScript_56 : decode cX13_runScript 56 = .ok (.aload_n 0, 1) := by decide +kernel
theorem dX13_runScript_57 : decode cX13_runScript 57 = .ok (.getfield 292, 3) := by decide +kernel
theorem dX13_runScript_60 : decode cX13_runScript 60 = .ok (.if_icmp .ge 19, 3) := by decide +kernel
theorem dX13_runScript_63 : decode cX13_runScript 63 = .ok (.aload_n 0, 1) := by decide +kernel
theorem dX13_runScript_64 : decode cX13_runScript 64 = .ok (.iconst 3, 1) := by decide +kernel
theorem dX13_runScript_65 : decode cX13_runScript 65 = .ok (.iload_n 1, 1) := by decide +kernel
theorem dX13_runScript_66 : decode cX13_runScript 66 = .ok (.imul, 1) := by decide +kernel
theorem dX13_runScript_67 : decode cX13_runScript 67 = .ok (.invokevirtual 336, 3) := by decide +kernel
theorem dX13_runScript_70 : decode cX13_runScript 70 = .ok (.ifCond .eq 9, 3) := by decide +kernel
theorem dX13_runScript_73 : decode cX13_runScript 73 = .ok (.iinc 1 1, 3) := by decide +kernel
theorem dX13_runScript_76 : decode cX13_runScript 76 = .ok (.goto (-21), 3) := by decide +kernel
theorem dX13_runScript_79 : decode cX13_runScript 79 = .ok (.iload_n 1, 1) := by decide +kernel
theorem dX13_runScript_80 : decode cX13_runScript 80 = .ok (.ireturn, 1) := by decide +kernel
theorem dX13_errorCode_0 : decode cX13_errorCode 0 = .ok (.aload_n 0, 1) := by decide +kernel
theorem dX13_errorCode_1 : decode cX13_errorCode 1 = .ok (.iconst 0, 1) := by decide +kernel
theorem dX13_errorCode_2 : decode cX13_errorCode 2 = .ok (.putfield 77, 3) := by decide +kernel
theorem dX13_errorCode_5 : decode cX13_errorCode 5 = .ok (.aload_n 0, 1) := by decide +kernel
theorem dX13_errorCode_6 : decode cX13_errorCode 6 = .ok (.getfield 196, 3) := by decide +kernel
theorem dX13_errorCode_9 : decode cX13_errorCode 9 = .ok (.ireturn, 1) := by decide +kernel
theorem dX13_errorPosition_0 : decode cX13_errorPosition 0 = .ok (.aload_n 0, 1) := by decide +kernel
theorem dX13_errorPosition_1 : decode cX13_errorPosition 1 = .ok (.iconst 0, 1) := by decide +kernel
theorem dX13_errorPosition_2 : decode cX13_errorPosition 2 = .ok (.putfield 77, 3) := by decide +kernel
theorem dX13_errorPosition_5 : decode cX13_errorPosition 5 = .ok (.aload_n 0, 1) := by decide +kernel
theorem dX13_errorPosition_6 : decode cX13_errorPosition 6 = .ok (.getfield 25, 3) := by decide +kernel
theorem dX13_errorPosition_9 : decode cX13_errorPosition 9 = .ok (.ireturn, 1) := by decide +kernel
theorem dX13_sellerCount_0 : decode cX13_sellerCount 0 = .ok (.aload_n 0, 1) := by decide +kernel
theorem dX13_sellerCount_1 : decode cX13_sellerCount 1 = .ok (.iconst 0, 1) := by decide +kernel
theorem dX13_sellerCount_2 : decode cX13_sellerCount 2 = .ok (.putfield 77, 3) := by decide +kernel
theorem dX13_sellerCount_5 : decode cX13_sellerCount 5 = .ok (.aload_n 0, 1) := by decide +kernel
theorem dX13_sellerCount_6 : decode cX13_sellerCount 6 = .ok (.getfield 7, 3) := by decide +kernel
theorem dX13_sellerCount_9 : decode cX13_sellerCount 9 = .ok (.iconst 0, 1) := by decide +kernel
theorem dX13_sellerCount_10 : decode cX13_sellerCount 10 = .ok (.iaload, 1) := by decide +kernel
theorem dX13_sellerCount_11 : decode cX13_sellerCount 11 = .ok (.ireturn, 1) := by decide +kernel
theorem dX13_stallCount_0 : decode cX13_stallCount 0 = .ok (.aload_n 0, 1) := by decide +kernel
theorem dX13_stallCount_1 : decode cX13_stallCount 1 = .ok (.iconst 0, 1) := by decide +kernel
theorem dX13_stallCount_2 : decode cX13_stallCount 2 = .ok (.putfield 77, 3) := by decide +kernel
theorem dX13_stallCount_5 : decode cX13_stallCount 5 = .ok (.aload_n 0, 1) := by decide +kernel
theorem dX13_stallCount_6 : decode cX13_stallCount 6 = .ok (.getfield 7, 3) := by decide +kernel
theorem dX13_stallCount_9 : decode cX13_stallCount 9 = .ok (.iconst 1, 1) := by decide +kernel
theorem dX13_stallCount_10 : decode cX13_stallCount 10 = .ok (.iaload, 1) := by decide +kernel
theorem dX13_stallCount_11 : decode cX13_stallCount 11 = .ok (.ireturn, 1) := by decide +kernel
theorem dX13_day_0 : decode cX13_day 0 = .ok (.aload_n 0, 1) := by decide +kernel
theorem dX13_day_1 : decode cX13_day 1 = .ok (.iconst 0, 1) := by decide +kernel
theorem dX13_day_2 : decode cX13_day 2 = .ok (.putfield 77, 3) := by decide +kernel
theorem dX13_day_5 : decode cX13_day 5 = .ok (.aload_n 0, 1) := by decide +kernel
theorem dX13_day_6 : decode cX13_day 6 = .ok (.getfield 7, 3) := by decide +kernel
theorem dX13_day_9 : decode cX13_day 9 = .ok (.iconst 2, 1) := by decide +kernel
theorem dX13_day_10 : decode cX13_day 10 = .ok (.iaload, 1) := by decide +kernel
theorem dX13_day_11 : decode cX13_day 11 = .ok (.ireturn, 1) := by decide +kernel
theorem dX13_balance_0 : decode cX13_balance 0 = .ok (.aload_n 0, 1) := by decide +kernel
theorem dX13_balance_1 : decode cX13_balance 1 = .ok (.aload_n 0, 1) := by decide +kernel
theorem dX13_balance_2 : decode cX13_balance 2 = .ok (.iload_n 1, 1) := by decide +kernel
theorem dX13_balance_3 : decode cX13_balance 3 = .ok (.invokevirtual 339, 3) := by decide +kernel
theorem dX13_balance_6 : decode cX13_balance 6 = .ok (.invokevirtual 322, 3) := by decide +kernel
theorem dX13_balance_9 : decode cX13_balance 9 = .ok (.ifCond .eq 12, 3) := by decide +kernel
theorem dX13_balance_12 : decode cX13_balance 12 = .ok (.aload_n 0, 1) := by decide +kernel
theorem dX13_balance_13 : decode cX13_balance 13 = .ok (.iload_n 1, 1) := by decide +kernel
theorem dX13_balance_14 : decode cX13_balance 14 = .ok (.iconst 1, 1) := by decide +kernel
theorem dX13_balance_15 : decode cX13_balance 15 = .ok (.invokevirtual 98, 3) := by decide +kernel
theorem dX13_balance_18 : decode cX13_balance 18 = .ok (.goto 4, 3) := by decide +kernel
theorem dX13_balance_21 : decode cX13_balance 21 = .ok (.iconst 0, 1) := by decide +kernel
theorem dX13_balance_22 : decode cX13_balance 22 = .ok (.ireturn, 1) := by decide +kernel
theorem dX13_income_0 : decode cX13_income 0 = .ok (.aload_n 0, 1) := by decide +kernel
theorem dX13_income_1 : decode cX13_income 1 = .ok (.aload_n 0, 1) := by decide +kernel
theorem dX13_income_2 : decode cX13_income 2 = .ok (.iload_n 1, 1) := by decide +kernel
theorem dX13_income_3 : decode cX13_income 3 = .ok (.invokevirtual 339, 3) := by decide +kernel
theorem dX13_income_6 : decode cX13_income 6 = .ok (.invokevirtual 322, 3) := by decide +kernel
theorem dX13_income_9 : decode cX13_income 9 = .ok (.ifCond .eq 12, 3) := by decide +kernel
theorem dX13_income_12 : decode cX13_income 12 = .ok (.aload_n 0, 1) := by decide +kernel
theorem dX13_income_13 : decode cX13_income 13 = .ok (.iload_n 1, 1) := by decide +kernel
theorem dX13_income_14 : decode cX13_income 14 = .ok (.iconst 2, 1) := by decide +kernel
theorem dX13_income_15 : decode cX13_income 15 = .ok (.invokevirtual 98, 3) := by decide +kernel
theorem dX13_income_18 : decode cX13_income 18 = .ok (.goto 4, 3) := by decide +kernel
theorem dX13_income_21 : decode cX13_income 21 = .ok (.iconst 0, 1) := by decide +kernel
theorem dX13_income_22 : decode cX13_income 22 = .ok (.ireturn, 1) := by decide +kernel
theorem dX13_rent_0 : decode cX13_rent 0 = .ok (.aload_n 0, 1) := by decide +kernel
theorem dX13_rent_1 : decode cX13_rent 1 = .ok (.aload_n 0, 1) := by decide +kernel
theorem dX13_rent_2 : decode cX13_rent 2 = .ok (.iload_n 1, 1) := by decide +kernel
theorem dX13_rent_3 : decode cX13_rent 3 = .ok (.invokevirtual 94, 3) := by decide +kernel
theorem dX13_rent_6 : decode cX13_rent 6 = .ok (.invokevirtual 322, 3) := by decide +kernel
theorem dX13_rent_9 : decode cX13_rent 9 = .ok (.ifCond .eq 11, 3) := by decide +kernel
theorem dX13_rent_12 : decode cX13_rent 12 = .ok (.aload_n 0, 1) := by decide +kernel
theorem dX13_rent_13 : decode cX13_rent 13 = .ok (.iload_n 1, 1) := by decide +kernel
theorem dX13_rent_14 : decode cX13_rent 14 = .ok (.invokevirtual 149, 3) := by decide +kernel
theorem dX13_rent_17 : decode cX13_rent 17 = .ok (.goto 4, 3) := by decide +kernel
theorem dX13_rent_20 : decode cX13_rent 20 = .ok (.iconst 0, 1) := by decide +kernel
theorem dX13_rent_21 : decode cX13_rent 21 = .ok (.ireturn, 1) := by decide +kernel
theorem dX13_stallOf_0 : decode cX13_stallOf 0 = .ok (.aload_n 0, 1) := by decide +kernel
theorem dX13_stallOf_1 : decode cX13_stallOf 1 = .ok (.aload_n 0, 1) := by decide +kernel
theorem dX13_stallOf_2 : decode cX13_stallOf 2 = .ok (.iload_n 1, 1) := by decide +kernel
theorem dX13_stallOf_3 : decode cX13_stallOf 3 = .ok (.invokevirtual 339, 3) := by decide +kernel
theorem dX13_stallOf_6 : decode cX13_stallOf 6 = .ok (.invokevirtual 322, 3) := by decide +kernel
theorem dX13_stallOf_9 : decode cX13_stallOf 9 = .ok (.ifCond .eq 12, 3) := by decide +kernel
theorem dX13_stallOf_12 : decode cX13_stallOf 12 = .ok (.aload_n 0, 1) := by decide +kernel
theorem dX13_stallOf_13 : decode cX13_stallOf 13 = .ok (.iload_n 1, 1) := by decide +kernel
theorem dX13_stallOf_14 : decode cX13_stallOf 14 = .ok (.iconst 3, 1) := by decide +kernel
theorem dX13_stallOf_15 : decode cX13_stallOf 15 = .ok (.invokevirtual 98, 3) := by decide +kernel
theorem dX13_stallOf_18 : decode cX13_stallOf 18 = .ok (.goto 4, 3) := by decide +kernel
theorem dX13_stallOf_21 : decode cX13_stallOf 21 = .ok (.iconst 0, 1) := by decide +kernel
theorem dX13_stallOf_22 : decode cX13_stallOf 22 = .ok (.ireturn, 1) := by decide +kernel
theorem dX13_occupantOf_0 : decode cX13_occupantOf 0 = .ok (.aload_n 0, 1) := by decide +kernel
theorem dX13_occupantOf_1 : decode cX13_occupantOf 1 = .ok (.aload_n 0, 1) := by decide +kernel
theorem dX13_occupantOf_2 : decode cX13_occupantOf 2 = .ok (.iload_n 1, 1) := by decide +kernel
theorem dX13_occupantOf_3 : decode cX13_occupantOf 3 = .ok (.invokevirtual 94, 3) := by decide +kernel
theorem dX13_occupantOf_6 : decode cX13_occupantOf 6 = .ok (.invokevirtual 322, 3) := by decide +kernel
theorem dX13_occupantOf_9 : decode cX13_occupantOf 9 = .ok (.ifCond .eq 11, 3) := by decide +kernel
theorem dX13_occupantOf_12 : decode cX13_occupantOf 12 = .ok (.aload_n 0, 1) := by decide +kernel
theorem dX13_occupantOf_13 : decode cX13_occupantOf 13 = .ok (.iload_n 1, 1) := by decide +kernel
theorem dX13_occupantOf_14 : decode cX13_occupantOf 14 = .ok (.invokevirtual 115, 3) := by decide +kernel
theorem dX13_occupantOf_17 : decode cX13_occupantOf 17 = .ok (.goto 4, 3) := by decide +kernel
theorem dX13_occupantOf_20 : decode cX13_occupantOf 20 = .ok (.iconst 0, 1) := by decide +kernel
theorem dX13_occupantOf_21 : decode cX13_occupantOf 21 = .ok (.ireturn, 1) := by decide +kernel
theorem dX13_priorityOf_0 : decode cX13_priorityOf 0 = .ok (.aload_n 0, 1) := by decide +kernel
theorem dX13_priorityOf_1 : decode cX13_priorityOf 1 = .ok (.aload_n 0, 1) := by decide +kernel
theorem dX13_priorityOf_2 : decode cX13_priorityOf 2 = .ok (.iload_n 1, 1) := by decide +kernel
theorem dX13_priorityOf_3 : decode cX13_priorityOf 3 = .ok (.invokevirtual 339, 3) := by decide +kernel
theorem dX13_priorityOf_6 : decode cX13_priorityOf 6 = .ok (.invokevirtual 322, 3) := by decide +kernel
theorem dX13_priorityOf_9 : decode cX13_priorityOf 9 = .ok (.ifCond .eq 11, 3) := by decide +kernel
theorem dX13_priorityOf_12 : decode cX13_priorityOf 12 = .ok (.aload_n 0, 1) := by decide +kernel
theorem dX13_priorityOf_13 : decode cX13_priorityOf 13 = .ok (.iload_n 1, 1) := by decide +kernel
theorem dX13_priorityOf_14 : decode cX13_priorityOf 14 = .ok (.invokevirtual 155, 3) := by decide +kernel
theorem dX13_priorityOf_17 : decode cX13_priorityOf 17 = .ok (.goto 4, 3) := by decide +kernel
theorem dX13_priorityOf_20 : decode cX13_priorityOf 20 = .ok (.iconst 0, 1) := by decide +kernel
theorem dX13_priorityOf_21 : decode cX13_priorityOf 21 = .ok (.ireturn, 1) := by decide +kernel
theorem dX13_preferenceCount_0 : decode cX13_preferenceCount 0 = .ok (.aload_n 0, 1) := by decide +kernel
theorem dX13_preferenceCount_1 : decode cX13_preferenceCount 1 = .ok (.aload_n 0, 1) := by decide +kernel
theorem dX13_preferenceCount_2 : decode cX13_preferenceCount 2 = .ok (.iload_n 1, 1) := by decide +kernel
theorem dX13_preferenceCount_3 : decode cX13_preferenceCount 3 = .ok (.invokevirtual 339, 3) := by decide +kernel
theorem dX13_preferenceCount_6 : decode cX13_preferenceCount 6 = .ok (.invokevirtual 322, 3) := by decide +kernel
theorem dX13_preferenceCount_9 : decode cX13_preferenceCount 9 = .ok (.ifCond .eq 12, 3) := by decide +kernel
theorem dX13_preferenceCount_12 : decode cX13_preferenceCount 12 = .ok (.aload_n 0, 1) := by decide +kernel
theorem dX13_preferenceCount_13 : decode cX13_preferenceCount 13 = .ok (.iload_n 1, 1) := by decide +kernel
theorem dX13_preferenceCount_14 : decode cX13_preferenceCount 14 = .ok (.iconst 4, 1) := by decide +kernel
theorem dX13_preferenceCount_15 : decode cX13_preferenceCount 15 = .ok (.invokevirtual 98, 3) := by decide +kernel
theorem dX13_preferenceCount_18 : decode cX13_preferenceCount 18 = .ok (.goto 4, 3) := by decide +kernel
theorem dX13_preferenceCount_21 : decode cX13_preferenceCount 21 = .ok (.iconst 0, 1) := by decide +kernel
theorem dX13_preferenceCount_22 : decode cX13_preferenceCount 22 = .ok (.ireturn, 1) := by decide +kernel
theorem dX13_preferenceAt_0 : decode cX13_preferenceAt 0 = .ok (.aload_n 0, 1) := by decide +kernel
theorem dX13_preferenceAt_1 : decode cX13_preferenceAt 1 = .ok (.iload_n 1, 1) := by decide +kernel
theorem dX13_preferenceAt_2 : decode cX13_preferenceAt 2 = .ok (.invokevirtual 339, 3) := by decide +kernel
theorem dX13_preferenceAt_5 : decode cX13_preferenceAt 5 = .ok (.ifCond .eq 23, 3) := by decide +kernel
theorem dX13_preferenceAt_8 : decode cX13_preferenceAt 8 = .ok (.iload_n 2, 1) := by decide +kernel
theorem dX13_preferenceAt_9 : decode cX13_preferenceAt 9 = .ok (.iconst 0, 1) := by decide +kernel
theorem dX13_preferenceAt_10 : decode cX13_preferenceAt 10 = .ok (.aload_n 0, 1) := by decide +kernel
theorem dX13_preferenceAt_11 : decode cX13_preferenceAt 11 = .ok (.iload_n 1, 1) := by decide +kernel
theorem dX13_preferenceAt_12 : decode cX13_preferenceAt 12 = .ok (.iconst 4, 1) := by decide +kernel
theorem dX13_preferenceAt_13 : decode cX13_preferenceAt 13 = .ok (.invokevirtual 98, 3) := by decide +kernel
theorem dX13_preferenceAt_16 : decode cX13_preferenceAt 16 = .ok (.iconst 1, 1) := by decide +kernel
theorem dX13_preferenceAt_17 : decode cX13_preferenceAt 17 = .ok (.isub, 1) := by decide +kernel
theorem dX13_preferenceAt_18 : decode cX13_preferenceAt 18 = .ok (.invokestatic 90, 3) := by decide +kernel
theorem dX13_preferenceAt_21 : decode cX13_preferenceAt 21 = .ok (.ifCond .eq 7, 3) := by decide +kernel
theorem dX13_preferenceAt_24 : decode cX13_preferenceAt 24 = .ok (.iconst 1, 1) := by decide +kernel
theorem dX13_preferenceAt_25 : decode cX13_preferenceAt 25 = .ok (.goto 4, 3) := by decide +kernel
theorem dX13_preferenceAt_28 : decode cX13_preferenceAt 28 = .ok (.iconst 0, 1) := by decide +kernel
theorem dX13_preferenceAt_29 : decode cX13_preferenceAt 29 = .ok (.istore_n 3, 1) := by decide +kernel
theorem dX13_preferenceAt_30 : decode cX13_preferenceAt 30 = .ok (.aload_n 0, 1) := by decide +kernel
theorem dX13_preferenceAt_31 : decode cX13_preferenceAt 31 = .ok (.iload_n 3, 1) := by decide +kernel
theorem dX13_preferenceAt_32 : decode cX13_preferenceAt 32 = .ok (.invokevirtual 322, 3) := by decide +kernel
theorem dX13_preferenceAt_35 : decode cX13_preferenceAt 35 = .ok (.ifCond .eq 14, 3) := by decide +kernel
theorem dX13_preferenceAt_38 : decode cX13_preferenceAt 38 = .ok (.aload_n 0, 1) := by decide +kernel
theorem dX13_preferenceAt_39 : decode cX13_preferenceAt 39 = .ok (.iload_n 1, 1) := by decide +kernel
theorem dX13_preferenceAt_40 : decode cX13_preferenceAt 40 = .ok (.iconst 5, 1) := by decide +kernel
theorem dX13_preferenceAt_41 : decode cX13_preferenceAt 41 = .ok (.iload_n 2, 1) := by decide +kernel
theorem dX13_preferenceAt_42 : decode cX13_preferenceAt 42 = .ok (.iadd, 1) := by decide +kernel
theorem dX13_preferenceAt_43 : decode cX13_preferenceAt 43 = .ok (.invokevirtual 98, 3) := by decide +kernel
theorem dX13_preferenceAt_46 : decode cX13_preferenceAt 46 = .ok (.goto 4, 3) := by decide +kernel
theorem dX13_preferenceAt_49 : decode cX13_preferenceAt 49 = .ok (.iconst 0, 1) := by decide +kernel
theorem dX13_preferenceAt_50 : decode cX13_preferenceAt 50 = .ok (.ireturn, 1) := by decide +kernel
theorem dX13_rankOf_0 : decode cX13_rankOf 0 = .ok (.aload_n 0, 1) := by decide +kernel
theorem dX13_rankOf_1 : decode cX13_rankOf 1 = .ok (.aload_n 0, 1) := by decide +kernel
theorem dX13_rankOf_2 : decode cX13_rankOf 2 = .ok (.iload_n 1, 1) := by decide +kernel
theorem dX13_rankOf_3 : decode cX13_rankOf 3 = .ok (.invokevirtual 339, 3) := by decide +kernel
theorem dX13_rankOf_6 : decode cX13_rankOf 6 = .ok (.ifCond .eq 15, 3) := by decide +kernel
theorem dX13_rankOf_9 : decode cX13_rankOf 9 = .ok (.aload_n 0, 1) := by decide +kernel
theorem dX13_rankOf_10 : decode cX13_rankOf 10 = .ok (.iload_n 2, 1) := by decide +kernel
theorem dX13_rankOf_11 : decode cX13_rankOf 11 = .ok (.invokevirtual 94, 3) := by decide +kernel
theorem dX13_rankOf_14 : decode cX13_rankOf 14 = .ok (.ifCond .eq 7, 3) := by decide +kernel
theorem dX13_rankOf_17 : decode cX13_rankOf 17 = .ok (.iconst 1, 1) := by decide +kernel
theorem dX13_rankOf_18 : decode cX13_rankOf 18 = .ok (.goto 4, 3) := by decide +kernel
theorem dX13_rankOf_21 : decode cX13_rankOf 21 = .ok (.iconst 0, 1) := by decide +kernel
theorem dX13_rankOf_22 : decode cX13_rankOf 22 = .ok (.invokevirtual 322, 3) := by decide +kernel
theorem dX13_rankOf_25 : decode cX13_rankOf 25 = .ok (.ifCond .eq 12, 3) := by decide +kernel
theorem dX13_rankOf_28 : decode cX13_rankOf 28 = .ok (.aload_n 0, 1) := by decide +kernel
theorem dX13_rankOf_29 : decode cX13_rankOf 29 = .ok (.iload_n 1, 1) := by decide +kernel
theorem dX13_rankOf_30 : decode cX13_rankOf 30 = .ok (.iload_n 2, 1) := by decide +kernel
theorem dX13_rankOf_31 : decode cX13_rankOf 31 = .ok (.invokevirtual 102, 3) := by decide +kernel
theorem dX13_rankOf_34 : decode cX13_rankOf 34 = .ok (.goto 4, 3) := by decide +kernel
theorem dX13_rankOf_37 : decode cX13_rankOf 37 = .ok (.iconst 0, 1) := by decide +kernel
theorem dX13_rankOf_38 : decode cX13_rankOf 38 = .ok (.ireturn, 1) := by decide +kernel
theorem dX13_prefers_0 : decode cX13_prefers 0 = .ok (.aload_n 0, 1) := by decide +kernel
theorem dX13_prefers_1 : decode cX13_prefers 1 = .ok (.iload_n 1, 1) := by decide +kernel
theorem dX13_prefers_2 : decode cX13_prefers 2 = .ok (.invokevirtual 339, 3) := by decide +kernel
theorem dX13_prefers_5 : decode cX13_prefers 5 = .ok (.ifCond .eq 23, 3) := by decide +kernel
theorem dX13_prefers_8 : decode cX13_prefers 8 = .ok (.aload_n 0, 1) := by decide +kernel
theorem dX13_prefers_9 : decode cX13_prefers 9 = .ok (.iload_n 2, 1) := by decide +kernel
theorem dX13_prefers_10 : decode cX13_prefers 10 = .ok (.invokevirtual 342, 3) := by decide +kernel
theorem dX13_prefers_13 : decode cX13_prefers 13 = .ok (.ifCond .eq 15, 3) := by decide +kernel
theorem dX13_prefers_16 : decode cX13_prefers 16 = .ok (.aload_n 0, 1) := by decide +kernel
theorem dX13_prefers_17 : decode cX13_prefers 17 = .ok (.iload_n 3, 1) := by decide +kernel
theorem dX13_prefers_18 : decode cX13_prefers 18 = .ok (.invokevirtual 342, 3) := by decide +kernel
theorem dX13_prefers_21 : decode cX13_prefers 21 = .ok (.ifCond .eq 7, 3) := by decide +kernel
theorem dX13_prefers_24 : decode cX13_prefers 24 = .ok (.iconst 1, 1) := by decide +kernel
theorem dX13_prefers_25 : decode cX13_prefers 25 = .ok (.goto 4, 3) := by decide +kernel
theorem dX13_prefers_28 : decode cX13_prefers 28 = .ok (.iconst 0, 1) := by decide +kernel
theorem dX13_prefers_29 : decode cX13_prefers 29 = .ok (.istore 4, 2) := by decide +kernel
theorem dX13_prefers_31 : decode cX13_prefers 31 = .ok (.aload_n 0, 1) := by decide +kernel
theorem dX13_prefers_32 : decode cX13_prefers 32 = .ok (.iload 4, 2) := by decide +kernel
theorem dX13_prefers_34 : decode cX13_prefers 34 = .ok (.invokevirtual 322, 3) := by decide +kernel
theorem dX13_prefers_37 : decode cX13_prefers 37 = .ok (.ifCond .eq 17, 3) := by decide +kernel
theorem dX13_prefers_40 : decode cX13_prefers 40 = .ok (.aload_n 0, 1) := by decide +kernel
theorem dX13_prefers_41 : decode cX13_prefers 41 = .ok (.iload_n 1, 1) := by decide +kernel
theorem dX13_prefers_42 : decode cX13_prefers 42 = .ok (.iload_n 2, 1) := by decide +kernel
theorem dX13_prefers_43 : decode cX13_prefers 43 = .ok (.iload_n 3, 1) := by decide +kernel
theorem dX13_prefers_44 : decode cX13_prefers 44 = .ok (.invokevirtual 108, 3) := by decide +kernel
theorem dX13_prefers_47 : decode cX13_prefers 47 = .ok (.ifCond .eq 7, 3) := by decide +kernel
theorem dX13_prefers_50 : decode cX13_prefers 50 = .ok (.iconst 1, 1) := by decide +kernel
theorem dX13_prefers_51 : decode cX13_prefers 51 = .ok (.goto 4, 3) := by decide +kernel
theorem dX13_prefers_54 : decode cX13_prefers 54 = .ok (.iconst 0, 1) := by decide +kernel
theorem dX13_prefers_55 : decode cX13_prefers 55 = .ok (.ireturn, 1) := by decide +kernel
theorem dX13_letters_0 : decode cX13_letters 0 = .ok (.iconst 0, 1) := by decide +kernel
theorem dX13_letters_1 : decode cX13_letters 1 = .ok (.istore_n 1, 1) := by decide +kernel
theorem dX13_letters_2 : decode cX13_letters 2 = .ok (.iload_n 0, 1) := by decide +kernel
theorem dX13_letters_3 : decode cX13_letters 3 = .ok (.istore_n 2, 1) := by decide +kernel
theorem dX13_letters_4 : decode cX13_letters 4 = .ok (.iload_n 2, 1) := by decide +kernel
theorem dX13_letters_5 : decode cX13_letters 5 = .ok (.ifCond .le 14, 3) := by decide +kernel
theorem dX13_letters_8 : decode cX13_letters 8 = .ok (.iinc 1 1, 3) := by decide +kernel
theorem dX13_letters_11 : decode cX13_letters 11 = .ok (.iload_n 2, 1) := by decide +kernel
theorem dX13_letters_12 : decode cX13_letters 12 = .ok (.bipush 27, 2) := by decide +kernel
theorem dX13_letters_14 : decode cX13_letters 14 = .ok (.idiv, 1) := by decide +kernel
theorem dX13_letters_15 : decode cX13_letters 15 = .ok (.istore_n 2, 1) := by decide +kernel
theorem dX13_letters_16 : decode cX13_letters 16 = .ok (.goto (-12), 3) := by decide +kernel
theorem dX13_letters_19 : decode cX13_letters 19 = .ok (.iload_n 1, 1) := by decide +kernel
theorem dX13_letters_20 : decode cX13_letters 20 = .ok (.ireturn, 1) := by decide +kernel
theorem dX13_letterOf_0 : decode cX13_letterOf 0 = .ok (.iload_n 1, 1) := by decide +kernel
theorem dX13_letterOf_1 : decode cX13_letterOf 1 = .ok (.iconst 0, 1) := by decide +kernel
theorem dX13_letterOf_2 : decode cX13_letterOf 2 = .ok (.iload_n 0, 1) := by decide +kernel
theorem dX13_letterOf_3 : decode cX13_letterOf 3 = .ok (.invokestatic 345, 3) := by decide +kernel
theorem dX13_letterOf_6 : decode cX13_letterOf 6 = .ok (.iconst 1, 1) := by decide +kernel
theorem dX13_letterOf_7 : decode cX13_letterOf 7 = .ok (.isub, 1) := by decide +kernel
theorem dX13_letterOf_8 : decode cX13_letterOf 8 = .ok (.invokestatic 90, 3) := by decide +kernel
theorem dX13_letterOf_11 : decode cX13_letterOf 11 = .ok (.ifCond .ne 5, 3) := by decide +kernel
theorem dX13_letterOf_14 : decode cX13_letterOf 14 = .ok (.iconst (-1), 1) := by decide +kernel
theorem dX13_letterOf_15 : decode cX13_letterOf 15 = .ok (.ireturn, 1) := by decide +kernel
theorem dX13_letterOf_16 : decode cX13_letterOf 16 = .ok (.iload_n 0, 1) := by decide +kernel
theorem dX13_letterOf_17 : decode cX13_letterOf 17 = .ok (.istore_n 2, 1) := by decide +kernel
theorem dX13_letterOf_18 : decode cX13_letterOf 18 = .ok (.iload_n 0, 1) := by decide +kernel
theorem dX13_letterOf_19 : decode cX13_letterOf 19 = .ok (.invokestatic 345, 3) := by decide +kernel
theorem dX13_letterOf_22 : decode cX13_letterOf 22 = .ok (.iconst 1, 1) := by decide +kernel
theorem dX13_letterOf_23 : decode cX13_letterOf 23 = .ok (.isub, 1) := by decide +kernel
theorem dX13_letterOf_24 : decode cX13_letterOf 24 = .ok (.istore_n 3, 1) := by decide +kernel
theorem dX13_letterOf_25 : decode cX13_letterOf 25 = .ok (.iload_n 3, 1) := by decide +kernel
theorem dX13_letterOf_26 : decode cX13_letterOf 26 = .ok (.iload_n 1, 1) := by decide +kernel
theorem dX13_letterOf_27 : decode cX13_letterOf 27 = .ok (.if_icmp .le 14, 3) := by decide +kernel
theorem dX13_letterOf_30 : decode cX13_letterOf 30 = .ok (.iload_n 2, 1) := by decide +kernel
theorem dX13_letterOf_31 : decode cX13_letterOf 31 = .ok (.bipush 27, 2) := by decide +kernel
theorem dX13_letterOf_33 : decode cX13_letterOf 33 = .ok (.idiv, 1) := by decide +kernel
theorem dX13_letterOf_34 : decode cX13_letterOf 34 = .ok (.istore_n 2, 1) := by decide +kernel
theorem dX13_letterOf_35 : decode cX13_letterOf 35 = .ok (.iinc 3 (-1), 3) := by decide +kernel
theorem dX13_letterOf_38 : decode cX13_letterOf 38 = .ok (.goto (-13), 3) := by decide +kernel
theorem dX13_letterOf_41 : decode cX13_letterOf 41 = .ok (.iload_n 2, 1) := by decide +kernel
theorem dX13_letterOf_42 : decode cX13_letterOf 42 = .ok (.bipush 27, 2) := by decide +kernel
theorem dX13_letterOf_44 : decode cX13_letterOf 44 = .ok (.irem, 1) := by decide +kernel
theorem dX13_letterOf_45 : decode cX13_letterOf 45 = .ok (.bipush 96, 2) := by decide +kernel
theorem dX13_letterOf_47 : decode cX13_letterOf 47 = .ok (.iadd, 1) := by decide +kernel
theorem dX13_letterOf_48 : decode cX13_letterOf 48 = .ok (.ireturn, 1) := by decide +kernel
theorem dX13_sellerNameByte_0 : decode cX13_sellerNameByte 0 = .ok (.aload_n 0, 1) := by decide +kernel
theorem dX13_sellerNameByte_1 : decode cX13_sellerNameByte 1 = .ok (.aload_n 0, 1) := by decide +kernel
theorem dX13_sellerNameByte_2 : decode cX13_sellerNameByte 2 = .ok (.iload_n 1, 1) := by decide +kernel
theorem dX13_sellerNameByte_3 : decode cX13_sellerNameByte 3 = .ok (.invokevirtual 339, 3) := by decide +kernel
theorem dX13_sellerNameByte_6 : decode cX13_sellerNameByte 6 = .ok (.invokevirtual 322, 3) := by decide +kernel
theorem dX13_sellerNameByte_9 : decode cX13_sellerNameByte 9 = .ok (.ifCond .eq 16, 3) := by decide +kernel
theorem dX13_sellerNameByte_12 : decode cX13_sellerNameByte 12 = .ok (.aload_n 0, 1) := by decide +kernel
theorem dX13_sellerNameByte_13 : decode cX13_sellerNameByte 13 = .ok (.iload_n 1, 1) := by decide +kernel
theorem dX13_sellerNameByte_14 : decode cX13_sellerNameByte 14 = .ok (.iconst 0, 1) := by decide +kernel
theorem dX13_sellerNameByte_15 : decode cX13_sellerNameByte 15 = .ok (.invokevirtual 98, 3) := by decide +kernel
theorem dX13_sellerNameByte_18 : decode cX13_sellerNameByte 18 = .ok (.iload_n 2, 1) := by decide +kernel
theorem dX13_sellerNameByte_19 : decode cX13_sellerNameByte 19 = .ok (.invokestatic 348, 3) := by decide +kernel
theorem dX13_sellerNameByte_22 : decode cX13_sellerNameByte 22 = .ok (.goto 4, 3) := by decide +kernel
theorem dX13_sellerNameByte_25 : decode cX13_sellerNameByte 25 = .ok (.iconst 0, 1) := by decide +kernel
theorem dX13_sellerNameByte_26 : decode cX13_sellerNameByte 26 = .ok (.ireturn, 1) := by decide +kernel
theorem dX13_stallNameByte_0 : decode cX13_stallNameByte 0 = .ok (.aload_n 0, 1) := by decide +kernel
theorem dX13_stallNameByte_1 : decode cX13_stallNameByte 1 = .ok (.aload_n 0, 1) := by decide +kernel
theorem dX13_stallNameByte_2 : decode cX13_stallNameByte 2 = .ok (.iload_n 1, 1) := by decide +kernel
theorem dX13_stallNameByte_3 : decode cX13_stallNameByte 3 = .ok (.invokevirtual 94, 3) := by decide +kernel
theorem dX13_stallNameByte_6 : decode cX13_stallNameByte 6 = .ok (.invokevirtual 322, 3) := by decide +kernel
theorem dX13_stallNameByte_9 : decode cX13_stallNameByte 9 = .ok (.ifCond .eq 21, 3) := by decide +kernel
theorem dX13_stallNameByte_12 : decode cX13_stallNameByte 12 = .ok (.aload_n 0, 1) := by decide +kernel
theorem dX13_stallNameByte_13 : decode cX13_stallNameByte 13 = .ok (.getfield 7, 3) := by decide +kernel
theorem dX13_stallNameByte_16 : decode cX13_stallNameByte 16 = .ok (.bipush 9, 2) := by decide +kernel
theorem dX13_stallNameByte_18 : decode cX13_stallNameByte 18 = .ok (.iconst 2, 1) := by decide +kernel
theorem dX13_stallNameByte_19 : decode cX13_stallNameByte 19 = .ok (.iload_n 1, 1) := by decide +kernel
theorem dX13_stallNameByte_20 : decode cX13_stallNameByte 20 = .ok (.imul, 1) := by decide +kernel
theorem dX13_stallNameByte_21 : decode cX13_stallNameByte 21 = .ok (.iadd, 1) := by decide +kernel
theorem dX13_stallNameByte_22 : decode cX13_stallNameByte 22 = .ok (.iaload, 1) := by decide +kernel
theorem dX13_stallNameByte_23 : decode cX13_stallNameByte 23 = .ok (.iload_n 2, 1) := by decide +kernel
theorem dX13_stallNameByte_24 : decode cX13_stallNameByte 24 = .ok (.invokestatic 348, 3) := by decide +kernel
theorem dX13_stallNameByte_27 : decode cX13_stallNameByte 27 = .ok (.goto 4, 3) := by decide +kernel
theorem dX13_stallNameByte_30 : decode cX13_stallNameByte 30 = .ok (.iconst 0, 1) := by decide +kernel
theorem dX13_stallNameByte_31 : decode cX13_stallNameByte 31 = .ok (.ireturn, 1) := by decide +kernel
theorem dX13_isName_0 : decode cX13_isName 0 = .ok (.aload_n 0, 1) := by decide +kernel
theorem dX13_isName_1 : decode cX13_isName 1 = .ok (.getfield 74, 3) := by decide +kernel
theorem dX13_isName_4 : decode cX13_isName 4 = .ok (.iconst 1, 1) := by decide +kernel
theorem dX13_isName_5 : decode cX13_isName 5 = .ok (.bipush 6, 2) := by decide +kernel
theorem dX13_isName_7 : decode cX13_isName 7 = .ok (.invokestatic 90, 3) := by decide +kernel
theorem dX13_isName_10 : decode cX13_isName 10 = .ok (.istore_n 1, 1) := by decide +kernel
theorem dX13_isName_11 : decode cX13_isName 11 = .ok (.iconst 0, 1) := by decide +kernel
theorem dX13_isName_12 : decode cX13_isName 12 = .ok (.istore_n 2, 1) := by decide +kernel
theorem dX13_isName_13 : decode cX13_isName 13 = .ok (.iload_n 2, 1) := by decide +kernel
theorem dX13_isName_14 : decode cX13_isName 14 = .ok (.aload_n 0, 1) := by decide +kernel
theorem dX13_isName_15 : decode cX13_isName 15 = .ok (.getfield 74, 3) := by decide +kernel
theorem dX13_isName_18 : decode cX13_isName 18 = .ok (.if_icmp .ge 19, 3) := by decide +kernel
theorem dX13_isName_21 : decode cX13_isName 21 = .ok (.iload_n 1, 1) := by decide +kernel
theorem dX13_isName_22 : decode cX13_isName 22 = .ok (.ifCond .eq 15, 3) := by decide +kernel
theorem dX13_isName_25 : decode cX13_isName 25 = .ok (.aload_n 0, 1) := by decide +kernel
theorem dX13_isName_26 : decode cX13_isName 26 = .ok (.iload_n 2, 1) := by decide +kernel
theorem dX13_isName_27 : decode cX13_isName 27 = .ok (.invokevirtual 182, 3) := by decide +kernel
theorem dX13_isName_30 : decode cX13_isName 30 = .ok (.istore_n 1, 1) := by decide +kernel
theorem dX13_isName_31 : decode cX13_isName 31 = .ok (.iinc 2 1, 3) := by decide +kernel
theorem dX13_isName_34 : decode cX13_isName 34 = .ok (.goto (-21), 3) := by decide +kernel
theorem dX13_isName_37 : decode cX13_isName 37 = .ok (.iload_n 1, 1) := by decide +kernel
theorem dX13_isName_38 : decode cX13_isName 38 = .ok (.ireturn, 1) := by decide +kernel
theorem dX13_findSeller_0 : decode cX13_findSeller 0 = .ok (.aload_n 0, 1) := by decide +kernel
theorem dX13_findSeller_1 : decode cX13_findSeller 1 = .ok (.iconst 0, 1) := by decide +kernel
theorem dX13_findSeller_2 : decode cX13_findSeller 2 = .ok (.putfield 77, 3) := by decide +kernel
theorem dX13_findSeller_5 : decode cX13_findSeller 5 = .ok (.aload_n 0, 1) := by decide +kernel
theorem dX13_findSeller_6 : decode cX13_findSeller 6 = .ok (.invokevirtual 351, 3) := by decide +kernel
theorem dX13_findSeller_9 : decode cX13_findSeller 9 = .ok (.ifCond .eq 19, 3) := by decide +kernel
theorem dX13_findSeller_12 : decode cX13_findSeller 12 = .ok (.aload_n 0, 1) := by decide +kernel
theorem dX13_findSeller_13 : decode cX13_findSeller 13 = .ok (.aload_n 0, 1) := by decide +kernel
theorem dX13_findSeller_14 : decode cX13_findSeller 14 = .ok (.iconst 0, 1) := by decide +kernel
theorem dX13_findSeller_15 : decode cX13_findSeller 15 = .ok (.aload_n 0, 1) := by decide +kernel
theorem dX13_findSeller_16 : decode cX13_findSeller 16 = .ok (.getfield 74, 3) := by decide +kernel
theorem dX13_findSeller_19 : decode cX13_findSeller 19 = .ok (.invokevirtual 212, 3) := by decide +kernel
theorem dX13_findSeller_22 : decode cX13_findSeller 22 = .ok (.invokevirtual 226, 3) := by decide +kernel
theorem dX13_findSeller_25 : decode cX13_findSeller 25 = .ok (.goto 4, 3) := by decide +kernel
theorem dX13_findSeller_28 : decode cX13_findSeller 28 = .ok (.iconst (-1), 1) := by decide +kernel
theorem dX13_findSeller_29 : decode cX13_findSeller 29 = .ok (.ireturn, 1) := by decide +kernel
theorem dX13_freeStallCount_0 : decode cX13_freeStallCount 0 = .ok (.aload_n 0, 1) := by decide +kernel
theorem dX13_freeStallCount_1 : decode cX13_freeStallCount 1 = .ok (.iconst 0, 1) := by decide +kernel
theorem dX13_freeStallCount_2 : decode cX13_freeStallCount 2 = .ok (.putfield 77, 3) := by decide +kernel
theorem dX13_freeStallCount_5 : decode cX13_freeStallCount 5 = .ok (.iconst 0, 1) := by decide +kernel
theorem dX13_freeStallCount_6 : decode cX13_freeStallCount 6 = .ok (.istore_n 1, 1) := by decide +kernel
theorem dX13_freeStallCount_7 : decode cX13_freeStallCount 7 = .ok (.iconst 0, 1) := by decide +kernel
theorem dX13_freeStallCount_8 : decode cX13_freeStallCount 8 = .ok (.istore_n 2, 1) := by decide +kernel
theorem dX13_freeStallCount_9 : decode cX13_freeStallCount 9 = .ok (.iload_n 2, 1) := by decide +kernel
theorem dX13_freeStallCount_10 : decode cX13_freeStallCount 10 = .ok (.aload_n 0, 1) := by decide +kernel
theorem dX13_freeStallCount_11 : decode cX13_freeStallCount 11 = .ok (.getfield 7, 3) := by decide +kernel
theorem dX13_freeStallCount_14 : decode cX13_freeStallCount 14 = .ok (.iconst 1, 1) := by decide +kernel
theorem dX13_freeStallCount_15 : decode cX13_freeStallCount 15 = .ok (.iaload, 1) := by decide +kernel
theorem dX13_freeStallCount_16 : decode cX13_freeStallCount 16 = .ok (.if_icmp .ge 26, 3) := by decide +kernel
theorem dX13_freeStallCount_19 : decode cX13_freeStallCount 19 = .ok (.iload_n 1, 1) := by decide +kernel
theorem dX13_freeStallCount_20 : decode cX13_freeStallCount 20 = .ok (.aload_n 0, 1) := by decide +kernel
theorem dX13_freeStallCount_21 : decode cX13_freeStallCount 21 = .ok (.iload_n 2, 1) := by decide +kernel
theorem dX13_freeStallCount_22 : decode cX13_freeStallCount 22 = .ok (.invokevirtual 115, 3) := by decide +kernel
theorem dX13_freeStallCount_25 : decode cX13_freeStallCount 25 = .ok (.iconst (-1), 1) := by decide +kernel
theorem dX13_freeStallCount_26 : decode cX13_freeStallCount 26 = .ok (.if_icmp .ne 7, 3) := by decide +kernel
theorem dX13_freeStallCount_29 : decode cX13_freeStallCount 29 = .ok (.iconst 1, 1) := by decide +kernel
theorem dX13_freeStallCount_30 : decode cX13_freeStallCount 30 = .ok (.goto 4, 3) := by decide +kernel
theorem dX13_freeStallCount_33 : decode cX13_freeStallCount 33 = .ok (.iconst 0, 1) := by decide +kernel
theorem dX13_freeStallCount_34 : decode cX13_freeStallCount 34 = .ok (.iadd, 1) := by decide +kernel
theorem dX13_freeStallCount_35 : decode cX13_freeStallCount 35 = .ok (.istore_n 1, 1) := by decide +kernel
theorem dX13_freeStallCount_36 : decode cX13_freeStallCount 36 = .ok (.iinc 2 1, 3) := by decide +kernel
theorem dX13_freeStallCount_39 : decode cX13_freeStallCount 39 = .ok (.goto (-30), 3) := by decide +kernel
theorem dX13_freeStallCount_42 : decode cX13_freeStallCount 42 = .ok (.iload_n 1, 1) := by decide +kernel
theorem dX13_freeStallCount_43 : decode cX13_freeStallCount 43 = .ok (.ireturn, 1) := by decide +kernel
theorem dX13_envies_0 : decode cX13_envies 0 = .ok (.aload_n 0, 1) := by decide +kernel
theorem dX13_envies_1 : decode cX13_envies 1 = .ok (.aload_n 0, 1) := by decide +kernel
theorem dX13_envies_2 : decode cX13_envies 2 = .ok (.iload_n 1, 1) := by decide +kernel
theorem dX13_envies_3 : decode cX13_envies 3 = .ok (.invokevirtual 339, 3) := by decide +kernel
theorem dX13_envies_6 : decode cX13_envies 6 = .ok (.ifCond .eq 15, 3) := by decide +kernel
theorem dX13_envies_9 : decode cX13_envies 9 = .ok (.aload_n 0, 1) := by decide +kernel
theorem dX13_envies_10 : decode cX13_envies 10 = .ok (.iload_n 2, 1) := by decide +kernel
theorem dX13_envies_11 : decode cX13_envies 11 = .ok (.invokevirtual 339, 3) := by decide +kernel
theorem dX13_envies_14 : decode cX13_envies 14 = .ok (.ifCond .eq 7, 3) := by decide +kernel
theorem dX13_envies_17 : decode cX13_envies 17 = .ok (.iconst 1, 1) := by decide +kernel
theorem dX13_envies_18 : decode cX13_envies 18 = .ok (.goto 4, 3) := by decide +kernel
theorem dX13_envies_21 : decode cX13_envies 21 = .ok (.iconst 0, 1) := by decide +kernel
theorem dX13_envies_22 : decode cX13_envies 22 = .ok (.invokevirtual 322, 3) := by decide +kernel
theorem dX13_envies_25 : decode cX13_envies 25 = .ok (.ifCond .eq 16, 3) := by decide +kernel
theorem dX13_envies_28 : decode cX13_envies 28 = .ok (.aload_n 0, 1) := by decide +kernel
theorem dX13_envies_29 : decode cX13_envies 29 = .ok (.iload_n 1, 1) := by decide +kernel
theorem dX13_envies_30 : decode cX13_envies 30 = .ok (.iload_n 2, 1) := by decide +kernel
theorem dX13_envies_31 : decode cX13_envies 31 = .ok (.invokevirtual 111, 3) := by decide +kernel
theorem dX13_envies_34 : decode cX13_envies 34 = .ok (.ifCond .eq 7, 3) := by decide +kernel
theorem dX13_envies_37 : decode cX13_envies 37 = .ok (.iconst 1, 1) := by decide +kernel
theorem dX13_envies_38 : decode cX13_envies 38 = .ok (.goto 4, 3) := by decide +kernel
theorem dX13_envies_41 : decode cX13_envies 41 = .ok (.iconst 0, 1) := by decide +kernel
theorem dX13_envies_42 : decode cX13_envies 42 = .ok (.ireturn, 1) := by decide +kernel
theorem dX13_wouldSwap_0 : decode cX13_wouldSwap 0 = .ok (.aload_n 0, 1) := by decide +kernel
theorem dX13_wouldSwap_1 : decode cX13_wouldSwap 1 = .ok (.aload_n 0, 1) := by decide +kernel
theorem dX13_wouldSwap_2 : decode cX13_wouldSwap 2 = .ok (.iload_n 1, 1) := by decide +kernel
theorem dX13_wouldSwap_3 : decode cX13_wouldSwap 3 = .ok (.invokevirtual 339, 3) := by decide +kernel
theorem dX13_wouldSwap_6 : decode cX13_wouldSwap 6 = .ok (.ifCond .eq 15, 3) := by decide +kernel
theorem dX13_wouldSwap_9 : decode cX13_wouldSwap 9 = .ok (.aload_n 0, 1) := by decide +kernel
theorem dX13_wouldSwap_10 : decode cX13_wouldSwap 10 = .ok (.iload_n 2, 1) := by decide +kernel
theorem dX13_wouldSwap_11 : decode cX13_wouldSwap 11 = .ok (.invokevirtual 339, 3) := by decide +kernel
theorem dX13_wouldSwap_14 : decode cX13_wouldSwap 14 = .ok (.ifCond .eq 7, 3) := by decide +kernel
theorem dX13_wouldSwap_17 : decode cX13_wouldSwap 17 = .ok (.iconst 1, 1) := by decide +kernel
theorem dX13_wouldSwap_18 : decode cX13_wouldSwap 18 = .ok (.goto 4, 3) := by decide +kernel
theorem dX13_wouldSwap_21 : decode cX13_wouldSwap 21 = .ok (.iconst 0, 1) := by decide +kernel
theorem dX13_wouldSwap_22 : decode cX13_wouldSwap 22 = .ok (.invokevirtual 322, 3) := by decide +kernel
theorem dX13_wouldSwap_25 : decode cX13_wouldSwap 25 = .ok (.ifCond .eq 16, 3) := by decide +kernel
theorem dX13_wouldSwap_28 : decode cX13_wouldSwap 28 = .ok (.aload_n 0, 1) := by decide +kernel
theorem dX13_wouldSwap_29 : decode cX13_wouldSwap 29 = .ok (.iload_n 1, 1) := by decide +kernel
theorem dX13_wouldSwap_30 : decode cX13_wouldSwap 30 = .ok (.iload_n 2, 1) := by decide +kernel
theorem dX13_wouldSwap_31 : decode cX13_wouldSwap 31 = .ok (.invokevirtual 304, 3) := by decide +kernel
theorem dX13_wouldSwap_34 : decode cX13_wouldSwap 34 = .ok (.ifCond .eq 7, 3) := by decide +kernel
theorem dX13_wouldSwap_37 : decode cX13_wouldSwap 37 = .ok (.iconst 1, 1) := by decide +kernel
theorem dX13_wouldSwap_38 : decode cX13_wouldSwap 38 = .ok (.goto 4, 3) := by decide +kernel
theorem dX13_wouldSwap_41 : decode cX13_wouldSwap 41 = .ok (.iconst 0, 1) := by decide +kernel
theorem dX13_wouldSwap_42 : decode cX13_wouldSwap 42 = .ok (.ireturn, 1) := by decide +kernel
theorem dX13_swapPairCount_0 : decode cX13_swapPairCount 0 = .ok (.aload_n 0, 1) := by decide +kernel
theorem dX13_swapPairCount_1 : decode cX13_swapPairCount 1 = .ok (.iconst 0, 1) := by decide +kernel
theorem dX13_swapPairCount_2 : decode cX13_swapPairCount 2 = .ok (.putfield 77, 3) := by decide +kernel
theorem dX13_swapPairCount_5 : decode cX13_swapPairCount 5 = .ok (.iconst 0, 1) := by decide +kernel
theorem dX13_swapPairCount_6 : decode cX13_swapPairCount 6 = .ok (.istore_n 1, 1) := by decide +kernel
theorem dX13_swapPairCount_7 : decode cX13_swapPairCount 7 = .ok (.iconst 0, 1) := by decide +kernel
theorem dX13_swapPairCount_8 : decode cX13_swapPairCount 8 = .ok (.istore_n 2, 1) := by decide +kernel
theorem dX13_swapPairCount_9 : decode cX13_swapPairCount 9 = .ok (.iload_n 2, 1) := by decide +kernel
theorem dX13_swapPairCount_10 : decode cX13_swapPairCount 10 = .ok (.aload_n 0, 1) := by decide +kernel
theorem dX13_swapPairCount_11 : decode cX13_swapPairCount 11 = .ok (.getfield 7, 3) := by decide +kernel
theorem dX13_swapPairCount_14 : decode cX13_swapPairCount 14 = .ok (.iconst 0, 1) := by decide +kernel
theorem dX13_swapPairCount_15 : decode cX13_swapPairCount 15 = .ok (.iaload, 1) := by decide +kernel
theorem dX13_swapPairCount_16 : decode cX13_swapPairCount 16 = .ok (.if_icmp .ge 39, 3) := by decide +kernel
theorem dX13_swapPairCount_19 : decode cX13_swapPairCount 19 = .ok (.iconst 0, 1) := by decide +kernel
theorem dX13_swapPairCount_20 : decode cX13_swapPairCount 20 = .ok (.istore_n 3, 1) := by decide +kernel
theorem dX13_swapPairCount_21 : decode cX13_swapPairCount 21 = .ok (.iload_n 3, 1) := by decide +kernel
theorem dX13_swapPairCount_22 : decode cX13_swapPairCount 22 = .ok (.iload_n 2, 1) := by decide +kernel
theorem dX13_swapPairCount_23 : decode cX13_swapPairCount 23 = .ok (.if_icmp .ge 26, 3) := by decide +kernel
theorem dX13_swapPairCount_26 : decode cX13_swapPairCount 26 = .ok (.iload_n 1, 1) := by decide +kernel
theorem dX13_swapPairCount_27 : decode cX13_swapPairCount 27 = .ok (.aload_n 0, 1) := by decide +kernel
theorem dX13_swapPairCount_28 : decode cX13_swapPairCount 28 = .ok (.iload_n 2, 1) := by decide +kernel
theorem dX13_swapPairCount_29 : decode cX13_swapPairCount 29 = .ok (.iload_n 3, 1) := by decide +kernel
theorem dX13_swapPairCount_30 : decode cX13_swapPairCount 30 = .ok (.invokevirtual 304, 3) := by decide +kernel
theorem dX13_swapPairCount_33 : decode cX13_swapPairCount 33 = .ok (.ifCond .eq 7, 3) := by decide +kernel
theorem dX13_swapPairCount_36 : decode cX13_swapPairCount 36 = .ok (.iconst 1, 1) := by decide +kernel
theorem dX13_swapPairCount_37 : decode cX13_swapPairCount 37 = .ok (.goto 4, 3) := by decide +kernel
theorem dX13_swapPairCount_40 : decode cX13_swapPairCount 40 = .ok (.iconst 0, 1) := by decide +kernel
theorem dX13_swapPairCount_41 : decode cX13_swapPairCount 41 = .ok (.iadd, 1) := by decide +kernel
theorem dX13_swapPairCount_42 : decode cX13_swapPairCount 42 = .ok (.istore_n 1, 1) := by decide +kernel
theorem dX13_swapPairCount_43 : decode cX13_swapPairCount 43 = .ok (.iinc 3 1, 3) := by decide +kernel
theorem dX13_swapPairCount_46 : decode cX13_swapPairCount 46 = .ok (.goto (-25), 3) := by decide +kernel
theorem dX13_swapPairCount_49 : decode cX13_swapPairCount 49 = .ok (.iinc 2 1, 3) := by decide +kernel
theorem dX13_swapPairCount_52 : decode cX13_swapPairCount 52 = .ok (.goto (-43), 3) := by decide +kernel
theorem dX13_swapPairCount_55 : decode cX13_swapPairCount 55 = .ok (.iload_n 1, 1) := by decide +kernel
theorem dX13_swapPairCount_56 : decode cX13_swapPairCount 56 = .ok (.ireturn, 1) := by decide +kernel
theorem dX13_improvingCycleLength_0 : decode cX13_improvingCycleLength 0 = .ok (.aload_n 0, 1) := by decide +kernel
theorem dX13_improvingCycleLength_1 : decode cX13_improvingCycleLength 1 = .ok (.aload_n 0, 1) := by decide +kernel
theorem dX13_improvingCycleLength_2 : decode cX13_improvingCycleLength 2 = .ok (.iload_n 1, 1) := by decide +kernel
theorem dX13_improvingCycleLength_3 : decode cX13_improvingCycleLength 3 = .ok (.invokevirtual 339, 3) := by decide +kernel
theorem dX13_improvingCycleLength_6 : decode cX13_improvingCycleLength 6 = .ok (.invokevirtual 322, 3) := by decide +kernel
theorem dX13_improvingCycleLength_9 : decode cX13_improvingCycleLength 9 = .ok (.ifCond .eq 11, 3) := by decide +kernel
theorem dX13_improvingCycleLength_12 : decode cX13_improvingCycleLength 12 = .ok (.aload_n 0, 1) := by decide +kernel
theorem dX13_improvingCycleLength_13 : decode cX13_improvingCycleLength 13 = .ok (.iload_n 1, 1) := by decide +kernel
theorem dX13_improvingCycleLength_14 : decode cX13_improvingCycleLength 14 = .ok (.invokevirtual 355, 3) := by decide +kernel
theorem dX13_improvingCycleLength_17 : decode cX13_improvingCycleLength 17 = .ok (.goto 4, 3) := by decide +kernel
theorem dX13_improvingCycleLength_20 : decode cX13_improvingCycleLength 20 = .ok (.iconst 0, 1) := by decide +kernel
theorem dX13_improvingCycleLength_21 : decode cX13_improvingCycleLength 21 = .ok (.ireturn, 1) := by decide +kernel
theorem dX13_betterFreeStall_0 : decode cX13_betterFreeStall 0 = .ok (.aload_n 0, 1) := by decide +kernel
theorem dX13_betterFreeStall_1 : decode cX13_betterFreeStall 1 = .ok (.aload_n 0, 1) := by decide +kernel
theorem dX13_betterFreeStall_2 : decode cX13_betterFreeStall 2 = .ok (.iload_n 1, 1) := by decide +kernel
theorem dX13_betterFreeStall_3 : decode cX13_betterFreeStall 3 = .ok (.invokevirtual 339, 3) := by decide +kernel
theorem dX13_betterFreeStall_6 : decode cX13_betterFreeStall 6 = .ok (.invokevirtual 322, 3) := by decide +kernel
theorem dX13_betterFreeStall_9 : decode cX13_betterFreeStall 9 = .ok (.ifCond .eq 11, 3) := by decide +kernel
theorem dX13_betterFreeStall_12 : decode cX13_betterFreeStall 12 = .ok (.aload_n 0, 1) := by decide +kernel
theorem dX13_betterFreeStall_13 : decode cX13_betterFreeStall 13 = .ok (.iload_n 1, 1) := by decide +kernel
theorem dX13_betterFreeStall_14 : decode cX13_betterFreeStall 14 = .ok (.invokevirtual 358, 3) := by decide +kernel
theorem dX13_betterFreeStall_17 : decode cX13_betterFreeStall 17 = .ok (.goto 4, 3) := by decide +kernel
theorem dX13_betterFreeStall_20 : decode cX13_betterFreeStall 20 = .ok (.iconst 0, 1) := by decide +kernel
theorem dX13_betterFreeStall_21 : decode cX13_betterFreeStall 21 = .ok (.ireturn, 1) := by decide +kernel
theorem dX13_isEfficient_0 : decode cX13_isEfficient 0 = .ok (.aload_n 0, 1) := by decide +kernel
theorem dX13_isEfficient_1 : decode cX13_isEfficient 1 = .ok (.iconst 0, 1) := by decide +kernel
theorem dX13_isEfficient_2 : decode cX13_isEfficient 2 = .ok (.putfield 77, 3) := by decide +kernel
theorem dX13_isEfficient_5 : decode cX13_isEfficient 5 = .ok (.iconst 1, 1) := by decide +kernel
theorem dX13_isEfficient_6 : decode cX13_isEfficient 6 = .ok (.istore_n 1, 1) := by decide +kernel
theorem dX13_isEfficient_7 : decode cX13_isEfficient 7 = .ok (.iconst 0, 1) := by decide +kernel
theorem dX13_isEfficient_8 : decode cX13_isEfficient 8 = .ok (.istore_n 2, 1) := by decide +kernel
theorem dX13_isEfficient_9 : decode cX13_isEfficient 9 = .ok (.iload_n 2, 1) := by decide +kernel
theorem dX13_isEfficient_10 : decode cX13_isEfficient 10 = .ok (.aload_n 0, 1) := by decide +kernel
theorem dX13_isEfficient_11 : decode cX13_isEfficient 11 = .ok (.getfield 7, 3) := by decide +kernel
theorem dX13_isEfficient_14 : decode cX13_isEfficient 14 = .ok (.iconst 0, 1) := by decide +kernel
theorem dX13_isEfficient_15 : decode cX13_isEfficient 15 = .ok (.iaload, 1) := by decide +kernel
theorem dX13_isEfficient_16 : decode cX13_isEfficient 16 = .ok (.if_icmp .ge 71, 3) := by decide +kernel
theorem dX13_isEfficient_19 : decode cX13_isEfficient 19 = .ok (.aload_n 0, 1) := by decide +kernel
theorem dX13_isEfficient_20 : decode cX13_isEfficient 20 = .ok (.iload_n 2, 1) := by decide +kernel
theorem dX13_isEfficient_21 : decode cX13_isEfficient 21 = .ok (.iconst 3, 1) := by decide +kernel
theorem dX13_isEfficient_22 : decode cX13_isEfficient 22 = .ok (.invokevirtual 98, 3) := by decide +kernel
theorem dX13_isEfficient_25 : decode cX13_isEfficient 25 = .ok (.istore_n 3, 1) := by decide +kernel
theorem dX13_isEfficient_26 : decode cX13_isEfficient 26 = .ok (.iload_n 3, 1) := by decide +kernel
theorem dX13_isEfficient_27 : decode cX13_isEfficient 27 = .ok (.iconst (-1), 1) := by decide +kernel
theorem dX13_isEfficient_28 : decode cX13_isEfficient 28 = .ok (.if_icmp .eq 13, 3) := by decide +kernel
theorem dX13_isEfficient_31 : decode cX13_isEfficient 31 = .ok (.aload_n 0, 1) := by decide +kernel
theorem dX13_isEfficient_32 : decode cX13_isEfficient 32 = .ok (.iload_n 2, 1) := by decide +kernel
theorem dX13_isEfficient_33 : decode cX13_isEfficient 33 = .ok (.iload_n 3, 1) := by decide +kernel
theorem dX13_isEfficient_34 : decode cX13_isEfficient 34 = .ok (.invokevirtual 102, 3) := by decide +kernel
theorem dX13_isEfficient_37 : decode cX13_isEfficient 37 = .ok (.iconst (-1), 1) := by decide +kernel
theorem dX13_isEfficient_38 : decode cX13_isEfficient 38 = .ok (.if_icmp .eq 7, 3) := by decide +kernel
theorem dX13_isEfficient_41 : decode cX13_isEfficient 41 = .ok (.iconst 1, 1) := by decide +kernel
theorem dX13_isEfficient_42 : decode cX13_isEfficient 42 = .ok (.goto 4, 3) := by decide +kernel
theorem dX13_isEfficient_45 : decode cX13_isEfficient 45 = .ok (.iconst 0, 1) := by decide +kernel
theorem dX13_isEfficient_46 : decode cX13_isEfficient 46 = .ok (.istore 4, 2) := by decide +kernel
theorem dX13_isEfficient_48 : decode cX13_isEfficient 48 = .ok (.iload_n 1, 1) := by decide +kernel
theorem dX13_isEfficient_49 : decode cX13_isEfficient 49 = .ok (.ifCond .eq 30, 3) := by decide +kernel
theorem dX13_isEfficient_52 : decode cX13_isEfficient 52 = .ok (.iload 4, 2) := by decide +kernel
theorem dX13_isEfficient_54 : decode cX13_isEfficient 54 = .ok (.ifCond .eq 25, 3) := by decide +kernel
theorem dX13_isEfficient_57 : decode cX13_isEfficient 57 = .ok (.aload_n 0, 1) := by decide +kernel
theorem dX13_isEfficient_58 : decode cX13_isEfficient 58 = .ok (.iload_n 2, 1) := by decide +kernel
theorem dX13_isEfficient_59 : decode cX13_isEfficient 59 = .ok (.invokevirtual 358, 3) := by decide +kernel
theorem dX13_isEfficient_62 : decode cX13_isEfficient 62 = .ok (.iconst (-1), 1) := by decide +kernel
theorem dX13_isEfficient_63 : decode cX13_isEfficient 63 = .ok (.if_icmp .ne 16, 3) := by decide +kernel
theorem dX13_isEfficient_66 : decode cX13_isEfficient 66 = .ok (.aload_n 0, 1) := by decide +kernel
theorem dX13_isEfficient_67 : decode cX13_isEfficient 67 = .ok (.iload_n 2, 1) := by decide +kernel
theorem dX13_isEfficient_68 : decode cX13_isEfficient 68 = .ok (.invokevirtual 355, 3) := by decide +kernel
theorem dX13_isEfficient_71 : decode cX13_isEfficient 71 = .ok (.iconst (-1), 1) := by decide +kernel
theorem dX13_isEfficient_72 : decode cX13_isEfficient 72 = .ok (.if_icmp .ne 7, 3) := by decide +kernel
theorem dX13_isEfficient_75 : decode cX13_isEfficient 75 = .ok (.iconst 1, 1) := by decide +kernel
theorem dX13_isEfficient_76 : decode cX13_isEfficient 76 = .ok (.goto 4, 3) := by decide +kernel
theorem dX13_isEfficient_79 : decode cX13_isEfficient 79 = .ok (.iconst 0, 1) := by decide +kernel
