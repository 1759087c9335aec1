theorem dX13_isEfficient_80 : decode cX13_isEfficient 80 = .ok (.istore_n 1, 1) := by decide +kernel
theorem dX13_isEfficient_81 : decode cX13_isEfficient 81 = .ok (.iinc 2 1, 3) := by decide +kernel
theorem dX13_isEfficient_84 : decode cX13_isEfficient 84 = .ok (.goto (-75), 3) := by decide +kernel
theorem dX13_isEfficient_87 : decode cX13_isEfficient 87 = .ok (.iload_n 1, 1) := by decide +kernel
theorem dX13_isEfficient_88 : decode cX13_isEfficient 88 = .ok (.ireturn, 1) := by decide +kernel
theorem dX13_blockReason_0 : decode cX13_blockReason 0 = .ok (.aload_n 0, 1) := by decide +kernel
theorem dX13_blockReason_1 : decode cX13_blockReason 1 = .ok (.aload_n 0, 1) := by decide +kernel
theorem dX13_blockReason_2 : decode cX13_blockReason 2 = .ok (.iload_n 1, 1) := by decide +kernel
theorem dX13_blockReason_3 : decode cX13_blockReason 3 = .ok (.invokevirtual 339, 3) := by decide +kernel
theorem dX13_blockReason_6 : decode cX13_blockReason 6 = .ok (.ifCond .eq 15, 3) := by decide +kernel
theorem dX13_blockReason_9 : decode cX13_blockReason 9 = .ok (.aload_n 0, 1) := by decide +kernel
theorem dX13_blockReason_10 : decode cX13_blockReason 10 = .ok (.iload_n 2, 1) := by decide +kernel
theorem dX13_blockReason_11 : decode cX13_blockReason 11 = .ok (.invokevirtual 94, 3) := by decide +kernel
theorem dX13_blockReason_14 : decode cX13_blockReason 14 = .ok (.ifCond .eq 7, 3) := by decide +kernel
theorem dX13_blockReason_17 : decode cX13_blockReason 17 = .ok (.iconst 1, 1) := by decide +kernel
theorem dX13_blockReason_18 : decode cX13_blockReason 18 = .ok (.goto 4, 3) := by decide +kernel
theorem dX13_blockReason_21 : decode cX13_blockReason 21 = .ok (.iconst 0, 1) := by decide +kernel
theorem dX13_blockReason_22 : decode cX13_blockReason 22 = .ok (.invokevirtual 322, 3) := by decide +kernel
theorem dX13_blockReason_25 : decode cX13_blockReason 25 = .ok (.ifCond .ne 5, 3) := by decide +kernel
theorem dX13_blockReason_28 : decode cX13_blockReason 28 = .ok (.iconst 0, 1) := by decide +kernel
theorem dX13_blockReason_29 : decode cX13_blockReason 29 = .ok (.ireturn, 1) := by decide +kernel
theorem dX13_blockReason_30 : decode cX13_blockReason 30 = .ok (.aload_n 0, 1) := by decide +kernel
theorem dX13_blockReason_31 : decode cX13_blockReason 31 = .ok (.iload_n 1, 1) := by decide +kernel
theorem dX13_blockReason_32 : decode cX13_blockReason 32 = .ok (.iconst 3, 1) := by decide +kernel
theorem dX13_blockReason_33 : decode cX13_blockReason 33 = .ok (.invokevirtual 98, 3) := by decide +kernel
theorem dX13_blockReason_36 : decode cX13_blockReason 36 = .ok (.istore_n 3, 1) := by decide +kernel
theorem dX13_blockReason_37 : decode cX13_blockReason 37 = .ok (.iload_n 3, 1) := by decide +kernel
theorem dX13_blockReason_38 : decode cX13_blockReason 38 = .ok (.iload_n 2, 1) := by decide +kernel
theorem dX13_blockReason_39 : decode cX13_blockReason 39 = .ok (.if_icmp .ne 5, 3) := by decide +kernel
theorem dX13_blockReason_42 : decode cX13_blockReason 42 = .ok (.iconst 0, 1) := by decide +kernel
theorem dX13_blockReason_43 : decode cX13_blockReason 43 = .ok (.ireturn, 1) := by decide +kernel
theorem dX13_blockReason_44 : decode cX13_blockReason 44 = .ok (.aload_n 0, 1) := by decide +kernel
theorem dX13_blockReason_45 : decode cX13_blockReason 45 = .ok (.iload_n 1, 1) := by decide +kernel
theorem dX13_blockReason_46 : decode cX13_blockReason 46 = .ok (.iload_n 2, 1) := by decide +kernel
theorem dX13_blockReason_47 : decode cX13_blockReason 47 = .ok (.invokevirtual 102, 3) := by decide +kernel
theorem dX13_blockReason_50 : decode cX13_blockReason 50 = .ok (.iconst (-1), 1) := by decide +kernel
theorem dX13_blockReason_51 : decode cX13_blockReason 51 = .ok (.if_icmp .ne 5, 3) := by decide +kernel
theorem dX13_blockReason_54 : decode cX13_blockReason 54 = .ok (.iconst 1, 1) := by decide +kernel
theorem dX13_blockReason_55 : decode cX13_blockReason 55 = .ok (.ireturn, 1) := by decide +kernel
theorem dX13_blockReason_56 : decode cX13_blockReason 56 = .ok (.iload_n 3, 1) := by decide +kernel
theorem dX13_blockReason_57 : decode cX13_blockReason 57 = .ok (.iconst (-1), 1) := by decide +kernel
theorem dX13_blockReason_58 : decode cX13_blockReason 58 = .ok (.if_icmp .eq 15, 3) := by decide +kernel
theorem dX13_blockReason_61 : decode cX13_blockReason 61 = .ok (.aload_n 0, 1) := by decide +kernel
theorem dX13_blockReason_62 : decode cX13_blockReason 62 = .ok (.iload_n 1, 1) := by decide +kernel
theorem dX13_blockReason_63 : decode cX13_blockReason 63 = .ok (.iload_n 3, 1) := by decide +kernel
theorem dX13_blockReason_64 : decode cX13_blockReason 64 = .ok (.iload_n 2, 1) := by decide +kernel
theorem dX13_blockReason_65 : decode cX13_blockReason 65 = .ok (.invokevirtual 108, 3) := by decide +kernel
theorem dX13_blockReason_68 : decode cX13_blockReason 68 = .ok (.ifCond .eq 5, 3) := by decide +kernel
theorem dX13_blockReason_71 : decode cX13_blockReason 71 = .ok (.iconst 2, 1) := by decide +kernel
theorem dX13_blockReason_72 : decode cX13_blockReason 72 = .ok (.ireturn, 1) := by decide +kernel
theorem dX13_blockReason_73 : decode cX13_blockReason 73 = .ok (.aload_n 0, 1) := by decide +kernel
theorem dX13_blockReason_74 : decode cX13_blockReason 74 = .ok (.iload_n 2, 1) := by decide +kernel
theorem dX13_blockReason_75 : decode cX13_blockReason 75 = .ok (.invokevirtual 115, 3) := by decide +kernel
theorem dX13_blockReason_78 : decode cX13_blockReason 78 = .ok (.iconst (-1), 1) := by decide +kernel
theorem dX13_blockReason_79 : decode cX13_blockReason 79 = .ok (.if_icmp .eq 7, 3) := by decide +kernel
theorem dX13_blockReason_82 : decode cX13_blockReason 82 = .ok (.iconst 3, 1) := by decide +kernel
theorem dX13_blockReason_83 : decode cX13_blockReason 83 = .ok (.goto 22, 3) := by decide +kernel
theorem dX13_blockReason_86 : decode cX13_blockReason 86 = .ok (.aload_n 0, 1) := by decide +kernel
theorem dX13_blockReason_87 : decode cX13_blockReason 87 = .ok (.iload_n 2, 1) := by decide +kernel
theorem dX13_blockReason_88 : decode cX13_blockReason 88 = .ok (.invokevirtual 149, 3) := by decide +kernel
theorem dX13_blockReason_91 : decode cX13_blockReason 91 = .ok (.aload_n 0, 1) := by decide +kernel
theorem dX13_blockReason_92 : decode cX13_blockReason 92 = .ok (.iload_n 1, 1) := by decide +kernel
theorem dX13_blockReason_93 : decode cX13_blockReason 93 = .ok (.iconst 1, 1) := by decide +kernel
theorem dX13_blockReason_94 : decode cX13_blockReason 94 = .ok (.invokevirtual 98, 3) := by decide +kernel
theorem dX13_blockReason_97 : decode cX13_blockReason 97 = .ok (.if_icmp .le 7, 3) := by decide +kernel
theorem dX13_blockReason_100 : decode cX13_blockReason 100 = .ok (.iconst 4, 1) := by decide +kernel
theorem dX13_blockReason_101 : decode cX13_blockReason 101 = .ok (.goto 4, 3) := by decide +kernel
theorem dX13_blockReason_104 : decode cX13_blockReason 104 = .ok (.iconst 5, 1) := by decide +kernel
theorem dX13_blockReason_105 : decode cX13_blockReason 105 = .ok (.ireturn, 1) := by decide +kernel
theorem dX13_allocatedStall_0 : decode cX13_allocatedStall 0 = .ok (.aload_n 0, 1) := by decide +kernel
theorem dX13_allocatedStall_1 : decode cX13_allocatedStall 1 = .ok (.aload_n 0, 1) := by decide +kernel
theorem dX13_allocatedStall_2 : decode cX13_allocatedStall 2 = .ok (.iload_n 1, 1) := by decide +kernel
theorem dX13_allocatedStall_3 : decode cX13_allocatedStall 3 = .ok (.invokevirtual 339, 3) := by decide +kernel
theorem dX13_allocatedStall_6 : decode cX13_allocatedStall 6 = .ok (.invokevirtual 322, 3) := by decide +kernel
theorem dX13_allocatedStall_9 : decode cX13_allocatedStall 9 = .ok (.ifCond .ne 5, 3) := by decide +kernel
theorem dX13_allocatedStall_12 : decode cX13_allocatedStall 12 = .ok (.iconst 0, 1) := by decide +kernel
theorem dX13_allocatedStall_13 : decode cX13_allocatedStall 13 = .ok (.ireturn, 1) := by decide +kernel
theorem dX13_allocatedStall_14 : decode cX13_allocatedStall 14 = .ok (.aload_n 0, 1) := by decide +kernel
theorem dX13_allocatedStall_15 : decode cX13_allocatedStall 15 = .ok (.invokevirtual 152, 3) := by decide +kernel
theorem dX13_allocatedStall_18 : decode cX13_allocatedStall 18 = .ok (.aload_n 0, 1) := by decide +kernel
theorem dX13_allocatedStall_19 : decode cX13_allocatedStall 19 = .ok (.getfield 41, 3) := by decide +kernel
theorem dX13_allocatedStall_22 : decode cX13_allocatedStall 22 = .ok (.iload_n 1, 1) := by decide +kernel
theorem dX13_allocatedStall_23 : decode cX13_allocatedStall 23 = .ok (.iaload, 1) := by decide +kernel
theorem dX13_allocatedStall_24 : decode cX13_allocatedStall 24 = .ok (.ireturn, 1) := by decide +kernel
theorem dX13_allocatedIfFirst_0 : decode cX13_allocatedIfFirst 0 = .ok (.aload_n 0, 1) := by decide +kernel
theorem dX13_allocatedIfFirst_1 : decode cX13_allocatedIfFirst 1 = .ok (.aload_n 0, 1) := by decide +kernel
theorem dX13_allocatedIfFirst_2 : decode cX13_allocatedIfFirst 2 = .ok (.iload_n 1, 1) := by decide +kernel
theorem dX13_allocatedIfFirst_3 : decode cX13_allocatedIfFirst 3 = .ok (.invokevirtual 339, 3) := by decide +kernel
theorem dX13_allocatedIfFirst_6 : decode cX13_allocatedIfFirst 6 = .ok (.invokevirtual 322, 3) := by decide +kernel
theorem dX13_allocatedIfFirst_9 : decode cX13_allocatedIfFirst 9 = .ok (.ifCond .ne 5, 3) := by decide +kernel
theorem dX13_allocatedIfFirst_12 : decode cX13_allocatedIfFirst 12 = .ok (.iconst 0, 1) := by decide +kernel
theorem dX13_allocatedIfFirst_13 : decode cX13_allocatedIfFirst 13 = .ok (.ireturn, 1) := by decide +kernel
theorem dX13_allocatedIfFirst_14 : decode cX13_allocatedIfFirst 14 = .ok (.aload_n 0, 1) := by decide +kernel
theorem dX13_allocatedIfFirst_15 : decode cX13_allocatedIfFirst 15 = .ok (.getfield 7, 3) := by decide +kernel
theorem dX13_allocatedIfFirst_18 : decode cX13_allocatedIfFirst 18 = .ok (.aload_n 0, 1) := by decide +kernel
theorem dX13_allocatedIfFirst_19 : decode cX13_allocatedIfFirst 19 = .ok (.getfield 13, 3) := by decide +kernel
theorem dX13_allocatedIfFirst_22 : decode cX13_allocatedIfFirst 22 = .ok (.invokestatic 326, 3) := by decide +kernel
theorem dX13_allocatedIfFirst_25 : decode cX13_allocatedIfFirst 25 = .ok (.aload_n 0, 1) := by decide +kernel
theorem dX13_allocatedIfFirst_26 : decode cX13_allocatedIfFirst 26 = .ok (.iload_n 1, 1) := by decide +kernel
theorem dX13_allocatedIfFirst_27 : decode cX13_allocatedIfFirst 27 = .ok (.iconst 0, 1) := by decide +kernel
theorem dX13_allocatedIfFirst_28 : decode cX13_allocatedIfFirst 28 = .ok (.invokevirtual 361, 3) := by decide +kernel
theorem dX13_allocatedIfFirst_31 : decode cX13_allocatedIfFirst 31 = .ok (.pop, 1) := by decide +kernel
theorem dX13_allocatedIfFirst_32 : decode cX13_allocatedIfFirst 32 = .ok (.aload_n 0, 1) := by decide +kernel
theorem dX13_allocatedIfFirst_33 : decode cX13_allocatedIfFirst 33 = .ok (.invokevirtual 152, 3) := by decide +kernel
theorem dX13_allocatedIfFirst_36 : decode cX13_allocatedIfFirst 36 = .ok (.aload_n 0, 1) := by decide +kernel
theorem dX13_allocatedIfFirst_37 : decode cX13_allocatedIfFirst 37 = .ok (.getfield 13, 3) := by decide +kernel
theorem dX13_allocatedIfFirst_40 : decode cX13_allocatedIfFirst 40 = .ok (.aload_n 0, 1) := by decide +kernel
theorem dX13_allocatedIfFirst_41 : decode cX13_allocatedIfFirst 41 = .ok (.getfield 7, 3) := by decide +kernel
theorem dX13_allocatedIfFirst_44 : decode cX13_allocatedIfFirst 44 = .ok (.invokestatic 326, 3) := by decide +kernel
theorem dX13_allocatedIfFirst_47 : decode cX13_allocatedIfFirst 47 = .ok (.aload_n 0, 1) := by decide +kernel
theorem dX13_allocatedIfFirst_48 : decode cX13_allocatedIfFirst 48 = .ok (.getfield 41, 3) := by decide +kernel
theorem dX13_allocatedIfFirst_51 : decode cX13_allocatedIfFirst 51 = .ok (.iload_n 1, 1) := by decide +kernel
theorem dX13_allocatedIfFirst_52 : decode cX13_allocatedIfFirst 52 = .ok (.iaload, 1) := by decide +kernel
theorem dX13_allocatedIfFirst_53 : decode cX13_allocatedIfFirst 53 = .ok (.ireturn, 1) := by decide +kernel
theorem dX13_allocatedIfReported_0 : decode cX13_allocatedIfReported 0 = .ok (.aload_n 0, 1) := by decide +kernel
theorem dX13_allocatedIfReported_1 : decode cX13_allocatedIfReported 1 = .ok (.aload_n 0, 1) := by decide +kernel
theorem dX13_allocatedIfReported_2 : decode cX13_allocatedIfReported 2 = .ok (.iload_n 1, 1) := by decide +kernel
theorem dX13_allocatedIfReported_3 : decode cX13_allocatedIfReported 3 = .ok (.invokevirtual 339, 3) := by decide +kernel
theorem dX13_allocatedIfReported_6 : decode cX13_allocatedIfReported 6 = .ok (.ifCond .eq 15, 3) := by decide +kernel
theorem dX13_allocatedIfReported_9 : decode cX13_allocatedIfReported 9 = .ok (.aload_n 0, 1) := by decide +kernel
theorem dX13_allocatedIfReported_10 : decode cX13_allocatedIfReported 10 = .ok (.iload_n 2, 1) := by decide +kernel
theorem dX13_allocatedIfReported_11 : decode cX13_allocatedIfReported 11 = .ok (.invokevirtual 94, 3) := by decide +kernel
theorem dX13_allocatedIfReported_14 : decode cX13_allocatedIfReported 14 = .ok (.ifCond .eq 7, 3) := by decide +kernel
theorem dX13_allocatedIfReported_17 : decode cX13_allocatedIfReported 17 = .ok (.iconst 1, 1) := by decide +kernel
theorem dX13_allocatedIfReported_18 : decode cX13_allocatedIfReported 18 = .ok (.goto 4, 3) := by decide +kernel
theorem dX13_allocatedIfReported_21 : decode cX13_allocatedIfReported 21 = .ok (.iconst 0, 1) := by decide +kernel
theorem dX13_allocatedIfReported_22 : decode cX13_allocatedIfReported 22 = .ok (.invokevirtual 322, 3) := by decide +kernel
theorem dX13_allocatedIfReported_25 : decode cX13_allocatedIfReported 25 = .ok (.ifCond .ne 5, 3) := by decide +kernel
theorem dX13_allocatedIfReported_28 : decode cX13_allocatedIfReported 28 = .ok (.iconst 0, 1) := by decide +kernel
theorem dX13_allocatedIfReported_29 : decode cX13_allocatedIfReported 29 = .ok (.ireturn, 1) := by decide +kernel
theorem dX13_allocatedIfReported_30 : decode cX13_allocatedIfReported 30 = .ok (.aload_n 0, 1) := by decide +kernel
theorem dX13_allocatedIfReported_31 : decode cX13_allocatedIfReported 31 = .ok (.getfield 7, 3) := by decide +kernel
theorem dX13_allocatedIfReported_34 : decode cX13_allocatedIfReported 34 = .ok (.aload_n 0, 1) := by decide +kernel
theorem dX13_allocatedIfReported_35 : decode cX13_allocatedIfReported 35 = .ok (.getfield 13, 3) := by decide +kernel
theorem dX13_allocatedIfReported_38 : decode cX13_allocatedIfReported 38 = .ok (.invokestatic 326, 3) := by decide +kernel
theorem dX13_allocatedIfReported_41 : decode cX13_allocatedIfReported 41 = .ok (.aload_n 0, 1) := by decide +kernel
theorem dX13_allocatedIfReported_42 : decode cX13_allocatedIfReported 42 = .ok (.iload_n 1, 1) := by decide +kernel
theorem dX13_allocatedIfReported_43 : decode cX13_allocatedIfReported 43 = .ok (.iload_n 2, 1) := by decide +kernel
theorem dX13_allocatedIfReported_44 : decode cX13_allocatedIfReported 44 = .ok (.invokevirtual 313, 3) := by decide +kernel
theorem dX13_allocatedIfReported_47 : decode cX13_allocatedIfReported 47 = .ok (.pop, 1) := by decide +kernel
theorem dX13_allocatedIfReported_48 : decode cX13_allocatedIfReported 48 = .ok (.aload_n 0, 1) := by decide +kernel
theorem dX13_allocatedIfReported_49 : decode cX13_allocatedIfReported 49 = .ok (.invokevirtual 152, 3) := by decide +kernel
theorem dX13_allocatedIfReported_52 : decode cX13_allocatedIfReported 52 = .ok (.aload_n 0, 1) := by decide +kernel
theorem dX13_allocatedIfReported_53 : decode cX13_allocatedIfReported 53 = .ok (.getfield 13, 3) := by decide +kernel
theorem dX13_allocatedIfReported_56 : decode cX13_allocatedIfReported 56 = .ok (.aload_n 0, 1) := by decide +kernel
theorem dX13_allocatedIfReported_57 : decode cX13_allocatedIfReported 57 = .ok (.getfield 7, 3) := by decide +kernel
theorem dX13_allocatedIfReported_60 : decode cX13_allocatedIfReported 60 = .ok (.invokestatic 326, 3) := by decide +kernel
theorem dX13_allocatedIfReported_63 : decode cX13_allocatedIfReported 63 = .ok (.aload_n 0, 1) := by decide +kernel
theorem dX13_allocatedIfReported_64 : decode cX13_allocatedIfReported 64 = .ok (.getfield 41, 3) := by decide +kernel
theorem dX13_allocatedIfReported_67 : decode cX13_allocatedIfReported 67 = .ok (.iload_n 1, 1) := by decide +kernel
theorem dX13_allocatedIfReported_68 : decode cX13_allocatedIfReported 68 = .ok (.iaload, 1) := by decide +kernel
theorem dX13_allocatedIfReported_69 : decode cX13_allocatedIfReported 69 = .ok (.ireturn, 1) := by decide +kernel
theorem dX13_gainerCount_0 : decode cX13_gainerCount 0 = .ok (.aload_n 0, 1) := by decide +kernel
theorem dX13_gainerCount_1 : decode cX13_gainerCount 1 = .ok (.iconst 0, 1) := by decide +kernel
theorem dX13_gainerCount_2 : decode cX13_gainerCount 2 = .ok (.putfield 77, 3) := by decide +kernel
theorem dX13_gainerCount_5 : decode cX13_gainerCount 5 = .ok (.aload_n 0, 1) := by decide +kernel
theorem dX13_gainerCount_6 : decode cX13_gainerCount 6 = .ok (.invokevirtual 152, 3) := by decide +kernel
theorem dX13_gainerCount_9 : decode cX13_gainerCount 9 = .ok (.iconst 0, 1) := by decide +kernel
theorem dX13_gainerCount_10 : decode cX13_gainerCount 10 = .ok (.istore_n 1, 1) := by decide +kernel
theorem dX13_gainerCount_11 : decode cX13_gainerCount 11 = .ok (.iconst 0, 1) := by decide +kernel
theorem dX13_gainerCount_12 : decode cX13_gainerCount 12 = .ok (.istore_n 2, 1) := by decide +kernel
theorem dX13_gainerCount_13 : decode cX13_gainerCount 13 = .ok (.iload_n 2, 1) := by decide +kernel
theorem dX13_gainerCount_14 : decode cX13_gainerCount 14 = .ok (.aload_n 0, 1) := by decide +kernel
theorem dX13_gainerCount_15 : decode cX13_gainerCount 15 = .ok (.getfield 7, 3) := by decide +kernel
theorem dX13_gainerCount_18 : decode cX13_gainerCount 18 = .ok (.iconst 0, 1) := by decide +kernel
theorem dX13_gainerCount_19 : decode cX13_gainerCount 19 = .ok (.iaload, 1) := by decide +kernel
theorem dX13_gainerCount_20 : decode cX13_gainerCount 20 = .ok (.if_icmp .ge 37, 3) := by decide +kernel
theorem dX13_gainerCount_23 : decode cX13_gainerCount 23 = .ok (.iload_n 1, 1) := by decide +kernel
theorem dX13_gainerCount_24 : decode cX13_gainerCount 24 = .ok (.aload_n 0, 1) := by decide +kernel
theorem dX13_gainerCount_25 : decode cX13_gainerCount 25 = .ok (.iload_n 2, 1) := by decide +kernel
theorem dX13_gainerCount_26 : decode cX13_gainerCount 26 = .ok (.aload_n 0, 1) := by decide +kernel
theorem dX13_gainerCount_27 : decode cX13_gainerCount 27 = .ok (.getfield 41, 3) := by decide +kernel
theorem dX13_gainerCount_30 : decode cX13_gainerCount 30 = .ok (.iload_n 2, 1) := by decide +kernel
theorem dX13_gainerCount_31 : decode cX13_gainerCount 31 = .ok (.iaload, 1) := by decide +kernel
theorem dX13_gainerCount_32 : decode cX13_gainerCount 32 = .ok (.aload_n 0, 1) := by decide +kernel
theorem dX13_gainerCount_33 : decode cX13_gainerCount 33 = .ok (.iload_n 2, 1) := by decide +kernel
theorem dX13_gainerCount_34 : decode cX13_gainerCount 34 = .ok (.iconst 3, 1) := by decide +kernel
theorem dX13_gainerCount_35 : decode cX13_gainerCount 35 = .ok (.invokevirtual 98, 3) := by decide +kernel
theorem dX13_gainerCount_38 : decode cX13_gainerCount 38 = .ok (.invokevirtual 108, 3) := by decide +kernel
theorem dX13_gainerCount_41 : decode cX13_gainerCount 41 = .ok (.ifCond .eq 7, 3) := by decide +kernel
theorem dX13_gainerCount_44 : decode cX13_gainerCount 44 = .ok (.iconst 1, 1) := by decide +kernel
theorem dX13_gainerCount_45 : decode cX13_gainerCount 45 = .ok (.goto 4, 3) := by decide +kernel
theorem dX13_gainerCount_48 : decode cX13_gainerCount 48 = .ok (.iconst 0, 1) := by decide +kernel
theorem dX13_gainerCount_49 : decode cX13_gainerCount 49 = .ok (.iadd, 1) := by decide +kernel
theorem dX13_gainerCount_50 : decode cX13_gainerCount 50 = .ok (.istore_n 1, 1) := by decide +kernel
theorem dX13_gainerCount_51 : decode cX13_gainerCount 51 = .ok (.iinc 2 1, 3) := by decide +kernel
theorem dX13_gainerCount_54 : decode cX13_gainerCount 54 = .ok (.goto (-41), 3) := by decide +kernel
theorem dX13_gainerCount_57 : decode cX13_gainerCount 57 = .ok (.iload_n 1, 1) := by decide +kernel
theorem dX13_gainerCount_58 : decode cX13_gainerCount 58 = .ok (.ireturn, 1) := by decide +kernel
theorem dX13_matches_0 : decode cX13_matches 0 = .ok (.iconst 0, 1) := by decide +kernel
theorem dX13_matches_1 : decode cX13_matches 1 = .ok (.istore_n 1, 1) := by decide +kernel
theorem dX13_matches_2 : decode cX13_matches 2 = .ok (.iload_n 1, 1) := by decide +kernel
theorem dX13_matches_3 : decode cX13_matches 3 = .ok (.sipush 256, 3) := by decide +kernel
theorem dX13_matches_6 : decode cX13_matches 6 = .ok (.if_icmp .ge 31, 3) := by decide +kernel
theorem dX13_matches_9 : decode cX13_matches 9 = .ok (.aload_n 0, 1) := by decide +kernel
theorem dX13_matches_10 : decode cX13_matches 10 = .ok (.getfield 54, 3) := by decide +kernel
theorem dX13_matches_13 : decode cX13_matches 13 = .ok (.iload_n 1, 1) := by decide +kernel
theorem dX13_matches_14 : decode cX13_matches 14 = .ok (.iload_n 1, 1) := by decide +kernel
theorem dX13_matches_15 : decode cX13_matches 15 = .ok (.ifCond .ne 7, 3) := by decide +kernel
theorem dX13_matches_18 : decode cX13_matches 18 = .ok (.iconst 0, 1) := by decide +kernel
theorem dX13_matches_19 : decode cX13_matches 19 = .ok (.goto 4, 3) := by decide +kernel
theorem dX13_matches_22 : decode cX13_matches 22 = .ok (.iconst (-1), 1) := by decide +kernel
theorem dX13_matches_23 : decode cX13_matches 23 = .ok (.iastore, 1) := by decide +kernel
theorem dX13_matches_24 : decode cX13_matches 24 = .ok (.aload_n 0, 1) := by decide +kernel
theorem dX13_matches_25 : decode cX13_matches 25 = .ok (.getfield 57, 3) := by decide +kernel
theorem dX13_matches_28 : decode cX13_matches 28 = .ok (.iload_n 1, 1) := by decide +kernel
theorem dX13_matches_29 : decode cX13_matches 29 = .ok (.iconst 0, 1) := by decide +kernel
theorem dX13_matches_30 : decode cX13_matches 30 = .ok (.iastore, 1) := by decide +kernel
theorem dX13_matches_31 : decode cX13_matches 31 = .ok (.iinc 1 1, 3) := by decide +kernel
theorem dX13_matches_34 : decode cX13_matches 34 = .ok (.goto (-32), 3) := by decide +kernel
theorem dX13_matches_37 : decode cX13_matches 37 = .ok (.iconst 0, 1) := by decide +kernel
theorem dX13_matches_38 : decode cX13_matches 38 = .ok (.istore_n 1, 1) := by decide +kernel
theorem dX13_matches_39 : decode cX13_matches 39 = .ok (.iload_n 1, 1) := by decide +kernel
theorem dX13_matches_40 : decode cX13_matches 40 = .ok (.aload_n 0, 1) := by decide +kernel
theorem dX13_matches_41 : decode cX13_matches 41 = .ok (.getfield 7, 3) := by decide +kernel
theorem dX13_matches_44 : decode cX13_matches 44 = .ok (.iconst 0, 1) := by decide +kernel
theorem dX13_matches_45 : decode cX13_matches 45 = .ok (.iaload, 1) := by decide +kernel
theorem dX13_matches_46 : decode cX13_matches 46 = .ok (.if_icmp .ge 100, 3) := by decide +kernel
theorem dX13_matches_49 : decode cX13_matches 49 = .ok (.sipush 255, 3) := by decide +kernel
theorem dX13_matches_52 : decode cX13_matches 52 = .ok (.istore_n 2, 1) := by decide +kernel
theorem dX13_matches_53 : decode cX13_matches 53 = .ok (.iload_n 2, 1) := by decide +kernel
theorem dX13_matches_54 : decode cX13_matches 54 = .ok (.ifCond .le 86, 3) := by decide +kernel
theorem dX13_matches_57 : decode cX13_matches 57 = .ok (.iconst 0, 1) := by decide +kernel
theorem dX13_matches_58 : decode cX13_matches 58 = .ok (.istore_n 3, 1) := by decide +kernel
theorem dX13_matches_59 : decode cX13_matches 59 = .ok (.iload_n 3, 1) := by decide +kernel
theorem dX13_matches_60 : decode cX13_matches 60 = .ok (.aload_n 0, 1) := by decide +kernel
theorem dX13_matches_61 : decode cX13_matches 61 = .ok (.iload_n 1, 1) := by decide +kernel
theorem dX13_matches_62 : decode cX13_matches 62 = .ok (.iconst 4, 1) := by decide +kernel
theorem dX13_matches_63 : decode cX13_matches 63 = .ok (.invokevirtual 98, 3) := by decide +kernel
theorem dX13_matches_66 : decode cX13_matches 66 = .ok (.if_icmp .ge 68, 3) := by decide +kernel
theorem dX13_matches_69 : decode cX13_matches 69 = .ok (.iconst 1, 1) := by decide +kernel
theorem dX13_matches_70 : decode cX13_matches 70 = .ok (.aload_n 0, 1) := by decide +kernel
theorem dX13_matches_71 : decode cX13_matches 71 = .ok (.iload_n 1, 1) := by decide +kernel
theorem dX13_matches_72 : decode cX13_matches 72 = .ok (.iconst 5, 1) := by decide +kernel
theorem dX13_matches_73 : decode cX13_matches 73 = .ok (.iload_n 3, 1) := by decide +kernel
theorem dX13_matches_74 : decode cX13_matches 74 = .ok (.iadd, 1) := by decide +kernel
theorem dX13_matches_75 : decode cX13_matches 75 = .ok (.invokevirtual 98, 3) := by decide +kernel
theorem dX13_matches_78 : decode cX13_matches 78 = .ok (.ishl, 1) := by decide +kernel
theorem dX13_matches_79 : decode cX13_matches 79 = .ok (.istore 4, 2) := by decide +kernel
theorem dX13_matches_81 : decode cX13_matches 81 = .ok (.iload_n 2, 1) := by decide +kernel
theorem dX13_matches_82 : decode cX13_matches 82 = .ok (.iload 4, 2) := by decide +kernel
theorem dX13_matches_84 : decode cX13_matches 84 = .ok (.iand, 1) := by decide +kernel
theorem dX13_matches_85 : decode cX13_matches 85 = .ok (.ifCond .eq 43, 3) := by decide +kernel
theorem dX13_matches_88 : decode cX13_matches 88 = .ok (.aload_n 0, 1) := by decide +kernel
theorem dX13_matches_89 : decode cX13_matches 89 = .ok (.getfield 54, 3) := by decide +kernel
theorem dX13_matches_92 : decode cX13_matches 92 = .ok (.iload_n 2, 1) := by decide +kernel
theorem dX13_matches_93 : decode cX13_matches 93 = .ok (.iload 4, 2) := by decide +kernel
theorem dX13_matches_95 : decode cX13_matches 95 = .ok (.isub, 1) := by decide +kernel
theorem dX13_matches_96 : decode cX13_matches 96 = .ok (.iaload, 1) := by decide +kernel
theorem dX13_matches_97 : decode cX13_matches 97 = .ok (.iconst (-1), 1) := by decide +kernel
theorem dX13_matches_98 : decode cX13_matches 98 = .ok (.if_icmp .eq 30, 3) := by decide +kernel
theorem dX13_matches_101 : decode cX13_matches 101 = .ok (.aload_n 0, 1) := by decide +kernel
theorem dX13_matches_102 : decode cX13_matches 102 = .ok (.iload_n 2, 1) := by decide +kernel
theorem dX13_matches_103 : decode cX13_matches 103 = .ok (.aload_n 0, 1) := by decide +kernel
theorem dX13_matches_104 : decode cX13_matches 104 = .ok (.getfield 54, 3) := by decide +kernel
theorem dX13_matches_107 : decode cX13_matches 107 = .ok (.iload_n 2, 1) := by decide +kernel
theorem dX13_matches_108 : decode cX13_matches 108 = .ok (.iload 4, 2) := by decide +kernel
theorem dX13_matches_110 : decode cX13_matches 110 = .ok (.isub, 1) := by decide +kernel
theorem dX13_matches_111 : decode cX13_matches 111 = .ok (.iaload, 1) := by decide +kernel
theorem dX13_matches_112 : decode cX13_matches 112 = .ok (.iconst 1, 1) := by decide +kernel
theorem dX13_matches_113 : decode cX13_matches 113 = .ok (.iadd, 1) := by decide +kernel
theorem dX13_matches_114 : decode cX13_matches 114 = .ok (.aload_n 0, 1) := by decide +kernel
theorem dX13_matches_115 : decode cX13_matches 115 = .ok (.getfield 57, 3) := by decide +kernel
theorem dX13_matches_118 : decode cX13_matches 118 = .ok (.iload_n 2, 1) := by decide +kernel
theorem dX13_matches_119 : decode cX13_matches 119 = .ok (.iload 4, 2) := by decide +kernel
theorem dX13_matches_121 : decode cX13_matches 121 = .ok (.isub, 1) := by decide +kernel
theorem dX13_matches_122 : decode cX13_matches 122 = .ok (.iaload, 1) := by decide +kernel
theorem dX13_matches_123 : decode cX13_matches 123 = .ok (.iload_n 3, 1) := by decide +kernel
theorem dX13_matches_124 : decode cX13_matches 124 = .ok (.iadd, 1) := by decide +kernel
theorem dX13_matches_125 : decode cX13_matches 125 = .ok (.invokevirtual 364, 3) := by decide +kernel
theorem dX13_matches_128 : decode cX13_matches 128 = .ok (.iinc 3 1, 3) := by decide +kernel
theorem dX13_matches_131 : decode cX13_matches 131 = .ok (.goto (-72), 3) := by decide +kernel
theorem dX13_matches_134 : decode cX13_matches 134 = .ok (.iinc 2 (-1), 3) := by decide +kernel
theorem dX13_matches_137 : decode cX13_matches 137 = .ok (.goto (-84), 3) := by decide +kernel
theorem dX13_matches_140 : decode cX13_matches 140 = .ok (.iinc 1 1, 3) := by decide +kernel
theorem dX13_matches_143 : decode cX13_matches 143 = .ok (.goto (-104), 3) := by decide +kernel
theorem dX13_matches_146 : decode cX13_matches 146 = .ok (.return_, 1) := by decide +kernel
theorem dX13_takes_0 : decode cX13_takes 0 = .ok (.aload_n 0, 1) := by decide +kernel
theorem dX13_takes_1 : decode cX13_takes 1 = .ok (.getfield 54, 3) := by decide +kernel
theorem dX13_takes_4 : decode cX13_takes 4 = .ok (.iload_n 1, 1) := by decide +kernel
theorem dX13_takes_5 : decode cX13_takes 5 = .ok (.iaload, 1) := by decide +kernel
theorem dX13_takes_6 : decode cX13_takes 6 = .ok (.iconst (-1), 1) := by decide +kernel
theorem dX13_takes_7 : decode cX13_takes 7 = .ok (.if_icmp .eq 13, 3) := by decide +kernel
theorem dX13_takes_10 : decode cX13_takes 10 = .ok (.iload_n 3, 1) := by decide +kernel
theorem dX13_takes_11 : decode cX13_takes 11 = .ok (.aload_n 0, 1) := by decide +kernel
theorem dX13_takes_12 : decode cX13_takes 12 = .ok (.getfield 57, 3) := by decide +kernel
theorem dX13_takes_15 : decode cX13_takes 15 = .ok (.iload_n 1, 1) := by decide +kernel
theorem dX13_takes_16 : decode cX13_takes 16 = .ok (.iaload, 1) := by decide +kernel
theorem dX13_takes_17 : decode cX13_takes 17 = .ok (.if_icmp .ge 17, 3) := by decide +kernel
theorem dX13_takes_20 : decode cX13_takes 20 = .ok (.aload_n 0, 1) := by decide +kernel
theorem dX13_takes_21 : decode cX13_takes 21 = .ok (.getfield 54, 3) := by decide +kernel
theorem dX13_takes_24 : decode cX13_takes 24 = .ok (.iload_n 1, 1) := by decide +kernel
theorem dX13_takes_25 : decode cX13_takes 25 = .ok (.iload_n 2, 1) := by decide +kernel
theorem dX13_takes_26 : decode cX13_takes 26 = .ok (.iastore, 1) := by decide +kernel
theorem dX13_takes_27 : decode cX13_takes 27 = .ok (.aload_n 0, 1) := by decide +kernel
theorem dX13_takes_28 : decode cX13_takes 28 = .ok (.getfield 57, 3) := by decide +kernel
theorem dX13_takes_31 : decode cX13_takes 31 = .ok (.iload_n 1, 1) := by decide +kernel
theorem dX13_takes_32 : decode cX13_takes 32 = .ok (.iload_n 3, 1) := by decide +kernel
theorem dX13_takes_33 : decode cX13_takes 33 = .ok (.iastore, 1) := by decide +kernel
theorem dX13_takes_34 : decode cX13_takes 34 = .ok (.return_, 1) := by decide +kernel
theorem dX13_bestSet_0 : decode cX13_bestSet 0 = .ok (.aload_n 0, 1) := by decide +kernel
theorem dX13_bestSet_1 : decode cX13_bestSet 1 = .ok (.invokevirtual 367, 3) := by decide +kernel
theorem dX13_bestSet_4 : decode cX13_bestSet 4 = .ok (.iconst 0, 1) := by decide +kernel
theorem dX13_bestSet_5 : decode cX13_bestSet 5 = .ok (.istore_n 1, 1) := by decide +kernel
theorem dX13_bestSet_6 : decode cX13_bestSet 6 = .ok (.iconst 1, 1) := by decide +kernel
theorem dX13_bestSet_7 : decode cX13_bestSet 7 = .ok (.istore_n 2, 1) := by decide +kernel
theorem dX13_bestSet_8 : decode cX13_bestSet 8 = .ok (.iload_n 2, 1) := by decide +kernel
theorem dX13_bestSet_9 : decode cX13_bestSet 9 = .ok (.sipush 256, 3) := by decide +kernel
theorem dX13_bestSet_12 : decode cX13_bestSet 12 = .ok (.if_icmp .ge 52, 3) := by decide +kernel
theorem dX13_bestSet_15 : decode cX13_bestSet 15 = .ok (.aload_n 0, 1) := by decide +kernel
theorem dX13_bestSet_16 : decode cX13_bestSet 16 = .ok (.getfield 54, 3) := by decide +kernel
theorem dX13_bestSet_19 : decode cX13_bestSet 19 = .ok (.iload_n 2, 1) := by decide +kernel
theorem dX13_bestSet_20 : decode cX13_bestSet 20 = .ok (.iaload, 1) := by decide +kernel
theorem dX13_bestSet_21 : decode cX13_bestSet 21 = .ok (.aload_n 0, 1) := by decide +kernel
theorem dX13_bestSet_22 : decode cX13_bestSet 22 = .ok (.getfield 54, 3) := by decide +kernel
theorem dX13_bestSet_25 : decode cX13_bestSet 25 = .ok (.iload_n 1, 1) := by decide +kernel
theorem dX13_bestSet_26 : decode cX13_bestSet 26 = .ok (.iaload, 1) := by decide +kernel
theorem dX13_bestSet_27 : decode cX13_bestSet 27 = .ok (.isub, 1) := by decide +kernel
theorem dX13_bestSet_28 : decode cX13_bestSet 28 = .ok (.istore_n 3, 1) := by decide +kernel
theorem dX13_bestSet_29 : decode cX13_bestSet 29 = .ok (.iload_n 3, 1) := by decide +kernel
theorem dX13_bestSet_30 : decode cX13_bestSet 30 = .ok (.ifCond .gt 22, 3) := by decide +kernel
theorem dX13_bestSet_33 : decode cX13_bestSet 33 = .ok (.iload_n 3, 1) := by decide +kernel
theorem dX13_bestSet_34 : decode cX13_bestSet 34 = .ok (.ifCond .ne 22, 3) := by decide +kernel
theorem dX13_bestSet_37 : decode cX13_bestSet 37 = .ok (.aload_n 0, 1) := by decide +kernel
theorem dX13_bestSet_38 : decode cX13_bestSet 38 = .ok (.getfield 57, 3) := by decide +kernel
theorem dX13_bestSet_41 : decode cX13_bestSet 41 = .ok (.iload_n 2, 1) := by decide +kernel
theorem dX13_bestSet_42 : decode cX13_bestSet 42 = .ok (.iaload, 1) := by decide +kernel
theorem dX13_bestSet_43 : decode cX13_bestSet 43 = .ok (.aload_n 0, 1) := by decide +kernel
theorem dX13_bestSet_44 : decode cX13_bestSet 44 = .ok (.getfield 57, 3) := by decide +kernel
theorem dX13_bestSet_47 : decode cX13_bestSet 47 = .ok (.iload_n 1, 1) := by decide +kernel
theorem dX13_bestSet_48 : decode cX13_bestSet 48 = .ok (.iaload, 1) := by decide +kernel
theorem dX13_bestSet_49 : decode cX13_bestSet 49 = .ok (.if_icmp .ge 7, 3) := by decide +kernel
theorem dX13_bestSet_52 : decode cX13_bestSet 52 = .ok (.iload_n 2, 1) := by decide +kernel
theorem dX13_bestSet_53 : decode cX13_bestSet 53 = .ok (.goto 4, 3) := by decide +kernel
theorem dX13_bestSet_56 : decode cX13_bestSet 56 = .ok (.iload_n 1, 1) := by decide +kernel
theorem dX13_bestSet_57 : decode cX13_bestSet 57 = .ok (.istore_n 1, 1) := by decide +kernel
theorem dX13_bestSet_58 : decode cX13_bestSet 58 = .ok (.iinc 2 1, 3) := by decide +kernel
theorem dX13_bestSet_61 : decode cX13_bestSet 61 = .ok (.goto (-53), 3) := by decide +kernel
theorem dX13_bestSet_64 : decode cX13_bestSet 64 = .ok (.iload_n 1, 1) := by decide +kernel
theorem dX13_bestSet_65 : decode cX13_bestSet 65 = .ok (.ireturn, 1) := by decide +kernel
theorem dX13_maximumMatchingSize_0 : decode cX13_maximumMatchingSize 0 = .ok (.aload_n 0, 1) := by decide +kernel
theorem dX13_maximumMatchingSize_1 : decode cX13_maximumMatchingSize 1 = .ok (.iconst 0, 1) := by decide +kernel
theorem dX13_maximumMatchingSize_2 : decode cX13_maximumMatchingSize 2 = .ok (.putfield 77, 3) := by decide +kernel
theorem dX13_maximumMatchingSize_5 : decode cX13_maximumMatchingSize 5 = .ok (.aload_n 0, 1) := by decide +kernel
theorem dX13_maximumMatchingSize_6 : decode cX13_maximumMatchingSize 6 = .ok (.getfield 54, 3) := by decide +kernel
theorem dX13_maximumMatchingSize_9 : decode cX13_maximumMatchingSize 9 = .ok (.aload_n 0, 1) := by decide +kernel
theorem dX13_maximumMatchingSize_10 : decode cX13_maximumMatchingSize 10 = .ok (.invokevirtual 370, 3) := by decide +kernel
theorem dX13_maximumMatchingSize_13 : decode cX13_maximumMatchingSize 13 = .ok (.iaload, 1) := by decide +kernel
theorem dX13_maximumMatchingSize_14 : decode cX13_maximumMatchingSize 14 = .ok (.ireturn, 1) := by decide +kernel
theorem dX13_leastRankSum_0 : decode cX13_leastRankSum 0 = .ok (.aload_n 0, 1) := by decide +kernel
theorem dX13_leastRankSum_1 : decode cX13_leastRankSum 1 = .ok (.iconst 0, 1) := by decide +kernel
theorem dX13_leastRankSum_2 : decode cX13_leastRankSum 2 = .ok (.putfield 77, 3) := by decide +kernel
theorem dX13_leastRankSum_5 : decode cX13_leastRankSum 5 = .ok (.aload_n 0, 1) := by decide +kernel
theorem dX13_leastRankSum_6 : decode cX13_leastRankSum 6 = .ok (.getfield 57, 3) := by decide +kernel
theorem dX13_leastRankSum_9 : decode cX13_leastRankSum 9 = .ok (.aload_n 0, 1) := by decide +kernel
theorem dX13_leastRankSum_10 : decode cX13_leastRankSum 10 = .ok (.invokevirtual 370, 3) := by decide +kernel
theorem dX13_leastRankSum_13 : decode cX13_leastRankSum 13 = .ok (.iaload, 1) := by decide +kernel
theorem dX13_leastRankSum_14 : decode cX13_leastRankSum 14 = .ok (.ireturn, 1) := by decide +kernel
theorem dX13_daysUntilEviction_0 : decode cX13_daysUntilEviction 0 = .ok (.aload_n 0, 1) := by decide +kernel
theorem dX13_daysUntilEviction_1 : decode cX13_daysUntilEviction 1 = .ok (.aload_n 0, 1) := by decide +kernel
theorem dX13_daysUntilEviction_2 : decode cX13_daysUntilEviction 2 = .ok (.iload_n 1, 1) := by decide +kernel
theorem dX13_daysUntilEviction_3 : decode cX13_daysUntilEviction 3 = .ok (.invokevirtual 339, 3) := by decide +kernel
theorem dX13_daysUntilEviction_6 : decode cX13_daysUntilEviction 6 = .ok (.invokevirtual 322, 3) := by decide +kernel
theorem dX13_daysUntilEviction_9 : decode cX13_daysUntilEviction 9 = .ok (.ifCond .ne 5, 3) := by decide +kernel
theorem dX13_daysUntilEviction_12 : decode cX13_daysUntilEviction 12 = .ok (.iconst 0, 1) := by decide +kernel
theorem dX13_daysUntilEviction_13 : decode cX13_daysUntilEviction 13 = .ok (.ireturn, 1) := by decide +kernel
theorem dX13_daysUntilEviction_14 : decode cX13_daysUntilEviction 14 = .ok (.aload_n 0, 1) := by decide +kernel
theorem dX13_daysUntilEviction_15 : decode cX13_daysUntilEviction 15 = .ok (.iload_n 1, 1) := by decide +kernel
theorem dX13_daysUntilEviction_16 : decode cX13_daysUntilEviction 16 = .ok (.iconst 3, 1) := by decide +kernel
theorem dX13_daysUntilEviction_17 : decode cX13_daysUntilEviction 17 = .ok (.invokevirtual 98, 3) := by decide +kernel
theorem dX13_daysUntilEviction_20 : decode cX13_daysUntilEviction 20 = .ok (.istore_n 2, 1) := by decide +kernel
theorem dX13_daysUntilEviction_21 : decode cX13_daysUntilEviction 21 = .ok (.iload_n 2, 1) := by decide +kernel
theorem dX13_daysUntilEviction_22 : decode cX13_daysUntilEviction 22 = .ok (.iconst (-1), 1) := by decide +kernel
theorem dX13_daysUntilEviction_23 : decode cX13_daysUntilEviction 23 = .ok (.if_icmp .ne 5, 3) := by decide +kernel
theorem dX13_daysUntilEviction_26 : decode cX13_daysUntilEviction 26 = .ok (.iconst (-1), 1) := by decide +kernel
theorem dX13_daysUntilEviction_27 : decode cX13_daysUntilEviction 27 = .ok (.ireturn, 1) := by decide +kernel
theorem dX13_daysUntilEviction_28 : decode cX13_daysUntilEviction 28 = .ok (.aload_n 0, 1) := by decide +kernel
theorem dX13_daysUntilEviction_29 : decode cX13_daysUntilEviction 29 = .ok (.iload_n 1, 1) := by decide +kernel
theorem dX13_daysUntilEviction_30 : decode cX13_daysUntilEviction 30 = .ok (.iconst 1, 1) := by decide +kernel
theorem dX13_daysUntilEviction_31 : decode cX13_daysUntilEviction 31 = .ok (.invokevirtual 98, 3) := by decide +kernel
theorem dX13_daysUntilEviction_34 : decode cX13_daysUntilEviction 34 = .ok (.istore_n 3, 1) := by decide +kernel
theorem dX13_daysUntilEviction_35 : decode cX13_daysUntilEviction 35 = .ok (.iconst 1, 1) := by decide +kernel
theorem dX13_daysUntilEviction_36 : decode cX13_daysUntilEviction 36 = .ok (.istore 4, 2) := by decide +kernel
theorem dX13_daysUntilEviction_38 : decode cX13_daysUntilEviction 38 = .ok (.iload 4, 2) := by decide +kernel
theorem dX13_daysUntilEviction_40 : decode cX13_daysUntilEviction 40 = .ok (.sipush 400, 3) := by decide +kernel
theorem dX13_daysUntilEviction_43 : decode cX13_daysUntilEviction 43 = .ok (.if_icmp .gt 38, 3) := by decide +kernel
theorem dX13_daysUntilEviction_46 : decode cX13_daysUntilEviction 46 = .ok (.iload_n 3, 1) := by decide +kernel
theorem dX13_daysUntilEviction_47 : decode cX13_daysUntilEviction 47 = .ok (.aload_n 0, 1) := by decide +kernel
theorem dX13_daysUntilEviction_48 : decode cX13_daysUntilEviction 48 = .ok (.iload_n 1, 1) := by decide +kernel
theorem dX13_daysUntilEviction_49 : decode cX13_daysUntilEviction 49 = .ok (.iconst 2, 1) := by decide +kernel
theorem dX13_daysUntilEviction_50 : decode cX13_daysUntilEviction 50 = .ok (.invokevirtual 98, 3) := by decide +kernel
theorem dX13_daysUntilEviction_53 : decode cX13_daysUntilEviction 53 = .ok (.iadd, 1) := by decide +kernel
theorem dX13_daysUntilEviction_54 : decode cX13_daysUntilEviction 54 = .ok (.istore_n 3, 1) := by decide +kernel
theorem dX13_daysUntilEviction_55 : decode cX13_daysUntilEviction 55 = .ok (.iload_n 3, 1) := by decide +kernel
theorem dX13_daysUntilEviction_56 : decode cX13_daysUntilEviction 56 = .ok (.aload_n 0, 1) := by decide +kernel
theorem dX13_daysUntilEviction_57 : decode cX13_daysUntilEviction 57 = .ok (.iload_n 2, 1) := by decide +kernel
theorem dX13_daysUntilEviction_58 : decode cX13_daysUntilEviction 58 = .ok (.invokevirtual 149, 3) := by decide +kernel
theorem dX13_daysUntilEviction_61 : decode cX13_daysUntilEviction 61 = .ok (.if_icmp .ge 6, 3) := by decide +kernel
theorem dX13_daysUntilEviction_64 : decode cX13_daysUntilEviction 64 = .ok (.iload 4, 2) := by decide +kernel
theorem dX13_daysUntilEviction_66 : decode cX13_daysUntilEviction 66 = .ok (.ireturn, 1) := by decide +kernel
theorem dX13_daysUntilEviction_67 : decode cX13_daysUntilEviction 67 = .ok (.iload_n 3, 1) := by decide +kernel
theorem dX13_daysUntilEviction_68 : decode cX13_daysUntilEviction 68 = .ok (.aload_n 0, 1) := by decide +kernel
theorem dX13_daysUntilEviction_69 : decode cX13_daysUntilEviction 69 = .ok (.iload_n 2, 1) := by decide +kernel
theorem dX13_daysUntilEviction_70 : decode cX13_daysUntilEviction 70 = .ok (.invokevirtual 149, 3) := by decide +kernel
theorem dX13_daysUntilEviction_73 : decode cX13_daysUntilEviction 73 = .ok (.isub, 1) := by decide +kernel
theorem dX13_daysUntilEviction_74 : decode cX13_daysUntilEviction 74 = .ok (.istore_n 3, 1) := by decide +kernel
theorem dX13_daysUntilEviction_75 : decode cX13_daysUntilEviction 75 = .ok (.iinc 4 1, 3) := by decide +kernel
theorem dX13_daysUntilEviction_78 : decode cX13_daysUntilEviction 78 = .ok (.goto (-40), 3) := by decide +kernel
theorem dX13_daysUntilEviction_81 : decode cX13_daysUntilEviction 81 = .ok (.iconst (-1), 1) := by decide +kernel
theorem dX13_daysUntilEviction_82 : decode cX13_daysUntilEviction 82 = .ok (.ireturn, 1) := by decide +kernel
theorem dX13_balanceAfter_0 : decode cX13_balanceAfter 0 = .ok (.aload_n 0, 1) := by decide +kernel
theorem dX13_balanceAfter_1 : decode cX13_balanceAfter 1 = .ok (.aload_n 0, 1) := by decide +kernel
theorem dX13_balanceAfter_2 : decode cX13_balanceAfter 2 = .ok (.iload_n 1, 1) := by decide +kernel
theorem dX13_balanceAfter_3 : decode cX13_balanceAfter 3 = .ok (.invokevirtual 339, 3) := by decide +kernel
theorem dX13_balanceAfter_6 : decode cX13_balanceAfter 6 = .ok (.ifCond .ne 7, 3) := by decide +kernel
theorem dX13_balanceAfter_9 : decode cX13_balanceAfter 9 = .ok (.iconst 1, 1) := by decide +kernel
theorem dX13_balanceAfter_10 : decode cX13_balanceAfter 10 = .ok (.goto 19, 3) := by decide +kernel
theorem dX13_balanceAfter_13 : decode cX13_balanceAfter 13 = .ok (.iload_n 2, 1) := by decide +kernel
theorem dX13_balanceAfter_14 : decode cX13_balanceAfter 14 = .ok (.iconst 0, 1) := by decide +kernel
theorem dX13_balanceAfter_15 : decode cX13_balanceAfter 15 = .ok (.sipush 400, 3) := by decide +kernel
theorem dX13_balanceAfter_18 : decode cX13_balanceAfter 18 = .ok (.invokestatic 90, 3) := by decide +kernel
theorem dX13_balanceAfter_21 : decode cX13_balanceAfter 21 = .ok (.ifCond .ne 7, 3) := by decide +kernel
theorem dX13_balanceAfter_24 : decode cX13_balanceAfter 24 = .ok (.iconst 2, 1) := by decide +kernel
theorem dX13_balanceAfter_25 : decode cX13_balanceAfter 25 = .ok (.goto 4, 3) := by decide +kernel
theorem dX13_balanceAfter_28 : decode cX13_balanceAfter 28 = .ok (.iconst 0, 1) := by decide +kernel
theorem dX13_balanceAfter_29 : decode cX13_balanceAfter 29 = .ok (.putfield 77, 3) := by decide +kernel
theorem dX13_balanceAfter_32 : decode cX13_balanceAfter 32 = .ok (.aload_n 0, 1) := by decide +kernel
theorem dX13_balanceAfter_33 : decode cX13_balanceAfter 33 = .ok (.getfield 77, 3) := by decide +kernel
theorem dX13_balanceAfter_36 : decode cX13_balanceAfter 36 = .ok (.ifCond .le 5, 3) := by decide +kernel
theorem dX13_balanceAfter_39 : decode cX13_balanceAfter 39 = .ok (.iconst 0, 1) := by decide +kernel
theorem dX13_balanceAfter_40 : decode cX13_balanceAfter 40 = .ok (.ireturn, 1) := by decide +kernel
theorem dX13_balanceAfter_41 : decode cX13_balanceAfter 41 = .ok (.aload_n 0, 1) := by decide +kernel
theorem dX13_balanceAfter_42 : decode cX13_balanceAfter 42 = .ok (.getfield 7, 3) := by decide +kernel
theorem dX13_balanceAfter_45 : decode cX13_balanceAfter 45 = .ok (.aload_n 0, 1) := by decide +kernel
theorem dX13_balanceAfter_46 : decode cX13_balanceAfter 46 = .ok (.getfield 13, 3) := by decide +kernel
theorem dX13_balanceAfter_49 : decode cX13_balanceAfter 49 = .ok (.invokestatic 326, 3) := by decide +kernel
theorem dX13_balanceAfter_52 : decode cX13_balanceAfter 52 = .ok (.aload_n 0, 1) := by decide +kernel
theorem dX13_balanceAfter_53 : decode cX13_balanceAfter 53 = .ok (.iload_n 2, 1) := by decide +kernel
theorem dX13_balanceAfter_54 : decode cX13_balanceAfter 54 = .ok (.invokevirtual 316, 3) := by decide +kernel
theorem dX13_balanceAfter_57 : decode cX13_balanceAfter 57 = .ok (.pop, 1) := by decide +kernel
theorem dX13_balanceAfter_58 : decode cX13_balanceAfter 58 = .ok (.aload_n 0, 1) := by decide +kernel
theorem dX13_balanceAfter_59 : decode cX13_balanceAfter 59 = .ok (.iload_n 1, 1) := by decide +kernel
theorem dX13_balanceAfter_60 : decode cX13_balanceAfter 60 = .ok (.iconst 1, 1) := by decide +kernel
theorem dX13_balanceAfter_61 : decode cX13_balanceAfter 61 = .ok (.invokevirtual 98, 3) := by decide +kernel
theorem dX13_balanceAfter_64 : decode cX13_balanceAfter 64 = .ok (.istore_n 3, 1) := by decide +kernel
theorem dX13_balanceAfter_65 : decode cX13_balanceAfter 65 = .ok (.aload_n 0, 1) := by decide +kernel
theorem dX13_balanceAfter_66 : decode cX13_balanceAfter 66 = .ok (.getfield 13, 3) := by decide +kernel
theorem dX13_balanceAfter_69 : decode cX13_balanceAfter 69 = .ok (.aload_n 0, 1) := by decide +kernel
theorem dX13_balanceAfter_70 : decode cX13_balanceAfter 70 = .ok (.getfield 7, 3) := by decide +kernel
theorem dX13_balanceAfter_73 : decode cX13_balanceAfter 73 = .ok (.invokestatic 326, 3) := by decide +kernel
theorem dX13_balanceAfter_76 : decode cX13_balanceAfter 76 = .ok (.iload_n 3, 1) := by decide +kernel
theorem dX13_balanceAfter_77 : decode cX13_balanceAfter 77 = .ok (.ireturn, 1) := by decide +kernel
theorem dX13_rentPaid_0 : decode cX13_rentPaid 0 = .ok (.aload_n 0, 1) := by decide +kernel
theorem dX13_rentPaid_1 : decode cX13_rentPaid 1 = .ok (.iconst 0, 1) := by decide +kernel
theorem dX13_rentPaid_2 : decode cX13_rentPaid 2 = .ok (.putfield 77, 3) := by decide +kernel
theorem dX13_rentPaid_5 : decode cX13_rentPaid 5 = .ok (.aload_n 0, 1) := by decide +kernel
theorem dX13_rentPaid_6 : decode cX13_rentPaid 6 = .ok (.getfield 7, 3) := by decide +kernel
theorem dX13_rentPaid_9 : decode cX13_rentPaid 9 = .ok (.iconst 3, 1) := by decide +kernel
theorem dX13_rentPaid_10 : decode cX13_rentPaid 10 = .ok (.iaload, 1) := by decide +kernel
theorem dX13_rentPaid_11 : decode cX13_rentPaid 11 = .ok (.ireturn, 1) := by decide +kernel
theorem dX13_evictionCount_0 : decode cX13_evictionCount 0 = .ok (.aload_n 0, 1) := by decide +kernel
theorem dX13_evictionCount_1 : decode cX13_evictionCount 1 = .ok (.iconst 0, 1) := by decide +kernel
theorem dX13_evictionCount_2 : decode cX13_evictionCount 2 = .ok (.putfield 77, 3) := by decide +kernel
theorem dX13_evictionCount_5 : decode cX13_evictionCount 5 = .ok (.aload_n 0, 1) := by decide +kernel
theorem dX13_evictionCount_6 : decode cX13_evictionCount 6 = .ok (.getfield 7, 3) := by decide +kernel
theorem dX13_evictionCount_9 : decode cX13_evictionCount 9 = .ok (.iconst 4, 1) := by decide +kernel
theorem dX13_evictionCount_10 : decode cX13_evictionCount 10 = .ok (.iaload, 1) := by decide +kernel
theorem dX13_evictionCount_11 : decode cX13_evictionCount 11 = .ok (.ireturn, 1) := by decide +kernel
theorem dX13_swapCount_0 : decode cX13_swapCount 0 = .ok (.aload_n 0, 1) := by decide +kernel
theorem dX13_swapCount_1 : decode cX13_swapCount 1 = .ok (.iconst 0, 1) := by decide +kernel
theorem dX13_swapCount_2 : decode cX13_swapCount 2 = .ok (.putfield 77, 3) := by decide +kernel
theorem dX13_swapCount_5 : decode cX13_swapCount 5 = .ok (.aload_n 0, 1) := by decide +kernel
theorem dX13_swapCount_6 : decode cX13_swapCount 6 = .ok (.getfield 7, 3) := by decide +kernel
theorem dX13_swapCount_9 : decode cX13_swapCount 9 = .ok (.iconst 5, 1) := by decide +kernel
theorem dX13_swapCount_10 : decode cX13_swapCount 10 = .ok (.iaload, 1) := by decide +kernel
theorem dX13_swapCount_11 : decode cX13_swapCount 11 = .ok (.ireturn, 1) := by decide +kernel
theorem dX13_relocationCount_0 : decode cX13_relocationCount 0 = .ok (.aload_n 0, 1) := by decide +kernel
theorem dX13_relocationCount_1 : decode cX13_relocationCount 1 = .ok (.iconst 0, 1) := by decide +kernel
theorem dX13_relocationCount_2 : decode cX13_relocationCount 2 = .ok (.putfield 77, 3) := by decide +kernel
theorem dX13_relocationCount_5 : decode cX13_relocationCount 5 = .ok (.aload_n 0, 1) := by decide +kernel
theorem dX13_relocationCount_6 : decode cX13_relocationCount 6 = .ok (.getfield 7, 3) := by decide +kernel
theorem dX13_relocationCount_9 : decode cX13_relocationCount 9 = .ok (.bipush 6, 2) := by decide +kernel
theorem dX13_relocationCount_11 : decode cX13_relocationCount 11 = .ok (.iaload, 1) := by decide +kernel
theorem dX13_relocationCount_12 : decode cX13_relocationCount 12 = .ok (.ireturn, 1) := by decide +kernel
theorem dX13_meanRank_0 : decode cX13_meanRank 0 = .ok (.aload_n 0, 1) := by decide +kernel
theorem dX13_meanRank_1 : decode cX13_meanRank 1 = .ok (.iconst 0, 1) := by decide +kernel
theorem dX13_meanRank_2 : decode cX13_meanRank 2 = .ok (.putfield 77, 3) := by decide +kernel
theorem dX13_meanRank_5 : decode cX13_meanRank 5 = .ok (.iconst 0, 1) := by decide +kernel
theorem dX13_meanRank_6 : decode cX13_meanRank 6 = .ok (.istore_n 1, 1) := by decide +kernel
theorem dX13_meanRank_7 : decode cX13_meanRank 7 = .ok (.iconst 0, 1) := by decide +kernel
theorem dX13_meanRank_8 : decode cX13_meanRank 8 = .ok (.istore_n 2, 1) := by decide +kernel
theorem dX13_meanRank_9 : decode cX13_meanRank 9 = .ok (.iconst 0, 1) := by decide +kernel
theorem dX13_meanRank_10 : decode cX13_meanRank 10 = .ok (.istore_n 3, 1) := by decide +kernel
theorem dX13_meanRank_11 : decode cX13_meanRank 11 = .ok (.iload_n 3, 1) := by decide +kernel
theorem dX13_meanRank_12 : decode cX13_meanRank 12 = .ok (.aload_n 0, 1) := by decide +kernel
theorem dX13_meanRank_13 : decode cX13_meanRank 13 = .ok (.getfield 7, 3) := by decide +kernel
theorem dX13_meanRank_16 : decode cX13_meanRank 16 = .ok (.iconst 0, 1) := by decide +kernel
theorem dX13_meanRank_17 : decode cX13_meanRank 17 = .ok (.iaload, 1) := by decide +kernel
theorem dX13_meanRank_18 : decode cX13_meanRank 18 = .ok (.if_icmp .ge 65, 3) := by decide +kernel
theorem dX13_meanRank_21 : decode cX13_meanRank 21 = .ok (.aload_n 0, 1) := by decide +kernel
theorem dX13_meanRank_22 : decode cX13_meanRank 22 = .ok (.iload_n 3, 1) := by decide +kernel
theorem dX13_meanRank_23 : decode cX13_meanRank 23 = .ok (.iconst 3, 1) := by decide +kernel
theorem dX13_meanRank_24 : decode cX13_meanRank 24 = .ok (.invokevirtual 98, 3) := by decide +kernel
theorem dX13_meanRank_27 : decode cX13_meanRank 27 = .ok (.istore 4, 2) := by decide +kernel
theorem dX13_meanRank_29 : decode cX13_meanRank 29 = .ok (.iload 4, 2) := by decide +kernel
theorem dX13_meanRank_31 : decode cX13_meanRank 31 = .ok (.iconst (-1), 1) := by decide +kernel
theorem dX13_meanRank_32 : decode cX13_meanRank 32 = .ok (.if_icmp .ne 7, 3) := by decide +kernel
theorem dX13_meanRank_35 : decode cX13_meanRank 35 = .ok (.iconst (-1), 1) := by decide +kernel
theorem dX13_meanRank_36 : decode cX13_meanRank 36 = .ok (.goto 10, 3) := by decide +kernel
theorem dX13_meanRank_39 : decode cX13_meanRank 39 = .ok (.aload_n 0, 1) := by decide +kernel
theorem dX13_meanRank_40 : decode cX13_meanRank 40 = .ok (.iload_n 3, 1) := by decide +kernel
theorem dX13_meanRank_41 : decode cX13_meanRank 41 = .ok (.iload 4, 2) := by decide +kernel
theorem dX13_meanRank_43 : decode cX13_meanRank 43 = .ok (.invokevirtual 102, 3) := by decide +kernel
theorem dX13_meanRank_46 : decode cX13_meanRank 46 = .ok (.istore 5, 2) := by decide +kernel
theorem dX13_meanRank_48 : decode cX13_meanRank 48 = .ok (.iload_n 1, 1) := by decide +kernel
theorem dX13_meanRank_49 : decode cX13_meanRank 49 = .ok (.iload 5, 2) := by decide +kernel
theorem dX13_meanRank_51 : decode cX13_meanRank 51 = .ok (.iconst (-1), 1) := by decide +kernel
theorem dX13_meanRank_52 : decode cX13_meanRank 52 = .ok (.if_icmp .ne 7, 3) := by decide +kernel
theorem dX13_meanRank_55 : decode cX13_meanRank 55 = .ok (.iconst 0, 1) := by decide +kernel
theorem dX13_meanRank_56 : decode cX13_meanRank 56 = .ok (.goto 4, 3) := by decide +kernel
theorem dX13_meanRank_59 : decode cX13_meanRank 59 = .ok (.iconst 1, 1) := by decide +kernel
theorem dX13_meanRank_60 : decode cX13_meanRank 60 = .ok (.iadd, 1) := by decide +kernel
theorem dX13_meanRank_61 : decode cX13_meanRank 61 = .ok (.istore_n 1, 1) := by decide +kernel
theorem dX13_meanRank_62 : decode cX13_meanRank 62 = .ok (.iload_n 2, 1) := by decide +kernel
theorem dX13_meanRank_63 : decode cX13_meanRank 63 = .ok (.iload 5, 2) := by decide +kernel
theorem dX13_meanRank_65 : decode cX13_meanRank 65 = .ok (.iconst (-1), 1) := by decide +kernel
theorem dX13_meanRank_66 : decode cX13_meanRank 66 = .ok (.if_icmp .ne 7, 3) := by decide +kernel
theorem dX13_meanRank_69 : decode cX13_meanRank 69 = .ok (.iconst 0, 1) := by decide +kernel
theorem dX13_meanRank_70 : decode cX13_meanRank 70 = .ok (.goto 5, 3) := by decide +kernel
theorem dX13_meanRank_73 : decode cX13_meanRank 73 = .ok (.iload 5, 2) := by decide +kernel
theorem dX13_meanRank_75 : decode cX13_meanRank 75 = .ok (.iadd, 1) := by decide +kernel
theorem dX13_meanRank_76 : decode cX13_meanRank 76 = .ok (.istore_n 2, 1) := by decide +kernel
theorem dX13_meanRank_77 : decode cX13_meanRank 77 = .ok (.iinc 3 1, 3) := by decide +kernel
theorem dX13_meanRank_80 : decode cX13_meanRank 80 = .ok (.goto (-69), 3) := by decide +kernel
theorem dX13_meanRank_83 : decode cX13_meanRank 83 = .ok (.iload_n 1, 1) := by decide +kernel
theorem dX13_meanRank_84 : decode cX13_meanRank 84 = .ok (.ifCond .ne 7, 3) := by decide +kernel
theorem dX13_meanRank_87 : decode cX13_meanRank 87 = .ok (.dconst 0, 1) := by decide +kernel
theorem dX13_meanRank_88 : decode cX13_meanRank 88 = .ok (.goto 8, 3) := by decide +kernel
theorem dX13_meanRank_91 : decode cX13_meanRank 91 = .ok (.iload_n 2, 1) := by decide +kernel
theorem dX13_meanRank_92 : decode cX13_meanRank 92 = .ok (.i2d, 1) := by decide +kernel
theorem dX13_meanRank_93 : decode cX13_meanRank 93 = .ok (.iload_n 1, 1) := by decide +kernel
theorem dX13_meanRank_94 : decode cX13_meanRank 94 = .ok (.i2d, 1) := by decide +kernel
theorem dX13_meanRank_95 : decode cX13_meanRank 95 = .ok (.ddiv, 1) := by decide +kernel
theorem dX13_meanRank_96 : decode cX13_meanRank 96 = .ok (.dreturn, 1) := by decide +kernel
theorem dX13_placedFraction_0 : decode cX13_placedFraction 0 = .ok (.aload_n 0, 1) := by decide +kernel
theorem dX13_placedFraction_1 : decode cX13_placedFraction 1 = .ok (.iconst 0, 1) := by decide +kernel
theorem dX13_placedFraction_2 : decode cX13_placedFraction 2 = .ok (.putfield 77, 3) := by decide +kernel
theorem dX13_placedFraction_5 : decode cX13_placedFraction 5 = .ok (.iconst 0, 1) := by decide +kernel
theorem dX13_placedFraction_6 : decode cX13_placedFraction 6 = .ok (.istore_n 1, 1) := by decide +kernel
theorem dX13_placedFraction_7 : decode cX13_placedFraction 7 = .ok (.iconst 0, 1) := by decide +kernel
theorem dX13_placedFraction_8 : decode cX13_placedFraction 8 = .ok (.istore_n 2, 1) := by decide +kernel
theorem dX13_placedFraction_9 : decode cX13_placedFraction 9 = .ok (.iload_n 2, 1) := by decide +kernel
theorem dX13_placedFraction_10 : decode cX13_placedFraction 10 = .ok (.aload_n 0, 1) := by decide +kernel
theorem dX13_placedFraction_11 : decode cX13_placedFraction 11 = .ok (.getfield 7, 3) := by decide +kernel
theorem dX13_placedFraction_14 : decode cX13_placedFraction 14 = .ok (.iconst 0, 1) := by decide +kernel
theorem dX13_placedFraction_15 : decode cX13_placedFraction 15 = .ok (.iaload, 1) := by decide +kernel
theorem dX13_placedFraction_16 : decode cX13_placedFraction 16 = .ok (.if_icmp .ge 27, 3) := by decide +kernel
theorem dX13_placedFraction_19 : decode cX13_placedFraction 19 = .ok (.iload_n 1, 1) := by decide +kernel
theorem dX13_placedFraction_20 : decode cX13_placedFraction 20 = .ok (.aload_n 0, 1) := by decide +kernel
theorem dX13_placedFraction_21 : decode cX13_placedFraction 21 = .ok (.iload_n 2, 1) := by decide +kernel
theorem dX13_placedFraction_22 : decode cX13_placedFraction 22 = .ok (.iconst 3, 1) := by decide +kernel
theorem dX13_placedFraction_23 : decode cX13_placedFraction 23 = .ok (.invokevirtual 98, 3) := by decide +kernel
theorem dX13_placedFraction_26 : decode cX13_placedFraction 26 = .ok (.iconst (-1), 1) := by decide +kernel
theorem dX13_placedFraction_27 : decode cX13_placedFraction 27 = .ok (.if_icmp .ne 7, 3) := by decide +kernel
theorem dX13_placedFraction_30 : decode cX13_placedFraction 30 = .ok (.iconst 0, 1) := by decide +kernel
theorem dX13_placedFraction_31 : decode cX13_placedFraction 31 = .ok (.goto 4, 3) := by decide +kernel
theorem dX13_placedFraction_34 : decode cX13_placedFraction 34 = .ok (.iconst 1, 1) := by decide +kernel
theorem dX13_placedFraction_35 : decode cX13_placedFraction 35 = .ok (.iadd, 1) := by decide +kernel
theorem dX13_placedFraction_36 : decode cX13_placedFraction 36 = .ok (.istore_n 1, 1) := by decide +kernel
theorem dX13_placedFraction_37 : decode cX13_placedFraction 37 = .ok (.iinc 2 1, 3) := by decide +kernel
theorem dX13_placedFraction_40 : decode cX13_placedFraction 40 = .ok (.goto (-31), 3) := by decide +kernel
theorem dX13_placedFraction_43 : decode cX13_placedFraction 43 = .ok (.iload_n 1, 1) := by decide +kernel
theorem dX13_placedFraction_44 : decode cX13_placedFraction 44 = .ok (.i2f, 1) := by decide +kernel
theorem dX13_placedFraction_45 : decode cX13_placedFraction 45 = .ok (.aload_n 0, 1) := by decide +kernel
theorem dX13_placedFraction_46 : decode cX13_placedFraction 46 = .ok (.getfield 7, 3) := by decide +kernel
theorem dX13_placedFraction_49 : decode cX13_placedFraction 49 = .ok (.iconst 0, 1) := by decide +kernel
theorem dX13_placedFraction_50 : decode cX13_placedFraction 50 = .ok (.iaload, 1) := by decide +kernel
theorem dX13_placedFraction_51 : decode cX13_placedFraction 51 = .ok (.i2f, 1) := by decide +kernel
theorem dX13_placedFraction_52 : decode cX13_placedFraction 52 = .ok (.fdiv, 1) := by decide +kernel
theorem dX13_placedFraction_53 : decode cX13_placedFraction 53 = .ok (.freturn, 1) := by decide +kernel
theorem dX13_ledgerDifference_0 : decode cX13_ledgerDifference 0 = .ok (.aload_n 0, 1) := by decide +kernel
theorem dX13_ledgerDifference_1 : decode cX13_ledgerDifference 1 = .ok (.iconst 0, 1) := by decide +kernel
theorem dX13_ledgerDifference_2 : decode cX13_ledgerDifference 2 = .ok (.putfield 77, 3) := by decide +kernel
theorem dX13_ledgerDifference_5 : decode cX13_ledgerDifference 5 = .ok (.aload_n 0, 1) := by decide +kernel
theorem dX13_ledgerDifference_6 : decode cX13_ledgerDifference 6 = .ok (.invokevirtual 259, 3) := by decide +kernel
theorem dX13_ledgerDifference_9 : decode cX13_ledgerDifference 9 = .ok (.aload_n 0, 1) := by decide +kernel
theorem dX13_ledgerDifference_10 : decode cX13_ledgerDifference 10 = .ok (.getfield 7, 3) := by decide +kernel
theorem dX13_ledgerDifference_13 : decode cX13_ledgerDifference 13 = .ok (.bipush 7, 2) := by decide +kernel
theorem dX13_ledgerDifference_15 : decode cX13_ledgerDifference 15 = .ok (.iaload, 1) := by decide +kernel
theorem dX13_ledgerDifference_16 : decode cX13_ledgerDifference 16 = .ok (.isub, 1) := by decide +kernel
theorem dX13_ledgerDifference_17 : decode cX13_ledgerDifference 17 = .ok (.aload_n 0, 1) := by decide +kernel
theorem dX13_ledgerDifference_18 : decode cX13_ledgerDifference 18 = .ok (.getfield 7, 3) := by decide +kernel
theorem dX13_ledgerDifference_21 : decode cX13_ledgerDifference 21 = .ok (.bipush 8, 2) := by decide +kernel
theorem dX13_ledgerDifference_23 : decode cX13_ledgerDifference 23 = .ok (.iaload, 1) := by decide +kernel
theorem dX13_ledgerDifference_24 : decode cX13_ledgerDifference 24 = .ok (.isub, 1) := by decide +kernel
theorem dX13_ledgerDifference_25 : decode cX13_ledgerDifference 25 = .ok (.aload_n 0, 1) := by decide +kernel
theorem dX13_ledgerDifference_26 : decode cX13_ledgerDifference 26 = .ok (.getfield 7, 3) := by decide +kernel
theorem dX13_ledgerDifference_29 : decode cX13_ledgerDifference 29 = .ok (.iconst 3, 1) := by decide +kernel
theorem dX13_ledgerDifference_30 : decode cX13_ledgerDifference 30 = .ok (.iaload, 1) := by decide +kernel
theorem dX13_ledgerDifference_31 : decode cX13_ledgerDifference 31 = .ok (.iadd, 1) := by decide +kernel
theorem dX13_ledgerDifference_32 : decode cX13_ledgerDifference 32 = .ok (.ireturn, 1) := by decide +kernel
theorem dX13_assign_0 : decode cX13_assign 0 = .ok (.aload_n 0, 1) := by decide +kernel
theorem dX13_assign_1 : decode cX13_assign 1 = .ok (.iload_n 1, 1) := by decide +kernel
theorem dX13_assign_2 : decode cX13_assign 2 = .ok (.invokevirtual 339, 3) := by decide +kernel
theorem dX13_assign_5 : decode cX13_assign 5 = .ok (.ifCond .eq 15, 3) := by decide +kernel
theorem dX13_assign_8 : decode cX13_assign 8 = .ok (.aload_n 0, 1) := by decide +kernel
theorem dX13_assign_9 : decode cX13_assign 9 = .ok (.iload_n 2, 1) := by decide +kernel
theorem dX13_assign_10 : decode cX13_assign 10 = .ok (.invokevirtual 94, 3) := by decide +kernel
theorem dX13_assign_13 : decode cX13_assign 13 = .ok (.ifCond .eq 7, 3) := by decide +kernel
theorem dX13_assign_16 : decode cX13_assign 16 = .ok (.iconst 1, 1) := by decide +kernel
theorem dX13_assign_17 : decode cX13_assign 17 = .ok (.goto 4, 3) := by decide +kernel
theorem dX13_assign_20 : decode cX13_assign 20 = .ok (.iconst 0, 1) := by decide +kernel
theorem dX13_assign_21 : decode cX13_assign 21 = .ok (.istore_n 3, 1) := by decide +kernel
theorem dX13_assign_22 : decode cX13_assign 22 = .ok (.aload_n 0, 1) := by decide +kernel
theorem dX13_assign_23 : decode cX13_assign 23 = .ok (.iload_n 3, 1) := by decide +kernel
theorem dX13_assign_24 : decode cX13_assign 24 = .ok (.ifCond .ne 7, 3) := by decide +kernel
theorem dX13_assign_27 : decode cX13_assign 27 = .ok (.iconst 1, 1) := by decide +kernel
theorem dX13_assign_28 : decode cX13_assign 28 = .ok (.goto 17, 3) := by decide +kernel
theorem dX13_assign_31 : decode cX13_assign 31 = .ok (.aload_n 0, 1) := by decide +kernel
theorem dX13_assign_32 : decode cX13_assign 32 = .ok (.iload_n 1, 1) := by decide +kernel
theorem dX13_assign_33 : decode cX13_assign 33 = .ok (.iload_n 2, 1) := by decide +kernel
theorem dX13_assign_34 : decode cX13_assign 34 = .ok (.invokevirtual 298, 3) := by decide +kernel
theorem dX13_assign_37 : decode cX13_assign 37 = .ok (.ifCond .ne 7, 3) := by decide +kernel
theorem dX13_assign_40 : decode cX13_assign 40 = .ok (.iconst 2, 1) := by decide +kernel
theorem dX13_assign_41 : decode cX13_assign 41 = .ok (.goto 4, 3) := by decide +kernel
theorem dX13_assign_44 : decode cX13_assign 44 = .ok (.iconst 0, 1) := by decide +kernel
theorem dX13_assign_45 : decode cX13_assign 45 = .ok (.putfield 77, 3) := by decide +kernel
theorem dX13_assign_48 : decode cX13_assign 48 = .ok (.aload_n 0, 1) := by decide +kernel
theorem dX13_assign_49 : decode cX13_assign 49 = .ok (.getfield 77, 3) := by decide +kernel
theorem dX13_assign_52 : decode cX13_assign 52 = .ok (.ifCond .le 5, 3) := by decide +kernel
theorem dX13_assign_55 : decode cX13_assign 55 = .ok (.iconst 0, 1) := by decide +kernel
theorem dX13_assign_56 : decode cX13_assign 56 = .ok (.ireturn, 1) := by decide +kernel
theorem dX13_assign_57 : decode cX13_assign 57 = .ok (.aload_n 0, 1) := by decide +kernel
theorem dX13_assign_58 : decode cX13_assign 58 = .ok (.invokevirtual 333, 3) := by decide +kernel
theorem dX13_assign_61 : decode cX13_assign 61 = .ok (.aload_n 0, 1) := by decide +kernel
theorem dX13_assign_62 : decode cX13_assign 62 = .ok (.iload_n 1, 1) := by decide +kernel
theorem dX13_assign_63 : decode cX13_assign 63 = .ok (.iload_n 2, 1) := by decide +kernel
theorem dX13_assign_64 : decode cX13_assign 64 = .ok (.invokevirtual 301, 3) := by decide +kernel
theorem dX13_assign_67 : decode cX13_assign 67 = .ok (.ireturn, 1) := by decide +kernel
theorem dX13_vacate_0 : decode cX13_vacate 0 = .ok (.aload_n 0, 1) := by decide +kernel
theorem dX13_vacate_1 : decode cX13_vacate 1 = .ok (.aload_n 0, 1) := by decide +kernel
theorem dX13_vacate_2 : decode cX13_vacate 2 = .ok (.iload_n 1, 1) := by decide +kernel
theorem dX13_vacate_3 : decode cX13_vacate 3 = .ok (.invokevirtual 339, 3) := by decide +kernel
theorem dX13_vacate_6 : decode cX13_vacate 6 = .ok (.ifCond .ne 7, 3) := by decide +kernel
theorem dX13_vacate_9 : decode cX13_vacate 9 = .ok (.iconst 1, 1) := by decide +kernel
theorem dX13_vacate_10 : decode cX13_vacate 10 = .ok (.goto 18, 3) := by decide +kernel
theorem dX13_vacate_13 : decode cX13_vacate 13 = .ok (.aload_n 0, 1) := by decide +kernel
theorem dX13_vacate_14 : decode cX13_vacate 14 = .ok (.iload_n 1, 1) := by decide +kernel
theorem dX13_vacate_15 : decode cX13_vacate 15 = .ok (.iconst 3, 1) := by decide +kernel
theorem dX13_vacate_16 : decode cX13_vacate 16 = .ok (.invokevirtual 98, 3) := by decide +kernel
theorem dX13_vacate_19 : decode cX13_vacate 19 = .ok (.iconst (-1), 1) := by decide +kernel
theorem dX13_vacate_20 : decode cX13_vacate 20 = .ok (.if_icmp .ne 7, 3) := by decide +kernel
theorem dX13_vacate_23 : decode cX13_vacate 23 = .ok (.iconst 2, 1) := by decide +kernel
theorem dX13_vacate_24 : decode cX13_vacate 24 = .ok (.goto 4, 3) := by decide +kernel
theorem dX13_vacate_27 : decode cX13_vacate 27 = .ok (.iconst 0, 1) := by decide +kernel
theorem dX13_vacate_28 : decode cX13_vacate 28 = .ok (.putfield 77, 3) := by decide +kernel
theorem dX13_vacate_31 : decode cX13_vacate 31 = .ok (.aload_n 0, 1) := by decide +kernel
theorem dX13_vacate_32 : decode cX13_vacate 32 = .ok (.getfield 77, 3) := by decide +kernel
theorem dX13_vacate_35 : decode cX13_vacate 35 = .ok (.ifCond .le 5, 3) := by decide +kernel
theorem dX13_vacate_38 : decode cX13_vacate 38 = .ok (.iconst 0, 1) := by decide +kernel
theorem dX13_vacate_39 : decode cX13_vacate 39 = .ok (.ireturn, 1) := by decide +kernel
theorem dX13_vacate_40 : decode cX13_vacate 40 = .ok (.aload_n 0, 1) := by decide +kernel
theorem dX13_vacate_41 : decode cX13_vacate 41 = .ok (.invokevirtual 333, 3) := by decide +kernel
theorem dX13_vacate_44 : decode cX13_vacate 44 = .ok (.aload_n 0, 1) := by decide +kernel
theorem dX13_vacate_45 : decode cX13_vacate 45 = .ok (.iload_n 1, 1) := by decide +kernel
theorem dX13_vacate_46 : decode cX13_vacate 46 = .ok (.iconst (-1), 1) := by decide +kernel
theorem dX13_vacate_47 : decode cX13_vacate 47 = .ok (.invokevirtual 301, 3) := by decide +kernel
theorem dX13_vacate_50 : decode cX13_vacate 50 = .ok (.ireturn, 1) := by decide +kernel
theorem dX13_swap_0 : decode cX13_swap 0 = .ok (.aload_n 0, 1) := by decide +kernel
theorem dX13_swap_1 : decode cX13_swap 1 = .ok (.iload_n 1, 1) := by decide +kernel
theorem dX13_swap_2 : decode cX13_swap 2 = .ok (.invokevirtual 339, 3) := by decide +kernel
theorem dX13_swap_5 : decode cX13_swap 5 = .ok (.ifCond .eq 15, 3) := by decide +kernel
theorem dX13_swap_8 : decode cX13_swap 8 = .ok (.aload_n 0, 1) := by decide +kernel
theorem dX13_swap_9 : decode cX13_swap 9 = .ok (.iload_n 2, 1) := by decide +kernel
theorem dX13_swap_10 : decode cX13_swap 10 = .ok (.invokevirtual 339, 3) := by decide +kernel
theorem dX13_swap_13 : decode cX13_swap 13 = .ok (.ifCond .eq 7, 3) := by decide +kernel
theorem dX13_swap_16 : decode cX13_swap 16 = .ok (.iconst 1, 1) := by decide +kernel
theorem dX13_swap_17 : decode cX13_swap 17 = .ok (.goto 4, 3) := by decide +kernel
theorem dX13_swap_20 : decode cX13_swap 20 = .ok (.iconst 0, 1) := by decide +kernel
theorem dX13_swap_21 : decode cX13_swap 21 = .ok (.istore_n 3, 1) := by decide +kernel
theorem dX13_swap_22 : decode cX13_swap 22 = .ok (.aload_n 0, 1) := by decide +kernel
theorem dX13_swap_23 : decode cX13_swap 23 = .ok (.iload_n 3, 1) := by decide +kernel
theorem dX13_swap_24 : decode cX13_swap 24 = .ok (.ifCond .ne 7, 3) := by decide +kernel
theorem dX13_swap_27 : decode cX13_swap 27 = .ok (.iconst 1, 1) := by decide +kernel
theorem dX13_swap_28 : decode cX13_swap 28 = .ok (.goto 17, 3) := by decide +kernel
theorem dX13_swap_31 : decode cX13_swap 31 = .ok (.aload_n 0, 1) := by decide +kernel
theorem dX13_swap_32 : decode cX13_swap 32 = .ok (.iload_n 1, 1) := by decide +kernel
theorem dX13_swap_33 : decode cX13_swap 33 = .ok (.iload_n 2, 1) := by decide +kernel
theorem dX13_swap_34 : decode cX13_swap 34 = .ok (.invokevirtual 304, 3) := by decide +kernel
theorem dX13_swap_37 : decode cX13_swap 37 = .ok (.ifCond .ne 7, 3) := by decide +kernel
theorem dX13_swap_40 : decode cX13_swap 40 = .ok (.iconst 2, 1) := by decide +kernel
theorem dX13_swap_41 : decode cX13_swap 41 = .ok (.goto 4, 3) := by decide +kernel
theorem dX13_swap_44 : decode cX13_swap 44 = .ok (.iconst 0, 1) := by decide +kernel
theorem dX13_swap_45 : decode cX13_swap 45 = .ok (.putfield 77, 3) := by decide +kernel
theorem dX13_swap_48 : decode cX13_swap 48 = .ok (.aload_n 0, 1) := by decide +kernel
theorem dX13_swap_49 : decode cX13_swap 49 = .ok (.getfield 77, 3) := by decide +kernel
theorem dX13_swap_52 : decode cX13_swap 52 = .ok (.ifCond .le 5, 3) := by decide +kernel
theorem dX13_swap_55 : decode cX13_swap 55 = .ok (.iconst 0, 1) := by decide +kernel
theorem dX13_swap_56 : decode cX13_swap 56 = .ok (.ireturn, 1) := by decide +kernel
theorem dX13_swap_57 : decode cX13_swap 57 = .ok (.aload_n 0, 1) := by decide +kernel
theorem dX13_swap_58 : decode cX13_swap 58 = .ok (.invokevirtual 333, 3) := by decide +kernel
theorem dX13_swap_61 : decode cX13_swap 61 = .ok (.aload_n 0, 1) := by decide +kernel
theorem dX13_swap_62 : decode cX13_swap 62 = .ok (.iload_n 1, 1) := by decide +kernel
theorem dX13_swap_63 : decode cX13_swap 63 = .ok (.iload_n 2, 1) := by decide +kernel
theorem dX13_swap_64 : decode cX13_swap 64 = .ok (.invokevirtual 307, 3) := by decide +kernel
theorem dX13_swap_67 : decode cX13_swap 67 = .ok (.ireturn, 1) := by decide +kernel
theorem dX13_reallocate_0 : decode cX13_reallocate 0 = .ok (.aload_n 0, 1) := by decide +kernel
theorem dX13_reallocate_1 : decode cX13_reallocate 1 = .ok (.iconst 0, 1) := by decide +kernel
theorem dX13_reallocate_2 : decode cX13_reallocate 2 = .ok (.putfield 77, 3) := by decide +kernel
theorem dX13_reallocate_5 : decode cX13_reallocate 5 = .ok (.aload_n 0, 1) := by decide +kernel
theorem dX13_reallocate_6 : decode cX13_reallocate 6 = .ok (.invokevirtual 333, 3) := by decide +kernel
theorem dX13_reallocate_9 : decode cX13_reallocate 9 = .ok (.aload_n 0, 1) := by decide +kernel
theorem dX13_reallocate_10 : decode cX13_reallocate 10 = .ok (.invokevirtual 310, 3) := by decide +kernel
theorem dX13_reallocate_13 : decode cX13_reallocate 13 = .ok (.ireturn, 1) := by decide +kernel
theorem dX13_setPriority_0 : decode cX13_setPriority 0 = .ok (.aload_n 0, 1) := by decide +kernel
theorem dX13_setPriority_1 : decode cX13_setPriority 1 = .ok (.aload_n 0, 1) := by decide +kernel
theorem dX13_setPriority_2 : decode cX13_setPriority 2 = .ok (.iload_n 1, 1) := by decide +kernel
theorem dX13_setPriority_3 : decode cX13_setPriority 3 = .ok (.invokevirtual 339, 3) := by decide +kernel
theorem dX13_setPriority_6 : decode cX13_setPriority 6 = .ok (.ifCond .ne 7, 3) := by decide +kernel
theorem dX13_setPriority_9 : decode cX13_setPriority 9 = .ok (.iconst 1, 1) := by decide +kernel
theorem dX13_setPriority_10 : decode cX13_setPriority 10 = .ok (.goto 24, 3) := by decide +kernel
theorem dX13_setPriority_13 : decode cX13_setPriority 13 = .ok (.iload_n 2, 1) := by decide +kernel
theorem dX13_setPriority_14 : decode cX13_setPriority 14 = .ok (.iconst 0, 1) := by decide +kernel
theorem dX13_setPriority_15 : decode cX13_setPriority 15 = .ok (.aload_n 0, 1) := by decide +kernel
theorem dX13_setPriority_16 : decode cX13_setPriority 16 = .ok (.getfield 7, 3) := by decide +kernel
theorem dX13_setPriority_19 : decode cX13_setPriority 19 = .ok (.iconst 0, 1) := by decide +kernel
theorem dX13_setPriority_20 : decode cX13_setPriority 20 = .ok (.iaload, 1) := by decide +kernel
theorem dX13_setPriority_21 : decode cX13_setPriority 21 = .ok (.iconst 1, 1) := by decide +kernel
theorem dX13_setPriority_22 : decode cX13_setPriority 22 = .ok (.isub, 1) := by decide +kernel
theorem dX13_setPriority_23 : decode cX13_setPriority 23 = .ok (.invokestatic 90, 3) := by decide +kernel
theorem dX13_setPriority_26 : decode cX13_setPriority 26 = .ok (.ifCond .ne 7, 3) := by decide +kernel
theorem dX13_setPriority_29 : decode cX13_setPriority 29 = .ok (.iconst 2, 1) := by decide +kernel
theorem dX13_setPriority_30 : decode cX13_setPriority 30 = .ok (.goto 4, 3) := by decide +kernel
theorem dX13_setPriority_33 : decode cX13_setPriority 33 = .ok (.iconst 0, 1) := by decide +kernel
theorem dX13_setPriority_34 : decode cX13_setPriority 34 = .ok (.putfield 77, 3) := by decide +kernel
theorem dX13_setPriority_37 : decode cX13_setPriority 37 = .ok (.aload_n 0, 1) := by decide +kernel
theorem dX13_setPriority_38 : decode cX13_setPriority 38 = .ok (.getfield 77, 3) := by decide +kernel
theorem dX13_setPriority_41 : decode cX13_setPriority 41 = .ok (.ifCond .le 5, 3) := by decide +kernel
theorem dX13_setPriority_44 : decode cX13_setPriority 44 = .ok (.iconst 0, 1) := by decide +kernel
theorem dX13_setPriority_45 : decode cX13_setPriority 45 = .ok (.ireturn, 1) := by decide +kernel
theorem dX13_setPriority_46 : decode cX13_setPriority 46 = .ok (.aload_n 0, 1) := by decide +kernel
theorem dX13_setPriority_47 : decode cX13_setPriority 47 = .ok (.invokevirtual 333, 3) := by decide +kernel
theorem dX13_setPriority_50 : decode cX13_setPriority 50 = .ok (.aload_n 0, 1) := by decide +kernel
theorem dX13_setPriority_51 : decode cX13_setPriority 51 = .ok (.iload_n 1, 1) := by decide +kernel
theorem dX13_setPriority_52 : decode cX13_setPriority 52 = .ok (.iload_n 2, 1) := by decide +kernel
theorem dX13_setPriority_53 : decode cX13_setPriority 53 = .ok (.invokevirtual 361, 3) := by decide +kernel
theorem dX13_setPriority_56 : decode cX13_setPriority 56 = .ok (.ireturn, 1) := by decide +kernel
theorem dX13_preferFirst_0 : decode cX13_preferFirst 0 = .ok (.aload_n 0, 1) := by decide +kernel
theorem dX13_preferFirst_1 : decode cX13_preferFirst 1 = .ok (.aload_n 0, 1) := by decide +kernel
theorem dX13_preferFirst_2 : decode cX13_preferFirst 2 = .ok (.iload_n 1, 1) := by decide +kernel
theorem dX13_preferFirst_3 : decode cX13_preferFirst 3 = .ok (.invokevirtual 339, 3) := by decide +kernel
theorem dX13_preferFirst_6 : decode cX13_preferFirst 6 = .ok (.ifCond .eq 15, 3) := by decide +kernel
theorem dX13_preferFirst_9 : decode cX13_preferFirst 9 = .ok (.aload_n 0, 1) := by decide +kernel
theorem dX13_preferFirst_10 : decode cX13_preferFirst 10 = .ok (.iload_n 2, 1) := by decide +kernel
theorem dX13_preferFirst_11 : decode cX13_preferFirst 11 = .ok (.invokevirtual 94, 3) := by decide +kernel
theorem dX13_preferFirst_14 : decode cX13_preferFirst 14 = .ok (.ifCond .eq 7, 3) := by decide +kernel
theorem dX13_preferFirst_17 : decode cX13_preferFirst 17 = .ok (.iconst 1, 1) := by decide +kernel
theorem dX13_preferFirst_18 : decode cX13_preferFirst 18 = .ok (.goto 4, 3) := by decide +kernel
theorem dX13_preferFirst_21 : decode cX13_preferFirst 21 = .ok (.iconst 0, 1) := by decide +kernel
theorem dX13_preferFirst_22 : decode cX13_preferFirst 22 = .ok (.invokevirtual 322, 3) := by decide +kernel
theorem dX13_preferFirst_25 : decode cX13_preferFirst 25 = .ok (.ifCond .ne 5, 3) := by decide +kernel
theorem dX13_preferFirst_28 : decode cX13_preferFirst 28 = .ok (.iconst 0, 1) := by decide +kernel
theorem dX13_preferFirst_29 : decode cX13_preferFirst 29 = .ok (.ireturn, 1) := by decide +kernel
theorem dX13_preferFirst_30 : decode cX13_preferFirst 30 = .ok (.aload_n 0, 1) := by decide +kernel
theorem dX13_preferFirst_31 : decode cX13_preferFirst 31 = .ok (.invokevirtual 333, 3) := by decide +kernel
theorem dX13_preferFirst_34 : decode cX13_preferFirst 34 = .ok (.aload_n 0, 1) := by decide +kernel
theorem dX13_preferFirst_35 : decode cX13_preferFirst 35 = .ok (.iload_n 1, 1) := by decide +kernel
theorem dX13_preferFirst_36 : decode cX13_preferFirst 36 = .ok (.iload_n 2, 1) := by decide +kernel
theorem dX13_preferFirst_37 : decode cX13_preferFirst 37 = .ok (.invokevirtual 313, 3) := by decide +kernel
theorem dX13_preferFirst_40 : decode cX13_preferFirst 40 = .ok (.ireturn, 1) := by decide +kernel
theorem dX13_removePreference_0 : decode cX13_removePreference 0 = .ok (.aload_n 0, 1) := by decide +kernel
theorem dX13_removePreference_1 : decode cX13_removePreference 1 = .ok (.iload_n 1, 1) := by decide +kernel
theorem dX13_removePreference_2 : decode cX13_removePreference 2 = .ok (.invokevirtual 339, 3) := by decide +kernel
theorem dX13_removePreference_5 : decode cX13_removePreference 5 = .ok (.ifCond .eq 15, 3) := by decide +kernel
theorem dX13_removePreference_8 : decode cX13_removePreference 8 = .ok (.aload_n 0, 1) := by decide +kernel
theorem dX13_removePreference_9 : decode cX13_removePreference 9 = .ok (.iload_n 2, 1) := by decide +kernel
theorem dX13_removePreference_10 : decode cX13_removePreference 10 = .ok (.invokevirtual 94, 3) := by decide +kernel
theorem dX13_removePreference_13 : decode cX13_removePreference 13 = .ok (.ifCond .eq 7, 3) := by decide +kernel
theorem dX13_removePreference_16 : decode cX13_removePreference 16 = .ok (.iconst 1, 1) := by decide +kernel
theorem dX13_removePreference_17 : decode cX13_removePreference 17 = .ok (.goto 4, 3) := by decide +kernel
theorem dX13_removePreference_20 : decode cX13_removePreference 20 = .ok (.iconst 0, 1) := by decide +kernel
theorem dX13_removePreference_21 : decode cX13_removePreference 21 = .ok (.istore_n 3, 1) := by decide +kernel
theorem dX13_removePreference_22 : decode cX13_removePreference 22 = .ok (.aload_n 0, 1) := by decide +kernel
theorem dX13_removePreference_23 : decode cX13_removePreference 23 = .ok (.iload_n 3, 1) := by decide +kernel
theorem dX13_removePreference_24 : decode cX13_removePreference 24 = .ok (.ifCond .ne 7, 3) := by decide +kernel
theorem dX13_removePreference_27 : decode cX13_removePreference 27 = .ok (.iconst 1, 1) := by decide +kernel
theorem dX13_removePreference_28 : decode cX13_removePreference 28 = .ok (.goto 18, 3) := by decide +kernel
theorem dX13_removePreference_31 : decode cX13_removePreference 31 = .ok (.aload_n 0, 1) := by decide +kernel
theorem dX13_removePreference_32 : decode cX13_removePreference 32 = .ok (.iload_n 1, 1) := by decide +kernel
theorem dX13_removePreference_33 : decode cX13_removePreference 33 = .ok (.iload_n 2, 1) := by decide +kernel
theorem dX13_removePreference_34 : decode cX13_removePreference 34 = .ok (.invokevirtual 102, 3) := by decide +kernel
theorem dX13_removePreference_37 : decode cX13_removePreference 37 = .ok (.iconst (-1), 1) := by decide +kernel
theorem dX13_removePreference_38 : decode cX13_removePreference 38 = .ok (.if_icmp .ne 7, 3) := by decide +kernel
theorem dX13_removePreference_41 : decode cX13_removePreference 41 = .ok (.iconst 2, 1) := by decide +kernel
theorem dX13_removePreference_42 : decode cX13_removePreference 42 = .ok (.goto 4, 3) := by decide +kernel
theorem dX13_removePreference_45 : decode cX13_removePreference 45 = .ok (.iconst 0, 1) := by decide +kernel
theorem dX13_removePreference_46 : decode cX13_removePreference 46 = .ok (.putfield 77, 3) := by decide +kernel
theorem dX13_removePreference_49 : decode cX13_removePreference 49 = .ok (.aload_n 0, 1) := by decide +kernel
theorem dX13_removePreference_50 : decode cX13_removePreference 50 = .ok (.getfield 77, 3) := by decide +kernel
theorem dX13_removePreference_53 : decode cX13_removePreference 53 = .ok (.ifCond .le 5, 3) := by decide +kernel
theorem dX13_removePreference_56 : decode cX13_removePreference 56 = .ok (.iconst 0, 1) := by decide +kernel
theorem dX13_removePreference_57 : decode cX13_removePreference 57 = .ok (.ireturn, 1) := by decide +kernel
theorem dX13_removePreference_58 : decode cX13_removePreference 58 = .ok (.aload_n 0, 1) := by decide +kernel
theorem dX13_removePreference_59 : decode cX13_removePreference 59 = .ok (.invokevirtual 333, 3) := by decide +kernel
theorem dX13_removePreference_62 : decode cX13_removePreference 62 = .ok (.aload_n 0, 1) := by decide +kernel
theorem dX13_removePreference_63 : decode cX13_removePreference 63 = .ok (.iload_n 1, 1) := by decide +kernel
theorem dX13_removePreference_64 : decode cX13_removePreference 64 = .ok (.iload_n 2, 1) := by decide +kernel
theorem dX13_removePreference_65 : decode cX13_removePreference 65 = .ok (.invokevirtual 158, 3) := by decide +kernel
theorem dX13_removePreference_68 : decode cX13_removePreference 68 = .ok (.ireturn, 1) := by decide +kernel
theorem dX13_setRent_0 : decode cX13_setRent 0 = .ok (.aload_n 0, 1) := by decide +kernel
theorem dX13_setRent_1 : decode cX13_setRent 1 = .ok (.aload_n 0, 1) := by decide +kernel
theorem dX13_setRent_2 : decode cX13_setRent 2 = .ok (.iload_n 1, 1) := by decide +kernel
theorem dX13_setRent_3 : decode cX13_setRent 3 = .ok (.invokevirtual 94, 3) := by decide +kernel
theorem dX13_setRent_6 : decode cX13_setRent 6 = .ok (.ifCond .ne 7, 3) := by decide +kernel
theorem dX13_setRent_9 : decode cX13_setRent 9 = .ok (.iconst 1, 1) := by decide +kernel
theorem dX13_setRent_10 : decode cX13_setRent 10 = .ok (.goto 18, 3) := by decide +kernel
theorem dX13_setRent_13 : decode cX13_setRent 13 = .ok (.iload_n 2, 1) := by decide +kernel
theorem dX13_setRent_14 : decode cX13_setRent 14 = .ok (.iconst 0, 1) := by decide +kernel
theorem dX13_setRent_15 : decode cX13_setRent 15 = .ok (.bipush 99, 2) := by decide +kernel
theorem dX13_setRent_17 : decode cX13_setRent 17 = .ok (.invokestatic 90, 3) := by decide +kernel
theorem dX13_setRent_20 : decode cX13_setRent 20 = .ok (.ifCond .ne 7, 3) := by decide +kernel
theorem dX13_setRent_23 : decode cX13_setRent 23 = .ok (.iconst 2, 1) := by decide +kernel
theorem dX13_setRent_24 : decode cX13_setRent 24 = .ok (.goto 4, 3) := by decide +kernel
theorem dX13_setRent_27 : decode cX13_setRent 27 = .ok (.iconst 0, 1) := by decide +kernel
theorem dX13_setRent_28 : decode cX13_setRent 28 = .ok (.putfield 77, 3) := by decide +kernel
theorem dX13_setRent_31 : decode cX13_setRent 31 = .ok (.aload_n 0, 1) := by decide +kernel
theorem dX13_setRent_32 : decode cX13_setRent 32 = .ok (.getfield 77, 3) := by decide +kernel
theorem dX13_setRent_35 : decode cX13_setRent 35 = .ok (.ifCond .le 5, 3) := by decide +kernel
theorem dX13_setRent_38 : decode cX13_setRent 38 = .ok (.iconst 0, 1) := by decide +kernel
theorem dX13_setRent_39 : decode cX13_setRent 39 = .ok (.ireturn, 1) := by decide +kernel
theorem dX13_setRent_40 : decode cX13_setRent 40 = .ok (.aload_n 0, 1) := by decide +kernel
theorem dX13_setRent_41 : decode cX13_setRent 41 = .ok (.invokevirtual 333, 3) := by decide +kernel
theorem dX13_setRent_44 : decode cX13_setRent 44 = .ok (.aload_n 0, 1) := by decide +kernel
theorem dX13_setRent_45 : decode cX13_setRent 45 = .ok (.iload_n 1, 1) := by decide +kernel
theorem dX13_setRent_46 : decode cX13_setRent 46 = .ok (.invokevirtual 149, 3) := by decide +kernel
theorem dX13_setRent_49 : decode cX13_setRent 49 = .ok (.istore_n 3, 1) := by decide +kernel
theorem dX13_setRent_50 : decode cX13_setRent 50 = .ok (.aload_n 0, 1) := by decide +kernel
theorem dX13_setRent_51 : decode cX13_setRent 51 = .ok (.getfield 7, 3) := by decide +kernel
theorem dX13_setRent_54 : decode cX13_setRent 54 = .ok (.bipush 9, 2) := by decide +kernel
theorem dX13_setRent_56 : decode cX13_setRent 56 = .ok (.iconst 2, 1) := by decide +kernel
theorem dX13_setRent_57 : decode cX13_setRent 57 = .ok (.iload_n 1, 1) := by decide +kernel
theorem dX13_setRent_58 : decode cX13_setRent 58 = .ok (.imul, 1) := by decide +kernel
theorem dX13_setRent_59 : decode cX13_setRent 59 = .ok (.iadd, 1) := by decide +kernel
theorem dX13_setRent_60 : decode cX13_setRent 60 = .ok (.iconst 1, 1) := by decide +kernel
theorem dX13_setRent_61 : decode cX13_setRent 61 = .ok (.iadd, 1) := by decide +kernel
theorem dX13_setRent_62 : decode cX13_setRent 62 = .ok (.iload_n 2, 1) := by decide +kernel
theorem dX13_setRent_63 : decode cX13_setRent 63 = .ok (.iastore, 1) := by decide +kernel
theorem dX13_setRent_64 : decode cX13_setRent 64 = .ok (.iload_n 3, 1) := by decide +kernel
theorem dX13_setRent_65 : decode cX13_setRent 65 = .ok (.ireturn, 1) := by decide +kernel
theorem dX13_deposit_0 : decode cX13_deposit 0 = .ok (.aload_n 0, 1) := by decide +kernel
theorem dX13_deposit_1 : decode cX13_deposit 1 = .ok (.aload_n 0, 1) := by decide +kernel
theorem dX13_deposit_2 : decode cX13_deposit 2 = .ok (.iload_n 1, 1) := by decide +kernel
theorem dX13_deposit_3 : decode cX13_deposit 3 = .ok (.invokevirtual 339, 3) := by decide +kernel
theorem dX13_deposit_6 : decode cX13_deposit 6 = .ok (.ifCond .ne 7, 3) := by decide +kernel
theorem dX13_deposit_9 : decode cX13_deposit 9 = .ok (.iconst 1, 1) := by decide +kernel
theorem dX13_deposit_10 : decode cX13_deposit 10 = .ok (.goto 19, 3) := by decide +kernel
theorem dX13_deposit_13 : decode cX13_deposit 13 = .ok (.iload_n 2, 1) := by decide +kernel
theorem dX13_deposit_14 : decode cX13_deposit 14 = .ok (.iconst 1, 1) := by decide +kernel
theorem dX13_deposit_15 : decode cX13_deposit 15 = .ok (.sipush 999, 3) := by decide +kernel
theorem dX13_deposit_18 : decode cX13_deposit 18 = .ok (.invokestatic 90, 3) := by decide +kernel
theorem dX13_deposit_21 : decode cX13_deposit 21 = .ok (.ifCond .ne 7, 3) := by decide +kernel
theorem dX13_deposit_24 : decode cX13_deposit 24 = .ok (.iconst 2, 1) := by decide +kernel
theorem dX13_deposit_25 : decode cX13_deposit 25 = .ok (.goto 4, 3) := by decide +kernel
theorem dX13_deposit_28 : decode cX13_deposit 28 = .ok (.iconst 0, 1) := by decide +kernel
theorem dX13_deposit_29 : decode cX13_deposit 29 = .ok (.putfield 77, 3) := by decide +kernel
theorem dX13_deposit_32 : decode cX13_deposit 32 = .ok (.aload_n 0, 1) := by decide +kernel
theorem dX13_deposit_33 : decode cX13_deposit 33 = .ok (.getfield 77, 3) := by decide +kernel
theorem dX13_deposit_36 : decode cX13_deposit 36 = .ok (.ifCond .le 5, 3) := by decide +kernel
theorem dX13_deposit_39 : decode cX13_deposit 39 = .ok (.iconst 0, 1) := by decide +kernel
theorem dX13_deposit_40 : decode cX13_deposit 40 = .ok (.ireturn, 1) := by decide +kernel
theorem dX13_deposit_41 : decode cX13_deposit 41 = .ok (.aload_n 0, 1) := by decide +kernel
theorem dX13_deposit_42 : decode cX13_deposit 42 = .ok (.invokevirtual 333, 3) := by decide +kernel
theorem dX13_deposit_45 : decode cX13_deposit 45 = .ok (.aload_n 0, 1) := by decide +kernel
theorem dX13_deposit_46 : decode cX13_deposit 46 = .ok (.iload_n 1, 1) := by decide +kernel
theorem dX13_deposit_47 : decode cX13_deposit 47 = .ok (.iload_n 2, 1) := by decide +kernel
theorem dX13_deposit_48 : decode cX13_deposit 48 = .ok (.invokevirtual 161, 3) := by decide +kernel
theorem dX13_deposit_51 : decode cX13_deposit 51 = .ok (.ireturn, 1) := by decide +kernel
theorem dX13_advanceDays_0 : decode cX13_advanceDays 0 = .ok (.aload_n 0, 1) := by decide +kernel
theorem dX13_advanceDays_1 : decode cX13_advanceDays 1 = .ok (.iload_n 1, 1) := by decide +kernel
theorem dX13_advanceDays_2 : decode cX13_advanceDays 2 = .ok (.iconst 1, 1) := by decide +kernel
theorem dX13_advanceDays_3 : decode cX13_advanceDays 3 = .ok (.bipush 99, 2) := by decide +kernel
theorem dX13_advanceDays_5 : decode cX13_advanceDays 5 = .ok (.invokestatic 90, 3) := by decide +kernel
theorem dX13_advanceDays_8 : decode cX13_advanceDays 8 = .ok (.ifCond .ne 7, 3) := by decide +kernel
theorem dX13_advanceDays_11 : decode cX13_advanceDays 11 = .ok (.iconst 1, 1) := by decide +kernel
theorem dX13_advanceDays_12 : decode cX13_advanceDays 12 = .ok (.goto 22, 3) := by decide +kernel
theorem dX13_advanceDays_15 : decode cX13_advanceDays 15 = .ok (.aload_n 0, 1) := by decide +kernel
theorem dX13_advanceDays_16 : decode cX13_advanceDays 16 = .ok (.getfield 7, 3) := by decide +kernel
theorem dX13_advanceDays_19 : decode cX13_advanceDays 19 = .ok (.iconst 2, 1) := by decide +kernel
theorem dX13_advanceDays_20 : decode cX13_advanceDays 20 = .ok (.iaload, 1) := by decide +kernel
theorem dX13_advanceDays_21 : decode cX13_advanceDays 21 = .ok (.iload_n 1, 1) := by decide +kernel
theorem dX13_advanceDays_22 : decode cX13_advanceDays 22 = .ok (.iadd, 1) := by decide +kernel
theorem dX13_advanceDays_23 : decode cX13_advanceDays 23 = .ok (.sipush 9999, 3) := by decide +kernel
theorem dX13_advanceDays_26 : decode cX13_advanceDays 26 = .ok (.if_icmp .le 7, 3) := by decide +kernel
theorem dX13_advanceDays_29 : decode cX13_advanceDays 29 = .ok (.iconst 2, 1) := by decide +kernel
theorem dX13_advanceDays_30 : decode cX13_advanceDays 30 = .ok (.goto 4, 3) := by decide +kernel
theorem dX13_advanceDays_33 : decode cX13_advanceDays 33 = .ok (.iconst 0, 1) := by decide +kernel
theorem dX13_advanceDays_34 : decode cX13_advanceDays 34 = .ok (.putfield 77, 3) := by decide +kernel
theorem dX13_advanceDays_37 : decode cX13_advanceDays 37 = .ok (.aload_n 0, 1) := by decide +kernel
theorem dX13_advanceDays_38 : decode cX13_advanceDays 38 = .ok (.getfield 77, 3) := by decide +kernel
theorem dX13_advanceDays_41 : decode cX13_advanceDays 41 = .ok (.ifCond .le 5, 3) := by decide +kernel
theorem dX13_advanceDays_44 : decode cX13_advanceDays 44 = .ok (.iconst 0, 1) := by decide +kernel
theorem dX13_advanceDays_45 : decode cX13_advanceDays 45 = .ok (.ireturn, 1) := by decide +kernel
theorem dX13_advanceDays_46 : decode cX13_advanceDays 46 = .ok (.aload_n 0, 1) := by decide +kernel
theorem dX13_advanceDays_47 : decode cX13_advanceDays 47 = .ok (.invokevirtual 333, 3) := by decide +kernel
theorem dX13_advanceDays_50 : decode cX13_advanceDays 50 = .ok (.aload_n 0, 1) := by decide +kernel
theorem dX13_advanceDays_51 : decode cX13_advanceDays 51 = .ok (.iload_n 1, 1) := by decide +kernel
theorem dX13_advanceDays_52 : decode cX13_advanceDays 52 = .ok (.invokevirtual 316, 3) := by decide +kernel
theorem dX13_advanceDays_55 : decode cX13_advanceDays 55 = .ok (.ireturn, 1) := by decide +kernel
theorem dX13_write_0 : decode cX13_write 0 = .ok (.aload_n 0, 1) := by decide +kernel
theorem dX13_write_1 : decode cX13_write 1 = .ok (.getfield 29, 3) := by decide +kernel
theorem dX13_write_4 : decode cX13_write 4 = .ok (.aload_n 0, 1) := by decide +kernel
theorem dX13_write_5 : decode cX13_write 5 = .ok (.getfield 373, 3) := by decide +kernel
theorem dX13_write_8 : decode cX13_write 8 = .ok (.iload_n 1, 1) := by decide +kernel
theorem dX13_write_9 : decode cX13_write 9 = .ok (.iastore, 1) := by decide +kernel
theorem dX13_write_10 : decode cX13_write 10 = .ok (.aload_n 0, 1) := by decide +kernel
theorem dX13_write_11 : decode cX13_write 11 = .ok (.dup, 1) := by decide +kernel
theorem dX13_write_12 : decode cX13_write 12 = .ok (.getfield 373, 3) := by decide +kernel
theorem dX13_write_15 : decode cX13_write 15 = .ok (.iconst 1, 1) := by decide +kernel
theorem dX13_write_16 : decode cX13_write 16 = .ok (.iadd, 1) := by decide +kernel
theorem dX13_write_17 : decode cX13_write 17 = .ok (.putfield 373, 3) := by decide +kernel
theorem dX13_write_20 : decode cX13_write 20 = .ok (.return_, 1) := by decide +kernel
theorem dX13_writesName_0 : decode cX13_writesName 0 = .ok (.iconst 0, 1) := by decide +kernel
theorem dX13_writesName_1 : decode cX13_writesName 1 = .ok (.istore_n 2, 1) := by decide +kernel
theorem dX13_writesName_2 : decode cX13_writesName 2 = .ok (.iload_n 2, 1) := by decide +kernel
theorem dX13_writesName_3 : decode cX13_writesName 3 = .ok (.iload_n 1, 1) := by decide +kernel
theorem dX13_writesName_4 : decode cX13_writesName 4 = .ok (.invokestatic 345, 3) := by decide +kernel
theorem dX13_writesName_7 : decode cX13_writesName 7 = .ok (.if_icmp .ge 18, 3) := by decide +kernel
theorem dX13_writesName_10 : decode cX13_writesName 10 = .ok (.aload_n 0, 1) := by decide +kernel
theorem dX13_writesName_11 : decode cX13_writesName 11 = .ok (.iload_n 1, 1) := by decide +kernel
theorem dX13_writesName_12 : decode cX13_writesName 12 = .ok (.iload_n 2, 1) := by decide +kernel
theorem dX13_writesName_13 : decode cX13_writesName 13 = .ok (.invokestatic 348, 3) := by decide +kernel
theorem dX13_writesName_16 : decode cX13_writesName 16 = .ok (.invokevirtual 376, 3) := by decide +kernel
theorem dX13_writesName_19 : decode cX13_writesName 19 = .ok (.iinc 2 1, 3) := by decide +kernel
theorem dX13_writesName_22 : decode cX13_writesName 22 = .ok (.goto (-20), 3) := by decide +kernel
theorem dX13_writesName_25 : decode cX13_writesName 25 = .ok (.return_, 1) := by decide +kernel
theorem dX13_writeAssignment_0 : decode cX13_writeAssignment 0 = .ok (.aload_n 0, 1) := by decide +kernel
theorem dX13_writeAssignment_1 : decode cX13_writeAssignment 1 = .ok (.iconst 0, 1) := by decide +kernel
theorem dX13_writeAssignment_2 : decode cX13_writeAssignment 2 = .ok (.putfield 77, 3) := by decide +kernel
theorem dX13_writeAssignment_5 : decode cX13_writeAssignment 5 = .ok (.aload_n 0, 1) := by decide +kernel
theorem dX13_writeAssignment_6 : decode cX13_writeAssignment 6 = .ok (.iconst 0, 1) := by decide +kernel
theorem dX13_writeAssignment_7 : decode cX13_writeAssignment 7 = .ok (.putfield 373, 3) := by decide +kernel
theorem dX13_writeAssignment_10 : decode cX13_writeAssignment 10 = .ok (.iconst 0, 1) := by decide +kernel
theorem dX13_writeAssignment_11 : decode cX13_writeAssignment 11 = .ok (.istore_n 1, 1) := by decide +kernel
theorem dX13_writeAssignment_12 : decode cX13_writeAssignment 12 = .ok (.iload_n 1, 1) := by decide +kernel
theorem dX13_writeAssignment_13 : decode cX13_writeAssignment 13 = .ok (.aload_n 0, 1) := by decide +kernel
theorem dX13_writeAssignment_14 : decode cX13_writeAssignment 14 = .ok (.getfield 7, 3) := by decide +kernel
theorem dX13_writeAssignment_17 : decode cX13_writeAssignment 17 = .ok (.iconst 0, 1) := by decide +kernel
theorem dX13_writeAssignment_18 : decode cX13_writeAssignment 18 = .ok (.iaload, 1) := by decide +kernel
theorem dX13_writeAssignment_19 : decode cX13_writeAssignment 19 = .ok (.if_icmp .ge 71, 3) := by decide +kernel
theorem dX13_writeAssignment_22 : decode cX13_writeAssignment 22 = .ok (.iload_n 1, 1) := by decide +kernel
theorem dX13_writeAssignment_23 : decode cX13_writeAssignment 23 = .ok (.ifCond .le 9, 3) := by decide +kernel
theorem dX13_writeAssignment_26 : decode cX13_writeAssignment 26 = .ok (.aload_n 0, 1) := by decide +kernel
theorem dX13_writeAssignment_27 : decode cX13_writeAssignment 27 = .ok (.bipush 32, 2) := by decide +kernel
theorem dX13_writeAssignment_29 : decode cX13_writeAssignment 29 = .ok (.invokevirtual 376, 3) := by decide +kernel
theorem dX13_writeAssignment_32 : decode cX13_writeAssignment 32 = .ok (.aload_n 0, 1) := by decide +kernel
theorem dX13_writeAssignment_33 : decode cX13_writeAssignment 33 = .ok (.aload_n 0, 1) := by decide +kernel
theorem dX13_writeAssignment_34 : decode cX13_writeAssignment 34 = .ok (.iload_n 1, 1) := by decide +kernel
theorem dX13_writeAssignment_35 : decode cX13_writeAssignment 35 = .ok (.iconst 0, 1) := by decide +kernel
theorem dX13_writeAssignment_36 : decode cX13_writeAssignment 36 = .ok (.invokevirtual 98, 3) := by decide +kernel
theorem dX13_writeAssignment_39 : decode cX13_writeAssignment 39 = .ok (.invokevirtual 379, 3) := by decide +kernel
theorem dX13_writeAssignment_42 : decode cX13_writeAssignment 42 = .ok (.aload_n 0, 1) := by decide +kernel
theorem dX13_writeAssignment_43 : decode cX13_writeAssignment 43 = .ok (.bipush 58, 2) := by decide +kernel
theorem dX13_writeAssignment_45 : decode cX13_writeAssignment 45 = .ok (.invokevirtual 376, 3) := by decide +kernel
theorem dX13_writeAssignment_48 : decode cX13_writeAssignment 48 = .ok (.aload_n 0, 1) := by decide +kernel
theorem dX13_writeAssignment_49 : decode cX13_writeAssignment 49 = .ok (.iload_n 1, 1) := by decide +kernel
theorem dX13_writeAssignment_50 : decode cX13_writeAssignment 50 = .ok (.iconst 3, 1) := by decide +kernel
theorem dX13_writeAssignment_51 : decode cX13_writeAssignment 51 = .ok (.invokevirtual 98, 3) := by decide +kernel
theorem dX13_writeAssignment_54 : decode cX13_writeAssignment 54 = .ok (.istore_n 2, 1) := by decide +kernel
theorem dX13_writeAssignment_55 : decode cX13_writeAssignment 55 = .ok (.iload_n 2, 1) := by decide +kernel
theorem dX13_writeAssignment_56 : decode cX13_writeAssignment 56 = .ok (.iconst (-1), 1) := by decide +kernel
theorem dX13_writeAssignment_57 : decode cX13_writeAssignment 57 = .ok (.if_icmp .ne 12, 3) := by decide +kernel
theorem dX13_writeAssignment_60 : decode cX13_writeAssignment 60 = .ok (.aload_n 0, 1) := by decide +kernel
theorem dX13_writeAssignment_61 : decode cX13_writeAssignment 61 = .ok (.bipush 45, 2) := by decide +kernel
theorem dX13_writeAssignment_63 : decode cX13_writeAssignment 63 = .ok (.invokevirtual 376, 3) := by decide +kernel
theorem dX13_writeAssignment_66 : decode cX13_writeAssignment 66 = .ok (.goto 18, 3) := by decide +kernel
theorem dX13_writeAssignment_69 : decode cX13_writeAssignment 69 = .ok (.aload_n 0, 1) := by decide +kernel
theorem dX13_writeAssignment_70 : decode cX13_writeAssignment 70 = .ok (.aload_n 0, 1) := by decide +kernel
theorem dX13_writeAssignment_71 : decode cX13_writeAssignment 71 = .ok (.getfield 7, 3) := by decide +kernel
theorem dX13_writeAssignment_74 : decode cX13_writeAssignment 74 = .ok (.bipush 9, 2) := by decide +kernel
theorem dX13_writeAssignment_76 : decode cX13_writeAssignment 76 = .ok (.iconst 2, 1) := by decide +kernel
theorem dX13_writeAssignment_77 : decode cX13_writeAssignment 77 = .ok (.iload_n 2, 1) := by decide +kernel
theorem dX13_writeAssignment_78 : decode cX13_writeAssignment 78 = .ok (.imul, 1) := by decide +kernel
theorem dX13_writeAssignment_79 : decode cX13_writeAssignment 79 = .ok (.iadd, 1) := by decide +kernel
theorem dX13_writeAssignment_80 : decode cX13_writeAssignment 80 = .ok (.iaload, 1) := by decide +kernel
theorem dX13_writeAssignment_81 : decode cX13_writeAssignment 81 = .ok (.invokevirtual 379, 3) := by decide +kernel
theorem dX13_writeAssignment_84 : decode cX13_writeAssignment 84 = .ok (.iinc 1 1, 3) := by decide +kernel
theorem dX13_writeAssignment_87 : decode cX13_writeAssignment 87 = .ok (.goto (-75), 3) := by decide +kernel
theorem dX13_writeAssignment_90 : decode cX13_writeAssignment 90 = .ok (.aload_n 0, 1) := by decide +kernel
theorem dX13_writeAssignment_91 : decode cX13_writeAssignment 91 = .ok (.getfield 373, 3) := by decide +kernel
theorem dX13_writeAssignment_94 : decode cX13_writeAssignment 94 = .ok (.ireturn, 1) := by decide +kernel
theorem dX13_writePreferences_0 : decode cX13_writePreferences 0 = .ok (.aload_n 0, 1) := by decide +kernel
theorem dX13_writePreferences_1 : decode cX13_writePreferences 1 = .ok (.aload_n 0, 1) := by decide +kernel
theorem dX13_writePreferences_2 : decode cX13_writePreferences 2 = .ok (.iload_n 1, 1) := by decide +kernel
theorem dX13_writePreferences_3 : decode cX13_writePreferences 3 = .ok (.invokevirtual 339, 3) := by decide +kernel
theorem dX13_writePreferences_6 : decode cX13_writePreferences 6 = .ok (.invokevirtual 322, 3) := by decide +kernel
theorem dX13_writePreferences_9 : decode cX13_writePreferences 9 = .ok (.ifCond .ne 5, 3) := by decide +kernel
theorem dX13_writePreferences_12 : decode cX13_writePreferences 12 = .ok (.iconst 0, 1) := by decide +kernel
theorem dX13_writePreferences_13 : decode cX13_writePreferences 13 = .ok (.ireturn, 1) := by decide +kernel
theorem dX13_writePreferences_14 : decode cX13_writePreferences 14 = .ok (.aload_n 0, 1) := by decide +kernel
theorem dX13_writePreferences_15 : decode cX13_writePreferences 15 = .ok (.iconst 0, 1) := by decide +kernel
theorem dX13_writePreferences_16 : decode cX13_writePreferences 16 = .ok (.putfield 373, 3) := by decide +kernel
theorem dX13_writePreferences_19 : decode cX13_writePreferences 19 = .ok (.iconst 0, 1) := by decide +kernel
theorem dX13_writePreferences_20 : decode cX13_writePreferences 20 = .ok (.istore_n 2, 1) := by decide +kernel
theorem dX13_writePreferences_21 : decode cX13_writePreferences 21 = .ok (.iload_n 2, 1) := by decide +kernel
theorem dX13_writePreferences_22 : decode cX13_writePreferences 22 = .ok (.aload_n 0, 1) := by decide +kernel
theorem dX13_writePreferences_23 : decode cX13_writePreferences 23 = .ok (.iload_n 1, 1) := by decide +kernel
theorem dX13_writePreferences_24 : decode cX13_writePreferences 24 = .ok (.iconst 4, 1) := by decide +kernel
theorem dX13_writePreferences_25 : decode cX13_writePreferences 25 = .ok (.invokevirtual 98, 3) := by decide +kernel
theorem dX13_writePreferences_28 : decode cX13_writePreferences 28 = .ok (.if_icmp .ge 41, 3) := by decide +kernel
theorem dX13_writePreferences_31 : decode cX13_writePreferences 31 = .ok (.iload_n 2, 1) := by decide +kernel
theorem dX13_writePreferences_32 : decode cX13_writePreferences 32 = .ok (.ifCond .le 9, 3) := by decide +kernel
theorem dX13_writePreferences_35 : decode cX13_writePreferences 35 = .ok (.aload_n 0, 1) := by decide +kernel
theorem dX13_writePreferences_36 : decode cX13_writePreferences 36 = .ok (.bipush 62, 2) := by decide +kernel
theorem dX13_writePreferences_38 : decode cX13_writePreferences 38 = .ok (.invokevirtual 376, 3) := by decide +kernel
theorem dX13_writePreferences_41 : decode cX13_writePreferences 41 = .ok (.aload_n 0, 1) := by decide +kernel
theorem dX13_writePreferences_42 : decode cX13_writePreferences 42 = .ok (.aload_n 0, 1) := by decide +kernel
theorem dX13_writePreferences_43 : decode cX13_writePreferences 43 = .ok (.getfield 7, 3) := by decide +kernel
theorem dX13_writePreferences_46 : decode cX13_writePreferences 46 = .ok (.bipush 9, 2) := by decide +kernel
theorem dX13_writePreferences_48 : decode cX13_writePreferences 48 = .ok (.iconst 2, 1) := by decide +kernel
theorem dX13_writePreferences_49 : decode cX13_writePreferences 49 = .ok (.aload_n 0, 1) := by decide +kernel
theorem dX13_writePreferences_50 : decode cX13_writePreferences 50 = .ok (.iload_n 1, 1) := by decide +kernel
theorem dX13_writePreferences_51 : decode cX13_writePreferences 51 = .ok (.iconst 5, 1) := by decide +kernel
theorem dX13_writePreferences_52 : decode cX13_writePreferences 52 = .ok (.iload_n 2, 1) := by decide +kernel
theorem dX13_writePreferences_53 : decode cX13_writePreferences 53 = .ok (.iadd, 1) := by decide +kernel
theorem dX13_writePreferences_54 : decode cX13_writePreferences 54 = .ok (.invokevirtual 98, 3) := by decide +kernel
theorem dX13_writePreferences_57 : decode cX13_writePreferences 57 = .ok (.imul, 1) := by decide +kernel
theorem dX13_writePreferences_58 : decode cX13_writePreferences 58 = .ok (.iadd, 1) := by decide +kernel
theorem dX13_writePreferences_59 : decode cX13_writePreferences 59 = .ok (.iaload, 1) := by decide +kernel
theorem dX13_writePreferences_60 : decode cX13_writePreferences 60 = .ok (.invokevirtual 379, 3) := by decide +kernel
theorem dX13_writePreferences_63 : decode cX13_writePreferences 63 = .ok (.iinc 2 1, 3) := by decide +kernel
theorem dX13_writePreferences_66 : decode cX13_writePreferences 66 = .ok (.goto (-45), 3) := by decide +kernel
theorem dX13_writePreferences_69 : decode cX13_writePreferences 69 = .ok (.aload_n 0, 1) := by decide +kernel
theorem dX13_writePreferences_70 : decode cX13_writePreferences 70 = .ok (.getfield 373, 3) := by decide +kernel
theorem dX13_writePreferences_73 : decode cX13_writePreferences 73 = .ok (.ireturn, 1) := by decide +kernel
theorem dX13_outputByte_0 : decode cX13_outputByte 0 = .ok (.aload_n 0, 1) := by decide +kernel
theorem dX13_outputByte_1 : decode cX13_outputByte 1 = .ok (.iconst 0, 1) := by decide +kernel
theorem dX13_outputByte_2 : decode cX13_outputByte 2 = .ok (.putfield 77, 3) := by decide +kernel
theorem dX13_outputByte_5 : decode cX13_outputByte 5 = .ok (.iload_n 1, 1) := by decide +kernel
theorem dX13_outputByte_6 : decode cX13_outputByte 6 = .ok (.iconst 0, 1) := by decide +kernel
theorem dX13_outputByte_7 : decode cX13_outputByte 7 = .ok (.aload_n 0, 1) := by decide +kernel
theorem dX13_outputByte_8 : decode cX13_outputByte 8 = .ok (.getfield 373, 3) := by decide +kernel
theorem dX13_outputByte_11 : decode cX13_outputByte 11 = .ok (.iconst 1, 1) := by decide +kernel
theorem dX13_outputByte_12 : decode cX13_outputByte 12 = .ok (.isub, 1) := by decide +kernel
theorem dX13_outputByte_13 : decode cX13_outputByte 13 = .ok (.invokestatic 90, 3) := by decide +kernel
theorem dX13_outputByte_16 : decode cX13_outputByte 16 = .ok (.ifCond .eq 12, 3) := by decide +kernel
theorem dX13_outputByte_19 : decode cX13_outputByte 19 = .ok (.aload_n 0, 1) := by decide +kernel
theorem dX13_outputByte_20 : decode cX13_outputByte 20 = .ok (.getfield 29, 3) := by decide +kernel
theorem dX13_outputByte_23 : decode cX13_outputByte 23 = .ok (.iload_n 1, 1) := by decide +kernel
theorem dX13_outputByte_24 : decode cX13_outputByte 24 = .ok (.iaload, 1) := by decide +kernel
theorem dX13_outputByte_25 : decode cX13_outputByte 25 = .ok (.goto 4, 3) := by decide +kernel
theorem dX13_outputByte_28 : decode cX13_outputByte 28 = .ok (.iconst (-1), 1) := by decide +kernel
theorem dX13_outputByte_29 : decode cX13_outputByte 29 = .ok (.ireturn, 1) := by decide +kernel
theorem dX13_undo_0 : decode cX13_undo 0 = .ok (.aload_n 0, 1) := by decide +kernel
theorem dX13_undo_1 : decode cX13_undo 1 = .ok (.iconst 0, 1) := by decide +kernel
theorem dX13_undo_2 : decode cX13_undo 2 = .ok (.putfield 77, 3) := by decide +kernel
theorem dX13_undo_5 : decode cX13_undo 5 = .ok (.aload_n 0, 1) := by decide +kernel
theorem dX13_undo_6 : decode cX13_undo 6 = .ok (.getfield 170, 3) := by decide +kernel
theorem dX13_undo_9 : decode cX13_undo 9 = .ok (.ifCond .ne 5, 3) := by decide +kernel
theorem dX13_undo_12 : decode cX13_undo 12 = .ok (.iconst (-1), 1) := by decide +kernel
theorem dX13_undo_13 : decode cX13_undo 13 = .ok (.ireturn, 1) := by decide +kernel
theorem dX13_undo_14 : decode cX13_undo 14 = .ok (.aload_n 0, 1) := by decide +kernel
theorem dX13_undo_15 : decode cX13_undo 15 = .ok (.dup, 1) := by decide +kernel
theorem dX13_undo_16 : decode cX13_undo 16 = .ok (.getfield 170, 3) := by decide +kernel
theorem dX13_undo_19 : decode cX13_undo 19 = .ok (.iconst 1, 1) := by decide +kernel
theorem dX13_undo_20 : decode cX13_undo 20 = .ok (.isub, 1) := by decide +kernel
theorem dX13_undo_21 : decode cX13_undo 21 = .ok (.putfield 170, 3) := by decide +kernel
theorem dX13_undo_24 : decode cX13_undo 24 = .ok (.iconst 0, 1) := by decide +kernel
theorem dX13_undo_25 : decode cX13_undo 25 = .ok (.istore_n 1, 1) := by decide +kernel
theorem dX13_undo_26 : decode cX13_undo 26 = .ok (.iload_n 1, 1) := by decide +kernel
theorem dX13_undo_27 : decode cX13_undo 27 = .ok (.sipush 137, 3) := by decide +kernel
theorem dX13_undo_30 : decode cX13_undo 30 = .ok (.if_icmp .ge 30, 3) := by decide +kernel
theorem dX13_undo_33 : decode cX13_undo 33 = .ok (.aload_n 0, 1) := by decide +kernel
theorem dX13_undo_34 : decode cX13_undo 34 = .ok (.getfield 7, 3) := by decide +kernel
theorem dX13_undo_37 : decode cX13_undo 37 = .ok (.iload_n 1, 1) := by decide +kernel
theorem dX13_undo_38 : decode cX13_undo 38 = .ok (.aload_n 0, 1) := by decide +kernel
theorem dX13_undo_39 : decode cX13_undo 39 = .ok (.getfield 19, 3) := by decide +kernel
theorem dX13_undo_42 : decode cX13_undo 42 = .ok (.sipush 137, 3) := by decide +kernel
theorem dX13_undo_45 : decode cX13_undo 45 = .ok (.aload_n 0, 1) := by decide +kernel
theorem dX13_undo_46 : decode cX13_undo 46 = .ok (.getfield 170, 3) := by decide +kernel
theorem dX13_undo_49 : decode cX13_undo 49 = .ok (.imul, 1) := by decide +kernel
theorem dX13_undo_50 : decode cX13_undo 50 = .ok (.iload_n 1, 1) := by decide +kernel
theorem dX13_undo_51 : decode cX13_undo 51 = .ok (.iadd, 1) := by decide +kernel
theorem dX13_undo_52 : decode cX13_undo 52 = .ok (.iaload, 1) := by decide +kernel
theorem dX13_undo_53 : decode cX13_undo 53 = .ok (.iastore, 1) := by decide +kernel
theorem dX13_undo_54 : decode cX13_undo 54 = .ok (.iinc 1 1, 3) := by decide +kernel
theorem dX13_undo_57 : decode cX13_undo 57 = .ok (.goto (-31), 3) := by decide +kernel
theorem dX13_undo_60 : decode cX13_undo 60 = .ok (.aload_n 0, 1) := by decide +kernel
theorem dX13_undo_61 : decode cX13_undo 61 = .ok (.getfield 170, 3) := by decide +kernel
theorem dX13_undo_64 : decode cX13_undo 64 = .ok (.ireturn, 1) := by decide +kernel
theorem dX13_undoCount_0 : decode cX13_undoCount 0 = .ok (.aload_n 0, 1) := by decide +kernel
theorem dX13_undoCount_1 : decode cX13_undoCount 1 = .ok (.iconst 0, 1) := by decide +kernel
theorem dX13_undoCount_2 : decode cX13_undoCount 2 = .ok (.putfield 77, 3) := by decide +kernel
theorem dX13_undoCount_5 : decode cX13_undoCount 5 = .ok (.aload_n 0, 1) := by decide +kernel
theorem dX13_undoCount_6 : decode cX13_undoCount 6 = .ok (.getfield 170, 3) := by decide +kernel
theorem dX13_undoCount_9 : decode cX13_undoCount 9 = .ok (.ireturn, 1) := by decide +kernel
theorem dX13_save_0 : decode cX13_save 0 = .ok (.aload_n 0, 1) := by decide +kernel
theorem dX13_save_1 : decode cX13_save 1 = .ok (.iconst 0, 1) := by decide +kernel
theorem dX13_save_2 : decode cX13_save 2 = .ok (.putfield 77, 3) := by decide +kernel
theorem dX13_save_5 : decode cX13_save 5 = .ok (.aload_n 0, 1) := by decide +kernel
theorem dX13_save_6 : decode cX13_save 6 = .ok (.getfield 7, 3) := by decide +kernel
theorem dX13_save_9 : decode cX13_save 9 = .ok (.aload_n 0, 1) := by decide +kernel
theorem dX13_save_10 : decode cX13_save 10 = .ok (.getfield 16, 3) := by decide +kernel
theorem dX13_save_13 : decode cX13_save 13 = .ok (.invokestatic 326, 3) := by decide +kernel
theorem dX13_save_16 : decode cX13_save 16 = .ok (.aload_n 0, 1) := by decide +kernel
theorem dX13_save_17 : decode cX13_save 17 = .ok (.iconst 1, 1) := by decide +kernel
theorem dX13_save_18 : decode cX13_save 18 = .ok (.putfield 382, 3) := by decide +kernel
theorem dX13_save_21 : decode cX13_save 21 = .ok (.aload_n 0, 1) := by decide +kernel
theorem dX13_save_22 : decode cX13_save 22 = .ok (.getfield 7, 3) := by decide +kernel
theorem dX13_save_25 : decode cX13_save 25 = .ok (.iconst 2, 1) := by decide +kernel
theorem dX13_save_26 : decode cX13_save 26 = .ok (.iaload, 1) := by decide +kernel
theorem dX13_save_27 : decode cX13_save 27 = .ok (.ireturn, 1) := by decide +kernel
theorem dX13_restore_0 : decode cX13_restore 0 = .ok (.aload_n 0, 1) := by decide +kernel
theorem dX13_restore_1 : decode cX13_restore 1 = .ok (.aload_n 0, 1) := by decide +kernel
theorem dX13_restore_2 : decode cX13_restore 2 = .ok (.getfield 382, 3) := by decide +kernel
theorem dX13_restore_5 : decode cX13_restore 5 = .ok (.invokevirtual 322, 3) := by decide +kernel
theorem dX13_restore_8 : decode cX13_restore 8 = .ok (.ifCond .ne 5, 3) := by decide +kernel
theorem dX13_restore_11 : decode cX13_restore 11 = .ok (.iconst 0, 1) := by decide +kernel
theorem dX13_restore_12 : decode cX13_restore 12 = .ok (.ireturn, 1) := by decide +kernel
theorem dX13_restore_13 : decode cX13_restore 13 = .ok (.aload_n 0, 1) := by decide +kernel
theorem dX13_restore_14 : decode cX13_restore 14 = .ok (.getfield 16, 3) := by decide +kernel
theorem dX13_restore_17 : decode cX13_restore 17 = .ok (.aload_n 0, 1) := by decide +kernel
theorem dX13_restore_18 : decode cX13_restore 18 = .ok (.getfield 7, 3) := by decide +kernel
theorem dX13_restore_21 : decode cX13_restore 21 = .ok (.invokestatic 326, 3) := by decide +kernel
theorem dX13_restore_24 : decode cX13_restore 24 = .ok (.aload_n 0, 1) := by decide +kernel
theorem dX13_restore_25 : decode cX13_restore 25 = .ok (.iconst 0, 1) := by decide +kernel
theorem dX13_restore_26 : decode cX13_restore 26 = .ok (.putfield 170, 3) := by decide +kernel
theorem dX13_restore_29 : decode cX13_restore 29 = .ok (.aload_n 0, 1) := by decide +kernel
theorem dX13_restore_30 : decode cX13_restore 30 = .ok (.getfield 7, 3) := by decide +kernel
theorem dX13_restore_33 : decode cX13_restore 33 = .ok (.iconst 2, 1) := by decide +kernel
theorem dX13_restore_34 : decode cX13_restore 34 = .ok (.iaload, 1) := by decide +kernel
theorem dX13_restore_35 : decode cX13_restore 35 = .ok (.ireturn, 1) := by decide +kernel
theorem dJx29ce0_ordinal_8abf5_0 : decode cJx29ce0_ordinal_8abf5 0 = .ok (.aload_n 0, 1) := by decide +kernel
theorem dJx29ce0_ordinal_8abf5_1 : decode cJx29ce0_ordinal_8abf5 1 = .ok (.getfield 7, 3) := by decide +kernel
theorem dJx29ce0_ordinal_8abf5_4 : decode cJx29ce0_ordinal_8abf5 4 = .ok (.ireturn, 1) := by decide +kernel
theorem dJ6_bitCount_0f7a4_0 : decode cJ6_bitCount_0f7a4 0 = .ok (.iload_n 0, 1) := by decide +kernel
theorem dJ6_bitCount_0f7a4_1 : decode cJ6_bitCount_0f7a4 1 = .ok (.iload_n 0, 1) := by decide +kernel
theorem dJ6_bitCount_0f7a4_2 : decode cJ6_bitCount_0f7a4 2 = .ok (.iconst 1, 1) := by decide +kernel
theorem dJ6_bitCount_0f7a4_3 : decode cJ6_bitCount_0f7a4 3 = .ok (.iushr, 1) := by decide +kernel
theorem dJ6_bitCount_0f7a4_4 : decode cJ6_bitCount_0f7a4 4 = .ok (.ldc_w 265, 3) := by decide +kernel
theorem dJ6_bitCount_0f7a4_7 : decode cJ6_bitCount_0f7a4 7 = .ok (.iand, 1) := by decide +kernel
theorem dJ6_bitCount_0f7a4_8 : decode cJ6_bitCount_0f7a4 8 = .ok (.isub, 1) := by decide +kernel
theorem dJ6_bitCount_0f7a4_9 : decode cJ6_bitCount_0f7a4 9 = .ok (.istore_n 0, 1) := by decide +kernel
theorem dJ6_bitCount_0f7a4_10 : decode cJ6_bitCount_0f7a4 10 = .ok (.iload_n 0, 1) := by decide +kernel
theorem dJ6_bitCount_0f7a4_11 : decode cJ6_bitCount_0f7a4 11 = .ok (.ldc_w 266, 3) := by decide +kernel
theorem dJ6_bitCount_0f7a4_14 : decode cJ6_bitCount_0f7a4 14 = .ok (.iand, 1) := by decide +kernel
theorem dJ6_bitCount_0f7a4_15 : decode cJ6_bitCount_0f7a4 15 = .ok (.iload_n 0, 1) := by decide +kernel
theorem dJ6_bitCount_0f7a4_16 : decode cJ6_bitCount_0f7a4 16 = .ok (.iconst 2, 1) := by decide +kernel
theorem dJ6_bitCount_0f7a4_17 : decode cJ6_bitCount_0f7a4 17 = .ok (.iushr, 1) := by decide +kernel
theorem dJ6_bitCount_0f7a4_18 : decode cJ6_bitCount_0f7a4 18 = .ok (.ldc_w 266, 3) := by decide +kernel
theorem dJ6_bitCount_0f7a4_21 : decode cJ6_bitCount_0f7a4 21 = .ok (.iand, 1) := by decide +kernel
theorem dJ6_bitCount_0f7a4_22 : decode cJ6_bitCount_0f7a4 22 = .ok (.iadd, 1) := by decide +kernel
theorem dJ6_bitCount_0f7a4_23 : decode cJ6_bitCount_0f7a4 23 = .ok (.istore_n 0, 1) := by decide +kernel
theorem dJ6_bitCount_0f7a4_24 : decode cJ6_bitCount_0f7a4 24 = .ok (.iload_n 0, 1) := by decide +kernel
theorem dJ6_bitCount_0f7a4_25 : decode cJ6_bitCount_0f7a4 25 = .ok (.iload_n 0, 1) := by decide +kernel
theorem dJ6_bitCount_0f7a4_26 : decode cJ6_bitCount_0f7a4 26 = .ok (.iconst 4, 1) := by decide +kernel
theorem dJ6_bitCount_0f7a4_27 : decode cJ6_bitCount_0f7a4 27 = .ok (.iushr, 1) := by decide +kernel
theorem dJ6_bitCount_0f7a4_28 : decode cJ6_bitCount_0f7a4 28 = .ok (.iadd, 1) := by decide +kernel
theorem dJ6_bitCount_0f7a4_29 : decode cJ6_bitCount_0f7a4 29 = .ok (.ldc_w 267, 3) := by decide +kernel
theorem dJ6_bitCount_0f7a4_32 : decode cJ6_bitCount_0f7a4 32 = .ok (.iand, 1) := by decide +kernel
theorem dJ6_bitCount_0f7a4_33 : decode cJ6_bitCount_0f7a4 33 = .ok (.istore_n 0, 1) := by decide +kernel
theorem dJ6_bitCount_0f7a4_34 : decode cJ6_bitCount_0f7a4 34 = .ok (.iload_n 0, 1) := by decide +kernel
theorem dJ6_bitCount_0f7a4_35 : decode cJ6_bitCount_0f7a4 35 = .ok (.iload_n 0, 1) := by decide +kernel
theorem dJ6_bitCount_0f7a4_36 : decode cJ6_bitCount_0f7a4 36 = .ok (.bipush 8, 2) := by decide +kernel
theorem dJ6_bitCount_0f7a4_38 : decode cJ6_bitCount_0f7a4 38 = .ok (.iushr, 1) := by decide +kernel
theorem dJ6_bitCount_0f7a4_39 : decode cJ6_bitCount_0f7a4 39 = .ok (.iadd, 1) := by decide +kernel
theorem dJ6_bitCount_0f7a4_40 : decode cJ6_bitCount_0f7a4 40 = .ok (.istore_n 0, 1) := by decide +kernel
theorem dJ6_bitCount_0f7a4_41 : decode cJ6_bitCount_0f7a4 41 = .ok (.iload_n 0, 1) := by decide +kernel
theorem dJ6_bitCount_0f7a4_42 : decode cJ6_bitCount_0f7a4 42 = .ok (.iload_n 0, 1) := by decide +kernel
theorem dJ6_bitCount_0f7a4_43 : decode cJ6_bitCount_0f7a4 43 = .ok (.bipush 16, 2) := by decide +kernel
theorem dJ6_bitCount_0f7a4_45 : decode cJ6_bitCount_0f7a4 45 = .ok (.iushr, 1) := by decide +kernel
theorem dJ6_bitCount_0f7a4_46 : decode cJ6_bitCount_0f7a4 46 = .ok (.iadd, 1) := by decide +kernel
theorem dJ6_bitCount_0f7a4_47 : decode cJ6_bitCount_0f7a4 47 = .ok (.istore_n 0, 1) := by decide +kernel
theorem dJ6_bitCount_0f7a4_48 : decode cJ6_bitCount_0f7a4 48 = .ok (.iload_n 0, 1) := by decide +kernel
theorem dJ6_bitCount_0f7a4_49 : decode cJ6_bitCount_0f7a4 49 = .ok (.bipush 63, 2) := by decide +kernel
theorem dJ6_bitCount_0f7a4_51 : decode cJ6_bitCount_0f7a4 51 = .ok (.iand, 1) := by decide +kernel
theorem dJ6_bitCount_0f7a4_52 : decode cJ6_bitCount_0f7a4 52 = .ok (.ireturn, 1) := by decide +kernel
theorem dJ0_length_8abf5_0 : decode cJ0_length_8abf5 0 = .ok (.aload_n 0, 1) := by decide +kernel
theorem dJ0_length_8abf5_1 : decode cJ0_length_8abf5 1 = .ok (.getfield 9, 3) := by decide +kernel
theorem dJ0_length_8abf5_4 : decode cJ0_length_8abf5 4 = .ok (.arraylength, 1) := by decide +kernel
theorem dJ0_length_8abf5_5 : decode cJ0_length_8abf5 5 = .ok (.aload_n 0, 1) := by decide +kernel
theorem dJ0_length_8abf5_6 : decode cJ0_length_8abf5 6 = .ok (.invokevirtual 335, 3) := by decide +kernel
theorem dJ0_length_8abf5_9 : decode cJ0_length_8abf5 9 = .ok (.ishr, 1) := by decide +kernel
theorem dJ0_length_8abf5_10 : decode cJ0_length_8abf5 10 = .ok (.ireturn, 1) := by decide +kernel
theorem dJ0_charAt_5068e_0 : decode cJ0_charAt_5068e 0 = .ok (.aload_n 0, 1) := by decide +kernel
theorem dJ0_charAt_5068e_1 : decode cJ0_charAt_5068e 1 = .ok (.invokevirtual 492, 3) := by decide +kernel
theorem dJ0_charAt_5068e_4 : decode cJ0_charAt_5068e 4 = .ok (.ifCond .eq 12, 3) := by decide +kernel
theorem dJ0_charAt_5068e_7 : decode cJ0_charAt_5068e 7 = .ok (.aload_n 0, 1) := by decide +kernel
theorem dJ0_charAt_5068e_8 : decode cJ0_charAt_5068e 8 = .ok (.getfield 9, 3) := by decide +kernel
theorem dJ0_charAt_5068e_11 : decode cJ0_charAt_5068e 11 = .ok (.iload_n 1, 1) := by decide +kernel
theorem dJ0_charAt_5068e_12 : decode cJ0_charAt_5068e 12 = .ok (.invokestatic 495, 3) := by decide +kernel
theorem dJ0_charAt_5068e_15 : decode cJ0_charAt_5068e 15 = .ok (.ireturn, 1) := by decide +kernel
theorem dJ0_charAt_5068e_16 : decode cJ0_charAt_5068e 16 = .ok (.aload_n 0, 1) := by decide +kernel
theorem dJ0_charAt_5068e_17 : decode cJ0_charAt_5068e 17 = .ok (.getfield 9, 3) := by decide +kernel
theorem dJ0_charAt_5068e_20 : decode cJ0_charAt_5068e 20 = .ok (.iload_n 1, 1) := by decide +kernel
theorem dJ0_charAt_5068e_21 : decode cJ0_charAt_5068e 21 = .ok (.invokestatic 498, 3) := by decide +kernel
theorem dJ0_charAt_5068e_24 : decode cJ0_charAt_5068e 24 = .ok (.ireturn, 1) := by decide +kernel
theorem dJ0_coder_7d493_0 : decode cJ0_coder_7d493 0 = .ok (.getstatic 38, 3) := by decide +kernel
theorem dJ0_coder_7d493_3 : decode cJ0_coder_7d493 3 = .ok (.ifCond .eq 10, 3) := by decide +kernel
theorem dJ0_coder_7d493_6 : decode cJ0_coder_7d493 6 = .ok (.aload_n 0, 1) := by decide +kernel
theorem dJ0_coder_7d493_7 : decode cJ0_coder_7d493 7 = .ok (.getfield 15, 3) := by decide +kernel
theorem dJ0_coder_7d493_10 : decode cJ0_coder_7d493 10 = .ok (.goto 4, 3) := by decide +kernel
theorem dJ0_coder_7d493_13 : decode cJ0_coder_7d493 13 = .ok (.iconst 1, 1) := by decide +kernel
theorem dJ0_coder_7d493_14 : decode cJ0_coder_7d493 14 = .ok (.ireturn, 1) := by decide +kernel
theorem dJ0_isLatin1_aae02_0 : decode cJ0_isLatin1_aae02 0 = .ok (.getstatic 38, 3) := by decide +kernel
theorem dJ0_isLatin1_aae02_3 : decode cJ0_isLatin1_aae02 3 = .ok (.ifCond .eq 14, 3) := by decide +kernel
theorem dJ0_isLatin1_aae02_6 : decode cJ0_isLatin1_aae02 6 = .ok (.aload_n 0, 1) := by decide +kernel
theorem dJ0_isLatin1_aae02_7 : decode cJ0_isLatin1_aae02 7 = .ok (.getfield 15, 3) := by decide +kernel
theorem dJ0_isLatin1_aae02_10 : decode cJ0_isLatin1_aae02 10 = .ok (.ifCond .ne 7, 3) := by decide +kernel
theorem dJ0_isLatin1_aae02_13 : decode cJ0_isLatin1_aae02 13 = .ok (.iconst 1, 1) := by decide +kernel
theorem dJ0_isLatin1_aae02_14 : decode cJ0_isLatin1_aae02 14 = .ok (.goto 4, 3) := by decide +kernel
theorem dJ0_isLatin1_aae02_17 : decode cJ0_isLatin1_aae02 17 = .ok (.iconst 0, 1) := by decide +kernel
theorem dJ0_isLatin1_aae02_18 : decode cJ0_isLatin1_aae02 18 = .ok (.ireturn, 1) := by decide +kernel
theorem dJ0_checkIndex_df160_0 : decode cJ0_checkIndex_df160 0 = .ok (.iload_n 0, 1) := by decide +kernel
theorem dJ0_checkIndex_df160_1 : decode cJ0_checkIndex_df160 1 = .ok (.iload_n 1, 1) := by decide +kernel
theorem dJ0_checkIndex_df160_2 : decode cJ0_checkIndex_df160 2 = .ok (.getstatic 1053, 3) := by decide +kernel
theorem dJ0_checkIndex_df160_5 : decode cJ0_checkIndex_df160 5 = .ok (.invokestatic 1059, 3) := by decide +kernel
theorem dJ0_checkIndex_df160_8 : decode cJ0_checkIndex_df160 8 = .ok (.pop, 1) := by decide +kernel
theorem dJ0_checkIndex_df160_9 : decode cJ0_checkIndex_df160 9 = .ok (.return_, 1) := by decide +kernel
theorem dJ1_charAt_3b067_0 : decode cJ1_charAt_3b067 0 = .ok (.iload_n 1, 1) := by decide +kernel
theorem dJ1_charAt_3b067_1 : decode cJ1_charAt_3b067 1 = .ok (.aload_n 0, 1) := by decide +kernel
theorem dJ1_charAt_3b067_2 : decode cJ1_charAt_3b067 2 = .ok (.arraylength, 1) := by decide +kernel
theorem dJ1_charAt_3b067_3 : decode cJ1_charAt_3b067 3 = .ok (.invokestatic 9, 3) := by decide +kernel
theorem dJ1_charAt_3b067_6 : decode cJ1_charAt_3b067 6 = .ok (.aload_n 0, 1) := by decide +kernel
theorem dJ1_charAt_3b067_7 : decode cJ1_charAt_3b067 7 = .ok (.iload_n 1, 1) := by decide +kernel
theorem dJ1_charAt_3b067_8 : decode cJ1_charAt_3b067 8 = .ok (.baload, 1) := by decide +kernel
theorem dJ1_charAt_3b067_9 : decode cJ1_charAt_3b067 9 = .ok (.sipush 255, 3) := by decide +kernel
theorem dJ1_charAt_3b067_12 : decode cJ1_charAt_3b067 12 = .ok (.iand, 1) := by decide +kernel
theorem dJ1_charAt_3b067_13 : decode cJ1_charAt_3b067 13 = .ok (.i2c, 1) := by decide +kernel
theorem dJ1_charAt_3b067_14 : decode cJ1_charAt_3b067 14 = .ok (.ireturn, 1) := by decide +kernel
theorem dJ2_getChar_3b067_0 : decode cJ2_getChar_3b067 0 = .ok (.getstatic 44, 3) := by decide +kernel
theorem dJ2_getChar_3b067_3 : decode cJ2_getChar_3b067 3 = .ok (.ifCond .ne 25, 3) := by decide +kernel
theorem dJ2_getChar_3b067_6 : decode cJ2_getChar_3b067 6 = .ok (.iload_n 1, 1) := by decide +kernel
theorem dJ2_getChar_3b067_7 : decode cJ2_getChar_3b067 7 = .ok (.ifCond .lt 11, 3) := by decide +kernel
theorem dJ2_getChar_3b067_10 : decode cJ2_getChar_3b067 10 = .ok (.iload_n 1, 1) := by decide +kernel
theorem dJ2_getChar_3b067_11 : decode cJ2_getChar_3b067 11 = .ok (.aload_n 0, 1) := by decide +kernel
theorem dJ2_getChar_3b067_12 : decode cJ2_getChar_3b067 12 = .ok (.invokestatic 48, 3) := by decide +kernel
theorem dJ2_getChar_3b067_15 : decode cJ2_getChar_3b067 15 = .ok (.if_icmp .lt 13, 3) := by decide +kernel
theorem dJ2_getChar_3b067_18 : decode cJ2_getChar_3b067 18 = .ok (.new 52, 3) := by decide +kernel
theorem dJ2_getChar_3b067_21 : decode cJ2_getChar_3b067 21 = .ok (.dup, 1) := by decide +kernel
theorem dJ2_getChar_3b067_22 : decode cJ2_getChar_3b067 22 = .ok (.ldc 54, 2) := by decide +kernel
theorem dJ2_getChar_3b067_24 : decode cJ2_getChar_3b067 24 = .ok (.invokespecial 56, 3) := by decide +kernel
theorem dJ2_getChar_3b067_27 : decode cJ2_getChar_3b067 27 = .ok (.athrow, 1) := by decide +kernel
theorem dJ2_getChar_3b067_28 : decode cJ2_getChar_3b067 28 = .ok (.iload_n 1, 1) := by decide +kernel
theorem dJ2_getChar_3b067_29 : decode cJ2_getChar_3b067 29 = .ok (.iconst 1, 1) := by decide +kernel
theorem dJ2_getChar_3b067_30 : decode cJ2_getChar_3b067 30 = .ok (.ishl, 1) := by decide +kernel
theorem dJ2_getChar_3b067_31 : decode cJ2_getChar_3b067 31 = .ok (.istore_n 1, 1) := by decide +kernel
theorem dJ2_getChar_3b067_32 : decode cJ2_getChar_3b067 32 = .ok (.aload_n 0, 1) := by decide +kernel
theorem dJ2_getChar_3b067_33 : decode cJ2_getChar_3b067 33 = .ok (.iload_n 1, 1) := by decide +kernel
theorem dJ2_getChar_3b067_34 : decode cJ2_getChar_3b067 34 = .ok (.iinc 1 1, 3) := by decide +kernel
theorem dJ2_getChar_3b067_37 : decode cJ2_getChar_3b067 37 = .ok (.baload, 1) := by decide +kernel
theorem dJ2_getChar_3b067_38 : decode cJ2_getChar_3b067 38 = .ok (.sipush 255, 3) := by decide +kernel
theorem dJ2_getChar_3b067_41 : decode cJ2_getChar_3b067 41 = .ok (.iand, 1) := by decide +kernel
theorem dJ2_getChar_3b067_42 : decode cJ2_getChar_3b067 42 = .ok (.getstatic 59, 3) := by decide +kernel
theorem dJ2_getChar_3b067_45 : decode cJ2_getChar_3b067 45 = .ok (.ishl, 1) := by decide +kernel
theorem dJ2_getChar_3b067_46 : decode cJ2_getChar_3b067 46 = .ok (.aload_n 0, 1) := by decide +kernel
theorem dJ2_getChar_3b067_47 : decode cJ2_getChar_3b067 47 = .ok (.iload_n 1, 1) := by decide +kernel
theorem dJ2_getChar_3b067_48 : decode cJ2_getChar_3b067 48 = .ok (.baload, 1) := by decide +kernel
theorem dJ2_getChar_3b067_49 : decode cJ2_getChar_3b067 49 = .ok (.sipush 255, 3) := by decide +kernel
theorem dJ2_getChar_3b067_52 : decode cJ2_getChar_3b067 52 = .ok (.iand, 1) := by decide +kernel
theorem dJ2_getChar_3b067_53 : decode cJ2_getChar_3b067 53 = .ok (.getstatic 63, 3) := by decide +kernel
theorem dJ2_getChar_3b067_56 : decode cJ2_getChar_3b067 56 = .ok (.ishl, 1) := by decide +kernel
theorem dJ2_getChar_3b067_57 : decode cJ2_getChar_3b067 57 = .ok (.ior, 1) := by decide +kernel
theorem dJ2_getChar_3b067_58 : decode cJ2_getChar_3b067 58 = .ok (.i2c, 1) := by decide +kernel
theorem dJ2_getChar_3b067_59 : decode cJ2_getChar_3b067 59 = .ok (.ireturn, 1) := by decide +kernel
theorem dJ2_length_9d52b_0 : decode cJ2_length_9d52b 0 = .ok (.aload_n 0, 1) := by decide +kernel
theorem dJ2_length_9d52b_1 : decode cJ2_length_9d52b 1 = .ok (.arraylength, 1) := by decide +kernel
theorem dJ2_length_9d52b_2 : decode cJ2_length_9d52b 2 = .ok (.iconst 1, 1) := by decide +kernel
theorem dJ2_length_9d52b_3 : decode cJ2_length_9d52b 3 = .ok (.ishr, 1) := by decide +kernel
theorem dJ2_length_9d52b_4 : decode cJ2_length_9d52b 4 = .ok (.ireturn, 1) := by decide +kernel
theorem dJ2_charAt_3b067_0 : decode cJ2_charAt_3b067 0 = .ok (.iload_n 1, 1) := by decide +kernel
theorem dJ2_charAt_3b067_1 : decode cJ2_charAt_3b067 1 = .ok (.aload_n 0, 1) := by decide +kernel
theorem dJ2_charAt_3b067_2 : decode cJ2_charAt_3b067 2 = .ok (.invokestatic 67, 3) := by decide +kernel
theorem dJ2_charAt_3b067_5 : decode cJ2_charAt_3b067 5 = .ok (.aload_n 0, 1) := by decide +kernel
theorem dJ2_charAt_3b067_6 : decode cJ2_charAt_3b067 6 = .ok (.iload_n 1, 1) := by decide +kernel
theorem dJ2_charAt_3b067_7 : decode cJ2_charAt_3b067 7 = .ok (.invokestatic 71, 3) := by decide +kernel
theorem dJ2_charAt_3b067_10 : decode cJ2_charAt_3b067 10 = .ok (.ireturn, 1) := by decide +kernel
theorem dJ2_checkIndex_2214a_0 : decode cJ2_checkIndex_2214a 0 = .ok (.iload_n 0, 1) := by decide +kernel
theorem dJ2_checkIndex_2214a_1 : decode cJ2_checkIndex_2214a 1 = .ok (.aload_n 1, 1) := by decide +kernel
theorem dJ2_checkIndex_2214a_2 : decode cJ2_checkIndex_2214a 2 = .ok (.invokestatic 48, 3) := by decide +kernel
theorem dJ2_checkIndex_2214a_5 : decode cJ2_checkIndex_2214a 5 = .ok (.invokestatic 414, 3) := by decide +kernel
theorem dJ2_checkIndex_2214a_8 : decode cJ2_checkIndex_2214a 8 = .ok (.return_, 1) := by decide +kernel
theorem dJ3_checkIndex_8e157_0 : decode cJ3_checkIndex_8e157 0 = .ok (.iload_n 0, 1) := by decide +kernel
theorem dJ3_checkIndex_8e157_1 : decode cJ3_checkIndex_8e157 1 = .ok (.ifCond .lt 8, 3) := by decide +kernel
theorem dJ3_checkIndex_8e157_4 : decode cJ3_checkIndex_8e157 4 = .ok (.iload_n 0, 1) := by decide +kernel
theorem dJ3_checkIndex_8e157_5 : decode cJ3_checkIndex_8e157 5 = .ok (.iload_n 1, 1) := by decide +kernel
theorem dJ3_checkIndex_8e157_6 : decode cJ3_checkIndex_8e157 6 = .ok (.if_icmp .lt 10, 3) := by decide +kernel
theorem dJ3_checkIndex_8e157_9 : decode cJ3_checkIndex_8e157 9 = .ok (.aload_n 2, 1) := by decide +kernel
theorem dJ3_checkIndex_8e157_10 : decode cJ3_checkIndex_8e157 10 = .ok (.iload_n 0, 1) := by decide +kernel
theorem dJ3_checkIndex_8e157_11 : decode cJ3_checkIndex_8e157 11 = .ok (.iload_n 1, 1) := by decide +kernel
theorem dJ3_checkIndex_8e157_12 : decode cJ3_checkIndex_8e157 12 = .ok (.invokestatic 95, 3) := by decide +kernel
theorem dJ3_checkIndex_8e157_15 : decode cJ3_checkIndex_8e157 15 = .ok (.athrow, 1) := by decide +kernel
theorem dJ3_checkIndex_8e157_16 : decode cJ3_checkIndex_8e157 16 = .ok (.iload_n 0, 1) := by decide +kernel
theorem dJ3_checkIndex_8e157_17 : decode cJ3_checkIndex_8e157 17 = .ok (.ireturn, 1) := by decide +kernel
theorem dL_appendInput_0 : decode cL_appendInput 0 = .ok (.aload 6, 2) := by decide +kernel
theorem dL_appendInput_2 : decode cL_appendInput 2 = .ok (.iconst 0, 1) := by decide +kernel
theorem dL_appendInput_3 : decode cL_appendInput 3 = .ok (.aload_n 0, 1) := by decide +kernel
theorem dL_appendInput_4 : decode cL_appendInput 4 = .ok (.iload_n 1, 1) := by decide +kernel
theorem dL_appendInput_5 : decode cL_appendInput 5 = .ok (.iload_n 2, 1) := by decide +kernel
theorem dL_appendInput_6 : decode cL_appendInput 6 = .ok (.iload_n 3, 1) := by decide +kernel
theorem dL_appendInput_7 : decode cL_appendInput 7 = .ok (.iload 4, 2) := by decide +kernel
theorem dL_appendInput_9 : decode cL_appendInput 9 = .ok (.iload 5, 2) := by decide +kernel
theorem dL_appendInput_11 : decode cL_appendInput 11 = .ok (.invokevirtual 7, 3) := by decide +kernel
theorem dL_appendInput_14 : decode cL_appendInput 14 = .ok (.i2l, 1) := by decide +kernel
theorem dL_appendInput_15 : decode cL_appendInput 15 = .ok (.lastore, 1) := by decide +kernel
theorem dL_appendInput_16 : decode cL_appendInput 16 = .ok (.goto 7, 3) := by decide +kernel
theorem dL_appendInput_19 : decode cL_appendInput 19 = .ok (.astore 7, 2) := by decide +kernel
theorem dL_appendInput_21 : decode cL_appendInput 21 = .ok (.iconst 1, 1) := by decide +kernel
theorem dL_appendInput_22 : decode cL_appendInput 22 = .ok (.ireturn, 1) := by decide +kernel
theorem dL_appendInput_23 : decode cL_appendInput 23 = .ok (.iconst 0, 1) := by decide +kernel
theorem dL_appendInput_24 : decode cL_appendInput 24 = .ok (.ireturn, 1) := by decide +kernel
theorem dL_truncateInput_0 : decode cL_truncateInput 0 = .ok (.aload_n 2, 1) := by decide +kernel
theorem dL_truncateInput_1 : decode cL_truncateInput 1 = .ok (.iconst 0, 1) := by decide +kernel
theorem dL_truncateInput_2 : decode cL_truncateInput 2 = .ok (.aload_n 0, 1) := by decide +kernel
theorem dL_truncateInput_3 : decode cL_truncateInput 3 = .ok (.iload_n 1, 1) := by decide +kernel
theorem dL_truncateInput_4 : decode cL_truncateInput 4 = .ok (.invokevirtual 15, 3) := by decide +kernel
theorem dL_truncateInput_7 : decode cL_truncateInput 7 = .ok (.i2l, 1) := by decide +kernel
theorem dL_truncateInput_8 : decode cL_truncateInput 8 = .ok (.lastore, 1) := by decide +kernel
theorem dL_truncateInput_9 : decode cL_truncateInput 9 = .ok (.goto 6, 3) := by decide +kernel
theorem dL_truncateInput_12 : decode cL_truncateInput 12 = .ok (.astore_n 3, 1) := by decide +kernel
theorem dL_truncateInput_13 : decode cL_truncateInput 13 = .ok (.iconst 1, 1) := by decide +kernel
theorem dL_truncateInput_14 : decode cL_truncateInput 14 = .ok (.ireturn, 1) := by decide +kernel
theorem dL_truncateInput_15 : decode cL_truncateInput 15 = .ok (.iconst 0, 1) := by decide +kernel
theorem dL_truncateInput_16 : decode cL_truncateInput 16 = .ok (.ireturn, 1) := by decide +kernel
theorem dL_balance_0 : decode cL_balance 0 = .ok (.aload_n 2, 1) := by decide +kernel
theorem dL_balance_1 : decode cL_balance 1 = .ok (.iconst 0, 1) := by decide +kernel
theorem dL_balance_2 : decode cL_balance 2 = .ok (.aload_n 0, 1) := by decide +kernel
theorem dL_balance_3 : decode cL_balance 3 = .ok (.iload_n 1, 1) := by decide +kernel
theorem dL_balance_4 : decode cL_balance 4 = .ok (.invokevirtual 21, 3) := by decide +kernel
theorem dL_balance_7 : decode cL_balance 7 = .ok (.i2l, 1) := by decide +kernel
theorem dL_balance_8 : decode cL_balance 8 = .ok (.lastore, 1) := by decide +kernel
theorem dL_balance_9 : decode cL_balance 9 = .ok (.goto 6, 3) := by decide +kernel
theorem dL_balance_12 : decode cL_balance 12 = .ok (.astore_n 3, 1) := by decide +kernel
theorem dL_balance_13 : decode cL_balance 13 = .ok (.iconst 1, 1) := by decide +kernel
theorem dL_balance_14 : decode cL_balance 14 = .ok (.ireturn, 1) := by decide +kernel
theorem dL_balance_15 : decode cL_balance 15 = .ok (.iconst 0, 1) := by decide +kernel
theorem dL_balance_16 : decode cL_balance 16 = .ok (.ireturn, 1) := by decide +kernel
theorem dL_income_0 : decode cL_income 0 = .ok (.aload_n 2, 1) := by decide +kernel
theorem dL_income_1 : decode cL_income 1 = .ok (.iconst 0, 1) := by decide +kernel
theorem dL_income_2 : decode cL_income 2 = .ok (.aload_n 0, 1) := by decide +kernel
theorem dL_income_3 : decode cL_income 3 = .ok (.iload_n 1, 1) := by decide +kernel
theorem dL_income_4 : decode cL_income 4 = .ok (.invokevirtual 26, 3) := by decide +kernel
theorem dL_income_7 : decode cL_income 7 = .ok (.i2l, 1) := by decide +kernel
theorem dL_income_8 : decode cL_income 8 = .ok (.lastore, 1) := by decide +kernel
theorem dL_income_9 : decode cL_income 9 = .ok (.goto 6, 3) := by decide +kernel
theorem dL_income_12 : decode cL_income 12 = .ok (.astore_n 3, 1) := by decide +kernel
theorem dL_income_13 : decode cL_income 13 = .ok (.iconst 1, 1) := by decide +kernel
theorem dL_income_14 : decode cL_income 14 = .ok (.ireturn, 1) := by decide +kernel
theorem dL_income_15 : decode cL_income 15 = .ok (.iconst 0, 1) := by decide +kernel
theorem dL_income_16 : decode cL_income 16 = .ok (.ireturn, 1) := by decide +kernel
theorem dL_rent_0 : decode cL_rent 0 = .ok (.aload_n 2, 1) := by decide +kernel
theorem dL_rent_1 : decode cL_rent 1 = .ok (.iconst 0, 1) := by decide +kernel
theorem dL_rent_2 : decode cL_rent 2 = .ok (.aload_n 0, 1) := by decide +kernel
theorem dL_rent_3 : decode cL_rent 3 = .ok (.iload_n 1, 1) := by decide +kernel
theorem dL_rent_4 : decode cL_rent 4 = .ok (.invokevirtual 29, 3) := by decide +kernel
theorem dL_rent_7 : decode cL_rent 7 = .ok (.i2l, 1) := by decide +kernel
theorem dL_rent_8 : decode cL_rent 8 = .ok (.lastore, 1) := by decide +kernel
theorem dL_rent_9 : decode cL_rent 9 = .ok (.goto 6, 3) := by decide +kernel
theorem dL_rent_12 : decode cL_rent 12 = .ok (.astore_n 3, 1) := by decide +kernel
theorem dL_rent_13 : decode cL_rent 13 = .ok (.iconst 1, 1) := by decide +kernel
theorem dL_rent_14 : decode cL_rent 14 = .ok (.ireturn, 1) := by decide +kernel
theorem dL_rent_15 : decode cL_rent 15 = .ok (.iconst 0, 1) := by decide +kernel
theorem dL_rent_16 : decode cL_rent 16 = .ok (.ireturn, 1) := by decide +kernel
theorem dL_stallOf_0 : decode cL_stallOf 0 = .ok (.aload_n 2, 1) := by decide +kernel
theorem dL_stallOf_1 : decode cL_stallOf 1 = .ok (.iconst 0, 1) := by decide +kernel
theorem dL_stallOf_2 : decode cL_stallOf 2 = .ok (.aload_n 0, 1) := by decide +kernel
theorem dL_stallOf_3 : decode cL_stallOf 3 = .ok (.iload_n 1, 1) := by decide +kernel
theorem dL_stallOf_4 : decode cL_stallOf 4 = .ok (.invokevirtual 32, 3) := by decide +kernel
theorem dL_stallOf_7 : decode cL_stallOf 7 = .ok (.i2l, 1) := by decide +kernel
theorem dL_stallOf_8 : decode cL_stallOf 8 = .ok (.lastore, 1) := by decide +kernel
theorem dL_stallOf_9 : decode cL_stallOf 9 = .ok (.goto 6, 3) := by decide +kernel
theorem dL_stallOf_12 : decode cL_stallOf 12 = .ok (.astore_n 3, 1) := by decide +kernel
theorem dL_stallOf_13 : decode cL_stallOf 13 = .ok (.iconst 1, 1) := by decide +kernel
theorem dL_stallOf_14 : decode cL_stallOf 14 = .ok (.ireturn, 1) := by decide +kernel
theorem dL_stallOf_15 : decode cL_stallOf 15 = .ok (.iconst 0, 1) := by decide +kernel
theorem dL_stallOf_16 : decode cL_stallOf 16 = .ok (.ireturn, 1) := by decide +kernel
theorem dL_occupantOf_0 : decode cL_occupantOf 0 = .ok (.aload_n 2, 1) := by decide +kernel
theorem dL_occupantOf_1 : decode cL_occupantOf 1 = .ok (.iconst 0, 1) := by decide +kernel
theorem dL_occupantOf_2 : decode cL_occupantOf 2 = .ok (.aload_n 0, 1) := by decide +kernel
theorem dL_occupantOf_3 : decode cL_occupantOf 3 = .ok (.iload_n 1, 1) := by decide +kernel
theorem dL_occupantOf_4 : decode cL_occupantOf 4 = .ok (.invokevirtual 35, 3) := by decide +kernel
theorem dL_occupantOf_7 : decode cL_occupantOf 7 = .ok (.i2l, 1) := by decide +kernel
theorem dL_occupantOf_8 : decode cL_occupantOf 8 = .ok (.lastore, 1) := by decide +kernel
theorem dL_occupantOf_9 : decode cL_occupantOf 9 = .ok (.goto 6, 3) := by decide +kernel
theorem dL_occupantOf_12 : decode cL_occupantOf 12 = .ok (.astore_n 3, 1) := by decide +kernel
theorem dL_occupantOf_13 : decode cL_occupantOf 13 = .ok (.iconst 1, 1) := by decide +kernel
theorem dL_occupantOf_14 : decode cL_occupantOf 14 = .ok (.ireturn, 1) := by decide +kernel
theorem dL_occupantOf_15 : decode cL_occupantOf 15 = .ok (.iconst 0, 1) := by decide +kernel
theorem dL_occupantOf_16 : decode cL_occupantOf 16 = .ok (.ireturn, 1) := by decide +kernel
theorem dL_priorityOf_0 : decode cL_priorityOf 0 = .ok (.aload_n 2, 1) := by decide +kernel
theorem dL_priorityOf_1 : decode cL_priorityOf 1 = .ok (.iconst 0, 1) := by decide +kernel
theorem dL_priorityOf_2 : decode cL_priorityOf 2 = .ok (.aload_n 0, 1) := by decide +kernel
theorem dL_priorityOf_3 : decode cL_priorityOf 3 = .ok (.iload_n 1, 1) := by decide +kernel
theorem dL_priorityOf_4 : decode cL_priorityOf 4 = .ok (.invokevirtual 38, 3) := by decide +kernel
theorem dL_priorityOf_7 : decode cL_priorityOf 7 = .ok (.i2l, 1) := by decide +kernel
theorem dL_priorityOf_8 : decode cL_priorityOf 8 = .ok (.lastore, 1) := by decide +kernel
theorem dL_priorityOf_9 : decode cL_priorityOf 9 = .ok (.goto 6, 3) := by decide +kernel
theorem dL_priorityOf_12 : decode cL_priorityOf 12 = .ok (.astore_n 3, 1) := by decide +kernel
theorem dL_priorityOf_13 : decode cL_priorityOf 13 = .ok (.iconst 1, 1) := by decide +kernel
theorem dL_priorityOf_14 : decode cL_priorityOf 14 = .ok (.ireturn, 1) := by decide +kernel
theorem dL_priorityOf_15 : decode cL_priorityOf 15 = .ok (.iconst 0, 1) := by decide +kernel
theorem dL_priorityOf_16 : decode cL_priorityOf 16 = .ok (.ireturn, 1) := by decide +kernel
theorem dL_preferenceCount_0 : decode cL_preferenceCount 0 = .ok (.aload_n 2, 1) := by decide +kernel
theorem dL_preferenceCount_1 : decode cL_preferenceCount 1 = .ok (.iconst 0, 1) := by decide +kernel
theorem dL_preferenceCount_2 : decode cL_preferenceCount 2 = .ok (.aload_n 0, 1) := by decide +kernel
theorem dL_preferenceCount_3 : decode cL_preferenceCount 3 = .ok (.iload_n 1, 1) := by decide +kernel
theorem dL_preferenceCount_4 : decode cL_preferenceCount 4 = .ok (.invokevirtual 41, 3) := by decide +kernel
theorem dL_preferenceCount_7 : decode cL_preferenceCount 7 = .ok (.i2l, 1) := by decide +kernel
theorem dL_preferenceCount_8 : decode cL_preferenceCount 8 = .ok (.lastore, 1) := by decide +kernel
theorem dL_preferenceCount_9 : decode cL_preferenceCount 9 = .ok (.goto 6, 3) := by decide +kernel
theorem dL_preferenceCount_12 : decode cL_preferenceCount 12 = .ok (.astore_n 3, 1) := by decide +kernel
theorem dL_preferenceCount_13 : decode cL_preferenceCount 13 = .ok (.iconst 1, 1) := by decide +kernel
theorem dL_preferenceCount_14 : decode cL_preferenceCount 14 = .ok (.ireturn, 1) := by decide +kernel
theorem dL_preferenceCount_15 : decode cL_preferenceCount 15 = .ok (.iconst 0, 1) := by decide +kernel
theorem dL_preferenceCount_16 : decode cL_preferenceCount 16 = .ok (.ireturn, 1) := by decide +kernel
theorem dL_preferenceAt_0 : decode cL_preferenceAt 0 = .ok (.aload_n 3, 1) := by decide +kernel
theorem dL_preferenceAt_1 : decode cL_preferenceAt 1 = .ok (.iconst 0, 1) := by decide +kernel
theorem dL_preferenceAt_2 : decode cL_preferenceAt 2 = .ok (.aload_n 0, 1) := by decide +kernel
theorem dL_preferenceAt_3 : decode cL_preferenceAt 3 = .ok (.iload_n 1, 1) := by decide +kernel
theorem dL_preferenceAt_4 : decode cL_preferenceAt 4 = .ok (.iload_n 2, 1) := by decide +kernel
theorem dL_preferenceAt_5 : decode cL_preferenceAt 5 = .ok (.invokevirtual 44, 3) := by decide +kernel
theorem dL_preferenceAt_8 : decode cL_preferenceAt 8 = .ok (.i2l, 1) := by decide +kernel
theorem dL_preferenceAt_9 : decode cL_preferenceAt 9 = .ok (.lastore, 1) := by decide +kernel
theorem dL_preferenceAt_10 : decode cL_preferenceAt 10 = .ok (.goto 7, 3) := by decide +kernel
theorem dL_preferenceAt_13 : decode cL_preferenceAt 13 = .ok (.astore 4, 2) := by decide +kernel
theorem dL_preferenceAt_15 : decode cL_preferenceAt 15 = .ok (.iconst 1, 1) := by decide +kernel
theorem dL_preferenceAt_16 : decode cL_preferenceAt 16 = .ok (.ireturn, 1) := by decide +kernel
theorem dL_preferenceAt_17 : decode cL_preferenceAt 17 = .ok (.iconst 0, 1) := by decide +kernel
theorem dL_preferenceAt_18 : decode cL_preferenceAt 18 = .ok (.ireturn, 1) := by decide +kernel
theorem dL_rankOf_0 : decode cL_rankOf 0 = .ok (.aload_n 3, 1) := by decide +kernel
theorem dL_rankOf_1 : decode cL_rankOf 1 = .ok (.iconst 0, 1) := by decide +kernel
theorem dL_rankOf_2 : decode cL_rankOf 2 = .ok (.aload_n 0, 1) := by decide +kernel
theorem dL_rankOf_3 : decode cL_rankOf 3 = .ok (.iload_n 1, 1) := by decide +kernel
theorem dL_rankOf_4 : decode cL_rankOf 4 = .ok (.iload_n 2, 1) := by decide +kernel
theorem dL_rankOf_5 : decode cL_rankOf 5 = .ok (.invokevirtual 48, 3) := by decide +kernel
theorem dL_rankOf_8 : decode cL_rankOf 8 = .ok (.i2l, 1) := by decide +kernel
theorem dL_rankOf_9 : decode cL_rankOf 9 = .ok (.lastore, 1) := by decide +kernel
theorem dL_rankOf_10 : decode cL_rankOf 10 = .ok (.goto 7, 3) := by decide +kernel
theorem dL_rankOf_13 : decode cL_rankOf 13 = .ok (.astore 4, 2) := by decide +kernel
theorem dL_rankOf_15 : decode cL_rankOf 15 = .ok (.iconst 1, 1) := by decide +kernel
theorem dL_rankOf_16 : decode cL_rankOf 16 = .ok (.ireturn, 1) := by decide +kernel
theorem dL_rankOf_17 : decode cL_rankOf 17 = .ok (.iconst 0, 1) := by decide +kernel
theorem dL_rankOf_18 : decode cL_rankOf 18 = .ok (.ireturn, 1) := by decide +kernel
theorem dL_prefers_0 : decode cL_prefers 0 = .ok (.aload 4, 2) := by decide +kernel
theorem dL_prefers_2 : decode cL_prefers 2 = .ok (.iconst 0, 1) := by decide +kernel
theorem dL_prefers_3 : decode cL_prefers 3 = .ok (.aload_n 0, 1) := by decide +kernel
theorem dL_prefers_4 : decode cL_prefers 4 = .ok (.iload_n 1, 1) := by decide +kernel
theorem dL_prefers_5 : decode cL_prefers 5 = .ok (.iload_n 2, 1) := by decide +kernel
theorem dL_prefers_6 : decode cL_prefers 6 = .ok (.iload_n 3, 1) := by decide +kernel
theorem dL_prefers_7 : decode cL_prefers 7 = .ok (.invokevirtual 51, 3) := by decide +kernel
theorem dL_prefers_10 : decode cL_prefers 10 = .ok (.ifCond .eq 7, 3) := by decide +kernel
theorem dL_prefers_13 : decode cL_prefers 13 = .ok (.lconst 1, 1) := by decide +kernel
theorem dL_prefers_14 : decode cL_prefers 14 = .ok (.goto 4, 3) := by decide +kernel
theorem dL_prefers_17 : decode cL_prefers 17 = .ok (.lconst 0, 1) := by decide +kernel
theorem dL_prefers_18 : decode cL_prefers 18 = .ok (.lastore, 1) := by decide +kernel
theorem dL_prefers_19 : decode cL_prefers 19 = .ok (.goto 7, 3) := by decide +kernel
theorem dL_prefers_22 : decode cL_prefers 22 = .ok (.astore 5, 2) := by decide +kernel
theorem dL_prefers_24 : decode cL_prefers 24 = .ok (.iconst 1, 1) := by decide +kernel
theorem dL_prefers_25 : decode cL_prefers 25 = .ok (.ireturn, 1) := by decide +kernel
theorem dL_prefers_26 : decode cL_prefers 26 = .ok (.iconst 0, 1) := by decide +kernel
theorem dL_prefers_27 : decode cL_prefers 27 = .ok (.ireturn, 1) := by decide +kernel
theorem dL_sellerNameByte_0 : decode cL_sellerNameByte 0 = .ok (.aload_n 3, 1) := by decide +kernel
theorem dL_sellerNameByte_1 : decode cL_sellerNameByte 1 = .ok (.iconst 0, 1) := by decide +kernel
theorem dL_sellerNameByte_2 : decode cL_sellerNameByte 2 = .ok (.aload_n 0, 1) := by decide +kernel
theorem dL_sellerNameByte_3 : decode cL_sellerNameByte 3 = .ok (.iload_n 1, 1) := by decide +kernel
theorem dL_sellerNameByte_4 : decode cL_sellerNameByte 4 = .ok (.iload_n 2, 1) := by decide +kernel
theorem dL_sellerNameByte_5 : decode cL_sellerNameByte 5 = .ok (.invokevirtual 55, 3) := by decide +kernel
theorem dL_sellerNameByte_8 : decode cL_sellerNameByte 8 = .ok (.i2l, 1) := by decide +kernel
theorem dL_sellerNameByte_9 : decode cL_sellerNameByte 9 = .ok (.lastore, 1) := by decide +kernel
theorem dL_sellerNameByte_10 : decode cL_sellerNameByte 10 = .ok (.goto 7, 3) := by decide +kernel
theorem dL_sellerNameByte_13 : decode cL_sellerNameByte 13 = .ok (.astore 4, 2) := by decide +kernel
theorem dL_sellerNameByte_15 : decode cL_sellerNameByte 15 = .ok (.iconst 1, 1) := by decide +kernel
theorem dL_sellerNameByte_16 : decode cL_sellerNameByte 16 = .ok (.ireturn, 1) := by decide +kernel
theorem dL_sellerNameByte_17 : decode cL_sellerNameByte 17 = .ok (.iconst 0, 1) := by decide +kernel
theorem dL_sellerNameByte_18 : decode cL_sellerNameByte 18 = .ok (.ireturn, 1) := by decide +kernel
theorem dL_stallNameByte_0 : decode cL_stallNameByte 0 = .ok (.aload_n 3, 1) := by decide +kernel
theorem dL_stallNameByte_1 : decode cL_stallNameByte 1 = .ok (.iconst 0, 1) := by decide +kernel
theorem dL_stallNameByte_2 : decode cL_stallNameByte 2 = .ok (.aload_n 0, 1) := by decide +kernel
theorem dL_stallNameByte_3 : decode cL_stallNameByte 3 = .ok (.iload_n 1, 1) := by decide +kernel
theorem dL_stallNameByte_4 : decode cL_stallNameByte 4 = .ok (.iload_n 2, 1) := by decide +kernel
theorem dL_stallNameByte_5 : decode cL_stallNameByte 5 = .ok (.invokevirtual 58, 3) := by decide +kernel
theorem dL_stallNameByte_8 : decode cL_stallNameByte 8 = .ok (.i2l, 1) := by decide +kernel
theorem dL_stallNameByte_9 : decode cL_stallNameByte 9 = .ok (.lastore, 1) := by decide +kernel
theorem dL_stallNameByte_10 : decode cL_stallNameByte 10 = .ok (.goto 7, 3) := by decide +kernel
theorem dL_stallNameByte_13 : decode cL_stallNameByte 13 = .ok (.astore 4, 2) := by decide +kernel
theorem dL_stallNameByte_15 : decode cL_stallNameByte 15 = .ok (.iconst 1, 1) := by decide +kernel
theorem dL_stallNameByte_16 : decode cL_stallNameByte 16 = .ok (.ireturn, 1) := by decide +kernel
theorem dL_stallNameByte_17 : decode cL_stallNameByte 17 = .ok (.iconst 0, 1) := by decide +kernel
theorem dL_stallNameByte_18 : decode cL_stallNameByte 18 = .ok (.ireturn, 1) := by decide +kernel
theorem dL_envies_0 : decode cL_envies 0 = .ok (.aload_n 3, 1) := by decide +kernel
theorem dL_envies_1 : decode cL_envies 1 = .ok (.iconst 0, 1) := by decide +kernel
theorem dL_envies_2 : decode cL_envies 2 = .ok (.aload_n 0, 1) := by decide +kernel
theorem dL_envies_3 : decode cL_envies 3 = .ok (.iload_n 1, 1) := by decide +kernel
theorem dL_envies_4 : decode cL_envies 4 = .ok (.iload_n 2, 1) := by decide +kernel
theorem dL_envies_5 : decode cL_envies 5 = .ok (.invokevirtual 61, 3) := by decide +kernel
theorem dL_envies_8 : decode cL_envies 8 = .ok (.ifCond .eq 7, 3) := by decide +kernel
theorem dL_envies_11 : decode cL_envies 11 = .ok (.lconst 1, 1) := by decide +kernel
theorem dL_envies_12 : decode cL_envies 12 = .ok (.goto 4, 3) := by decide +kernel
theorem dL_envies_15 : decode cL_envies 15 = .ok (.lconst 0, 1) := by decide +kernel
theorem dL_envies_16 : decode cL_envies 16 = .ok (.lastore, 1) := by decide +kernel
theorem dL_envies_17 : decode cL_envies 17 = .ok (.goto 7, 3) := by decide +kernel
theorem dL_envies_20 : decode cL_envies 20 = .ok (.astore 4, 2) := by decide +kernel
theorem dL_envies_22 : decode cL_envies 22 = .ok (.iconst 1, 1) := by decide +kernel
theorem dL_envies_23 : decode cL_envies 23 = .ok (.ireturn, 1) := by decide +kernel
theorem dL_envies_24 : decode cL_envies 24 = .ok (.iconst 0, 1) := by decide +kernel
theorem dL_envies_25 : decode cL_envies 25 = .ok (.ireturn, 1) := by decide +kernel
theorem dL_wouldSwap_0 : decode cL_wouldSwap 0 = .ok (.aload_n 3, 1) := by decide +kernel
theorem dL_wouldSwap_1 : decode cL_wouldSwap 1 = .ok (.iconst 0, 1) := by decide +kernel
theorem dL_wouldSwap_2 : decode cL_wouldSwap 2 = .ok (.aload_n 0, 1) := by decide +kernel
theorem dL_wouldSwap_3 : decode cL_wouldSwap 3 = .ok (.iload_n 1, 1) := by decide +kernel
theorem dL_wouldSwap_4 : decode cL_wouldSwap 4 = .ok (.iload_n 2, 1) := by decide +kernel
theorem dL_wouldSwap_5 : decode cL_wouldSwap 5 = .ok (.invokevirtual 65, 3) := by decide +kernel
theorem dL_wouldSwap_8 : decode cL_wouldSwap 8 = .ok (.ifCond .eq 7, 3) := by decide +kernel
theorem dL_wouldSwap_11 : decode cL_wouldSwap 11 = .ok (.lconst 1, 1) := by decide +kernel
theorem dL_wouldSwap_12 : decode cL_wouldSwap 12 = .ok (.goto 4, 3) := by decide +kernel
theorem dL_wouldSwap_15 : decode cL_wouldSwap 15 = .ok (.lconst 0, 1) := by decide +kernel
theorem dL_wouldSwap_16 : decode cL_wouldSwap 16 = .ok (.lastore, 1) := by decide +kernel
theorem dL_wouldSwap_17 : decode cL_wouldSwap 17 = .ok (.goto 7, 3) := by decide +kernel
theorem dL_wouldSwap_20 : decode cL_wouldSwap 20 = .ok (.astore 4, 2) := by decide +kernel
theorem dL_wouldSwap_22 : decode cL_wouldSwap 22 = .ok (.iconst 1, 1) := by decide +kernel
theorem dL_wouldSwap_23 : decode cL_wouldSwap 23 = .ok (.ireturn, 1) := by decide +kernel
theorem dL_wouldSwap_24 : decode cL_wouldSwap 24 = .ok (.iconst 0, 1) := by decide +kernel
theorem dL_wouldSwap_25 : decode cL_wouldSwap 25 = .ok (.ireturn, 1) := by decide +kernel
theorem dL_improvingCycleLength_0 : decode cL_improvingCycleLength 0 = .ok (.aload_n 2, 1) := by decide +kernel
theorem dL_improvingCycleLength_1 : decode cL_improvingCycleLength 1 = .ok (.iconst 0, 1) := by decide +kernel
theorem dL_improvingCycleLength_2 : decode cL_improvingCycleLength 2 = .ok (.aload_n 0, 1) := by decide +kernel
theorem dL_improvingCycleLength_3 : decode cL_improvingCycleLength 3 = .ok (.iload_n 1, 1) := by decide +kernel
theorem dL_improvingCycleLength_4 : decode cL_improvingCycleLength 4 = .ok (.invokevirtual 68, 3) := by decide +kernel
theorem dL_improvingCycleLength_7 : decode cL_improvingCycleLength 7 = .ok (.i2l, 1) := by decide +kernel
theorem dL_improvingCycleLength_8 : decode cL_improvingCycleLength 8 = .ok (.lastore, 1) := by decide +kernel
theorem dL_improvingCycleLength_9 : decode cL_improvingCycleLength 9 = .ok (.goto 6, 3) := by decide +kernel
theorem dL_improvingCycleLength_12 : decode cL_improvingCycleLength 12 = .ok (.astore_n 3, 1) := by decide +kernel
theorem dL_improvingCycleLength_13 : decode cL_improvingCycleLength 13 = .ok (.iconst 1, 1) := by decide +kernel
theorem dL_improvingCycleLength_14 : decode cL_improvingCycleLength 14 = .ok (.ireturn, 1) := by decide +kernel
theorem dL_improvingCycleLength_15 : decode cL_improvingCycleLength 15 = .ok (.iconst 0, 1) := by decide +kernel
theorem dL_improvingCycleLength_16 : decode cL_improvingCycleLength 16 = .ok (.ireturn, 1) := by decide +kernel
theorem dL_betterFreeStall_0 : decode cL_betterFreeStall 0 = .ok (.aload_n 2, 1) := by decide +kernel
theorem dL_betterFreeStall_1 : decode cL_betterFreeStall 1 = .ok (.iconst 0, 1) := by decide +kernel
theorem dL_betterFreeStall_2 : decode cL_betterFreeStall 2 = .ok (.aload_n 0, 1) := by decide +kernel
theorem dL_betterFreeStall_3 : decode cL_betterFreeStall 3 = .ok (.iload_n 1, 1) := by decide +kernel
theorem dL_betterFreeStall_4 : decode cL_betterFreeStall 4 = .ok (.invokevirtual 71, 3) := by decide +kernel
theorem dL_betterFreeStall_7 : decode cL_betterFreeStall 7 = .ok (.i2l, 1) := by decide +kernel
theorem dL_betterFreeStall_8 : decode cL_betterFreeStall 8 = .ok (.lastore, 1) := by decide +kernel
theorem dL_betterFreeStall_9 : decode cL_betterFreeStall 9 = .ok (.goto 6, 3) := by decide +kernel
theorem dL_betterFreeStall_12 : decode cL_betterFreeStall 12 = .ok (.astore_n 3, 1) := by decide +kernel
theorem dL_betterFreeStall_13 : decode cL_betterFreeStall 13 = .ok (.iconst 1, 1) := by decide +kernel
theorem dL_betterFreeStall_14 : decode cL_betterFreeStall 14 = .ok (.ireturn, 1) := by decide +kernel
theorem dL_betterFreeStall_15 : decode cL_betterFreeStall 15 = .ok (.iconst 0, 1) := by decide +kernel
theorem dL_betterFreeStall_16 : decode cL_betterFreeStall 16 = .ok (.ireturn, 1) := by decide +kernel
theorem dL_blockReason_0 : decode cL_blockReason 0 = .ok (.aload_n 3, 1) := by decide +kernel
theorem dL_blockReason_1 : decode cL_blockReason 1 = .ok (.iconst 0, 1) := by decide +kernel
theorem dL_blockReason_2 : decode cL_blockReason 2 = .ok (.aload_n 0, 1) := by decide +kernel
theorem dL_blockReason_3 : decode cL_blockReason 3 = .ok (.iload_n 1, 1) := by decide +kernel
theorem dL_blockReason_4 : decode cL_blockReason 4 = .ok (.iload_n 2, 1) := by decide +kernel
theorem dL_blockReason_5 : decode cL_blockReason 5 = .ok (.invokevirtual 74, 3) := by decide +kernel
theorem dL_blockReason_8 : decode cL_blockReason 8 = .ok (.i2l, 1) := by decide +kernel
theorem dL_blockReason_9 : decode cL_blockReason 9 = .ok (.lastore, 1) := by decide +kernel
theorem dL_blockReason_10 : decode cL_blockReason 10 = .ok (.goto 7, 3) := by decide +kernel
theorem dL_blockReason_13 : decode cL_blockReason 13 = .ok (.astore 4, 2) := by decide +kernel
theorem dL_blockReason_15 : decode cL_blockReason 15 = .ok (.iconst 1, 1) := by decide +kernel
theorem dL_blockReason_16 : decode cL_blockReason 16 = .ok (.ireturn, 1) := by decide +kernel
theorem dL_blockReason_17 : decode cL_blockReason 17 = .ok (.iconst 0, 1) := by decide +kernel
theorem dL_blockReason_18 : decode cL_blockReason 18 = .ok (.ireturn, 1) := by decide +kernel
theorem dL_allocatedStall_0 : decode cL_allocatedStall 0 = .ok (.aload_n 2, 1) := by decide +kernel
theorem dL_allocatedStall_1 : decode cL_allocatedStall 1 = .ok (.iconst 0, 1) := by decide +kernel
theorem dL_allocatedStall_2 : decode cL_allocatedStall 2 = .ok (.aload_n 0, 1) := by decide +kernel
theorem dL_allocatedStall_3 : decode cL_allocatedStall 3 = .ok (.iload_n 1, 1) := by decide +kernel
theorem dL_allocatedStall_4 : decode cL_allocatedStall 4 = .ok (.invokevirtual 77, 3) := by decide +kernel
theorem dL_allocatedStall_7 : decode cL_allocatedStall 7 = .ok (.i2l, 1) := by decide +kernel
theorem dL_allocatedStall_8 : decode cL_allocatedStall 8 = .ok (.lastore, 1) := by decide +kernel
theorem dL_allocatedStall_9 : decode cL_allocatedStall 9 = .ok (.goto 6, 3) := by decide +kernel
theorem dL_allocatedStall_12 : decode cL_allocatedStall 12 = .ok (.astore_n 3, 1) := by decide +kernel
theorem dL_allocatedStall_13 : decode cL_allocatedStall 13 = .ok (.iconst 1, 1) := by decide +kernel
theorem dL_allocatedStall_14 : decode cL_allocatedStall 14 = .ok (.ireturn, 1) := by decide +kernel
theorem dL_allocatedStall_15 : decode cL_allocatedStall 15 = .ok (.iconst 0, 1) := by decide +kernel
theorem dL_allocatedStall_16 : decode cL_allocatedStall 16 = .ok (.ireturn, 1) := by decide +kernel
theorem dL_allocatedIfFirst_0 : decode cL_allocatedIfFirst 0 = .ok (.aload_n 2, 1) := by decide +kernel
theorem dL_allocatedIfFirst_1 : decode cL_allocatedIfFirst 1 = .ok (.iconst 0, 1) := by decide +kernel
theorem dL_allocatedIfFirst_2 : decode cL_allocatedIfFirst 2 = .ok (.aload_n 0, 1) := by decide +kernel
theorem dL_allocatedIfFirst_3 : decode cL_allocatedIfFirst 3 = .ok (.iload_n 1, 1) := by decide +kernel
theorem dL_allocatedIfFirst_4 : decode cL_allocatedIfFirst 4 = .ok (.invokevirtual 80, 3) := by decide +kernel
theorem dL_allocatedIfFirst_7 : decode cL_allocatedIfFirst 7 = .ok (.i2l, 1) := by decide +kernel
theorem dL_allocatedIfFirst_8 : decode cL_allocatedIfFirst 8 = .ok (.lastore, 1) := by decide +kernel
theorem dL_allocatedIfFirst_9 : decode cL_allocatedIfFirst 9 = .ok (.goto 6, 3) := by decide +kernel
theorem dL_allocatedIfFirst_12 : decode cL_allocatedIfFirst 12 = .ok (.astore_n 3, 1) := by decide +kernel
theorem dL_allocatedIfFirst_13 : decode cL_allocatedIfFirst 13 = .ok (.iconst 1, 1) := by decide +kernel
theorem dL_allocatedIfFirst_14 : decode cL_allocatedIfFirst 14 = .ok (.ireturn, 1) := by decide +kernel
theorem dL_allocatedIfFirst_15 : decode cL_allocatedIfFirst 15 = .ok (.iconst 0, 1) := by decide +kernel
theorem dL_allocatedIfFirst_16 : decode cL_allocatedIfFirst 16 = .ok (.ireturn, 1) := by decide +kernel
theorem dL_allocatedIfReported_0 : decode cL_allocatedIfReported 0 = .ok (.aload_n 3, 1) := by decide +kernel
theorem dL_allocatedIfReported_1 : decode cL_allocatedIfReported 1 = .ok (.iconst 0, 1) := by decide +kernel
theorem dL_allocatedIfReported_2 : decode cL_allocatedIfReported 2 = .ok (.aload_n 0, 1) := by decide +kernel
theorem dL_allocatedIfReported_3 : decode cL_allocatedIfReported 3 = .ok (.iload_n 1, 1) := by decide +kernel
theorem dL_allocatedIfReported_4 : decode cL_allocatedIfReported 4 = .ok (.iload_n 2, 1) := by decide +kernel
theorem dL_allocatedIfReported_5 : decode cL_allocatedIfReported 5 = .ok (.invokevirtual 83, 3) := by decide +kernel
theorem dL_allocatedIfReported_8 : decode cL_allocatedIfReported 8 = .ok (.i2l, 1) := by decide +kernel
theorem dL_allocatedIfReported_9 : decode cL_allocatedIfReported 9 = .ok (.lastore, 1) := by decide +kernel
theorem dL_allocatedIfReported_10 : decode cL_allocatedIfReported 10 = .ok (.goto 7, 3) := by decide +kernel
theorem dL_allocatedIfReported_13 : decode cL_allocatedIfReported 13 = .ok (.astore 4, 2) := by decide +kernel
theorem dL_allocatedIfReported_15 : decode cL_allocatedIfReported 15 = .ok (.iconst 1, 1) := by decide +kernel
theorem dL_allocatedIfReported_16 : decode cL_allocatedIfReported 16 = .ok (.ireturn, 1) := by decide +kernel
theorem dL_allocatedIfReported_17 : decode cL_allocatedIfReported 17 = .ok (.iconst 0, 1) := by decide +kernel
theorem dL_allocatedIfReported_18 : decode cL_allocatedIfReported 18 = .ok (.ireturn, 1) := by decide +kernel
theorem dL_daysUntilEviction_0 : decode cL_daysUntilEviction 0 = .ok (.aload_n 2, 1) := by decide +kernel
theorem dL_daysUntilEviction_1 : decode cL_daysUntilEviction 1 = .ok (.iconst 0, 1) := by decide +kernel
theorem dL_daysUntilEviction_2 : decode cL_daysUntilEviction 2 = .ok (.aload_n 0, 1) := by decide +kernel
theorem dL_daysUntilEviction_3 : decode cL_daysUntilEviction 3 = .ok (.iload_n 1, 1) := by decide +kernel
theorem dL_daysUntilEviction_4 : decode cL_daysUntilEviction 4 = .ok (.invokevirtual 86, 3) := by decide +kernel
theorem dL_daysUntilEviction_7 : decode cL_daysUntilEviction 7 = .ok (.i2l, 1) := by decide +kernel
theorem dL_daysUntilEviction_8 : decode cL_daysUntilEviction 8 = .ok (.lastore, 1) := by decide +kernel
theorem dL_daysUntilEviction_9 : decode cL_daysUntilEviction 9 = .ok (.goto 6, 3) := by decide +kernel
theorem dL_daysUntilEviction_12 : decode cL_daysUntilEviction 12 = .ok (.astore_n 3, 1) := by decide +kernel
theorem dL_daysUntilEviction_13 : decode cL_daysUntilEviction 13 = .ok (.iconst 1, 1) := by decide +kernel
theorem dL_daysUntilEviction_14 : decode cL_daysUntilEviction 14 = .ok (.ireturn, 1) := by decide +kernel
theorem dL_daysUntilEviction_15 : decode cL_daysUntilEviction 15 = .ok (.iconst 0, 1) := by decide +kernel
theorem dL_daysUntilEviction_16 : decode cL_daysUntilEviction 16 = .ok (.ireturn, 1) := by decide +kernel
theorem dL_balanceAfter_0 : decode cL_balanceAfter 0 = .ok (.aload_n 3, 1) := by decide +kernel
theorem dL_balanceAfter_1 : decode cL_balanceAfter 1 = .ok (.iconst 0, 1) := by decide +kernel
theorem dL_balanceAfter_2 : decode cL_balanceAfter 2 = .ok (.aload_n 0, 1) := by decide +kernel
theorem dL_balanceAfter_3 : decode cL_balanceAfter 3 = .ok (.iload_n 1, 1) := by decide +kernel
theorem dL_balanceAfter_4 : decode cL_balanceAfter 4 = .ok (.iload_n 2, 1) := by decide +kernel
theorem dL_balanceAfter_5 : decode cL_balanceAfter 5 = .ok (.invokevirtual 89, 3) := by decide +kernel
theorem dL_balanceAfter_8 : decode cL_balanceAfter 8 = .ok (.i2l, 1) := by decide +kernel
theorem dL_balanceAfter_9 : decode cL_balanceAfter 9 = .ok (.lastore, 1) := by decide +kernel
theorem dL_balanceAfter_10 : decode cL_balanceAfter 10 = .ok (.goto 11, 3) := by decide +kernel
theorem dL_balanceAfter_13 : decode cL_balanceAfter 13 = .ok (.astore 4, 2) := by decide +kernel
theorem dL_balanceAfter_15 : decode cL_balanceAfter 15 = .ok (.iconst 1, 1) := by decide +kernel
theorem dL_balanceAfter_16 : decode cL_balanceAfter 16 = .ok (.ireturn, 1) := by decide +kernel
theorem dL_balanceAfter_17 : decode cL_balanceAfter 17 = .ok (.astore 4, 2) := by decide +kernel
theorem dL_balanceAfter_19 : decode cL_balanceAfter 19 = .ok (.iconst 2, 1) := by decide +kernel
theorem dL_balanceAfter_20 : decode cL_balanceAfter 20 = .ok (.ireturn, 1) := by decide +kernel
theorem dL_balanceAfter_21 : decode cL_balanceAfter 21 = .ok (.iconst 0, 1) := by decide +kernel
theorem dL_balanceAfter_22 : decode cL_balanceAfter 22 = .ok (.ireturn, 1) := by decide +kernel
theorem dL_assign_0 : decode cL_assign 0 = .ok (.aload_n 3, 1) := by decide +kernel
theorem dL_assign_1 : decode cL_assign 1 = .ok (.iconst 0, 1) := by decide +kernel
theorem dL_assign_2 : decode cL_assign 2 = .ok (.aload_n 0, 1) := by decide +kernel
theorem dL_assign_3 : decode cL_assign 3 = .ok (.iload_n 1, 1) := by decide +kernel
theorem dL_assign_4 : decode cL_assign 4 = .ok (.iload_n 2, 1) := by decide +kernel
theorem dL_assign_5 : decode cL_assign 5 = .ok (.invokevirtual 92, 3) := by decide +kernel
theorem dL_assign_8 : decode cL_assign 8 = .ok (.i2l, 1) := by decide +kernel
theorem dL_assign_9 : decode cL_assign 9 = .ok (.lastore, 1) := by decide +kernel
theorem dL_assign_10 : decode cL_assign 10 = .ok (.goto 11, 3) := by decide +kernel
theorem dL_assign_13 : decode cL_assign 13 = .ok (.astore 4, 2) := by decide +kernel
theorem dL_assign_15 : decode cL_assign 15 = .ok (.iconst 1, 1) := by decide +kernel
theorem dL_assign_16 : decode cL_assign 16 = .ok (.ireturn, 1) := by decide +kernel
theorem dL_assign_17 : decode cL_assign 17 = .ok (.astore 4, 2) := by decide +kernel
theorem dL_assign_19 : decode cL_assign 19 = .ok (.iconst 2, 1) := by decide +kernel
theorem dL_assign_20 : decode cL_assign 20 = .ok (.ireturn, 1) := by decide +kernel
theorem dL_assign_21 : decode cL_assign 21 = .ok (.iconst 0, 1) := by decide +kernel
theorem dL_assign_22 : decode cL_assign 22 = .ok (.ireturn, 1) := by decide +kernel
theorem dL_vacate_0 : decode cL_vacate 0 = .ok (.aload_n 2, 1) := by decide +kernel
theorem dL_vacate_1 : decode cL_vacate 1 = .ok (.iconst 0, 1) := by decide +kernel
theorem dL_vacate_2 : decode cL_vacate 2 = .ok (.aload_n 0, 1) := by decide +kernel
theorem dL_vacate_3 : decode cL_vacate 3 = .ok (.iload_n 1, 1) := by decide +kernel
theorem dL_vacate_4 : decode cL_vacate 4 = .ok (.invokevirtual 95, 3) := by decide +kernel
theorem dL_vacate_7 : decode cL_vacate 7 = .ok (.i2l, 1) := by decide +kernel
theorem dL_vacate_8 : decode cL_vacate 8 = .ok (.lastore, 1) := by decide +kernel
theorem dL_vacate_9 : decode cL_vacate 9 = .ok (.goto 9, 3) := by decide +kernel
theorem dL_vacate_12 : decode cL_vacate 12 = .ok (.astore_n 3, 1) := by decide +kernel
theorem dL_vacate_13 : decode cL_vacate 13 = .ok (.iconst 1, 1) := by decide +kernel
theorem dL_vacate_14 : decode cL_vacate 14 = .ok (.ireturn, 1) := by decide +kernel
theorem dL_vacate_15 : decode cL_vacate 15 = .ok (.astore_n 3, 1) := by decide +kernel
theorem dL_vacate_16 : decode cL_vacate 16 = .ok (.iconst 2, 1) := by decide +kernel
theorem dL_vacate_17 : decode cL_vacate 17 = .ok (.ireturn, 1) := by decide +kernel
theorem dL_vacate_18 : decode cL_vacate 18 = .ok (.iconst 0, 1) := by decide +kernel
theorem dL_vacate_19 : decode cL_vacate 19 = .ok (.ireturn, 1) := by decide +kernel
theorem dL_swap_0 : decode cL_swap 0 = .ok (.aload_n 3, 1) := by decide +kernel
theorem dL_swap_1 : decode cL_swap 1 = .ok (.iconst 0, 1) := by decide +kernel
theorem dL_swap_2 : decode cL_swap 2 = .ok (.aload_n 0, 1) := by decide +kernel
theorem dL_swap_3 : decode cL_swap 3 = .ok (.iload_n 1, 1) := by decide +kernel
theorem dL_swap_4 : decode cL_swap 4 = .ok (.iload_n 2, 1) := by decide +kernel
theorem dL_swap_5 : decode cL_swap 5 = .ok (.invokevirtual 98, 3) := by decide +kernel
theorem dL_swap_8 : decode cL_swap 8 = .ok (.i2l, 1) := by decide +kernel
theorem dL_swap_9 : decode cL_swap 9 = .ok (.lastore, 1) := by decide +kernel
theorem dL_swap_10 : decode cL_swap 10 = .ok (.goto 11, 3) := by decide +kernel
theorem dL_swap_13 : decode cL_swap 13 = .ok (.astore 4, 2) := by decide +kernel
theorem dL_swap_15 : decode cL_swap 15 = .ok (.iconst 1, 1) := by decide +kernel
theorem dL_swap_16 : decode cL_swap 16 = .ok (.ireturn, 1) := by decide +kernel
theorem dL_swap_17 : decode cL_swap 17 = .ok (.astore 4, 2) := by decide +kernel
theorem dL_swap_19 : decode cL_swap 19 = .ok (.iconst 2, 1) := by decide +kernel
theorem dL_swap_20 : decode cL_swap 20 = .ok (.ireturn, 1) := by decide +kernel
theorem dL_swap_21 : decode cL_swap 21 = .ok (.iconst 0, 1) := by decide +kernel
theorem dL_swap_22 : decode cL_swap 22 = .ok (.ireturn, 1) := by decide +kernel
theorem dL_setPriority_0 : decode cL_setPriority 0 = .ok (.aload_n 3, 1) := by decide +kernel
theorem dL_setPriority_1 : decode cL_setPriority 1 = .ok (.iconst 0, 1) := by decide +kernel
theorem dL_setPriority_2 : decode cL_setPriority 2 = .ok (.aload_n 0, 1) := by decide +kernel
theorem dL_setPriority_3 : decode cL_setPriority 3 = .ok (.iload_n 1, 1) := by decide +kernel
theorem dL_setPriority_4 : decode cL_setPriority 4 = .ok (.iload_n 2, 1) := by decide +kernel
theorem dL_setPriority_5 : decode cL_setPriority 5 = .ok (.invokevirtual 101, 3) := by decide +kernel
theorem dL_setPriority_8 : decode cL_setPriority 8 = .ok (.i2l, 1) := by decide +kernel
theorem dL_setPriority_9 : decode cL_setPriority 9 = .ok (.lastore, 1) := by decide +kernel
theorem dL_setPriority_10 : decode cL_setPriority 10 = .ok (.goto 11, 3) := by decide +kernel
theorem dL_setPriority_13 : decode cL_setPriority 13 = .ok (.astore 4, 2) := by decide +kernel
theorem dL_setPriority_15 : decode cL_setPriority 15 = .ok (.iconst 1, 1) := by decide +kernel
theorem dL_setPriority_16 : decode cL_setPriority 16 = .ok (.ireturn, 1) := by decide +kernel
theorem dL_setPriority_17 : decode cL_setPriority 17 = .ok (.astore 4, 2) := by decide +kernel
theorem dL_setPriority_19 : decode cL_setPriority 19 = .ok (.iconst 2, 1) := by decide +kernel
theorem dL_setPriority_20 : decode cL_setPriority 20 = .ok (.ireturn, 1) := by decide +kernel
theorem dL_setPriority_21 : decode cL_setPriority 21 = .ok (.iconst 0, 1) := by decide +kernel
theorem dL_setPriority_22 : decode cL_setPriority 22 = .ok (.ireturn, 1) := by decide +kernel
theorem dL_preferFirst_0 : decode cL_preferFirst 0 = .ok (.aload_n 3, 1) := by decide +kernel
theorem dL_preferFirst_1 : decode cL_preferFirst 1 = .ok (.iconst 0, 1) := by decide +kernel
theorem dL_preferFirst_2 : decode cL_preferFirst 2 = .ok (.aload_n 0, 1) := by decide +kernel
theorem dL_preferFirst_3 : decode cL_preferFirst 3 = .ok (.iload_n 1, 1) := by decide +kernel
theorem dL_preferFirst_4 : decode cL_preferFirst 4 = .ok (.iload_n 2, 1) := by decide +kernel
theorem dL_preferFirst_5 : decode cL_preferFirst 5 = .ok (.invokevirtual 104, 3) := by decide +kernel
theorem dL_preferFirst_8 : decode cL_preferFirst 8 = .ok (.i2l, 1) := by decide +kernel
theorem dL_preferFirst_9 : decode cL_preferFirst 9 = .ok (.lastore, 1) := by decide +kernel
theorem dL_preferFirst_10 : decode cL_preferFirst 10 = .ok (.goto 7, 3) := by decide +kernel
theorem dL_preferFirst_13 : decode cL_preferFirst 13 = .ok (.astore 4, 2) := by decide +kernel
theorem dL_preferFirst_15 : decode cL_preferFirst 15 = .ok (.iconst 1, 1) := by decide +kernel
theorem dL_preferFirst_16 : decode cL_preferFirst 16 = .ok (.ireturn, 1) := by decide +kernel
theorem dL_preferFirst_17 : decode cL_preferFirst 17 = .ok (.iconst 0, 1) := by decide +kernel
theorem dL_preferFirst_18 : decode cL_preferFirst 18 = .ok (.ireturn, 1) := by decide +kernel
theorem dL_removePreference_0 : decode cL_removePreference 0 = .ok (.aload_n 3, 1) := by decide +kernel
theorem dL_removePreference_1 : decode cL_removePreference 1 = .ok (.iconst 0, 1) := by decide +kernel
theorem dL_removePreference_2 : decode cL_removePreference 2 = .ok (.aload_n 0, 1) := by decide +kernel
theorem dL_removePreference_3 : decode cL_removePreference 3 = .ok (.iload_n 1, 1) := by decide +kernel
theorem dL_removePreference_4 : decode cL_removePreference 4 = .ok (.iload_n 2, 1) := by decide +kernel
theorem dL_removePreference_5 : decode cL_removePreference 5 = .ok (.invokevirtual 107, 3) := by decide +kernel
theorem dL_removePreference_8 : decode cL_removePreference 8 = .ok (.i2l, 1) := by decide +kernel
theorem dL_removePreference_9 : decode cL_removePreference 9 = .ok (.lastore, 1) := by decide +kernel
theorem dL_removePreference_10 : decode cL_removePreference 10 = .ok (.goto 11, 3) := by decide +kernel
theorem dL_removePreference_13 : decode cL_removePreference 13 = .ok (.astore 4, 2) := by decide +kernel
theorem dL_removePreference_15 : decode cL_removePreference 15 = .ok (.iconst 1, 1) := by decide +kernel
theorem dL_removePreference_16 : decode cL_removePreference 16 = .ok (.ireturn, 1) := by decide +kernel
theorem dL_removePreference_17 : decode cL_removePreference 17 = .ok (.astore 4, 2) := by decide +kernel
theorem dL_removePreference_19 : decode cL_removePreference 19 = .ok (.iconst 2, 1) := by decide +kernel
theorem dL_removePreference_20 : decode cL_removePreference 20 = .ok (.ireturn, 1) := by decide +kernel
theorem dL_removePreference_21 : decode cL_removePreference 21 = .ok (.iconst 0, 1) := by decide +kernel
theorem dL_removePreference_22 : decode cL_removePreference 22 = .ok (.ireturn, 1) := by decide +kernel
theorem dL_setRent_0 : decode cL_setRent 0 = .ok (.aload_n 3, 1) := by decide +kernel
theorem dL_setRent_1 : decode cL_setRent 1 = .ok (.iconst 0, 1) := by decide +kernel
theorem dL_setRent_2 : decode cL_setRent 2 = .ok (.aload_n 0, 1) := by decide +kernel
theorem dL_setRent_3 : decode cL_setRent 3 = .ok (.iload_n 1, 1) := by decide +kernel
theorem dL_setRent_4 : decode cL_setRent 4 = .ok (.iload_n 2, 1) := by decide +kernel
theorem dL_setRent_5 : decode cL_setRent 5 = .ok (.invokevirtual 110, 3) := by decide +kernel
theorem dL_setRent_8 : decode cL_setRent 8 = .ok (.i2l, 1) := by decide +kernel
theorem dL_setRent_9 : decode cL_setRent 9 = .ok (.lastore, 1) := by decide +kernel
theorem dL_setRent_10 : decode cL_setRent 10 = .ok (.goto 11, 3) := by decide +kernel
theorem dL_setRent_13 : decode cL_setRent 13 = .ok (.astore 4, 2) := by decide +kernel
theorem dL_setRent_15 : decode cL_setRent 15 = .ok (.iconst 1, 1) := by decide +kernel
theorem dL_setRent_16 : decode cL_setRent 16 = .ok (.ireturn, 1) := by decide +kernel
theorem dL_setRent_17 : decode cL_setRent 17 = .ok (.astore 4, 2) := by decide +kernel
theorem dL_setRent_19 : decode cL_setRent 19 = .ok (.iconst 2, 1) := by decide +kernel
theorem dL_setRent_20 : decode cL_setRent 20 = .ok (.ireturn, 1) := by decide +kernel
theorem dL_setRent_21 : decode cL_setRent 21 = .ok (.iconst 0, 1) := by decide +kernel
theorem dL_setRent_22 : decode cL_setRent 22 = .ok (.ireturn, 1) := by decide +kernel
theorem dL_deposit_0 : decode cL_deposit 0 = .ok (.aload_n 3, 1) := by decide +kernel
theorem dL_deposit_1 : decode cL_deposit 1 = .ok (.iconst 0, 1) := by decide +kernel
theorem dL_deposit_2 : decode cL_deposit 2 = .ok (.aload_n 0, 1) := by decide +kernel
theorem dL_deposit_3 : decode cL_deposit 3 = .ok (.iload_n 1, 1) := by decide +kernel
theorem dL_deposit_4 : decode cL_deposit 4 = .ok (.iload_n 2, 1) := by decide +kernel
theorem dL_deposit_5 : decode cL_deposit 5 = .ok (.invokevirtual 113, 3) := by decide +kernel
theorem dL_deposit_8 : decode cL_deposit 8 = .ok (.i2l, 1) := by decide +kernel
theorem dL_deposit_9 : decode cL_deposit 9 = .ok (.lastore, 1) := by decide +kernel
theorem dL_deposit_10 : decode cL_deposit 10 = .ok (.goto 11, 3) := by decide +kernel
theorem dL_deposit_13 : decode cL_deposit 13 = .ok (.astore 4, 2) := by decide +kernel
theorem dL_deposit_15 : decode cL_deposit 15 = .ok (.iconst 1, 1) := by decide +kernel
theorem dL_deposit_16 : decode cL_deposit 16 = .ok (.ireturn, 1) := by decide +kernel
theorem dL_deposit_17 : decode cL_deposit 17 = .ok (.astore 4, 2) := by decide +kernel
theorem dL_deposit_19 : decode cL_deposit 19 = .ok (.iconst 2, 1) := by decide +kernel
theorem dL_deposit_20 : decode cL_deposit 20 = .ok (.ireturn, 1) := by decide +kernel
theorem dL_deposit_21 : decode cL_deposit 21 = .ok (.iconst 0, 1) := by decide +kernel
theorem dL_deposit_22 : decode cL_deposit 22 = .ok (.ireturn, 1) := by decide +kernel
theorem dL_advanceDays_0 : decode cL_advanceDays 0 = .ok (.aload_n 2, 1) := by decide +kernel
theorem dL_advanceDays_1 : decode cL_advanceDays 1 = .ok (.iconst 0, 1) := by decide +kernel
theorem dL_advanceDays_2 : decode cL_advanceDays 2 = .ok (.aload_n 0, 1) := by decide +kernel
theorem dL_advanceDays_3 : decode cL_advanceDays 3 = .ok (.iload_n 1, 1) := by decide +kernel
theorem dL_advanceDays_4 : decode cL_advanceDays 4 = .ok (.invokevirtual 116, 3) := by decide +kernel
theorem dL_advanceDays_7 : decode cL_advanceDays 7 = .ok (.i2l, 1) := by decide +kernel
theorem dL_advanceDays_8 : decode cL_advanceDays 8 = .ok (.lastore, 1) := by decide +kernel
theorem dL_advanceDays_9 : decode cL_advanceDays 9 = .ok (.goto 9, 3) := by decide +kernel
theorem dL_advanceDays_12 : decode cL_advanceDays 12 = .ok (.astore_n 3, 1) := by decide +kernel
theorem dL_advanceDays_13 : decode cL_advanceDays 13 = .ok (.iconst 1, 1) := by decide +kernel
theorem dL_advanceDays_14 : decode cL_advanceDays 14 = .ok (.ireturn, 1) := by decide +kernel
theorem dL_advanceDays_15 : decode cL_advanceDays 15 = .ok (.astore_n 3, 1) := by decide +kernel
theorem dL_advanceDays_16 : decode cL_advanceDays 16 = .ok (.iconst 2, 1) := by decide +kernel
theorem dL_advanceDays_17 : decode cL_advanceDays 17 = .ok (.ireturn, 1) := by decide +kernel
theorem dL_advanceDays_18 : decode cL_advanceDays 18 = .ok (.iconst 0, 1) := by decide +kernel
theorem dL_advanceDays_19 : decode cL_advanceDays 19 = .ok (.ireturn, 1) := by decide +kernel
theorem dL_writePreferences_0 : decode cL_writePreferences 0 = .ok (.aload_n 2, 1) := by decide +kernel
theorem dL_writePreferences_1 : decode cL_writePreferences 1 = .ok (.iconst 0, 1) := by decide +kernel
theorem dL_writePreferences_2 : decode cL_writePreferences 2 = .ok (.aload_n 0, 1) := by decide +kernel
theorem dL_writePreferences_3 : decode cL_writePreferences 3 = .ok (.iload_n 1, 1) := by decide +kernel
theorem dL_writePreferences_4 : decode cL_writePreferences 4 = .ok (.invokevirtual 119, 3) := by decide +kernel
theorem dL_writePreferences_7 : decode cL_writePreferences 7 = .ok (.i2l, 1) := by decide +kernel
theorem dL_writePreferences_8 : decode cL_writePreferences 8 = .ok (.lastore, 1) := by decide +kernel
theorem dL_writePreferences_9 : decode cL_writePreferences 9 = .ok (.goto 6, 3) := by decide +kernel
theorem dL_writePreferences_12 : decode cL_writePreferences 12 = .ok (.astore_n 3, 1) := by decide +kernel
theorem dL_writePreferences_13 : decode cL_writePreferences 13 = .ok (.iconst 1, 1) := by decide +kernel
theorem dL_writePreferences_14 : decode cL_writePreferences 14 = .ok (.ireturn, 1) := by decide +kernel
theorem dL_writePreferences_15 : decode cL_writePreferences 15 = .ok (.iconst 0, 1) := by decide +kernel
theorem dL_writePreferences_16 : decode cL_writePreferences 16 = .ok (.ireturn, 1) := by decide +kernel
theorem dL_restore_0 : decode cL_restore 0 = .ok (.aload_n 1, 1) := by decide +kernel
theorem dL_restore_1 : decode cL_restore 1 = .ok (.iconst 0, 1) := by decide +kernel
theorem dL_restore_2 : decode cL_restore 2 = .ok (.aload_n 0, 1) := by decide +kernel
theorem dL_restore_3 : decode cL_restore 3 = .ok (.invokevirtual 122, 3) := by decide +kernel
theorem dL_restore_6 : decode cL_restore 6 = .ok (.i2l, 1) := by decide +kernel
theorem dL_restore_7 : decode cL_restore 7 = .ok (.lastore, 1) := by decide +kernel
theorem dL_restore_8 : decode cL_restore 8 = .ok (.goto 6, 3) := by decide +kernel
theorem dL_restore_11 : decode cL_restore 11 = .ok (.astore_n 2, 1) := by decide +kernel
theorem dL_restore_12 : decode cL_restore 12 = .ok (.iconst 1, 1) := by decide +kernel
theorem dL_restore_13 : decode cL_restore 13 = .ok (.ireturn, 1) := by decide +kernel
theorem dL_restore_14 : decode cL_restore 14 = .ok (.iconst 0, 1) := by decide +kernel
theorem dL_restore_15 : decode cL_restore 15 = .ok (.ireturn, 1) := by decide +kernel
theorem dL_law_0 : decode cL_law 0 = .ok (.new 8, 3) := by decide +kernel
theorem dL_law_3 : decode cL_law 3 = .ok (.dup, 1) := by decide +kernel
theorem dL_law_4 : decode cL_law 4 = .ok (.invokespecial 126, 3) := by decide +kernel
theorem dL_law_7 : decode cL_law 7 = .ok (.astore_n 1, 1) := by decide +kernel
theorem dL_law_8 : decode cL_law 8 = .ok (.new 127, 3) := by decide +kernel
theorem dL_law_11 : decode cL_law 11 = .ok (.dup, 1) := by decide +kernel
theorem dL_law_12 : decode cL_law 12 = .ok (.invokespecial 129, 3) := by decide +kernel
theorem dL_law_15 : decode cL_law 15 = .ok (.astore_n 2, 1) := by decide +kernel
theorem dL_law_16 : decode cL_law 16 = .ok (.iconst 1, 1) := by decide +kernel
theorem dL_law_17 : decode cL_law 17 = .ok (.newarray .long, 2) := by decide +kernel
theorem dL_law_19 : decode cL_law 19 = .ok (.astore_n 3, 1) := by decide +kernel
theorem dL_law_20 : decode cL_law 20 = .ok (.iconst 0, 1) := by decide +kernel
theorem dL_law_21 : decode cL_law 21 = .ok (.istore 4, 2) := by decide +kernel
theorem dL_law_23 : decode cL_law 23 = .ok (.iload 4, 2) := by decide +kernel
theorem dL_law_25 : decode cL_law 25 = .ok (.aload_n 0, 1) := by decide +kernel
theorem dL_law_26 : decode cL_law 26 = .ok (.arraylength, 1) := by decide +kernel
theorem dL_law_27 : decode cL_law 27 = .ok (.bipush 6, 2) := by decide +kernel
theorem dL_law_29 : decode cL_law 29 = .ok (.isub, 1) := by decide +kernel
theorem dL_law_30 : decode cL_law 30 = .ok (.if_icmp .gt 2934, 3) := by decide +kernel
theorem dL_law_33 : decode cL_law 33 = .ok (.aload_n 0, 1) := by decide +kernel
theorem dL_law_34 : decode cL_law 34 = .ok (.iload 4, 2) := by decide +kernel
theorem dL_law_36 : decode cL_law 36 = .ok (.iaload, 1) := by decide +kernel
theorem dL_law_37 : decode cL_law 37 = .ok (.bipush 63, 2) := by decide +kernel
theorem dL_law_39 : decode cL_law 39 = .ok (.iand, 1) := by decide +kernel
theorem dL_law_40 : decode cL_law 40 = .ok (.tableswitch 2918 0 61 #[264, 368, 424, 437, 450, 463, 476, 489, 502, 515, 571, 627, 683, 739, 795, 851, 907, 975, 1043, 1130, 1198, 1266, 1279, 1292, 1367, 1442, 1455, 1511, 1567, 1580, 1648, 1704, 1760, 1828, 1841, 1854, 1867, 1923, 1991, 2004, 2017, 2030, 2043, 2084, 2127, 2140, 2208, 2264, 2332, 2345, 2413, 2481, 2549, 2617, 2685, 2741, 2754, 2810, 2835, 2848, 2861, 2874], 264) := by decide +kernel
theorem dL_law_304 : decode cL_law 304 = .ok (.aload_n 1, 1) := by decide +kernel
theorem dL_law_305 : decode cL_law 305 = .ok (.aload_n 0, 1) := by decide +kernel
theorem dL_law_306 : decode cL_law 306 = .ok (.iload 4, 2) := by decide +kernel
theorem dL_law_308 : decode cL_law 308 = .ok (.iconst 1, 1) := by decide +kernel
theorem dL_law_309 : decode cL_law 309 = .ok (.iadd, 1) := by decide +kernel
theorem dL_law_310 : decode cL_law 310 = .ok (.iaload, 1) := by decide +kernel
theorem dL_law_311 : decode cL_law 311 = .ok (.aload_n 0, 1) := by decide +kernel
theorem dL_law_312 : decode cL_law 312 = .ok (.iload 4, 2) := by decide +kernel
theorem dL_law_314 : decode cL_law 314 = .ok (.iconst 2, 1) := by decide +kernel
theorem dL_law_315 : decode cL_law 315 = .ok (.iadd, 1) := by decide +kernel
theorem dL_law_316 : decode cL_law 316 = .ok (.iaload, 1) := by decide +kernel
theorem dL_law_317 : decode cL_law 317 = .ok (.aload_n 0, 1) := by decide +kernel
theorem dL_law_318 : decode cL_law 318 = .ok (.iload 4, 2) := by decide +kernel
theorem dL_law_320 : decode cL_law 320 = .ok (.iconst 3, 1) := by decide +kernel
theorem dL_law_321 : decode cL_law 321 = .ok (.iadd, 1) := by decide +kernel
theorem dL_law_322 : decode cL_law 322 = .ok (.iaload, 1) := by decide +kernel
theorem dL_law_323 : decode cL_law 323 = .ok (.aload_n 0, 1) := by decide +kernel
theorem dL_law_324 : decode cL_law 324 = .ok (.iload 4, 2) := by decide +kernel
theorem dL_law_326 : decode cL_law 326 = .ok (.iconst 4, 1) := by decide +kernel
theorem dL_law_327 : decode cL_law 327 = .ok (.iadd, 1) := by decide +kernel
theorem dL_law_328 : decode cL_law 328 = .ok (.iaload, 1) := by decide +kernel
theorem dL_law_329 : decode cL_law 329 = .ok (.aload_n 0, 1) := by decide +kernel
theorem dL_law_330 : decode cL_law 330 = .ok (.iload 4, 2) := by decide +kernel
theorem dL_law_332 : decode cL_law 332 = .ok (.iconst 5, 1) := by decide +kernel
theorem dL_law_333 : decode cL_law 333 = .ok (.iadd, 1) := by decide +kernel
theorem dL_law_334 : decode cL_law 334 = .ok (.iaload, 1) := by decide +kernel
theorem dL_law_335 : decode cL_law 335 = .ok (.aload_n 3, 1) := by decide +kernel
theorem dL_law_336 : decode cL_law 336 = .ok (.invokestatic 130, 3) := by decide +kernel
theorem dL_law_339 : decode cL_law 339 = .ok (.istore 5, 2) := by decide +kernel
theorem dL_law_341 : decode cL_law 341 = .ok (.aload_n 2, 1) := by decide +kernel
theorem dL_law_342 : decode cL_law 342 = .ok (.aload_n 0, 1) := by decide +kernel
theorem dL_law_343 : decode cL_law 343 = .ok (.iload 4, 2) := by decide +kernel
theorem dL_law_345 : decode cL_law 345 = .ok (.iconst 1, 1) := by decide +kernel
theorem dL_law_346 : decode cL_law 346 = .ok (.iadd, 1) := by decide +kernel
theorem dL_law_347 : decode cL_law 347 = .ok (.iaload, 1) := by decide +kernel
theorem dL_law_348 : decode cL_law 348 = .ok (.aload_n 0, 1) := by decide +kernel
theorem dL_law_349 : decode cL_law 349 = .ok (.iload 4, 2) := by decide +kernel
theorem dL_law_351 : decode cL_law 351 = .ok (.iconst 2, 1) := by decide +kernel
theorem dL_law_352 : decode cL_law 352 = .ok (.iadd, 1) := by decide +kernel
theorem dL_law_353 : decode cL_law 353 = .ok (.iaload, 1) := by decide +kernel
theorem dL_law_354 : decode cL_law 354 = .ok (.aload_n 0, 1) := by decide +kernel
theorem dL_law_355 : decode cL_law 355 = .ok (.iload 4, 2) := by decide +kernel
theorem dL_law_357 : decode cL_law 357 = .ok (.iconst 3, 1) := by decide +kernel
theorem dL_law_358 : decode cL_law 358 = .ok (.iadd, 1) := by decide +kernel
theorem dL_law_359 : decode cL_law 359 = .ok (.iaload, 1) := by decide +kernel
theorem dL_law_360 : decode cL_law 360 = .ok (.aload_n 0, 1) := by decide +kernel
theorem dL_law_361 : decode cL_law 361 = .ok (.iload 4, 2) := by decide +kernel
theorem dL_law_363 : decode cL_law 363 = .ok (.iconst 4, 1) := by decide +kernel
theorem dL_law_364 : decode cL_law 364 = .ok (.iadd, 1) := by decide +kernel
theorem dL_law_365 : decode cL_law 365 = .ok (.iaload, 1) := by decide +kernel
theorem dL_law_366 : decode cL_law 366 = .ok (.aload_n 0, 1) := by decide +kernel
theorem dL_law_367 : decode cL_law 367 = .ok (.iload 4, 2) := by decide +kernel
theorem dL_law_369 : decode cL_law 369 = .ok (.iconst 5, 1) := by decide +kernel
theorem dL_law_370 : decode cL_law 370 = .ok (.iadd, 1) := by decide +kernel
theorem dL_law_371 : decode cL_law 371 = .ok (.iaload, 1) := by decide +kernel
theorem dL_law_372 : decode cL_law 372 = .ok (.invokevirtual 135, 3) := by decide +kernel
theorem dL_law_375 : decode cL_law 375 = .ok (.istore 6, 2) := by decide +kernel
theorem dL_law_377 : decode cL_law 377 = .ok (.aload_n 2, 1) := by decide +kernel
theorem dL_law_378 : decode cL_law 378 = .ok (.invokevirtual 136, 3) := by decide +kernel
theorem dL_law_381 : decode cL_law 381 = .ok (.iload 5, 2) := by decide +kernel
theorem dL_law_383 : decode cL_law 383 = .ok (.if_icmp .eq 5, 3) := by decide +kernel
theorem dL_law_386 : decode cL_law 386 = .ok (.iconst 0, 1) := by decide +kernel
theorem dL_law_387 : decode cL_law 387 = .ok (.ireturn, 1) := by decide +kernel
theorem dL_law_388 : decode cL_law 388 = .ok (.iload 5, 2) := by decide +kernel
theorem dL_law_390 : decode cL_law 390 = .ok (.ifCond .ne 15, 3) := by decide +kernel
theorem dL_law_393 : decode cL_law 393 = .ok (.aload_n 3, 1) := by decide +kernel
theorem dL_law_394 : decode cL_law 394 = .ok (.iconst 0, 1) := by decide +kernel
theorem dL_law_395 : decode cL_law 395 = .ok (.laload, 1) := by decide +kernel
theorem dL_law_396 : decode cL_law 396 = .ok (.iload 6, 2) := by decide +kernel
theorem dL_law_398 : decode cL_law 398 = .ok (.i2l, 1) := by decide +kernel
theorem dL_law_399 : decode cL_law 399 = .ok (.lcmp, 1) := by decide +kernel
theorem dL_law_400 : decode cL_law 400 = .ok (.ifCond .eq 5, 3) := by decide +kernel
theorem dL_law_403 : decode cL_law 403 = .ok (.iconst 0, 1) := by decide +kernel
theorem dL_law_404 : decode cL_law 404 = .ok (.ireturn, 1) := by decide +kernel
theorem dL_law_405 : decode cL_law 405 = .ok (.goto 2553, 3) := by decide +kernel
theorem dL_law_408 : decode cL_law 408 = .ok (.aload_n 1, 1) := by decide +kernel
theorem dL_law_409 : decode cL_law 409 = .ok (.aload_n 0, 1) := by decide +kernel
theorem dL_law_410 : decode cL_law 410 = .ok (.iload 4, 2) := by decide +kernel
theorem dL_law_412 : decode cL_law 412 = .ok (.iconst 1, 1) := by decide +kernel
theorem dL_law_413 : decode cL_law 413 = .ok (.iadd, 1) := by decide +kernel
theorem dL_law_414 : decode cL_law 414 = .ok (.iaload, 1) := by decide +kernel
theorem dL_law_415 : decode cL_law 415 = .ok (.aload_n 3, 1) := by decide +kernel
theorem dL_law_416 : decode cL_law 416 = .ok (.invokestatic 139, 3) := by decide +kernel
theorem dL_law_419 : decode cL_law 419 = .ok (.istore 5, 2) := by decide +kernel
theorem dL_law_421 : decode cL_law 421 = .ok (.aload_n 2, 1) := by decide +kernel
theorem dL_law_422 : decode cL_law 422 = .ok (.aload_n 0, 1) := by decide +kernel
theorem dL_law_423 : decode cL_law 423 = .ok (.iload 4, 2) := by decide +kernel
theorem dL_law_425 : decode cL_law 425 = .ok (.iconst 1, 1) := by decide +kernel
theorem dL_law_426 : decode cL_law 426 = .ok (.iadd, 1) := by decide +kernel
theorem dL_law_427 : decode cL_law 427 = .ok (.iaload, 1) := by decide +kernel
theorem dL_law_428 : decode cL_law 428 = .ok (.invokevirtual 142, 3) := by decide +kernel
theorem dL_law_431 : decode cL_law 431 = .ok (.istore 6, 2) := by decide +kernel
theorem dL_law_433 : decode cL_law 433 = .ok (.aload_n 2, 1) := by decide +kernel
theorem dL_law_434 : decode cL_law 434 = .ok (.invokevirtual 136, 3) := by decide +kernel
theorem dL_law_437 : decode cL_law 437 = .ok (.iload 5, 2) := by decide +kernel
theorem dL_law_439 : decode cL_law 439 = .ok (.if_icmp .eq 5, 3) := by decide +kernel
theorem dL_law_442 : decode cL_law 442 = .ok (.iconst 0, 1) := by decide +kernel
theorem dL_law_443 : decode cL_law 443 = .ok (.ireturn, 1) := by decide +kernel
theorem dL_law_444 : decode cL_law 444 = .ok (.iload 5, 2) := by decide +kernel
theorem dL_law_446 : decode cL_law 446 = .ok (.ifCond .ne 15, 3) := by decide +kernel
theorem dL_law_449 : decode cL_law 449 = .ok (.aload_n 3, 1) := by decide +kernel
theorem dL_law_450 : decode cL_law 450 = .ok (.iconst 0, 1) := by decide +kernel
theorem dL_law_451 : decode cL_law 451 = .ok (.laload, 1) := by decide +kernel
theorem dL_law_452 : decode cL_law 452 = .ok (.iload 6, 2) := by decide +kernel
theorem dL_law_454 : decode cL_law 454 = .ok (.i2l, 1) := by decide +kernel
theorem dL_law_455 : decode cL_law 455 = .ok (.lcmp, 1) := by decide +kernel
theorem dL_law_456 : decode cL_law 456 = .ok (.ifCond .eq 5, 3) := by decide +kernel
theorem dL_law_459 : decode cL_law 459 = .ok (.iconst 0, 1) := by decide +kernel
theorem dL_law_460 : decode cL_law 460 = .ok (.ireturn, 1) := by decide +kernel
theorem dL_law_461 : decode cL_law 461 = .ok (.goto 2497, 3) := by decide +kernel
theorem dL_law_464 : decode cL_law 464 = .ok (.aload_n 1, 1) := by decide +kernel
theorem dL_law_465 : decode cL_law 465 = .ok (.invokevirtual 143, 3) := by decide +kernel
theorem dL_law_468 : decode cL_law 468 = .ok (.aload_n 2, 1) := by decide +kernel
theorem dL_law_469 : decode cL_law 469 = .ok (.invokevirtual 146, 3) := by decide +kernel
theorem dL_law_472 : decode cL_law 472 = .ok (.if_icmp .eq 2486, 3) := by decide +kernel
theorem dL_law_475 : decode cL_law 475 = .ok (.iconst 0, 1) := by decide +kernel
theorem dL_law_476 : decode cL_law 476 = .ok (.ireturn, 1) := by decide +kernel
theorem dL_law_477 : decode cL_law 477 = .ok (.aload_n 1, 1) := by decide +kernel
theorem dL_law_478 : decode cL_law 478 = .ok (.invokevirtual 147, 3) := by decide +kernel
theorem dL_law_481 : decode cL_law 481 = .ok (.aload_n 2, 1) := by decide +kernel
theorem dL_law_482 : decode cL_law 482 = .ok (.invokevirtual 150, 3) := by decide +kernel
theorem dL_law_485 : decode cL_law 485 = .ok (.if_icmp .eq 2473, 3) := by decide +kernel
theorem dL_law_488 : decode cL_law 488 = .ok (.iconst 0, 1) := by decide +kernel
theorem dL_law_489 : decode cL_law 489 = .ok (.ireturn, 1) := by decide +kernel
theorem dL_law_490 : decode cL_law 490 = .ok (.aload_n 1, 1) := by decide +kernel
theorem dL_law_491 : decode cL_law 491 = .ok (.invokevirtual 151, 3) := by decide +kernel
theorem dL_law_494 : decode cL_law 494 = .ok (.aload_n 2, 1) := by decide +kernel
theorem dL_law_495 : decode cL_law 495 = .ok (.invokevirtual 154, 3) := by decide +kernel
theorem dL_law_498 : decode cL_law 498 = .ok (.if_icmp .eq 2460, 3) := by decide +kernel
theorem dL_law_501 : decode cL_law 501 = .ok (.iconst 0, 1) := by decide +kernel
theorem dL_law_502 : decode cL_law 502 = .ok (.ireturn, 1) := by decide +kernel
theorem dL_law_503 : decode cL_law 503 = .ok (.aload_n 1, 1) := by decide +kernel
theorem dL_law_504 : decode cL_law 504 = .ok (.invokevirtual 155, 3) := by decide +kernel
theorem dL_law_507 : decode cL_law 507 = .ok (.aload_n 2, 1) := by decide +kernel
theorem dL_law_508 : decode cL_law 508 = .ok (.invokevirtual 158, 3) := by decide +kernel
theorem dL_law_511 : decode cL_law 511 = .ok (.if_icmp .eq 2447, 3) := by decide +kernel
theorem dL_law_514 : decode cL_law 514 = .ok (.iconst 0, 1) := by decide +kernel
theorem dL_law_515 : decode cL_law 515 = .ok (.ireturn, 1) := by decide +kernel
theorem dL_law_516 : decode cL_law 516 = .ok (.aload_n 1, 1) := by decide +kernel
theorem dL_law_517 : decode cL_law 517 = .ok (.invokevirtual 159, 3) := by decide +kernel
theorem dL_law_520 : decode cL_law 520 = .ok (.aload_n 2, 1) := by decide +kernel
theorem dL_law_521 : decode cL_law 521 = .ok (.invokevirtual 162, 3) := by decide +kernel
theorem dL_law_524 : decode cL_law 524 = .ok (.if_icmp .eq 2434, 3) := by decide +kernel
theorem dL_law_527 : decode cL_law 527 = .ok (.iconst 0, 1) := by decide +kernel
theorem dL_law_528 : decode cL_law 528 = .ok (.ireturn, 1) := by decide +kernel
theorem dL_law_529 : decode cL_law 529 = .ok (.aload_n 1, 1) := by decide +kernel
theorem dL_law_530 : decode cL_law 530 = .ok (.invokevirtual 163, 3) := by decide +kernel
theorem dL_law_533 : decode cL_law 533 = .ok (.aload_n 2, 1) := by decide +kernel
theorem dL_law_534 : decode cL_law 534 = .ok (.invokevirtual 166, 3) := by decide +kernel
theorem dL_law_537 : decode cL_law 537 = .ok (.if_icmp .eq 2421, 3) := by decide +kernel
theorem dL_law_540 : decode cL_law 540 = .ok (.iconst 0, 1) := by decide +kernel
theorem dL_law_541 : decode cL_law 541 = .ok (.ireturn, 1) := by decide +kernel
theorem dL_law_542 : decode cL_law 542 = .ok (.aload_n 1, 1) := by decide +kernel
theorem dL_law_543 : decode cL_law 543 = .ok (.invokevirtual 167, 3) := by decide +kernel
theorem dL_law_546 : decode cL_law 546 = .ok (.aload_n 2, 1) := by decide +kernel
theorem dL_law_547 : decode cL_law 547 = .ok (.invokevirtual 170, 3) := by decide +kernel
theorem dL_law_550 : decode cL_law 550 = .ok (.if_icmp .eq 2408, 3) := by decide +kernel
theorem dL_law_553 : decode cL_law 553 = .ok (.iconst 0, 1) := by decide +kernel
theorem dL_law_554 : decode cL_law 554 = .ok (.ireturn, 1) := by decide +kernel
theorem dL_law_555 : decode cL_law 555 = .ok (.aload_n 1, 1) := by decide +kernel
theorem dL_law_556 : decode cL_law 556 = .ok (.aload_n 0, 1) := by decide +kernel
theorem dL_law_557 : decode cL_law 557 = .ok (.iload 4, 2) := by decide +kernel
theorem dL_law_559 : decode cL_law 559 = .ok (.iconst 1, 1) := by decide +kernel
theorem dL_law_560 : decode cL_law 560 = .ok (.iadd, 1) := by decide +kernel
theorem dL_law_561 : decode cL_law 561 = .ok (.iaload, 1) := by decide +kernel
theorem dL_law_562 : decode cL_law 562 = .ok (.aload_n 3, 1) := by decide +kernel
theorem dL_law_563 : decode cL_law 563 = .ok (.invokestatic 171, 3) := by decide +kernel
theorem dL_law_566 : decode cL_law 566 = .ok (.istore 5, 2) := by decide +kernel
theorem dL_law_568 : decode cL_law 568 = .ok (.aload_n 2, 1) := by decide +kernel
theorem dL_law_569 : decode cL_law 569 = .ok (.aload_n 0, 1) := by decide +kernel
theorem dL_law_570 : decode cL_law 570 = .ok (.iload 4, 2) := by decide +kernel
theorem dL_law_572 : decode cL_law 572 = .ok (.iconst 1, 1) := by decide +kernel
theorem dL_law_573 : decode cL_law 573 = .ok (.iadd, 1) := by decide +kernel
theorem dL_law_574 : decode cL_law 574 = .ok (.iaload, 1) := by decide +kernel
theorem dL_law_575 : decode cL_law 575 = .ok (.invokevirtual 173, 3) := by decide +kernel
theorem dL_law_578 : decode cL_law 578 = .ok (.istore 6, 2) := by decide +kernel
theorem dL_law_580 : decode cL_law 580 = .ok (.aload_n 2, 1) := by decide +kernel
theorem dL_law_581 : decode cL_law 581 = .ok (.invokevirtual 136, 3) := by decide +kernel
theorem dL_law_584 : decode cL_law 584 = .ok (.iload 5, 2) := by decide +kernel
theorem dL_law_586 : decode cL_law 586 = .ok (.if_icmp .eq 5, 3) := by decide +kernel
theorem dL_law_589 : decode cL_law 589 = .ok (.iconst 0, 1) := by decide +kernel
theorem dL_law_590 : decode cL_law 590 = .ok (.ireturn, 1) := by decide +kernel
theorem dL_law_591 : decode cL_law 591 = .ok (.iload 5, 2) := by decide +kernel
theorem dL_law_593 : decode cL_law 593 = .ok (.ifCond .ne 15, 3) := by decide +kernel
theorem dL_law_596 : decode cL_law 596 = .ok (.aload_n 3, 1) := by decide +kernel
theorem dL_law_597 : decode cL_law 597 = .ok (.iconst 0, 1) := by decide +kernel
theorem dL_law_598 : decode cL_law 598 = .ok (.laload, 1) := by decide +kernel
theorem dL_law_599 : decode cL_law 599 = .ok (.iload 6, 2) := by decide +kernel
theorem dL_law_601 : decode cL_law 601 = .ok (.i2l, 1) := by decide +kernel
theorem dL_law_602 : decode cL_law 602 = .ok (.lcmp, 1) := by decide +kernel
theorem dL_law_603 : decode cL_law 603 = .ok (.ifCond .eq 5, 3) := by decide +kernel
theorem dL_law_606 : decode cL_law 606 = .ok (.iconst 0, 1) := by decide +kernel
theorem dL_law_607 : decode cL_law 607 = .ok (.ireturn, 1) := by decide +kernel
theorem dL_law_608 : decode cL_law 608 = .ok (.goto 2350, 3) := by decide +kernel
theorem dL_law_611 : decode cL_law 611 = .ok (.aload_n 1, 1) := by decide +kernel
theorem dL_law_612 : decode cL_law 612 = .ok (.aload_n 0, 1) := by decide +kernel
theorem dL_law_613 : decode cL_law 613 = .ok (.iload 4, 2) := by decide +kernel
theorem dL_law_615 : decode cL_law 615 = .ok (.iconst 1, 1) := by decide +kernel
theorem dL_law_616 : decode cL_law 616 = .ok (.iadd, 1) := by decide +kernel
theorem dL_law_617 : decode cL_law 617 = .ok (.iaload, 1) := by decide +kernel
theorem dL_law_618 : decode cL_law 618 = .ok (.aload_n 3, 1) := by decide +kernel
theorem dL_law_619 : decode cL_law 619 = .ok (.invokestatic 174, 3) := by decide +kernel
theorem dL_law_622 : decode cL_law 622 = .ok (.istore 5, 2) := by decide +kernel
theorem dL_law_624 : decode cL_law 624 = .ok (.aload_n 2, 1) := by decide +kernel
theorem dL_law_625 : decode cL_law 625 = .ok (.aload_n 0, 1) := by decide +kernel
theorem dL_law_626 : decode cL_law 626 = .ok (.iload 4, 2) := by decide +kernel
theorem dL_law_628 : decode cL_law 628 = .ok (.iconst 1, 1) := by decide +kernel
theorem dL_law_629 : decode cL_law 629 = .ok (.iadd, 1) := by decide +kernel
theorem dL_law_630 : decode cL_law 630 = .ok (.iaload, 1) := by decide +kernel
theorem dL_law_631 : decode cL_law 631 = .ok (.invokevirtual 176, 3) := by decide +kernel
theorem dL_law_634 : decode cL_law 634 = .ok (.istore 6, 2) := by decide +kernel
theorem dL_law_636 : decode cL_law 636 = .ok (.aload_n 2, 1) := by decide +kernel
theorem dL_law_637 : decode cL_law 637 = .ok (.invokevirtual 136, 3) := by decide +kernel
theorem dL_law_640 : decode cL_law 640 = .ok (.iload 5, 2) := by decide +kernel
theorem dL_law_642 : decode cL_law 642 = .ok (.if_icmp .eq 5, 3) := by decide +kernel
theorem dL_law_645 : decode cL_law 645 = .ok (.iconst 0, 1) := by decide +kernel
theorem dL_law_646 : decode cL_law 646 = .ok (.ireturn, 1) := by decide +kernel
theorem dL_law_647 : decode cL_law 647 = .ok (.iload 5, 2) := by decide +kernel
theorem dL_law_649 : decode cL_law 649 = .ok (.ifCond .ne 15, 3) := by decide +kernel
theorem dL_law_652 : decode cL_law 652 = .ok (.aload_n 3, 1) := by decide +kernel
theorem dL_law_653 : decode cL_law 653 = .ok (.iconst 0, 1) := by decide +kernel
theorem dL_law_654 : decode cL_law 654 = .ok (.laload, 1) := by decide +kernel
theorem dL_law_655 : decode cL_law 655 = .ok (.iload 6, 2) := by decide +kernel
theorem dL_law_657 : decode cL_law 657 = .ok (.i2l, 1) := by decide +kernel
theorem dL_law_658 : decode cL_law 658 = .ok (.lcmp, 1) := by decide +kernel
theorem dL_law_659 : decode cL_law 659 = .ok (.ifCond .eq 5, 3) := by decide +kernel
theorem dL_law_662 : decode cL_law 662 = .ok (.iconst 0, 1) := by decide +kernel
theorem dL_law_663 : decode cL_law 663 = .ok (.ireturn, 1) := by decide +kernel
theorem dL_law_664 : decode cL_law 664 = .ok (.goto 2294, 3) := by decide +kernel
theorem dL_law_667 : decode cL_law 667 = .ok (.aload_n 1, 1) := by decide +kernel
theorem dL_law_668 : decode cL_law 668 = .ok (.aload_n 0, 1) := by decide +kernel
theorem dL_law_669 : decode cL_law 669 = .ok (.iload 4, 2) := by decide +kernel
theorem dL_law_671 : decode cL_law 671 = .ok (.iconst 1, 1) := by decide +kernel
theorem dL_law_672 : decode cL_law 672 = .ok (.iadd, 1) := by decide +kernel
theorem dL_law_673 : decode cL_law 673 = .ok (.iaload, 1) := by decide +kernel
theorem dL_law_674 : decode cL_law 674 = .ok (.aload_n 3, 1) := by decide +kernel
theorem dL_law_675 : decode cL_law 675 = .ok (.invokestatic 177, 3) := by decide +kernel
theorem dL_law_678 : decode cL_law 678 = .ok (.istore 5, 2) := by decide +kernel
theorem dL_law_680 : decode cL_law 680 = .ok (.aload_n 2, 1) := by decide +kernel
theorem dL_law_681 : decode cL_law 681 = .ok (.aload_n 0, 1) := by decide +kernel
theorem dL_law_682 : decode cL_law 682 = .ok (.iload 4, 2) := by decide +kernel
theorem dL_law_684 : decode cL_law 684 = .ok (.iconst 1, 1) := by decide +kernel
theorem dL_law_685 : decode cL_law 685 = .ok (.iadd, 1) := by decide +kernel
theorem dL_law_686 : decode cL_law 686 = .ok (.iaload, 1) := by decide +kernel
theorem dL_law_687 : decode cL_law 687 = .ok (.invokevirtual 179, 3) := by decide +kernel
theorem dL_law_690 : decode cL_law 690 = .ok (.istore 6, 2) := by decide +kernel
theorem dL_law_692 : decode cL_law 692 = .ok (.aload_n 2, 1) := by decide +kernel
theorem dL_law_693 : decode cL_law 693 = .ok (.invokevirtual 136, 3) := by decide +kernel
theorem dL_law_696 : decode cL_law 696 = .ok (.iload 5, 2) := by decide +kernel
theorem dL_law_698 : decode cL_law 698 = .ok (.if_icmp .eq 5, 3) := by decide +kernel
theorem dL_law_701 : decode cL_law 701 = .ok (.iconst 0, 1) := by decide +kernel
theorem dL_law_702 : decode cL_law 702 = .ok (.ireturn, 1) := by decide +kernel
theorem dL_law_703 : decode cL_law 703 = .ok (.iload 5, 2) := by decide +kernel
theorem dL_law_705 : decode cL_law 705 = .ok (.ifCond .ne 15, 3) := by decide +kernel
theorem dL_law_708 : decode cL_law 708 = .ok (.aload_n 3, 1) := by decide +kernel
theorem dL_law_709 : decode cL_law 709 = .ok (.iconst 0, 1) := by decide +kernel
theorem dL_law_710 : decode cL_law 710 = .ok (.laload, 1) := by decide +kernel
theorem dL_law_711 : decode cL_law 711 = .ok (.iload 6, 2) := by decide +kernel
theorem dL_law_713 : decode cL_law 713 = .ok (.i2l, 1) := by decide +kernel
theorem dL_law_714 : decode cL_law 714 = .ok (.lcmp, 1) := by decide +kernel
theorem dL_law_715 : decode cL_law 715 = .ok (.ifCond .eq 5, 3) := by decide +kernel
theorem dL_law_718 : decode cL_law 718 = .ok (.iconst 0, 1) := by decide +kernel
theorem dL_law_719 : decode cL_law 719 = .ok (.ireturn, 1) := by decide +kernel
theorem dL_law_720 : decode cL_law 720 = .ok (.goto 2238, 3) := by decide +kernel
theorem dL_law_723 : decode cL_law 723 = .ok (.aload_n 1, 1) := by decide +kernel
theorem dL_law_724 : decode cL_law 724 = .ok (.aload_n 0, 1) := by decide +kernel
theorem dL_law_725 : decode cL_law 725 = .ok (.iload 4, 2) := by decide +kernel
theorem dL_law_727 : decode cL_law 727 = .ok (.iconst 1, 1) := by decide +kernel
theorem dL_law_728 : decode cL_law 728 = .ok (.iadd, 1) := by decide +kernel
theorem dL_law_729 : decode cL_law 729 = .ok (.iaload, 1) := by decide +kernel
theorem dL_law_730 : decode cL_law 730 = .ok (.aload_n 3, 1) := by decide +kernel
theorem dL_law_731 : decode cL_law 731 = .ok (.invokestatic 180, 3) := by decide +kernel
theorem dL_law_734 : decode cL_law 734 = .ok (.istore 5, 2) := by decide +kernel
theorem dL_law_736 : decode cL_law 736 = .ok (.aload_n 2, 1) := by decide +kernel
theorem dL_law_737 : decode cL_law 737 = .ok (.aload_n 0, 1) := by decide +kernel
theorem dL_law_738 : decode cL_law 738 = .ok (.iload 4, 2) := by decide +kernel
theorem dL_law_740 : decode cL_law 740 = .ok (.iconst 1, 1) := by decide +kernel
theorem dL_law_741 : decode cL_law 741 = .ok (.iadd, 1) := by decide +kernel
theorem dL_law_742 : decode cL_law 742 = .ok (.iaload, 1) := by decide +kernel
theorem dL_law_743 : decode cL_law 743 = .ok (.invokevirtual 182, 3) := by decide +kernel
theorem dL_law_746 : decode cL_law 746 = .ok (.istore 6, 2) := by decide +kernel
theorem dL_law_748 : decode cL_law 748 = .ok (.aload_n 2, 1) := by decide +kernel
theorem dL_law_749 : decode cL_law 749 = .ok (.invokevirtual 136, 3) := by decide +kernel
theorem dL_law_752 : decode cL_law 752 = .ok (.iload 5, 2) := by decide +kernel
theorem dL_law_754 : decode cL_law 754 = .ok (.if_icmp .eq 5, 3) := by decide +kernel
theorem dL_law_757 : decode cL_law 757 = .ok (.iconst 0, 1) := by decide +kernel
theorem dL_law_758 : decode cL_law 758 = .ok (.ireturn, 1) := by decide +kernel
theorem dL_law_759 : decode cL_law 759 = .ok (.iload 5, 2) := by decide +kernel
theorem dL_law_761 : decode cL_law 761 = .ok (.ifCond .ne 15, 3) := by decide +kernel
theorem dL_law_764 : decode cL_law 764 = .ok (.aload_n 3, 1) := by decide +kernel
theorem dL_law_765 : decode cL_law 765 = .ok (.iconst 0, 1) := by decide +kernel
theorem dL_law_766 : decode cL_law 766 = .ok (.laload, 1) := by decide +kernel
theorem dL_law_767 : decode cL_law 767 = .ok (.iload 6, 2) := by decide +kernel
theorem dL_law_769 : decode cL_law 769 = .ok (.i2l, 1) := by decide +kernel
theorem dL_law_770 : decode cL_law 770 = .ok (.lcmp, 1) := by decide +kernel
theorem dL_law_771 : decode cL_law 771 = .ok (.ifCond .eq 5, 3) := by decide +kernel
theorem dL_law_774 : decode cL_law 774 = .ok (.iconst 0, 1) := by decide +kernel
theorem dL_law_775 : decode cL_law 775 = .ok (.ireturn, 1) := by decide +kernel
theorem dL_law_776 : decode cL_law 776 = .ok (.goto 2182, 3) := by decide +kernel
theorem dL_law_779 : decode cL_law 779 = .ok (.aload_n 1, 1) := by decide +kernel
theorem dL_law_780 : decode cL_law 780 = .ok (.aload_n 0, 1) := by decide +kernel
theorem dL_law_781 : decode cL_law 781 = .ok (.iload 4, 2) := by decide +kernel
theorem dL_law_783 : decode cL_law 783 = .ok (.iconst 1, 1) := by decide +kernel
theorem dL_law_784 : decode cL_law 784 = .ok (.iadd, 1) := by decide +kernel
theorem dL_law_785 : decode cL_law 785 = .ok (.iaload, 1) := by decide +kernel
theorem dL_law_786 : decode cL_law 786 = .ok (.aload_n 3, 1) := by decide +kernel
theorem dL_law_787 : decode cL_law 787 = .ok (.invokestatic 183, 3) := by decide +kernel
theorem dL_law_790 : decode cL_law 790 = .ok (.istore 5, 2) := by decide +kernel
theorem dL_law_792 : decode cL_law 792 = .ok (.aload_n 2, 1) := by decide +kernel
theorem dL_law_793 : decode cL_law 793 = .ok (.aload_n 0, 1) := by decide +kernel
theorem dL_law_794 : decode cL_law 794 = .ok (.iload 4, 2) := by decide +kernel
theorem dL_law_796 : decode cL_law 796 = .ok (.iconst 1, 1) := by decide +kernel
theorem dL_law_797 : decode cL_law 797 = .ok (.iadd, 1) := by decide +kernel
theorem dL_law_798 : decode cL_law 798 = .ok (.iaload, 1) := by decide +kernel
theorem dL_law_799 : decode cL_law 799 = .ok (.invokevirtual 185, 3) := by decide +kernel
theorem dL_law_802 : decode cL_law 802 = .ok (.istore 6, 2) := by decide +kernel
theorem dL_law_804 : decode cL_law 804 = .ok (.aload_n 2, 1) := by decide +kernel
theorem dL_law_805 : decode cL_law 805 = .ok (.invokevirtual 136, 3) := by decide +kernel
theorem dL_law_808 : decode cL_law 808 = .ok (.iload 5, 2) := by decide +kernel
theorem dL_law_810 : decode cL_law 810 = .ok (.if_icmp .eq 5, 3) := by decide +kernel
theorem dL_law_813 : decode cL_law 813 = .ok (.iconst 0, 1) := by decide +kernel
theorem dL_law_814 : decode cL_law 814 = .ok (.ireturn, 1) := by decide +kernel
theorem dL_law_815 : decode cL_law 815 = .ok (.iload 5, 2) := by decide +kernel
theorem dL_law_817 : decode cL_law 817 = .ok (.ifCond .ne 15, 3) := by decide +kernel
theorem dL_law_820 : decode cL_law 820 = .ok (.aload_n 3, 1) := by decide +kernel
theorem dL_law_821 : decode cL_law 821 = .ok (.iconst 0, 1) := by decide +kernel
theorem dL_law_822 : decode cL_law 822 = .ok (.laload, 1) := by decide +kernel
theorem dL_law_823 : decode cL_law 823 = .ok (.iload 6, 2) := by decide +kernel
theorem dL_law_825 : decode cL_law 825 = .ok (.i2l, 1) := by decide +kernel
theorem dL_law_826 : decode cL_law 826 = .ok (.lcmp, 1) := by decide +kernel
theorem dL_law_827 : decode cL_law 827 = .ok (.ifCond .eq 5, 3) := by decide +kernel
theorem dL_law_830 : decode cL_law 830 = .ok (.iconst 0, 1) := by decide +kernel
theorem dL_law_831 : decode cL_law 831 = .ok (.ireturn, 1) := by decide +kernel
theorem dL_law_832 : decode cL_law 832 = .ok (.goto 2126, 3) := by decide +kernel
theorem dL_law_835 : decode cL_law 835 = .ok (.aload_n 1, 1) := by decide +kernel
theorem dL_law_836 : decode cL_law 836 = .ok (.aload_n 0, 1) := by decide +kernel
theorem dL_law_837 : decode cL_law 837 = .ok (.iload 4, 2) := by decide +kernel
theorem dL_law_839 : decode cL_law 839 = .ok (.iconst 1, 1) := by decide +kernel
theorem dL_law_840 : decode cL_law 840 = .ok (.iadd, 1) := by decide +kernel
theorem dL_law_841 : decode cL_law 841 = .ok (.iaload, 1) := by decide +kernel
theorem dL_law_842 : decode cL_law 842 = .ok (.aload_n 3, 1) := by decide +kernel
theorem dL_law_843 : decode cL_law 843 = .ok (.invokestatic 186, 3) := by decide +kernel
theorem dL_law_846 : decode cL_law 846 = .ok (.istore 5, 2) := by decide +kernel
theorem dL_law_848 : decode cL_law 848 = .ok (.aload_n 2, 1) := by decide +kernel
theorem dL_law_849 : decode cL_law 849 = .ok (.aload_n 0, 1) := by decide +kernel
theorem dL_law_850 : decode cL_law 850 = .ok (.iload 4, 2) := by decide +kernel
theorem dL_law_852 : decode cL_law 852 = .ok (.iconst 1, 1) := by decide +kernel
theorem dL_law_853 : decode cL_law 853 = .ok (.iadd, 1) := by decide +kernel
theorem dL_law_854 : decode cL_law 854 = .ok (.iaload, 1) := by decide +kernel
theorem dL_law_855 : decode cL_law 855 = .ok (.invokevirtual 188, 3) := by decide +kernel
theorem dL_law_858 : decode cL_law 858 = .ok (.istore 6, 2) := by decide +kernel
theorem dL_law_860 : decode cL_law 860 = .ok (.aload_n 2, 1) := by decide +kernel
theorem dL_law_861 : decode cL_law 861 = .ok (.invokevirtual 136, 3) := by decide +kernel
theorem dL_law_864 : decode cL_law 864 = .ok (.iload 5, 2) := by decide +kernel
theorem dL_law_866 : decode cL_law 866 = .ok (.if_icmp .eq 5, 3) := by decide +kernel
theorem dL_law_869 : decode cL_law 869 = .ok (.iconst 0, 1) := by decide +kernel
theorem dL_law_870 : decode cL_law 870 = .ok (.ireturn, 1) := by decide +kernel
theorem dL_law_871 : decode cL_law 871 = .ok (.iload 5, 2) := by decide +kernel
theorem dL_law_873 : decode cL_law 873 = .ok (.ifCond .ne 15, 3) := by decide +kernel
theorem dL_law_876 : decode cL_law 876 = .ok (.aload_n 3, 1) := by decide +kernel
theorem dL_law_877 : decode cL_law 877 = .ok (.iconst 0, 1) := by decide +kernel
theorem dL_law_878 : decode cL_law 878 = .ok (.laload, 1) := by decide +kernel
theorem dL_law_879 : decode cL_law 879 = .ok (.iload 6, 2) := by decide +kernel
theorem dL_law_881 : decode cL_law 881 = .ok (.i2l, 1) := by decide +kernel
theorem dL_law_882 : decode cL_law 882 = .ok (.lcmp, 1) := by decide +kernel
theorem dL_law_883 : decode cL_law 883 = .ok (.ifCond .eq 5, 3) := by decide +kernel
theorem dL_law_886 : decode cL_law 886 = .ok (.iconst 0, 1) := by decide +kernel
theorem dL_law_887 : decode cL_law 887 = .ok (.ireturn, 1) := by decide +kernel
theorem dL_law_888 : decode cL_law 888 = .ok (.goto 2070, 3) := by decide +kernel
theorem dL_law_891 : decode cL_law 891 = .ok (.aload_n 1, 1) := by decide +kernel
theorem dL_law_892 : decode cL_law 892 = .ok (.aload_n 0, 1) := by decide +kernel
theorem dL_law_893 : decode cL_law 893 = .ok (.iload 4, 2) := by decide +kernel
theorem dL_law_895 : decode cL_law 895 = .ok (.iconst 1, 1) := by decide +kernel
theorem dL_law_896 : decode cL_law 896 = .ok (.iadd, 1) := by decide +kernel
theorem dL_law_897 : decode cL_law 897 = .ok (.iaload, 1) := by decide +kernel
theorem dL_law_898 : decode cL_law 898 = .ok (.aload_n 3, 1) := by decide +kernel
theorem dL_law_899 : decode cL_law 899 = .ok (.invokestatic 189, 3) := by decide +kernel
theorem dL_law_902 : decode cL_law 902 = .ok (.istore 5, 2) := by decide +kernel
theorem dL_law_904 : decode cL_law 904 = .ok (.aload_n 2, 1) := by decide +kernel
theorem dL_law_905 : decode cL_law 905 = .ok (.aload_n 0, 1) := by decide +kernel
theorem dL_law_906 : decode cL_law 906 = .ok (.iload 4, 2) := by decide +kernel
theorem dL_law_908 : decode cL_law 908 = .ok (.iconst 1, 1) := by decide +kernel
theorem dL_law_909 : decode cL_law 909 = .ok (.iadd, 1) := by decide +kernel
theorem dL_law_910 : decode cL_law 910 = .ok (.iaload, 1) := by decide +kernel
theorem dL_law_911 : decode cL_law 911 = .ok (.invokevirtual 191, 3) := by decide +kernel
theorem dL_law_914 : decode cL_law 914 = .ok (.istore 6, 2) := by decide +kernel
theorem dL_law_916 : decode cL_law 916 = .ok (.aload_n 2, 1) := by decide +kernel
theorem dL_law_917 : decode cL_law 917 = .ok (.invokevirtual 136, 3) := by decide +kernel
theorem dL_law_920 : decode cL_law 920 = .ok (.iload 5, 2) := by decide +kernel
theorem dL_law_922 : decode cL_law 922 = .ok (.if_icmp .eq 5, 3) := by decide +kernel
theorem dL_law_925 : decode cL_law 925 = .ok (.iconst 0, 1) := by decide +kernel
theorem dL_law_926 : decode cL_law 926 = .ok (.ireturn, 1) := by decide +kernel
theorem dL_law_927 : decode cL_law 927 = .ok (.iload 5, 2) := by decide +kernel
theorem dL_law_929 : decode cL_law 929 = .ok (.ifCond .ne 15, 3) := by decide +kernel
theorem dL_law_932 : decode cL_law 932 = .ok (.aload_n 3, 1) := by decide +kernel
theorem dL_law_933 : decode cL_law 933 = .ok (.iconst 0, 1) := by decide +kernel
theorem dL_law_934 : decode cL_law 934 = .ok (.laload, 1) := by decide +kernel
theorem dL_law_935 : decode cL_law 935 = .ok (.iload 6, 2) := by decide +kernel
theorem dL_law_937 : decode cL_law 937 = .ok (.i2l, 1) := by decide +kernel
theorem dL_law_938 : decode cL_law 938 = .ok (.lcmp, 1) := by decide +kernel
theorem dL_law_939 : decode cL_law 939 = .ok (.ifCond .eq 5, 3) := by decide +kernel
theorem dL_law_942 : decode cL_law 942 = .ok (.iconst 0, 1) := by decide +kernel
theorem dL_law_943 : decode cL_law 943 = .ok (.ireturn, 1) := by decide +kernel
theorem dL_law_944 : decode cL_law 944 = .ok (.goto 2014, 3) := by decide +kernel
theorem dL_law_947 : decode cL_law 947 = .ok (.aload_n 1, 1) := by decide +kernel
theorem dL_law_948 : decode cL_law 948 = .ok (.aload_n 0, 1) := by decide +kernel
theorem dL_law_949 : decode cL_law 949 = .ok (.iload 4, 2) := by decide +kernel
theorem dL_law_951 : decode cL_law 951 = .ok (.iconst 1, 1) := by decide +kernel
theorem dL_law_952 : decode cL_law 952 = .ok (.iadd, 1) := by decide +kernel
theorem dL_law_953 : decode cL_law 953 = .ok (.iaload, 1) := by decide +kernel
theorem dL_law_954 : decode cL_law 954 = .ok (.aload_n 0, 1) := by decide +kernel
theorem dL_law_955 : decode cL_law 955 = .ok (.iload 4, 2) := by decide +kernel
theorem dL_law_957 : decode cL_law 957 = .ok (.iconst 2, 1) := by decide +kernel
theorem dL_law_958 : decode cL_law 958 = .ok (.iadd, 1) := by decide +kernel
theorem dL_law_959 : decode cL_law 959 = .ok (.iaload, 1) := by decide +kernel
theorem dL_law_960 : decode cL_law 960 = .ok (.aload_n 3, 1) := by decide +kernel
theorem dL_law_961 : decode cL_law 961 = .ok (.invokestatic 192, 3) := by decide +kernel
theorem dL_law_964 : decode cL_law 964 = .ok (.istore 5, 2) := by decide +kernel
theorem dL_law_966 : decode cL_law 966 = .ok (.aload_n 2, 1) := by decide +kernel
theorem dL_law_967 : decode cL_law 967 = .ok (.aload_n 0, 1) := by decide +kernel
theorem dL_law_968 : decode cL_law 968 = .ok (.iload 4, 2) := by decide +kernel
theorem dL_law_970 : decode cL_law 970 = .ok (.iconst 1, 1) := by decide +kernel
theorem dL_law_971 : decode cL_law 971 = .ok (.iadd, 1) := by decide +kernel
theorem dL_law_972 : decode cL_law 972 = .ok (.iaload, 1) := by decide +kernel
theorem dL_law_973 : decode cL_law 973 = .ok (.aload_n 0, 1) := by decide +kernel
theorem dL_law_974 : decode cL_law 974 = .ok (.iload 4, 2) := by decide +kernel
theorem dL_law_976 : decode cL_law 976 = .ok (.iconst 2, 1) := by decide +kernel
theorem dL_law_977 : decode cL_law 977 = .ok (.iadd, 1) := by decide +kernel
theorem dL_law_978 : decode cL_law 978 = .ok (.iaload, 1) := by decide +kernel
theorem dL_law_979 : decode cL_law 979 = .ok (.invokevirtual 195, 3) := by decide +kernel
theorem dL_law_982 : decode cL_law 982 = .ok (.istore 6, 2) := by decide +kernel
theorem dL_law_984 : decode cL_law 984 = .ok (.aload_n 2, 1) := by decide +kernel
theorem dL_law_985 : decode cL_law 985 = .ok (.invokevirtual 136, 3) := by decide +kernel
theorem dL_law_988 : decode cL_law 988 = .ok (.iload 5, 2) := by decide +kernel
theorem dL_law_990 : decode cL_law 990 = .ok (.if_icmp .eq 5, 3) := by decide +kernel
theorem dL_law_993 : decode cL_law 993 = .ok (.iconst 0, 1) := by decide +kernel
theorem dL_law_994 : decode cL_law 994 = .ok (.ireturn, 1) := by decide +kernel
theorem dL_law_995 : decode cL_law 995 = .ok (.iload 5, 2) := by decide +kernel
theorem dL_law_997 : decode cL_law 997 = .ok (.ifCond .ne 15, 3) := by decide +kernel
theorem dL_law_1000 : decode cL_law 1000 = .ok (.aload_n 3, 1) := by decide +kernel
theorem dL_law_1001 : decode cL_law 1001 = .ok (.iconst 0, 1) := by decide +kernel
theorem dL_law_1002 : decode cL_law 1002 = .ok (.laload, 1) := by decide +kernel
theorem dL_law_1003 : decode cL_law 1003 = .ok (.iload 6, 2) := by decide +kernel
theorem dL_law_1005 : decode cL_law 1005 = .ok (.i2l, 1) := by decide +kernel
theorem dL_law_1006 : decode cL_law 1006 = .ok (.lcmp, 1) := by decide +kernel
theorem dL_law_1007 : decode cL_law 1007 = .ok (.ifCond .eq 5, 3) := by decide +kernel
theorem dL_law_1010 : decode cL_law 1010 = .ok (.iconst 0, 1) := by decide +kernel
theorem dL_law_1011 : decode cL_law 1011 = .ok (.ireturn, 1) := by decide +kernel
theorem dL_law_1012 : decode cL_law 1012 = .ok (.goto 1946, 3) := by decide +kernel
theorem dL_law_1015 : decode cL_law 1015 = .ok (.aload_n 1, 1) := by decide +kernel
theorem dL_law_1016 : decode cL_law 1016 = .ok (.aload_n 0, 1) := by decide +kernel
theorem dL_law_1017 : decode cL_law 1017 = .ok (.iload 4, 2) := by decide +kernel
theorem dL_law_1019 : decode cL_law 1019 = .ok (.iconst 1, 1) := by decide +kernel
theorem dL_law_1020 : decode cL_law 1020 = .ok (.iadd, 1) := by decide +kernel
theorem dL_law_1021 : decode cL_law 1021 = .ok (.iaload, 1) := by decide +kernel
theorem dL_law_1022 : decode cL_law 1022 = .ok (.aload_n 0, 1) := by decide +kernel
theorem dL_law_1023 : decode cL_law 1023 = .ok (.iload 4, 2) := by decide +kernel
theorem dL_law_1025 : decode cL_law 1025 = .ok (.iconst 2, 1) := by decide +kernel
theorem dL_law_1026 : decode cL_law 1026 = .ok (.iadd, 1) := by decide +kernel
theorem dL_law_1027 : decode cL_law 1027 = .ok (.iaload, 1) := by decide +kernel
theorem dL_law_1028 : decode cL_law 1028 = .ok (.aload_n 3, 1) := by decide +kernel
theorem dL_law_1029 : decode cL_law 1029 = .ok (.invokestatic 196, 3) := by decide +kernel
theorem dL_law_1032 : decode cL_law 1032 = .ok (.istore 5, 2) := by decide +kernel
theorem dL_law_1034 : decode cL_law 1034 = .ok (.aload_n 2, 1) := by decide +kernel
theorem dL_law_1035 : decode cL_law 1035 = .ok (.aload_n 0, 1) := by decide +kernel
theorem dL_law_1036 : decode cL_law 1036 = .ok (.iload 4, 2) := by decide +kernel
theorem dL_law_1038 : decode cL_law 1038 = .ok (.iconst 1, 1) := by decide +kernel
theorem dL_law_1039 : decode cL_law 1039 = .ok (.iadd, 1) := by decide +kernel
theorem dL_law_1040 : decode cL_law 1040 = .ok (.iaload, 1) := by decide +kernel
theorem dL_law_1041 : decode cL_law 1041 = .ok (.aload_n 0, 1) := by decide +kernel
theorem dL_law_1042 : decode cL_law 1042 = .ok (.iload 4, 2) := by decide +kernel
theorem dL_law_1044 : decode cL_law 1044 = .ok (.iconst 2, 1) := by decide +kernel
theorem dL_law_1045 : decode cL_law 1045 = .ok (.iadd, 1) := by decide +kernel
theorem dL_law_1046 : decode cL_law 1046 = .ok (.iaload, 1) := by decide +kernel
theorem dL_law_1047 : decode cL_law 1047 = .ok (.invokevirtual 198, 3) := by decide +kernel
theorem dL_law_1050 : decode cL_law 1050 = .ok (.istore 6, 2) := by decide +kernel
theorem dL_law_1052 : decode cL_law 1052 = .ok (.aload_n 2, 1) := by decide +kernel
theorem dL_law_1053 : decode cL_law 1053 = .ok (.invokevirtual 136, 3) := by decide +kernel
theorem dL_law_1056 : decode cL_law 1056 = .ok (.iload 5, 2) := by decide +kernel
theorem dL_law_1058 : decode cL_law 1058 = .ok (.if_icmp .eq 5, 3) := by decide +kernel
theorem dL_law_1061 : decode cL_law 1061 = .ok (.iconst 0, 1) := by decide +kernel
theorem dL_law_1062 : decode cL_law 1062 = .ok (.ireturn, 1) := by decide +kernel
theorem dL_law_1063 : decode cL_law 1063 = .ok (.iload 5, 2) := by decide +kernel
theorem dL_law_1065 : decode cL_law 1065 = .ok (.ifCond .ne 15, 3) := by decide +kernel
theorem dL_law_1068 : decode cL_law 1068 = .ok (.aload_n 3, 1) := by decide +kernel
theorem dL_law_1069 : decode cL_law 1069 = .ok (.iconst 0, 1) := by decide +kernel
theorem dL_law_1070 : decode cL_law 1070 = .ok (.laload, 1) := by decide +kernel
theorem dL_law_1071 : decode cL_law 1071 = .ok (.iload 6, 2) := by decide +kernel
theorem dL_law_1073 : decode cL_law 1073 = .ok (.i2l, 1) := by decide +kernel
theorem dL_law_1074 : decode cL_law 1074 = .ok (.lcmp, 1) := by decide +kernel
theorem dL_law_1075 : decode cL_law 1075 = .ok (.ifCond .eq 5, 3) := by decide +kernel
theorem dL_law_1078 : decode cL_law 1078 = .ok (.iconst 0, 1) := by decide +kernel
theorem dL_law_1079 : decode cL_law 1079 = .ok (.ireturn, 1) := by decide +kernel
theorem dL_law_1080 : decode cL_law 1080 = .ok (.goto 1878, 3) := by decide +kernel
theorem dL_law_1083 : decode cL_law 1083 = .ok (.aload_n 1, 1) := by decide +kernel
theorem dL_law_1084 : decode cL_law 1084 = .ok (.aload_n 0, 1) := by decide +kernel
theorem dL_law_1085 : decode cL_law 1085 = .ok (.iload 4, 2) := by decide +kernel
theorem dL_law_1087 : decode cL_law 1087 = .ok (.iconst 1, 1) := by decide +kernel
theorem dL_law_1088 : decode cL_law 1088 = .ok (.iadd, 1) := by decide +kernel
theorem dL_law_1089 : decode cL_law 1089 = .ok (.iaload, 1) := by decide +kernel
theorem dL_law_1090 : decode cL_law 1090 = .ok (.aload_n 0, 1) := by decide +kernel
theorem dL_law_1091 : decode cL_law 1091 = .ok (.iload 4, 2) := by decide +kernel
theorem dL_law_1093 : decode cL_law 1093 = .ok (.iconst 2, 1) := by decide +kernel
theorem dL_law_1094 : decode cL_law 1094 = .ok (.iadd, 1) := by decide +kernel
theorem dL_law_1095 : decode cL_law 1095 = .ok (.iaload, 1) := by decide +kernel
theorem dL_law_1096 : decode cL_law 1096 = .ok (.aload_n 0, 1) := by decide +kernel
theorem dL_law_1097 : decode cL_law 1097 = .ok (.iload 4, 2) := by decide +kernel
theorem dL_law_1099 : decode cL_law 1099 = .ok (.iconst 3, 1) := by decide +kernel
theorem dL_law_1100 : decode cL_law 1100 = .ok (.iadd, 1) := by decide +kernel
theorem dL_law_1101 : decode cL_law 1101 = .ok (.iaload, 1) := by decide +kernel
theorem dL_law_1102 : decode cL_law 1102 = .ok (.aload_n 3, 1) := by decide +kernel
theorem dL_law_1103 : decode cL_law 1103 = .ok (.invokestatic 199, 3) := by decide +kernel
theorem dL_law_1106 : decode cL_law 1106 = .ok (.istore 5, 2) := by decide +kernel
theorem dL_law_1108 : decode cL_law 1108 = .ok (.aload_n 2, 1) := by decide +kernel
theorem dL_law_1109 : decode cL_law 1109 = .ok (.aload_n 0, 1) := by decide +kernel
theorem dL_law_1110 : decode cL_law 1110 = .ok (.iload 4, 2) := by decide +kernel
theorem dL_law_1112 : decode cL_law 1112 = .ok (.iconst 1, 1) := by decide +kernel
theorem dL_law_1113 : decode cL_law 1113 = .ok (.iadd, 1) := by decide +kernel
theorem dL_law_1114 : decode cL_law 1114 = .ok (.iaload, 1) := by decide +kernel
theorem dL_law_1115 : decode cL_law 1115 = .ok (.aload_n 0, 1) := by decide +kernel
theorem dL_law_1116 : decode cL_law 1116 = .ok (.iload 4, 2) := by decide +kernel
theorem dL_law_1118 : decode cL_law 1118 = .ok (.iconst 2, 1) := by decide +kernel
theorem dL_law_1119 : decode cL_law 1119 = .ok (.iadd, 1) := by decide +kernel
theorem dL_law_1120 : decode cL_law 1120 = .ok (.iaload, 1) := by decide +kernel
theorem dL_law_1121 : decode cL_law 1121 = .ok (.aload_n 0, 1) := by decide +kernel
theorem dL_law_1122 : decode cL_law 1122 = .ok (.iload 4, 2) := by decide +kernel
theorem dL_law_1124 : decode cL_law 1124 = .ok (.iconst 3, 1) := by decide +kernel
theorem dL_law_1125 : decode cL_law 1125 = .ok (.iadd, 1) := by decide +kernel
theorem dL_law_1126 : decode cL_law 1126 = .ok (.iaload, 1) := by decide +kernel
theorem dL_law_1127 : decode cL_law 1127 = .ok (.invokevirtual 202, 3) := by decide +kernel
theorem dL_law_1130 : decode cL_law 1130 = .ok (.istore 6, 2) := by decide +kernel
theorem dL_law_1132 : decode cL_law 1132 = .ok (.aload_n 2, 1) := by decide +kernel
theorem dL_law_1133 : decode cL_law 1133 = .ok (.invokevirtual 136, 3) := by decide +kernel
theorem dL_law_1136 : decode cL_law 1136 = .ok (.iload 5, 2) := by decide +kernel
theorem dL_law_1138 : decode cL_law 1138 = .ok (.if_icmp .eq 5, 3) := by decide +kernel
theorem dL_law_1141 : decode cL_law 1141 = .ok (.iconst 0, 1) := by decide +kernel
theorem dL_law_1142 : decode cL_law 1142 = .ok (.ireturn, 1) := by decide +kernel
theorem dL_law_1143 : decode cL_law 1143 = .ok (.iload 5, 2) := by decide +kernel
theorem dL_law_1145 : decode cL_law 1145 = .ok (.ifCond .ne 22, 3) := by decide +kernel
theorem dL_law_1148 : decode cL_law 1148 = .ok (.aload_n 3, 1) := by decide +kernel
theorem dL_law_1149 : decode cL_law 1149 = .ok (.iconst 0, 1) := by decide +kernel
theorem dL_law_1150 : decode cL_law 1150 = .ok (.laload, 1) := by decide +kernel
theorem dL_law_1151 : decode cL_law 1151 = .ok (.iload 6, 2) := by decide +kernel
theorem dL_law_1153 : decode cL_law 1153 = .ok (.ifCond .eq 7, 3) := by decide +kernel
theorem dL_law_1156 : decode cL_law 1156 = .ok (.lconst 1, 1) := by decide +kernel
theorem dL_law_1157 : decode cL_law 1157 = .ok (.goto 4, 3) := by decide +kernel
theorem dL_law_1160 : decode cL_law 1160 = .ok (.lconst 0, 1) := by decide +kernel
theorem dL_law_1161 : decode cL_law 1161 = .ok (.lcmp, 1) := by decide +kernel
theorem dL_law_1162 : decode cL_law 1162 = .ok (.ifCond .eq 5, 3) := by decide +kernel
theorem dL_law_1165 : decode cL_law 1165 = .ok (.iconst 0, 1) := by decide +kernel
theorem dL_law_1166 : decode cL_law 1166 = .ok (.ireturn, 1) := by decide +kernel
theorem dL_law_1167 : decode cL_law 1167 = .ok (.goto 1791, 3) := by decide +kernel
theorem dL_law_1170 : decode cL_law 1170 = .ok (.aload_n 1, 1) := by decide +kernel
theorem dL_law_1171 : decode cL_law 1171 = .ok (.aload_n 0, 1) := by decide +kernel
theorem dL_law_1172 : decode cL_law 1172 = .ok (.iload 4, 2) := by decide +kernel
theorem dL_law_1174 : decode cL_law 1174 = .ok (.iconst 1, 1) := by decide +kernel
theorem dL_law_1175 : decode cL_law 1175 = .ok (.iadd, 1) := by decide +kernel
theorem dL_law_1176 : decode cL_law 1176 = .ok (.iaload, 1) := by decide +kernel
theorem dL_law_1177 : decode cL_law 1177 = .ok (.aload_n 0, 1) := by decide +kernel
theorem dL_law_1178 : decode cL_law 1178 = .ok (.iload 4, 2) := by decide +kernel
theorem dL_law_1180 : decode cL_law 1180 = .ok (.iconst 2, 1) := by decide +kernel
theorem dL_law_1181 : decode cL_law 1181 = .ok (.iadd, 1) := by decide +kernel
theorem dL_law_1182 : decode cL_law 1182 = .ok (.iaload, 1) := by decide +kernel
theorem dL_law_1183 : decode cL_law 1183 = .ok (.aload_n 3, 1) := by decide +kernel
theorem dL_law_1184 : decode cL_law 1184 = .ok (.invokestatic 203, 3) := by decide +kernel
theorem dL_law_1187 : decode cL_law 1187 = .ok (.istore 5, 2) := by decide +kernel
theorem dL_law_1189 : decode cL_law 1189 = .ok (.aload_n 2, 1) := by decide +kernel
theorem dL_law_1190 : decode cL_law 1190 = .ok (.aload_n 0, 1) := by decide +kernel
theorem dL_law_1191 : decode cL_law 1191 = .ok (.iload 4, 2) := by decide +kernel
theorem dL_law_1193 : decode cL_law 1193 = .ok (.iconst 1, 1) := by decide +kernel
theorem dL_law_1194 : decode cL_law 1194 = .ok (.iadd, 1) := by decide +kernel
theorem dL_law_1195 : decode cL_law 1195 = .ok (.iaload, 1) := by decide +kernel
theorem dL_law_1196 : decode cL_law 1196 = .ok (.aload_n 0, 1) := by decide +kernel
theorem dL_law_1197 : decode cL_law 1197 = .ok (.iload 4, 2) := by decide +kernel
theorem dL_law_1199 : decode cL_law 1199 = .ok (.iconst 2, 1) := by decide +kernel
theorem dL_law_1200 : decode cL_law 1200 = .ok (.iadd, 1) := by decide +kernel
theorem dL_law_1201 : decode cL_law 1201 = .ok (.iaload, 1) := by decide +kernel
theorem dL_law_1202 : decode cL_law 1202 = .ok (.invokevirtual 205, 3) := by decide +kernel
theorem dL_law_1205 : decode cL_law 1205 = .ok (.istore 6, 2) := by decide +kernel
theorem dL_law_1207 : decode cL_law 1207 = .ok (.aload_n 2, 1) := by decide +kernel
theorem dL_law_1208 : decode cL_law 1208 = .ok (.invokevirtual 136, 3) := by decide +kernel
theorem dL_law_1211 : decode cL_law 1211 = .ok (.iload 5, 2) := by decide +kernel
theorem dL_law_1213 : decode cL_law 1213 = .ok (.if_icmp .eq 5, 3) := by decide +kernel
theorem dL_law_1216 : decode cL_law 1216 = .ok (.iconst 0, 1) := by decide +kernel
theorem dL_law_1217 : decode cL_law 1217 = .ok (.ireturn, 1) := by decide +kernel
theorem dL_law_1218 : decode cL_law 1218 = .ok (.iload 5, 2) := by decide +kernel
theorem dL_law_1220 : decode cL_law 1220 = .ok (.ifCond .ne 15, 3) := by decide +kernel
theorem dL_law_1223 : decode cL_law 1223 = .ok (.aload_n 3, 1) := by decide +kernel
theorem dL_law_1224 : decode cL_law 1224 = .ok (.iconst 0, 1) := by decide +kernel
theorem dL_law_1225 : decode cL_law 1225 = .ok (.laload, 1) := by decide +kernel
theorem dL_law_1226 : decode cL_law 1226 = .ok (.iload 6, 2) := by decide +kernel
theorem dL_law_1228 : decode cL_law 1228 = .ok (.i2l, 1) := by decide +kernel
theorem dL_law_1229 : decode cL_law 1229 = .ok (.lcmp, 1) := by decide +kernel
theorem dL_law_1230 : decode cL_law 1230 = .ok (.ifCond .eq 5, 3) := by decide +kernel
theorem dL_law_1233 : decode cL_law 1233 = .ok (.iconst 0, 1) := by decide +kernel
theorem dL_law_1234 : decode cL_law 1234 = .ok (.ireturn, 1) := by decide +kernel
theorem dL_law_1235 : decode cL_law 1235 = .ok (.goto 1723, 3) := by decide +kernel
theorem dL_law_1238 : decode cL_law 1238 = .ok (.aload_n 1, 1) := by decide +kernel
theorem dL_law_1239 : decode cL_law 1239 = .ok (.aload_n 0, 1) := by decide +kernel
theorem dL_law_1240 : decode cL_law 1240 = .ok (.iload 4, 2) := by decide +kernel
theorem dL_law_1242 : decode cL_law 1242 = .ok (.iconst 1, 1) := by decide +kernel
theorem dL_law_1243 : decode cL_law 1243 = .ok (.iadd, 1) := by decide +kernel
theorem dL_law_1244 : decode cL_law 1244 = .ok (.iaload, 1) := by decide +kernel
theorem dL_law_1245 : decode cL_law 1245 = .ok (.aload_n 0, 1) := by decide +kernel
theorem dL_law_1246 : decode cL_law 1246 = .ok (.iload 4, 2) := by decide +kernel
theorem dL_law_1248 : decode cL_law 1248 = .ok (.iconst 2, 1) := by decide +kernel
theorem dL_law_1249 : decode cL_law 1249 = .ok (.iadd, 1) := by decide +kernel
theorem dL_law_1250 : decode cL_law 1250 = .ok (.iaload, 1) := by decide +kernel
theorem dL_law_1251 : decode cL_law 1251 = .ok (.aload_n 3, 1) := by decide +kernel
theorem dL_law_1252 : decode cL_law 1252 = .ok (.invokestatic 206, 3) := by decide +kernel
theorem dL_law_1255 : decode cL_law 1255 = .ok (.istore 5, 2) := by decide +kernel
theorem dL_law_1257 : decode cL_law 1257 = .ok (.aload_n 2, 1) := by decide +kernel
theorem dL_law_1258 : decode cL_law 1258 = .ok (.aload_n 0, 1) := by decide +kernel
theorem dL_law_1259 : decode cL_law 1259 = .ok (.iload 4, 2) := by decide +kernel
theorem dL_law_1261 : decode cL_law 1261 = .ok (.iconst 1, 1) := by decide +kernel
theorem dL_law_1262 : decode cL_law 1262 = .ok (.iadd, 1) := by decide +kernel
theorem dL_law_1263 : decode cL_law 1263 = .ok (.iaload, 1) := by decide +kernel
theorem dL_law_1264 : decode cL_law 1264 = .ok (.aload_n 0, 1) := by decide +kernel
theorem dL_law_1265 : decode cL_law 1265 = .ok (.iload 4, 2) := by decide +kernel
theorem dL_law_1267 : decode cL_law 1267 = .ok (.iconst 2, 1) := by decide +kernel
theorem dL_law_1268 : decode cL_law 1268 = .ok (.iadd, 1) := by decide +kernel
theorem dL_law_1269 : decode cL_law 1269 = .ok (.iaload, 1) := by decide +kernel
theorem dL_law_1270 : decode cL_law 1270 = .ok (.invokevirtual 208, 3) := by decide +kernel
theorem dL_law_1273 : decode cL_law 1273 = .ok (.istore 6, 2) := by decide +kernel
theorem dL_law_1275 : decode cL_law 1275 = .ok (.aload_n 2, 1) := by decide +kernel
theorem dL_law_1276 : decode cL_law 1276 = .ok (.invokevirtual 136, 3) := by decide +kernel
theorem dL_law_1279 : decode cL_law 1279 = .ok (.iload 5, 2) := by decide +kernel
theorem dL_law_1281 : decode cL_law 1281 = .ok (.if_icmp .eq 5, 3) := by decide +kernel
theorem dL_law_1284 : decode cL_law 1284 = .ok (.iconst 0, 1) := by decide +kernel
theorem dL_law_1285 : decode cL_law 1285 = .ok (.ireturn, 1) := by decide +kernel
theorem dL_law_1286 : decode cL_law 1286 = .ok (.iload 5, 2) := by decide +kernel
theorem dL_law_1288 : decode cL_law 1288 = .ok (.ifCond .ne 15, 3) := by decide +kernel
theorem dL_law_1291 : decode cL_law 1291 = .ok (.aload_n 3, 1) := by decide +kernel
theorem dL_law_1292 : decode cL_law 1292 = .ok (.iconst 0, 1) := by decide +kernel
theorem dL_law_1293 : decode cL_law 1293 = .ok (.laload, 1) := by decide +kernel
theorem dL_law_1294 : decode cL_law 1294 = .ok (.iload 6, 2) := by decide +kernel
theorem dL_law_1296 : decode cL_law 1296 = .ok (.i2l, 1) := by decide +kernel
theorem dL_law_1297 : decode cL_law 1297 = .ok (.lcmp, 1) := by decide +kernel
theorem dL_law_1298 : decode cL_law 1298 = .ok (.ifCond .eq 5, 3) := by decide +kernel
theorem dL_law_1301 : decode cL_law 1301 = .ok (.iconst 0, 1) := by decide +kernel
theorem dL_law_1302 : decode cL_law 1302 = .ok (.ireturn, 1) := by decide +kernel
theorem dL_law_1303 : decode cL_law 1303 = .ok (.goto 1655, 3) := by decide +kernel
theorem dL_law_1306 : decode cL_law 1306 = .ok (.aload_n 1, 1) := by decide +kernel
theorem dL_law_1307 : decode cL_law 1307 = .ok (.invokevirtual 209, 3) := by decide +kernel
theorem dL_law_1310 : decode cL_law 1310 = .ok (.aload_n 2, 1) := by decide +kernel
theorem dL_law_1311 : decode cL_law 1311 = .ok (.invokevirtual 212, 3) := by decide +kernel
theorem dL_law_1314 : decode cL_law 1314 = .ok (.if_icmp .eq 1644, 3) := by decide +kernel
theorem dL_law_1317 : decode cL_law 1317 = .ok (.iconst 0, 1) := by decide +kernel
theorem dL_law_1318 : decode cL_law 1318 = .ok (.ireturn, 1) := by decide +kernel
theorem dL_law_1319 : decode cL_law 1319 = .ok (.aload_n 1, 1) := by decide +kernel
theorem dL_law_1320 : decode cL_law 1320 = .ok (.invokevirtual 213, 3) := by decide +kernel
theorem dL_law_1323 : decode cL_law 1323 = .ok (.aload_n 2, 1) := by decide +kernel
theorem dL_law_1324 : decode cL_law 1324 = .ok (.invokevirtual 216, 3) := by decide +kernel
theorem dL_law_1327 : decode cL_law 1327 = .ok (.if_icmp .eq 1631, 3) := by decide +kernel
theorem dL_law_1330 : decode cL_law 1330 = .ok (.iconst 0, 1) := by decide +kernel
theorem dL_law_1331 : decode cL_law 1331 = .ok (.ireturn, 1) := by decide +kernel
theorem dL_law_1332 : decode cL_law 1332 = .ok (.aload_n 1, 1) := by decide +kernel
theorem dL_law_1333 : decode cL_law 1333 = .ok (.aload_n 0, 1) := by decide +kernel
theorem dL_law_1334 : decode cL_law 1334 = .ok (.iload 4, 2) := by decide +kernel
theorem dL_law_1336 : decode cL_law 1336 = .ok (.iconst 1, 1) := by decide +kernel
theorem dL_law_1337 : decode cL_law 1337 = .ok (.iadd, 1) := by decide +kernel
theorem dL_law_1338 : decode cL_law 1338 = .ok (.iaload, 1) := by decide +kernel
theorem dL_law_1339 : decode cL_law 1339 = .ok (.aload_n 0, 1) := by decide +kernel
theorem dL_law_1340 : decode cL_law 1340 = .ok (.iload 4, 2) := by decide +kernel
theorem dL_law_1342 : decode cL_law 1342 = .ok (.iconst 2, 1) := by decide +kernel
theorem dL_law_1343 : decode cL_law 1343 = .ok (.iadd, 1) := by decide +kernel
theorem dL_law_1344 : decode cL_law 1344 = .ok (.iaload, 1) := by decide +kernel
theorem dL_law_1345 : decode cL_law 1345 = .ok (.aload_n 3, 1) := by decide +kernel
theorem dL_law_1346 : decode cL_law 1346 = .ok (.invokestatic 217, 3) := by decide +kernel
theorem dL_law_1349 : decode cL_law 1349 = .ok (.istore 5, 2) := by decide +kernel
theorem dL_law_1351 : decode cL_law 1351 = .ok (.aload_n 2, 1) := by decide +kernel
theorem dL_law_1352 : decode cL_law 1352 = .ok (.aload_n 0, 1) := by decide +kernel
theorem dL_law_1353 : decode cL_law 1353 = .ok (.iload 4, 2) := by decide +kernel
theorem dL_law_1355 : decode cL_law 1355 = .ok (.iconst 1, 1) := by decide +kernel
theorem dL_law_1356 : decode cL_law 1356 = .ok (.iadd, 1) := by decide +kernel
theorem dL_law_1357 : decode cL_law 1357 = .ok (.iaload, 1) := by decide +kernel
theorem dL_law_1358 : decode cL_law 1358 = .ok (.aload_n 0, 1) := by decide +kernel
theorem dL_law_1359 : decode cL_law 1359 = .ok (.iload 4, 2) := by decide +kernel
theorem dL_law_1361 : decode cL_law 1361 = .ok (.iconst 2, 1) := by decide +kernel
theorem dL_law_1362 : decode cL_law 1362 = .ok (.iadd, 1) := by decide +kernel
theorem dL_law_1363 : decode cL_law 1363 = .ok (.iaload, 1) := by decide +kernel
theorem dL_law_1364 : decode cL_law 1364 = .ok (.invokevirtual 219, 3) := by decide +kernel
theorem dL_law_1367 : decode cL_law 1367 = .ok (.istore 6, 2) := by decide +kernel
theorem dL_law_1369 : decode cL_law 1369 = .ok (.aload_n 2, 1) := by decide +kernel
theorem dL_law_1370 : decode cL_law 1370 = .ok (.invokevirtual 136, 3) := by decide +kernel
theorem dL_law_1373 : decode cL_law 1373 = .ok (.iload 5, 2) := by decide +kernel
theorem dL_law_1375 : decode cL_law 1375 = .ok (.if_icmp .eq 5, 3) := by decide +kernel
theorem dL_law_1378 : decode cL_law 1378 = .ok (.iconst 0, 1) := by decide +kernel
theorem dL_law_1379 : decode cL_law 1379 = .ok (.ireturn, 1) := by decide +kernel
theorem dL_law_1380 : decode cL_law 1380 = .ok (.iload 5, 2) := by decide +kernel
theorem dL_law_1382 : decode cL_law 1382 = .ok (.ifCond .ne 22, 3) := by decide +kernel
theorem dL_law_1385 : decode cL_law 1385 = .ok (.aload_n 3, 1) := by decide +kernel
theorem dL_law_1386 : decode cL_law 1386 = .ok (.iconst 0, 1) := by decide +kernel
theorem dL_law_1387 : decode cL_law 1387 = .ok (.laload, 1) := by decide +kernel
theorem dL_law_1388 : decode cL_law 1388 = .ok (.iload 6, 2) := by decide +kernel
theorem dL_law_1390 : decode cL_law 1390 = .ok (.ifCond .eq 7, 3) := by decide +kernel
theorem dL_law_1393 : decode cL_law 1393 = .ok (.lconst 1, 1) := by decide +kernel
theorem dL_law_1394 : decode cL_law 1394 = .ok (.goto 4, 3) := by decide +kernel
theorem dL_law_1397 : decode cL_law 1397 = .ok (.lconst 0, 1) := by decide +kernel
theorem dL_law_1398 : decode cL_law 1398 = .ok (.lcmp, 1) := by decide +kernel
theorem dL_law_1399 : decode cL_law 1399 = .ok (.ifCond .eq 5, 3) := by decide +kernel
theorem dL_law_1402 : decode cL_law 1402 = .ok (.iconst 0, 1) := by decide +kernel
theorem dL_law_1403 : decode cL_law 1403 = .ok (.ireturn, 1) := by decide +kernel
theorem dL_law_1404 : decode cL_law 1404 = .ok (.goto 1554, 3) := by decide +kernel
theorem dL_law_1407 : decode cL_law 1407 = .ok (.aload_n 1, 1) := by decide +kernel
theorem dL_law_1408 : decode cL_law 1408 = .ok (.aload_n 0, 1) := by decide +kernel
theorem dL_law_1409 : decode cL_law 1409 = .ok (.iload 4, 2) := by decide +kernel
theorem dL_law_1411 : decode cL_law 1411 = .ok (.iconst 1, 1) := by decide +kernel
theorem dL_law_1412 : decode cL_law 1412 = .ok (.iadd, 1) := by decide +kernel
theorem dL_law_1413 : decode cL_law 1413 = .ok (.iaload, 1) := by decide +kernel
theorem dL_law_1414 : decode cL_law 1414 = .ok (.aload_n 0, 1) := by decide +kernel
theorem dL_law_1415 : decode cL_law 1415 = .ok (.iload 4, 2) := by decide +kernel
theorem dL_law_1417 : decode cL_law 1417 = .ok (.iconst 2, 1) := by decide +kernel
theorem dL_law_1418 : decode cL_law 1418 = .ok (.iadd, 1) := by decide +kernel
theorem dL_law_1419 : decode cL_law 1419 = .ok (.iaload, 1) := by decide +kernel
theorem dL_law_1420 : decode cL_law 1420 = .ok (.aload_n 3, 1) := by decide +kernel
theorem dL_law_1421 : decode cL_law 1421 = .ok (.invokestatic 220, 3) := by decide +kernel
theorem dL_law_1424 : decode cL_law 1424 = .ok (.istore 5, 2) := by decide +kernel
theorem dL_law_1426 : decode cL_law 1426 = .ok (.aload_n 2, 1) := by decide +kernel
theorem dL_law_1427 : decode cL_law 1427 = .ok (.aload_n 0, 1) := by decide +kernel
theorem dL_law_1428 : decode cL_law 1428 = .ok (.iload 4, 2) := by decide +kernel
theorem dL_law_1430 : decode cL_law 1430 = .ok (.iconst 1, 1) := by decide +kernel
theorem dL_law_1431 : decode cL_law 1431 = .ok (.iadd, 1) := by decide +kernel
theorem dL_law_1432 : decode cL_law 1432 = .ok (.iaload, 1) := by decide +kernel
theorem dL_law_1433 : decode cL_law 1433 = .ok (.aload_n 0, 1) := by decide +kernel
theorem dL_law_1434 : decode cL_law 1434 = .ok (.iload 4, 2) := by decide +kernel
theorem dL_law_1436 : decode cL_law 1436 = .ok (.iconst 2, 1) := by decide +kernel
theorem dL_law_1437 : decode cL_law 1437 = .ok (.iadd, 1) := by decide +kernel
theorem dL_law_1438 : decode cL_law 1438 = .ok (.iaload, 1) := by decide +kernel
theorem dL_law_1439 : decode cL_law 1439 = .ok (.invokevirtual 222, 3) := by decide +kernel
theorem dL_law_1442 : decode cL_law 1442 = .ok (.istore 6, 2) := by decide +kernel
theorem dL_law_1444 : decode cL_law 1444 = .ok (.aload_n 2, 1) := by decide +kernel
theorem dL_law_1445 : decode cL_law 1445 = .ok (.invokevirtual 136, 3) := by decide +kernel
theorem dL_law_1448 : decode cL_law 1448 = .ok (.iload 5, 2) := by decide +kernel
theorem dL_law_1450 : decode cL_law 1450 = .ok (.if_icmp .eq 5, 3) := by decide +kernel
theorem dL_law_1453 : decode cL_law 1453 = .ok (.iconst 0, 1) := by decide +kernel
theorem dL_law_1454 : decode cL_law 1454 = .ok (.ireturn, 1) := by decide +kernel
theorem dL_law_1455 : decode cL_law 1455 = .ok (.iload 5, 2) := by decide +kernel
theorem dL_law_1457 : decode cL_law 1457 = .ok (.ifCond .ne 22, 3) := by decide +kernel
theorem dL_law_1460 : decode cL_law 1460 = .ok (.aload_n 3, 1) := by decide +kernel
theorem dL_law_1461 : decode cL_law 1461 = .ok (.iconst 0, 1) := by decide +kernel
theorem dL_law_1462 : decode cL_law 1462 = .ok (.laload, 1) := by decide +kernel
theorem dL_law_1463 : decode cL_law 1463 = .ok (.iload 6, 2) := by decide +kernel
theorem dL_law_1465 : decode cL_law 1465 = .ok (.ifCond .eq 7, 3) := by decide +kernel
theorem dL_law_1468 : decode cL_law 1468 = .ok (.lconst 1, 1) := by decide +kernel
theorem dL_law_1469 : decode cL_law 1469 = .ok (.goto 4, 3) := by decide +kernel
theorem dL_law_1472 : decode cL_law 1472 = .ok (.lconst 0, 1) := by decide +kernel
theorem dL_law_1473 : decode cL_law 1473 = .ok (.lcmp, 1) := by decide +kernel
theorem dL_law_1474 : decode cL_law 1474 = .ok (.ifCond .eq 5, 3) := by decide +kernel
theorem dL_law_1477 : decode cL_law 1477 = .ok (.iconst 0, 1) := by decide +kernel
theorem dL_law_1478 : decode cL_law 1478 = .ok (.ireturn, 1) := by decide +kernel
theorem dL_law_1479 : decode cL_law 1479 = .ok (.goto 1479, 3) := by decide +kernel
theorem dL_law_1482 : decode cL_law 1482 = .ok (.aload_n 1, 1) := by decide +kernel
theorem dL_law_1483 : decode cL_law 1483 = .ok (.invokevirtual 223, 3) := by decide +kernel
theorem dL_law_1486 : decode cL_law 1486 = .ok (.aload_n 2, 1) := by decide +kernel
theorem dL_law_1487 : decode cL_law 1487 = .ok (.invokevirtual 226, 3) := by decide +kernel
theorem dL_law_1490 : decode cL_law 1490 = .ok (.if_icmp .eq 1468, 3) := by decide +kernel
theorem dL_law_1493 : decode cL_law 1493 = .ok (.iconst 0, 1) := by decide +kernel
theorem dL_law_1494 : decode cL_law 1494 = .ok (.ireturn, 1) := by decide +kernel
theorem dL_law_1495 : decode cL_law 1495 = .ok (.aload_n 1, 1) := by decide +kernel
theorem dL_law_1496 : decode cL_law 1496 = .ok (.aload_n 0, 1) := by decide +kernel
theorem dL_law_1497 : decode cL_law 1497 = .ok (.iload 4, 2) := by decide +kernel
theorem dL_law_1499 : decode cL_law 1499 = .ok (.iconst 1, 1) := by decide +kernel
theorem dL_law_1500 : decode cL_law 1500 = .ok (.iadd, 1) := by decide +kernel
theorem dL_law_1501 : decode cL_law 1501 = .ok (.iaload, 1) := by decide +kernel
theorem dL_law_1502 : decode cL_law 1502 = .ok (.aload_n 3, 1) := by decide +kernel
theorem dL_law_1503 : decode cL_law 1503 = .ok (.invokestatic 227, 3) := by decide +kernel
theorem dL_law_1506 : decode cL_law 1506 = .ok (.istore 5, 2) := by decide +kernel
theorem dL_law_1508 : decode cL_law 1508 = .ok (.aload_n 2, 1) := by decide +kernel
theorem dL_law_1509 : decode cL_law 1509 = .ok (.aload_n 0, 1) := by decide +kernel
theorem dL_law_1510 : decode cL_law 1510 = .ok (.iload 4, 2) := by decide +kernel
theorem dL_law_1512 : decode cL_law 1512 = .ok (.iconst 1, 1) := by decide +kernel
theorem dL_law_1513 : decode cL_law 1513 = .ok (.iadd, 1) := by decide +kernel
theorem dL_law_1514 : decode cL_law 1514 = .ok (.iaload, 1) := by decide +kernel
theorem dL_law_1515 : decode cL_law 1515 = .ok (.invokevirtual 229, 3) := by decide +kernel
theorem dL_law_1518 : decode cL_law 1518 = .ok (.istore 6, 2) := by decide +kernel
theorem dL_law_1520 : decode cL_law 1520 = .ok (.aload_n 2, 1) := by decide +kernel
theorem dL_law_1521 : decode cL_law 1521 = .ok (.invokevirtual 136, 3) := by decide +kernel
theorem dL_law_1524 : decode cL_law 1524 = .ok (.iload 5, 2) := by decide +kernel
theorem dL_law_1526 : decode cL_law 1526 = .ok (.if_icmp .eq 5, 3) := by decide +kernel
theorem dL_law_1529 : decode cL_law 1529 = .ok (.iconst 0, 1) := by decide +kernel
theorem dL_law_1530 : decode cL_law 1530 = .ok (.ireturn, 1) := by decide +kernel
theorem dL_law_1531 : decode cL_law 1531 = .ok (.iload 5, 2) := by decide +kernel
theorem dL_law_1533 : decode cL_law 1533 = .ok (.ifCond .ne 15, 3) := by decide +kernel
theorem dL_law_1536 : decode cL_law 1536 = .ok (.aload_n 3, 1) := by decide +kernel
theorem dL_law_1537 : decode cL_law 1537 = .ok (.iconst 0, 1) := by decide +kernel
theorem dL_law_1538 : decode cL_law 1538 = .ok (.laload, 1) := by decide +kernel
theorem dL_law_1539 : decode cL_law 1539 = .ok (.iload 6, 2) := by decide +kernel
theorem dL_law_1541 : decode cL_law 1541 = .ok (.i2l, 1) := by decide +kernel
theorem dL_law_1542 : decode cL_law 1542 = .ok (.lcmp, 1) := by decide +kernel
theorem dL_law_1543 : decode cL_law 1543 = .ok (.ifCond .eq 5, 3) := by decide +kernel
theorem dL_law_1546 : decode cL_law 1546 = .ok (.iconst 0, 1) := by decide +kernel
theorem dL_law_1547 : decode cL_law 1547 = .ok (.ireturn, 1) := by decide +kernel
theorem dL_law_1548 : decode cL_law 1548 = .ok (.goto 1410, 3) := by decide +kernel
theorem dL_law_1551 : decode cL_law 1551 = .ok (.aload_n 1, 1) := by decide +kernel
theorem dL_law_1552 : decode cL_law 1552 = .ok (.aload_n 0, 1) := by decide +kernel
theorem dL_law_1553 : decode cL_law 1553 = .ok (.iload 4, 2) := by decide +kernel
theorem dL_law_1555 : decode cL_law 1555 = .ok (.iconst 1, 1) := by decide +kernel
theorem dL_law_1556 : decode cL_law 1556 = .ok (.iadd, 1) := by decide +kernel
theorem dL_law_1557 : decode cL_law 1557 = .ok (.iaload, 1) := by decide +kernel
theorem dL_law_1558 : decode cL_law 1558 = .ok (.aload_n 3, 1) := by decide +kernel
theorem dL_law_1559 : decode cL_law 1559 = .ok (.invokestatic 230, 3) := by decide +kernel
theorem dL_law_1562 : decode cL_law 1562 = .ok (.istore 5, 2) := by decide +kernel
theorem dL_law_1564 : decode cL_law 1564 = .ok (.aload_n 2, 1) := by decide +kernel
theorem dL_law_1565 : decode cL_law 1565 = .ok (.aload_n 0, 1) := by decide +kernel
theorem dL_law_1566 : decode cL_law 1566 = .ok (.iload 4, 2) := by decide +kernel
theorem dL_law_1568 : decode cL_law 1568 = .ok (.iconst 1, 1) := by decide +kernel
theorem dL_law_1569 : decode cL_law 1569 = .ok (.iadd, 1) := by decide +kernel
theorem dL_law_1570 : decode cL_law 1570 = .ok (.iaload, 1) := by decide +kernel
theorem dL_law_1571 : decode cL_law 1571 = .ok (.invokevirtual 232, 3) := by decide +kernel
theorem dL_law_1574 : decode cL_law 1574 = .ok (.istore 6, 2) := by decide +kernel
theorem dL_law_1576 : decode cL_law 1576 = .ok (.aload_n 2, 1) := by decide +kernel
theorem dL_law_1577 : decode cL_law 1577 = .ok (.invokevirtual 136, 3) := by decide +kernel
theorem dL_law_1580 : decode cL_law 1580 = .ok (.iload 5, 2) := by decide +kernel
theorem dL_law_1582 : decode cL_law 1582 = .ok (.if_icmp .eq 5, 3) := by decide +kernel
theorem dL_law_1585 : decode cL_law 1585 = .ok (.iconst 0, 1) := by decide +kernel
theorem dL_law_1586 : decode cL_law 1586 = .ok (.ireturn, 1) := by decide +kernel
theorem dL_law_1587 : decode cL_law 1587 = .ok (.iload 5, 2) := by decide +kernel
theorem dL_law_1589 : decode cL_law 1589 = .ok (.ifCond .ne 15, 3) := by decide +kernel
theorem dL_law_1592 : decode cL_law 1592 = .ok (.aload_n 3, 1) := by decide +kernel
theorem dL_law_1593 : decode cL_law 1593 = .ok (.iconst 0, 1) := by decide +kernel
theorem dL_law_1594 : decode cL_law 1594 = .ok (.laload, 1) := by decide +kernel
theorem dL_law_1595 : decode cL_law 1595 = .ok (.iload 6, 2) := by decide +kernel
theorem dL_law_1597 : decode cL_law 1597 = .ok (.i2l, 1) := by decide +kernel
theorem dL_law_1598 : decode cL_law 1598 = .ok (.lcmp, 1) := by decide +kernel
theorem dL_law_1599 : decode cL_law 1599 = .ok (.ifCond .eq 5, 3) := by decide +kernel
theorem dL_law_1602 : decode cL_law 1602 = .ok (.iconst 0, 1) := by decide +kernel
theorem dL_law_1603 : decode cL_law 1603 = .ok (.ireturn, 1) := by decide +kernel
theorem dL_law_1604 : decode cL_law 1604 = .ok (.goto 1354, 3) := by decide +kernel
theorem dL_law_1607 : decode cL_law 1607 = .ok (.aload_n 1, 1) := by decide +kernel
theorem dL_law_1608 : decode cL_law 1608 = .ok (.invokevirtual 233, 3) := by decide +kernel
theorem dL_law_1611 : decode cL_law 1611 = .ok (.aload_n 2, 1) := by decide +kernel
theorem dL_law_1612 : decode cL_law 1612 = .ok (.invokevirtual 237, 3) := by decide +kernel
theorem dL_law_1615 : decode cL_law 1615 = .ok (.if_icmp .eq 1343, 3) := by decide +kernel
theorem dL_law_1618 : decode cL_law 1618 = .ok (.iconst 0, 1) := by decide +kernel
theorem dL_law_1619 : decode cL_law 1619 = .ok (.ireturn, 1) := by decide +kernel
theorem dL_law_1620 : decode cL_law 1620 = .ok (.aload_n 1, 1) := by decide +kernel
theorem dL_law_1621 : decode cL_law 1621 = .ok (.aload_n 0, 1) := by decide +kernel
theorem dL_law_1622 : decode cL_law 1622 = .ok (.iload 4, 2) := by decide +kernel
theorem dL_law_1624 : decode cL_law 1624 = .ok (.iconst 1, 1) := by decide +kernel
theorem dL_law_1625 : decode cL_law 1625 = .ok (.iadd, 1) := by decide +kernel
theorem dL_law_1626 : decode cL_law 1626 = .ok (.iaload, 1) := by decide +kernel
theorem dL_law_1627 : decode cL_law 1627 = .ok (.aload_n 0, 1) := by decide +kernel
theorem dL_law_1628 : decode cL_law 1628 = .ok (.iload 4, 2) := by decide +kernel
theorem dL_law_1630 : decode cL_law 1630 = .ok (.iconst 2, 1) := by decide +kernel
theorem dL_law_1631 : decode cL_law 1631 = .ok (.iadd, 1) := by decide +kernel
theorem dL_law_1632 : decode cL_law 1632 = .ok (.iaload, 1) := by decide +kernel
theorem dL_law_1633 : decode cL_law 1633 = .ok (.aload_n 3, 1) := by decide +kernel
theorem dL_law_1634 : decode cL_law 1634 = .ok (.invokestatic 238, 3) := by decide +kernel
theorem dL_law_1637 : decode cL_law 1637 = .ok (.istore 5, 2) := by decide +kernel
theorem dL_law_1639 : decode cL_law 1639 = .ok (.aload_n 2, 1) := by decide +kernel
theorem dL_law_1640 : decode cL_law 1640 = .ok (.aload_n 0, 1) := by decide +kernel
theorem dL_law_1641 : decode cL_law 1641 = .ok (.iload 4, 2) := by decide +kernel
theorem dL_law_1643 : decode cL_law 1643 = .ok (.iconst 1, 1) := by decide +kernel
theorem dL_law_1644 : decode cL_law 1644 = .ok (.iadd, 1) := by decide +kernel
theorem dL_law_1645 : decode cL_law 1645 = .ok (.iaload, 1) := by decide +kernel
theorem dL_law_1646 : decode cL_law 1646 = .ok (.aload_n 0, 1) := by decide +kernel
theorem dL_law_1647 : decode cL_law 1647 = .ok (.iload 4, 2) := by decide +kernel
theorem dL_law_1649 : decode cL_law 1649 = .ok (.iconst 2, 1) := by decide +kernel
theorem dL_law_1650 : decode cL_law 1650 = .ok (.iadd, 1) := by decide +kernel
theorem dL_law_1651 : decode cL_law 1651 = .ok (.iaload, 1) := by decide +kernel
theorem dL_law_1652 : decode cL_law 1652 = .ok (.invokevirtual 240, 3) := by decide +kernel
theorem dL_law_1655 : decode cL_law 1655 = .ok (.istore 6, 2) := by decide +kernel
theorem dL_law_1657 : decode cL_law 1657 = .ok (.aload_n 2, 1) := by decide +kernel
theorem dL_law_1658 : decode cL_law 1658 = .ok (.invokevirtual 136, 3) := by decide +kernel
theorem dL_law_1661 : decode cL_law 1661 = .ok (.iload 5, 2) := by decide +kernel
theorem dL_law_1663 : decode cL_law 1663 = .ok (.if_icmp .eq 5, 3) := by decide +kernel
theorem dL_law_1666 : decode cL_law 1666 = .ok (.iconst 0, 1) := by decide +kernel
theorem dL_law_1667 : decode cL_law 1667 = .ok (.ireturn, 1) := by decide +kernel
theorem dL_law_1668 : decode cL_law 1668 = .ok (.iload 5, 2) := by decide +kernel
theorem dL_law_1670 : decode cL_law 1670 = .ok (.ifCond .ne 15, 3) := by decide +kernel
theorem dL_law_1673 : decode cL_law 1673 = .ok (.aload_n 3, 1) := by decide +kernel
theorem dL_law_1674 : decode cL_law 1674 = .ok (.iconst 0, 1) := by decide +kernel
theorem dL_law_1675 : decode cL_law 1675 = .ok (.laload, 1) := by decide +kernel
theorem dL_law_1676 : decode cL_law 1676 = .ok (.iload 6, 2) := by decide +kernel
theorem dL_law_1678 : decode cL_law 1678 = .ok (.i2l, 1) := by decide +kernel
theorem dL_law_1679 : decode cL_law 1679 = .ok (.lcmp, 1) := by decide +kernel
theorem dL_law_1680 : decode cL_law 1680 = .ok (.ifCond .eq 5, 3) := by decide +kernel
theorem dL_law_1683 : decode cL_law 1683 = .ok (.iconst 0, 1) := by decide +kernel
theorem dL_law_1684 : decode cL_law 1684 = .ok (.ireturn, 1) := by decide +kernel
theorem dL_law_1685 : decode cL_law 1685 = .ok (.goto 1273, 3) := by decide +kernel
theorem dL_law_1688 : decode cL_law 1688 = .ok (.aload_n 1, 1) := by decide +kernel
theorem dL_law_1689 : decode cL_law 1689 = .ok (.aload_n 0, 1) := by decide +kernel
theorem dL_law_1690 : decode cL_law 1690 = .ok (.iload 4, 2) := by decide +kernel
theorem dL_law_1692 : decode cL_law 1692 = .ok (.iconst 1, 1) := by decide +kernel
theorem dL_law_1693 : decode cL_law 1693 = .ok (.iadd, 1) := by decide +kernel
theorem dL_law_1694 : decode cL_law 1694 = .ok (.iaload, 1) := by decide +kernel
theorem dL_law_1695 : decode cL_law 1695 = .ok (.aload_n 3, 1) := by decide +kernel
theorem dL_law_1696 : decode cL_law 1696 = .ok (.invokestatic 241, 3) := by decide +kernel
theorem dL_law_1699 : decode cL_law 1699 = .ok (.istore 5, 2) := by decide +kernel
theorem dL_law_1701 : decode cL_law 1701 = .ok (.aload_n 2, 1) := by decide +kernel
theorem dL_law_1702 : decode cL_law 1702 = .ok (.aload_n 0, 1) := by decide +kernel
theorem dL_law_1703 : decode cL_law 1703 = .ok (.iload 4, 2) := by decide +kernel
theorem dL_law_1705 : decode cL_law 1705 = .ok (.iconst 1, 1) := by decide +kernel
theorem dL_law_1706 : decode cL_law 1706 = .ok (.iadd, 1) := by decide +kernel
theorem dL_law_1707 : decode cL_law 1707 = .ok (.iaload, 1) := by decide +kernel
theorem dL_law_1708 : decode cL_law 1708 = .ok (.invokevirtual 243, 3) := by decide +kernel
theorem dL_law_1711 : decode cL_law 1711 = .ok (.istore 6, 2) := by decide +kernel
theorem dL_law_1713 : decode cL_law 1713 = .ok (.aload_n 2, 1) := by decide +kernel
theorem dL_law_1714 : decode cL_law 1714 = .ok (.invokevirtual 136, 3) := by decide +kernel
theorem dL_law_1717 : decode cL_law 1717 = .ok (.iload 5, 2) := by decide +kernel
theorem dL_law_1719 : decode cL_law 1719 = .ok (.if_icmp .eq 5, 3) := by decide +kernel
theorem dL_law_1722 : decode cL_law 1722 = .ok (.iconst 0, 1) := by decide +kernel
theorem dL_law_1723 : decode cL_law 1723 = .ok (.ireturn, 1) := by decide +kernel
theorem dL_law_1724 : decode cL_law 1724 = .ok (.iload 5, 2) := by decide +kernel
theorem dL_law_1726 : decode cL_law 1726 = .ok (.ifCond .ne 15, 3) := by decide +kernel
theorem dL_law_1729 : decode cL_law 1729 = .ok (.aload_n 3, 1) := by decide +kernel
theorem dL_law_1730 : decode cL_law 1730 = .ok (.iconst 0, 1) := by decide +kernel
theorem dL_law_1731 : decode cL_law 1731 = .ok (.laload, 1) := by decide +kernel
theorem dL_law_1732 : decode cL_law 1732 = .ok (.iload 6, 2) := by decide +kernel
theorem dL_law_1734 : decode cL_law 1734 = .ok (.i2l, 1) := by decide +kernel
theorem dL_law_1735 : decode cL_law 1735 = .ok (.lcmp, 1) := by decide +kernel
theorem dL_law_1736 : decode cL_law 1736 = .ok (.ifCond .eq 5, 3) := by decide +kernel
theorem dL_law_1739 : decode cL_law 1739 = .ok (.iconst 0, 1) := by decide +kernel
theorem dL_law_1740 : decode cL_law 1740 = .ok (.ireturn, 1) := by decide +kernel
theorem dL_law_1741 : decode cL_law 1741 = .ok (.goto 1217, 3) := by decide +kernel
theorem dL_law_1744 : decode cL_law 1744 = .ok (.aload_n 1, 1) := by decide +kernel
theorem dL_law_1745 : decode cL_law 1745 = .ok (.aload_n 0, 1) := by decide +kernel
theorem dL_law_1746 : decode cL_law 1746 = .ok (.iload 4, 2) := by decide +kernel
theorem dL_law_1748 : decode cL_law 1748 = .ok (.iconst 1, 1) := by decide +kernel
theorem dL_law_1749 : decode cL_law 1749 = .ok (.iadd, 1) := by decide +kernel
theorem dL_law_1750 : decode cL_law 1750 = .ok (.iaload, 1) := by decide +kernel
theorem dL_law_1751 : decode cL_law 1751 = .ok (.aload_n 3, 1) := by decide +kernel
theorem dL_law_1752 : decode cL_law 1752 = .ok (.invokestatic 244, 3) := by decide +kernel
theorem dL_law_1755 : decode cL_law 1755 = .ok (.istore 5, 2) := by decide +kernel
theorem dL_law_1757 : decode cL_law 1757 = .ok (.aload_n 2, 1) := by decide +kernel
theorem dL_law_1758 : decode cL_law 1758 = .ok (.aload_n 0, 1) := by decide +kernel
theorem dL_law_1759 : decode cL_law 1759 = .ok (.iload 4, 2) := by decide +kernel
theorem dL_law_1761 : decode cL_law 1761 = .ok (.iconst 1, 1) := by decide +kernel
theorem dL_law_1762 : decode cL_law 1762 = .ok (.iadd, 1) := by decide +kernel
theorem dL_law_1763 : decode cL_law 1763 = .ok (.iaload, 1) := by decide +kernel
theorem dL_law_1764 : decode cL_law 1764 = .ok (.invokevirtual 246, 3) := by decide +kernel
theorem dL_law_1767 : decode cL_law 1767 = .ok (.istore 6, 2) := by decide +kernel
theorem dL_law_1769 : decode cL_law 1769 = .ok (.aload_n 2, 1) := by decide +kernel
theorem dL_law_1770 : decode cL_law 1770 = .ok (.invokevirtual 136, 3) := by decide +kernel
theorem dL_law_1773 : decode cL_law 1773 = .ok (.iload 5, 2) := by decide +kernel
theorem dL_law_1775 : decode cL_law 1775 = .ok (.if_icmp .eq 5, 3) := by decide +kernel
theorem dL_law_1778 : decode cL_law 1778 = .ok (.iconst 0, 1) := by decide +kernel
theorem dL_law_1779 : decode cL_law 1779 = .ok (.ireturn, 1) := by decide +kernel
theorem dL_law_1780 : decode cL_law 1780 = .ok (.iload 5, 2) := by decide +kernel
theorem dL_law_1782 : decode cL_law 1782 = .ok (.ifCond .ne 15, 3) := by decide +kernel
theorem dL_law_1785 : decode cL_law 1785 = .ok (.aload_n 3, 1) := by decide +kernel
theorem dL_law_1786 : decode cL_law 1786 = .ok (.iconst 0, 1) := by decide +kernel
theorem dL_law_1787 : decode cL_law 1787 = .ok (.laload, 1) := by decide +kernel
theorem dL_law_1788 : decode cL_law 1788 = .ok (.iload 6, 2) := by decide +kernel
theorem dL_law_1790 : decode cL_law 1790 = .ok (.i2l, 1) := by decide +kernel
theorem dL_law_1791 : decode cL_law 1791 = .ok (.lcmp, 1) := by decide +kernel
theorem dL_law_1792 : decode cL_law 1792 = .ok (.ifCond .eq 5, 3) := by decide +kernel
theorem dL_law_1795 : decode cL_law 1795 = .ok (.iconst 0, 1) := by decide +kernel
theorem dL_law_1796 : decode cL_law 1796 = .ok (.ireturn, 1) := by decide +kernel
theorem dL_law_1797 : decode cL_law 1797 = .ok (.goto 1161, 3) := by decide +kernel
theorem dL_law_1800 : decode cL_law 1800 = .ok (.aload_n 1, 1) := by decide +kernel
theorem dL_law_1801 : decode cL_law 1801 = .ok (.aload_n 0, 1) := by decide +kernel
theorem dL_law_1802 : decode cL_law 1802 = .ok (.iload 4, 2) := by decide +kernel
theorem dL_law_1804 : decode cL_law 1804 = .ok (.iconst 1, 1) := by decide +kernel
theorem dL_law_1805 : decode cL_law 1805 = .ok (.iadd, 1) := by decide +kernel
theorem dL_law_1806 : decode cL_law 1806 = .ok (.iaload, 1) := by decide +kernel
theorem dL_law_1807 : decode cL_law 1807 = .ok (.aload_n 0, 1) := by decide +kernel
theorem dL_law_1808 : decode cL_law 1808 = .ok (.iload 4, 2) := by decide +kernel
theorem dL_law_1810 : decode cL_law 1810 = .ok (.iconst 2, 1) := by decide +kernel
theorem dL_law_1811 : decode cL_law 1811 = .ok (.iadd, 1) := by decide +kernel
theorem dL_law_1812 : decode cL_law 1812 = .ok (.iaload, 1) := by decide +kernel
theorem dL_law_1813 : decode cL_law 1813 = .ok (.aload_n 3, 1) := by decide +kernel
theorem dL_law_1814 : decode cL_law 1814 = .ok (.invokestatic 247, 3) := by decide +kernel
theorem dL_law_1817 : decode cL_law 1817 = .ok (.istore 5, 2) := by decide +kernel
theorem dL_law_1819 : decode cL_law 1819 = .ok (.aload_n 2, 1) := by decide +kernel
theorem dL_law_1820 : decode cL_law 1820 = .ok (.aload_n 0, 1) := by decide +kernel
theorem dL_law_1821 : decode cL_law 1821 = .ok (.iload 4, 2) := by decide +kernel
theorem dL_law_1823 : decode cL_law 1823 = .ok (.iconst 1, 1) := by decide +kernel
theorem dL_law_1824 : decode cL_law 1824 = .ok (.iadd, 1) := by decide +kernel
theorem dL_law_1825 : decode cL_law 1825 = .ok (.iaload, 1) := by decide +kernel
theorem dL_law_1826 : decode cL_law 1826 = .ok (.aload_n 0, 1) := by decide +kernel
theorem dL_law_1827 : decode cL_law 1827 = .ok (.iload 4, 2) := by decide +kernel
theorem dL_law_1829 : decode cL_law 1829 = .ok (.iconst 2, 1) := by decide +kernel
theorem dL_law_1830 : decode cL_law 1830 = .ok (.iadd, 1) := by decide +kernel
theorem dL_law_1831 : decode cL_law 1831 = .ok (.iaload, 1) := by decide +kernel
theorem dL_law_1832 : decode cL_law 1832 = .ok (.invokevirtual 249, 3) := by decide +kernel
theorem dL_law_1835 : decode cL_law 1835 = .ok (.istore 6, 2) := by decide +kernel
theorem dL_law_1837 : decode cL_law 1837 = .ok (.aload_n 2, 1) := by decide +kernel
theorem dL_law_1838 : decode cL_law 1838 = .ok (.invokevirtual 136, 3) := by decide +kernel
theorem dL_law_1841 : decode cL_law 1841 = .ok (.iload 5, 2) := by decide +kernel
theorem dL_law_1843 : decode cL_law 1843 = .ok (.if_icmp .eq 5, 3) := by decide +kernel
theorem dL_law_1846 : decode cL_law 1846 = .ok (.iconst 0, 1) := by decide +kernel
theorem dL_law_1847 : decode cL_law 1847 = .ok (.ireturn, 1) := by decide +kernel
theorem dL_law_1848 : decode cL_law 1848 = .ok (.iload 5, 2) := by decide +kernel
theorem dL_law_1850 : decode cL_law 1850 = .ok (.ifCond .ne 15, 3) := by decide +kernel
theorem dL_law_1853 : decode cL_law 1853 = .ok (.aload_n 3, 1) := by decide +kernel
theorem dL_law_1854 : decode cL_law 1854 = .ok (.iconst 0, 1) := by decide +kernel
theorem dL_law_1855 : decode cL_law 1855 = .ok (.laload, 1) := by decide +kernel
theorem dL_law_1856 : decode cL_law 1856 = .ok (.iload 6, 2) := by decide +kernel
theorem dL_law_1858 : decode cL_law 1858 = .ok (.i2l, 1) := by decide +kernel
theorem dL_law_1859 : decode cL_law 1859 = .ok (.lcmp, 1) := by decide +kernel
theorem dL_law_1860 : decode cL_law 1860 = .ok (.ifCond .eq 5, 3) := by decide +kernel
theorem dL_law_1863 : decode cL_law 1863 = .ok (.iconst 0, 1) := by decide +kernel
theorem dL_law_1864 : decode cL_law 1864 = .ok (.ireturn, 1) := by decide +kernel
theorem dL_law_1865 : decode cL_law 1865 = .ok (.goto 1093, 3) := by decide +kernel
theorem dL_law_1868 : decode cL_law 1868 = .ok (.aload_n 1, 1) := by decide +kernel
theorem dL_law_1869 : decode cL_law 1869 = .ok (.invokevirtual 250, 3) := by decide +kernel
theorem dL_law_1872 : decode cL_law 1872 = .ok (.aload_n 2, 1) := by decide +kernel
theorem dL_law_1873 : decode cL_law 1873 = .ok (.invokevirtual 253, 3) := by decide +kernel
theorem dL_law_1876 : decode cL_law 1876 = .ok (.if_icmp .eq 1082, 3) := by decide +kernel
theorem dL_law_1879 : decode cL_law 1879 = .ok (.iconst 0, 1) := by decide +kernel
theorem dL_law_1880 : decode cL_law 1880 = .ok (.ireturn, 1) := by decide +kernel
theorem dL_law_1881 : decode cL_law 1881 = .ok (.aload_n 1, 1) := by decide +kernel
theorem dL_law_1882 : decode cL_law 1882 = .ok (.invokevirtual 254, 3) := by decide +kernel
theorem dL_law_1885 : decode cL_law 1885 = .ok (.aload_n 2, 1) := by decide +kernel
theorem dL_law_1886 : decode cL_law 1886 = .ok (.invokevirtual 257, 3) := by decide +kernel
theorem dL_law_1889 : decode cL_law 1889 = .ok (.if_icmp .eq 1069, 3) := by decide +kernel
theorem dL_law_1892 : decode cL_law 1892 = .ok (.iconst 0, 1) := by decide +kernel
theorem dL_law_1893 : decode cL_law 1893 = .ok (.ireturn, 1) := by decide +kernel
theorem dL_law_1894 : decode cL_law 1894 = .ok (.aload_n 1, 1) := by decide +kernel
theorem dL_law_1895 : decode cL_law 1895 = .ok (.invokevirtual 258, 3) := by decide +kernel
theorem dL_law_1898 : decode cL_law 1898 = .ok (.aload_n 2, 1) := by decide +kernel
theorem dL_law_1899 : decode cL_law 1899 = .ok (.invokevirtual 261, 3) := by decide +kernel
theorem dL_law_1902 : decode cL_law 1902 = .ok (.if_icmp .eq 1056, 3) := by decide +kernel
theorem dL_law_1905 : decode cL_law 1905 = .ok (.iconst 0, 1) := by decide +kernel
theorem dL_law_1906 : decode cL_law 1906 = .ok (.ireturn, 1) := by decide +kernel
theorem dL_law_1907 : decode cL_law 1907 = .ok (.aload_n 1, 1) := by decide +kernel
theorem dL_law_1908 : decode cL_law 1908 = .ok (.aload_n 0, 1) := by decide +kernel
theorem dL_law_1909 : decode cL_law 1909 = .ok (.iload 4, 2) := by decide +kernel
theorem dL_law_1911 : decode cL_law 1911 = .ok (.iconst 1, 1) := by decide +kernel
theorem dL_law_1912 : decode cL_law 1912 = .ok (.iadd, 1) := by decide +kernel
theorem dL_law_1913 : decode cL_law 1913 = .ok (.iaload, 1) := by decide +kernel
theorem dL_law_1914 : decode cL_law 1914 = .ok (.aload_n 3, 1) := by decide +kernel
theorem dL_law_1915 : decode cL_law 1915 = .ok (.invokestatic 262, 3) := by decide +kernel
theorem dL_law_1918 : decode cL_law 1918 = .ok (.istore 5, 2) := by decide +kernel
theorem dL_law_1920 : decode cL_law 1920 = .ok (.aload_n 2, 1) := by decide +kernel
theorem dL_law_1921 : decode cL_law 1921 = .ok (.aload_n 0, 1) := by decide +kernel
theorem dL_law_1922 : decode cL_law 1922 = .ok (.iload 4, 2) := by decide +kernel
theorem dL_law_1924 : decode cL_law 1924 = .ok (.iconst 1, 1) := by decide +kernel
theorem dL_law_1925 : decode cL_law 1925 = .ok (.iadd, 1) := by decide +kernel
theorem dL_law_1926 : decode cL_law 1926 = .ok (.iaload, 1) := by decide +kernel
theorem dL_law_1927 : decode cL_law 1927 = .ok (.invokevirtual 264, 3) := by decide +kernel
theorem dL_law_1930 : decode cL_law 1930 = .ok (.istore 6, 2) := by decide +kernel
theorem dL_law_1932 : decode cL_law 1932 = .ok (.aload_n 2, 1) := by decide +kernel
theorem dL_law_1933 : decode cL_law 1933 = .ok (.invokevirtual 136, 3) := by decide +kernel
theorem dL_law_1936 : decode cL_law 1936 = .ok (.iload 5, 2) := by decide +kernel
theorem dL_law_1938 : decode cL_law 1938 = .ok (.if_icmp .eq 5, 3) := by decide +kernel
theorem dL_law_1941 : decode cL_law 1941 = .ok (.iconst 0, 1) := by decide +kernel
theorem dL_law_1942 : decode cL_law 1942 = .ok (.ireturn, 1) := by decide +kernel
theorem dL_law_1943 : decode cL_law 1943 = .ok (.iload 5, 2) := by decide +kernel
theorem dL_law_1945 : decode cL_law 1945 = .ok (.ifCond .ne 15, 3) := by decide +kernel
theorem dL_law_1948 : decode cL_law 1948 = .ok (.aload_n 3, 1) := by decide +kernel
theorem dL_law_1949 : decode cL_law 1949 = .ok (.iconst 0, 1) := by decide +kernel
theorem dL_law_1950 : decode cL_law 1950 = .ok (.laload, 1) := by decide +kernel
theorem dL_law_1951 : decode cL_law 1951 = .ok (.iload 6, 2) := by decide +kernel
theorem dL_law_1953 : decode cL_law 1953 = .ok (.i2l, 1) := by decide +kernel
theorem dL_law_1954 : decode cL_law 1954 = .ok (.lcmp, 1) := by decide +kernel
theorem dL_law_1955 : decode cL_law 1955 = .ok (.ifCond .eq 5, 3) := by decide +kernel
theorem dL_law_1958 : decode cL_law 1958 = .ok (.iconst 0, 1) := by decide +kernel
theorem dL_law_1959 : decode cL_law 1959 = .ok (.ireturn, 1) := by decide +kernel
theorem dL_law_1960 : decode cL_law 1960 = .ok (.goto 998, 3) := by decide +kernel
theorem dL_law_1963 : decode cL_law 1963 = .ok (.aload_n 1, 1) := by decide +kernel
theorem dL_law_1964 : decode cL_law 1964 = .ok (.aload_n 0, 1) := by decide +kernel
theorem dL_law_1965 : decode cL_law 1965 = .ok (.iload 4, 2) := by decide +kernel
theorem dL_law_1967 : decode cL_law 1967 = .ok (.iconst 1, 1) := by decide +kernel
theorem dL_law_1968 : decode cL_law 1968 = .ok (.iadd, 1) := by decide +kernel
theorem dL_law_1969 : decode cL_law 1969 = .ok (.iaload, 1) := by decide +kernel
theorem dL_law_1970 : decode cL_law 1970 = .ok (.aload_n 0, 1) := by decide +kernel
theorem dL_law_1971 : decode cL_law 1971 = .ok (.iload 4, 2) := by decide +kernel
theorem dL_law_1973 : decode cL_law 1973 = .ok (.iconst 2, 1) := by decide +kernel
theorem dL_law_1974 : decode cL_law 1974 = .ok (.iadd, 1) := by decide +kernel
theorem dL_law_1975 : decode cL_law 1975 = .ok (.iaload, 1) := by decide +kernel
theorem dL_law_1976 : decode cL_law 1976 = .ok (.aload_n 3, 1) := by decide +kernel
theorem dL_law_1977 : decode cL_law 1977 = .ok (.invokestatic 265, 3) := by decide +kernel
theorem dL_law_1980 : decode cL_law 1980 = .ok (.istore 5, 2) := by decide +kernel
theorem dL_law_1982 : decode cL_law 1982 = .ok (.aload_n 2, 1) := by decide +kernel
theorem dL_law_1983 : decode cL_law 1983 = .ok (.aload_n 0, 1) := by decide +kernel
theorem dL_law_1984 : decode cL_law 1984 = .ok (.iload 4, 2) := by decide +kernel
theorem dL_law_1986 : decode cL_law 1986 = .ok (.iconst 1, 1) := by decide +kernel
theorem dL_law_1987 : decode cL_law 1987 = .ok (.iadd, 1) := by decide +kernel
theorem dL_law_1988 : decode cL_law 1988 = .ok (.iaload, 1) := by decide +kernel
theorem dL_law_1989 : decode cL_law 1989 = .ok (.aload_n 0, 1) := by decide +kernel
theorem dL_law_1990 : decode cL_law 1990 = .ok (.iload 4, 2) := by decide +kernel
theorem dL_law_1992 : decode cL_law 1992 = .ok (.iconst 2, 1) := by decide +kernel
theorem dL_law_1993 : decode cL_law 1993 = .ok (.iadd, 1) := by decide +kernel
theorem dL_law_1994 : decode cL_law 1994 = .ok (.iaload, 1) := by decide +kernel
theorem dL_law_1995 : decode cL_law 1995 = .ok (.invokevirtual 267, 3) := by decide +kernel
theorem dL_law_1998 : decode cL_law 1998 = .ok (.istore 6, 2) := by decide +kernel
theorem dL_law_2000 : decode cL_law 2000 = .ok (.aload_n 2, 1) := by decide +kernel
theorem dL_law_2001 : decode cL_law 2001 = .ok (.invokevirtual 136, 3) := by decide +kernel
theorem dL_law_2004 : decode cL_law 2004 = .ok (.iload 5, 2) := by decide +kernel
theorem dL_law_2006 : decode cL_law 2006 = .ok (.if_icmp .eq 5, 3) := by decide +kernel
theorem dL_law_2009 : decode cL_law 2009 = .ok (.iconst 0, 1) := by decide +kernel
theorem dL_law_2010 : decode cL_law 2010 = .ok (.ireturn, 1) := by decide +kernel
theorem dL_law_2011 : decode cL_law 2011 = .ok (.iload 5, 2) := by decide +kernel
theorem dL_law_2013 : decode cL_law 2013 = .ok (.ifCond .ne 15, 3) := by decide +kernel
theorem dL_law_2016 : decode cL_law 2016 = .ok (.aload_n 3, 1) := by decide +kernel
theorem dL_law_2017 : decode cL_law 2017 = .ok (.iconst 0, 1) := by decide +kernel
theorem dL_law_2018 : decode cL_law 2018 = .ok (.laload, 1) := by decide +kernel
theorem dL_law_2019 : decode cL_law 2019 = .ok (.iload 6, 2) := by decide +kernel
theorem dL_law_2021 : decode cL_law 2021 = .ok (.i2l, 1) := by decide +kernel
theorem dL_law_2022 : decode cL_law 2022 = .ok (.lcmp, 1) := by decide +kernel
theorem dL_law_2023 : decode cL_law 2023 = .ok (.ifCond .eq 5, 3) := by decide +kernel
theorem dL_law_2026 : decode cL_law 2026 = .ok (.iconst 0, 1) := by decide +kernel
theorem dL_law_2027 : decode cL_law 2027 = .ok (.ireturn, 1) := by decide +kernel
theorem dL_law_2028 : decode cL_law 2028 = .ok (.goto 930, 3) := by decide +kernel
theorem dL_law_2031 : decode cL_law 2031 = .ok (.aload_n 1, 1) := by decide +kernel
theorem dL_law_2032 : decode cL_law 2032 = .ok (.invokevirtual 268, 3) := by decide +kernel
theorem dL_law_2035 : decode cL_law 2035 = .ok (.aload_n 2, 1) := by decide +kernel
theorem dL_law_2036 : decode cL_law 2036 = .ok (.invokevirtual 271, 3) := by decide +kernel
theorem dL_law_2039 : decode cL_law 2039 = .ok (.if_icmp .eq 919, 3) := by decide +kernel
theorem dL_law_2042 : decode cL_law 2042 = .ok (.iconst 0, 1) := by decide +kernel
theorem dL_law_2043 : decode cL_law 2043 = .ok (.ireturn, 1) := by decide +kernel
theorem dL_law_2044 : decode cL_law 2044 = .ok (.aload_n 1, 1) := by decide +kernel
theorem dL_law_2045 : decode cL_law 2045 = .ok (.invokevirtual 272, 3) := by decide +kernel
theorem dL_law_2048 : decode cL_law 2048 = .ok (.aload_n 2, 1) := by decide +kernel
theorem dL_law_2049 : decode cL_law 2049 = .ok (.invokevirtual 275, 3) := by decide +kernel
theorem dL_law_2052 : decode cL_law 2052 = .ok (.if_icmp .eq 906, 3) := by decide +kernel
theorem dL_law_2055 : decode cL_law 2055 = .ok (.iconst 0, 1) := by decide +kernel
theorem dL_law_2056 : decode cL_law 2056 = .ok (.ireturn, 1) := by decide +kernel
theorem dL_law_2057 : decode cL_law 2057 = .ok (.aload_n 1, 1) := by decide +kernel
theorem dL_law_2058 : decode cL_law 2058 = .ok (.invokevirtual 276, 3) := by decide +kernel
theorem dL_law_2061 : decode cL_law 2061 = .ok (.aload_n 2, 1) := by decide +kernel
theorem dL_law_2062 : decode cL_law 2062 = .ok (.invokevirtual 279, 3) := by decide +kernel
theorem dL_law_2065 : decode cL_law 2065 = .ok (.if_icmp .eq 893, 3) := by decide +kernel
theorem dL_law_2068 : decode cL_law 2068 = .ok (.iconst 0, 1) := by decide +kernel
theorem dL_law_2069 : decode cL_law 2069 = .ok (.ireturn, 1) := by decide +kernel
theorem dL_law_2070 : decode cL_law 2070 = .ok (.aload_n 1, 1) := by decide +kernel
theorem dL_law_2071 : decode cL_law 2071 = .ok (.invokevirtual 280, 3) := by decide +kernel
theorem dL_law_2074 : decode cL_law 2074 = .ok (.aload_n 2, 1) := by decide +kernel
theorem dL_law_2075 : decode cL_law 2075 = .ok (.invokevirtual 283, 3) := by decide +kernel
theorem dL_law_2078 : decode cL_law 2078 = .ok (.if_icmp .eq 880, 3) := by decide +kernel
theorem dL_law_2081 : decode cL_law 2081 = .ok (.iconst 0, 1) := by decide +kernel
theorem dL_law_2082 : decode cL_law 2082 = .ok (.ireturn, 1) := by decide +kernel
theorem dL_law_2083 : decode cL_law 2083 = .ok (.aload_n 1, 1) := by decide +kernel
theorem dL_law_2084 : decode cL_law 2084 = .ok (.invokevirtual 284, 3) := by decide +kernel
theorem dL_law_2087 : decode cL_law 2087 = .ok (.dstore 5, 2) := by decide +kernel
theorem dL_law_2089 : decode cL_law 2089 = .ok (.aload_n 2, 1) := by decide +kernel
theorem dL_law_2090 : decode cL_law 2090 = .ok (.invokevirtual 288, 3) := by decide +kernel
theorem dL_law_2093 : decode cL_law 2093 = .ok (.dstore 7, 2) := by decide +kernel
theorem dL_law_2095 : decode cL_law 2095 = .ok (.dload 5, 2) := by decide +kernel
theorem dL_law_2097 : decode cL_law 2097 = .ok (.dload 7, 2) := by decide +kernel
theorem dL_law_2099 : decode cL_law 2099 = .ok (.dcmp .l, 1) := by decide +kernel
theorem dL_law_2100 : decode cL_law 2100 = .ok (.ifCond .eq 21, 3) := by decide +kernel
theorem dL_law_2103 : decode cL_law 2103 = .ok (.dload 5, 2) := by decide +kernel
theorem dL_law_2105 : decode cL_law 2105 = .ok (.dload 5, 2) := by decide +kernel
theorem dL_law_2107 : decode cL_law 2107 = .ok (.dcmp .l, 1) := by decide +kernel
theorem dL_law_2108 : decode cL_law 2108 = .ok (.ifCond .eq 11, 3) := by decide +kernel
theorem dL_law_2111 : decode cL_law 2111 = .ok (.dload 7, 2) := by decide +kernel
theorem dL_law_2113 : decode cL_law 2113 = .ok (.dload 7, 2) := by decide +kernel
theorem dL_law_2115 : decode cL_law 2115 = .ok (.dcmp .l, 1) := by decide +kernel
theorem dL_law_2116 : decode cL_law 2116 = .ok (.ifCond .ne 5, 3) := by decide +kernel
theorem dL_law_2119 : decode cL_law 2119 = .ok (.iconst 0, 1) := by decide +kernel
theorem dL_law_2120 : decode cL_law 2120 = .ok (.ireturn, 1) := by decide +kernel
theorem dL_law_2121 : decode cL_law 2121 = .ok (.goto 837, 3) := by decide +kernel
theorem dL_law_2124 : decode cL_law 2124 = .ok (.aload_n 1, 1) := by decide +kernel
theorem dL_law_2125 : decode cL_law 2125 = .ok (.invokevirtual 289, 3) := by decide +kernel
theorem dL_law_2128 : decode cL_law 2128 = .ok (.f2d, 1) := by decide +kernel
theorem dL_law_2129 : decode cL_law 2129 = .ok (.dstore 5, 2) := by decide +kernel
theorem dL_law_2131 : decode cL_law 2131 = .ok (.aload_n 2, 1) := by decide +kernel
theorem dL_law_2132 : decode cL_law 2132 = .ok (.invokevirtual 293, 3) := by decide +kernel
theorem dL_law_2135 : decode cL_law 2135 = .ok (.f2d, 1) := by decide +kernel
theorem dL_law_2136 : decode cL_law 2136 = .ok (.dstore 7, 2) := by decide +kernel
theorem dL_law_2138 : decode cL_law 2138 = .ok (.dload 5, 2) := by decide +kernel
theorem dL_law_2140 : decode cL_law 2140 = .ok (.dload 7, 2) := by decide +kernel
theorem dL_law_2142 : decode cL_law 2142 = .ok (.dcmp .l, 1) := by decide +kernel
theorem dL_law_2143 : decode cL_law 2143 = .ok (.ifCond .eq 21, 3) := by decide +kernel
theorem dL_law_2146 : decode cL_law 2146 = .ok (.dload 5, 2) := by decide +kernel
theorem dL_law_2148 : decode cL_law 2148 = .ok (.dload 5, 2) := by decide +kernel
theorem dL_law_2150 : decode cL_law 2150 = .ok (.dcmp .l, 1) := by decide +kernel
theorem dL_law_2151 : decode cL_law 2151 = .ok (.ifCond .eq 11, 3) := by decide +kernel
theorem dL_law_2154 : decode cL_law 2154 = .ok (.dload 7, 2) := by decide +kernel
theorem dL_law_2156 : decode cL_law 2156 = .ok (.dload 7, 2) := by decide +kernel
theorem dL_law_2158 : decode cL_law 2158 = .ok (.dcmp .l, 1) := by decide +kernel
theorem dL_law_2159 : decode cL_law 2159 = .ok (.ifCond .ne 5, 3) := by decide +kernel
theorem dL_law_2162 : decode cL_law 2162 = .ok (.iconst 0, 1) := by decide +kernel
theorem dL_law_2163 : decode cL_law 2163 = .ok (.ireturn, 1) := by decide +kernel
theorem dL_law_2164 : decode cL_law 2164 = .ok (.goto 794, 3) := by decide +kernel
theorem dL_law_2167 : decode cL_law 2167 = .ok (.aload_n 1, 1) := by decide +kernel
theorem dL_law_2168 : decode cL_law 2168 = .ok (.invokevirtual 294, 3) := by decide +kernel
theorem dL_law_2171 : decode cL_law 2171 = .ok (.aload_n 2, 1) := by decide +kernel
theorem dL_law_2172 : decode cL_law 2172 = .ok (.invokevirtual 297, 3) := by decide +kernel
theorem dL_law_2175 : decode cL_law 2175 = .ok (.if_icmp .eq 783, 3) := by decide +kernel
theorem dL_law_2178 : decode cL_law 2178 = .ok (.iconst 0, 1) := by decide +kernel
theorem dL_law_2179 : decode cL_law 2179 = .ok (.ireturn, 1) := by decide +kernel
theorem dL_law_2180 : decode cL_law 2180 = .ok (.aload_n 1, 1) := by decide +kernel
theorem dL_law_2181 : decode cL_law 2181 = .ok (.aload_n 0, 1) := by decide +kernel
theorem dL_law_2182 : decode cL_law 2182 = .ok (.iload 4, 2) := by decide +kernel
theorem dL_law_2184 : decode cL_law 2184 = .ok (.iconst 1, 1) := by decide +kernel
theorem dL_law_2185 : decode cL_law 2185 = .ok (.iadd, 1) := by decide +kernel
theorem dL_law_2186 : decode cL_law 2186 = .ok (.iaload, 1) := by decide +kernel
theorem dL_law_2187 : decode cL_law 2187 = .ok (.aload_n 0, 1) := by decide +kernel
theorem dL_law_2188 : decode cL_law 2188 = .ok (.iload 4, 2) := by decide +kernel
theorem dL_law_2190 : decode cL_law 2190 = .ok (.iconst 2, 1) := by decide +kernel
theorem dL_law_2191 : decode cL_law 2191 = .ok (.iadd, 1) := by decide +kernel
theorem dL_law_2192 : decode cL_law 2192 = .ok (.iaload, 1) := by decide +kernel
theorem dL_law_2193 : decode cL_law 2193 = .ok (.aload_n 3, 1) := by decide +kernel
theorem dL_law_2194 : decode cL_law 2194 = .ok (.invokestatic 298, 3) := by decide +kernel
theorem dL_law_2197 : decode cL_law 2197 = .ok (.istore 5, 2) := by decide +kernel
theorem dL_law_2199 : decode cL_law 2199 = .ok (.aload_n 2, 1) := by decide +kernel
theorem dL_law_2200 : decode cL_law 2200 = .ok (.aload_n 0, 1) := by decide +kernel
theorem dL_law_2201 : decode cL_law 2201 = .ok (.iload 4, 2) := by decide +kernel
theorem dL_law_2203 : decode cL_law 2203 = .ok (.iconst 1, 1) := by decide +kernel
theorem dL_law_2204 : decode cL_law 2204 = .ok (.iadd, 1) := by decide +kernel
theorem dL_law_2205 : decode cL_law 2205 = .ok (.iaload, 1) := by decide +kernel
theorem dL_law_2206 : decode cL_law 2206 = .ok (.aload_n 0, 1) := by decide +kernel
theorem dL_law_2207 : decode cL_law 2207 = .ok (.iload 4, 2) := by decide +kernel
theorem dL_law_2209 : decode cL_law 2209 = .ok (.iconst 2, 1) := by decide +kernel
theorem dL_law_2210 : decode cL_law 2210 = .ok (.iadd, 1) := by decide +kernel
theorem dL_law_2211 : decode cL_law 2211 = .ok (.iaload, 1) := by decide +kernel
theorem dL_law_2212 : decode cL_law 2212 = .ok (.invokevirtual 300, 3) := by decide +kernel
theorem dL_law_2215 : decode cL_law 2215 = .ok (.istore 6, 2) := by decide +kernel
theorem dL_law_2217 : decode cL_law 2217 = .ok (.aload_n 2, 1) := by decide +kernel
theorem dL_law_2218 : decode cL_law 2218 = .ok (.invokevirtual 136, 3) := by decide +kernel
theorem dL_law_2221 : decode cL_law 2221 = .ok (.iload 5, 2) := by decide +kernel
theorem dL_law_2223 : decode cL_law 2223 = .ok (.if_icmp .eq 5, 3) := by decide +kernel
theorem dL_law_2226 : decode cL_law 2226 = .ok (.iconst 0, 1) := by decide +kernel
theorem dL_law_2227 : decode cL_law 2227 = .ok (.ireturn, 1) := by decide +kernel
theorem dL_law_2228 : decode cL_law 2228 = .ok (.iload 5, 2) := by decide +kernel
theorem dL_law_2230 : decode cL_law 2230 = .ok (.ifCond .ne 15, 3) := by decide +kernel
theorem dL_law_2233 : decode cL_law 2233 = .ok (.aload_n 3, 1) := by decide +kernel
theorem dL_law_2234 : decode cL_law 2234 = .ok (.iconst 0, 1) := by decide +kernel
theorem dL_law_2235 : decode cL_law 2235 = .ok (.laload, 1) := by decide +kernel
theorem dL_law_2236 : decode cL_law 2236 = .ok (.iload 6, 2) := by decide +kernel
theorem dL_law_2238 : decode cL_law 2238 = .ok (.i2l, 1) := by decide +kernel
theorem dL_law_2239 : decode cL_law 2239 = .ok (.lcmp, 1) := by decide +kernel
theorem dL_law_2240 : decode cL_law 2240 = .ok (.ifCond .eq 5, 3) := by decide +kernel
theorem dL_law_2243 : decode cL_law 2243 = .ok (.iconst 0, 1) := by decide +kernel
theorem dL_law_2244 : decode cL_law 2244 = .ok (.ireturn, 1) := by decide +kernel
theorem dL_law_2245 : decode cL_law 2245 = .ok (.goto 713, 3) := by decide +kernel
theorem dL_law_2248 : decode cL_law 2248 = .ok (.aload_n 1, 1) := by decide +kernel
theorem dL_law_2249 : decode cL_law 2249 = .ok (.aload_n 0, 1) := by decide +kernel
theorem dL_law_2250 : decode cL_law 2250 = .ok (.iload 4, 2) := by decide +kernel
theorem dL_law_2252 : decode cL_law 2252 = .ok (.iconst 1, 1) := by decide +kernel
theorem dL_law_2253 : decode cL_law 2253 = .ok (.iadd, 1) := by decide +kernel
theorem dL_law_2254 : decode cL_law 2254 = .ok (.iaload, 1) := by decide +kernel
theorem dL_law_2255 : decode cL_law 2255 = .ok (.aload_n 3, 1) := by decide +kernel
theorem dL_law_2256 : decode cL_law 2256 = .ok (.invokestatic 301, 3) := by decide +kernel
theorem dL_law_2259 : decode cL_law 2259 = .ok (.istore 5, 2) := by decide +kernel
theorem dL_law_2261 : decode cL_law 2261 = .ok (.aload_n 2, 1) := by decide +kernel
theorem dL_law_2262 : decode cL_law 2262 = .ok (.aload_n 0, 1) := by decide +kernel
theorem dL_law_2263 : decode cL_law 2263 = .ok (.iload 4, 2) := by decide +kernel
theorem dL_law_2265 : decode cL_law 2265 = .ok (.iconst 1, 1) := by decide +kernel
theorem dL_law_2266 : decode cL_law 2266 = .ok (.iadd, 1) := by decide +kernel
theorem dL_law_2267 : decode cL_law 2267 = .ok (.iaload, 1) := by decide +kernel
theorem dL_law_2268 : decode cL_law 2268 = .ok (.invokevirtual 303, 3) := by decide +kernel
theorem dL_law_2271 : decode cL_law 2271 = .ok (.istore 6, 2) := by decide +kernel
theorem dL_law_2273 : decode cL_law 2273 = .ok (.aload_n 2, 1) := by decide +kernel
theorem dL_law_2274 : decode cL_law 2274 = .ok (.invokevirtual 136, 3) := by decide +kernel
theorem dL_law_2277 : decode cL_law 2277 = .ok (.iload 5, 2) := by decide +kernel
theorem dL_law_2279 : decode cL_law 2279 = .ok (.if_icmp .eq 5, 3) := by decide +kernel
theorem dL_law_2282 : decode cL_law 2282 = .ok (.iconst 0, 1) := by decide +kernel
theorem dL_law_2283 : decode cL_law 2283 = .ok (.ireturn, 1) := by decide +kernel
theorem dL_law_2284 : decode cL_law 2284 = .ok (.iload 5, 2) := by decide +kernel
theorem dL_law_2286 : decode cL_law 2286 = .ok (.ifCond .ne 15, 3) := by decide +kernel
theorem dL_law_2289 : decode cL_law 2289 = .ok (.aload_n 3, 1) := by decide +kernel
theorem dL_law_2290 : decode cL_law 2290 = .ok (.iconst 0, 1) := by decide +kernel
theorem dL_law_2291 : decode cL_law 2291 = .ok (.laload, 1) := by decide +kernel
theorem dL_law_2292 : decode cL_law 2292 = .ok (.iload 6, 2) := by decide +kernel
theorem dL_law_2294 : decode cL_law 2294 = .ok (.i2l, 1) := by decide +kernel
theorem dL_law_2295 : decode cL_law 2295 = .ok (.lcmp, 1) := by decide +kernel
theorem dL_law_2296 : decode cL_law 2296 = .ok (.ifCond .eq 5, 3) := by decide +kernel
theorem dL_law_2299 : decode cL_law 2299 = .ok (.iconst 0, 1) := by decide +kernel
theorem dL_law_2300 : decode cL_law 2300 = .ok (.ireturn, 1) := by decide +kernel
theorem dL_law_2301 : decode cL_law 2301 = .ok (.goto 657, 3) := by decide +kernel
theorem dL_law_2304 : decode cL_law 2304 = .ok (.aload_n 1, 1) := by decide +kernel
theorem dL_law_2305 : decode cL_law 2305 = .ok (.aload_n 0, 1) := by decide +kernel
theorem dL_law_2306 : decode cL_law 2306 = .ok (.iload 4, 2) := by decide +kernel
theorem dL_law_2308 : decode cL_law 2308 = .ok (.iconst 1, 1) := by decide +kernel
theorem dL_law_2309 : decode cL_law 2309 = .ok (.iadd, 1) := by decide +kernel
theorem dL_law_2310 : decode cL_law 2310 = .ok (.iaload, 1) := by decide +kernel
theorem dL_law_2311 : decode cL_law 2311 = .ok (.aload_n 0, 1) := by decide +kernel
theorem dL_law_2312 : decode cL_law 2312 = .ok (.iload 4, 2) := by decide +kernel
theorem dL_law_2314 : decode cL_law 2314 = .ok (.iconst 2, 1) := by decide +kernel
theorem dL_law_2315 : decode cL_law 2315 = .ok (.iadd, 1) := by decide +kernel
theorem dL_law_2316 : decode cL_law 2316 = .ok (.iaload, 1) := by decide +kernel
theorem dL_law_2317 : decode cL_law 2317 = .ok (.aload_n 3, 1) := by decide +kernel
theorem dL_law_2318 : decode cL_law 2318 = .ok (.invokestatic 304, 3) := by decide +kernel
theorem dL_law_2321 : decode cL_law 2321 = .ok (.istore 5, 2) := by decide +kernel
theorem dL_law_2323 : decode cL_law 2323 = .ok (.aload_n 2, 1) := by decide +kernel
theorem dL_law_2324 : decode cL_law 2324 = .ok (.aload_n 0, 1) := by decide +kernel
theorem dL_law_2325 : decode cL_law 2325 = .ok (.iload 4, 2) := by decide +kernel
theorem dL_law_2327 : decode cL_law 2327 = .ok (.iconst 1, 1) := by decide +kernel
theorem dL_law_2328 : decode cL_law 2328 = .ok (.iadd, 1) := by decide +kernel
theorem dL_law_2329 : decode cL_law 2329 = .ok (.iaload, 1) := by decide +kernel
theorem dL_law_2330 : decode cL_law 2330 = .ok (.aload_n 0, 1) := by decide +kernel
theorem dL_law_2331 : decode cL_law 2331 = .ok (.iload 4, 2) := by decide +kernel
theorem dL_law_2333 : decode cL_law 2333 = .ok (.iconst 2, 1) := by decide +kernel
theorem dL_law_2334 : decode cL_law 2334 = .ok (.iadd, 1) := by decide +kernel
theorem dL_law_2335 : decode cL_law 2335 = .ok (.iaload, 1) := by decide +kernel
theorem dL_law_2336 : decode cL_law 2336 = .ok (.invokevirtual 306, 3) := by decide +kernel
theorem dL_law_2339 : decode cL_law 2339 = .ok (.istore 6, 2) := by decide +kernel
theorem dL_law_2341 : decode cL_law 2341 = .ok (.aload_n 2, 1) := by decide +kernel
theorem dL_law_2342 : decode cL_law 2342 = .ok (.invokevirtual 136, 3) := by decide +kernel
theorem dL_law_2345 : decode cL_law 2345 = .ok (.iload 5, 2) := by decide +kernel
theorem dL_law_2347 : decode cL_law 2347 = .ok (.if_icmp .eq 5, 3) := by decide +kernel
theorem dL_law_2350 : decode cL_law 2350 = .ok (.iconst 0, 1) := by decide +kernel
theorem dL_law_2351 : decode cL_law 2351 = .ok (.ireturn, 1) := by decide +kernel
theorem dL_law_2352 : decode cL_law 2352 = .ok (.iload 5, 2) := by decide +kernel
theorem dL_law_2354 : decode cL_law 2354 = .ok (.ifCond .ne 15, 3) := by decide +kernel
theorem dL_law_2357 : decode cL_law 2357 = .ok (.aload_n 3, 1) := by decide +kernel
theorem dL_law_2358 : decode cL_law 2358 = .ok (.iconst 0, 1) := by decide +kernel
theorem dL_law_2359 : decode cL_law 2359 = .ok (.laload, 1) := by decide +kernel
theorem dL_law_2360 : decode cL_law 2360 = .ok (.iload 6, 2) := by decide +kernel
theorem dL_law_2362 : decode cL_law 2362 = .ok (.i2l, 1) := by decide +kernel
theorem dL_law_2363 : decode cL_law 2363 = .ok (.lcmp, 1) := by decide +kernel
theorem dL_law_2364 : decode cL_law 2364 = .ok (.ifCond .eq 5, 3) := by decide +kernel
theorem dL_law_2367 : decode cL_law 2367 = .ok (.iconst 0, 1) := by decide +kernel
theorem dL_law_2368 : decode cL_law 2368 = .ok (.ireturn, 1) := by decide +kernel
theorem dL_law_2369 : decode cL_law 2369 = .ok (.goto 589, 3) := by decide +kernel
theorem dL_law_2372 : decode cL_law 2372 = .ok (.aload_n 1, 1) := by decide +kernel
theorem dL_law_2373 : decode cL_law 2373 = .ok (.invokevirtual 307, 3) := by decide +kernel
theorem dL_law_2376 : decode cL_law 2376 = .ok (.aload_n 2, 1) := by decide +kernel
theorem dL_law_2377 : decode cL_law 2377 = .ok (.invokevirtual 310, 3) := by decide +kernel
theorem dL_law_2380 : decode cL_law 2380 = .ok (.if_icmp .eq 578, 3) := by decide +kernel
theorem dL_law_2383 : decode cL_law 2383 = .ok (.iconst 0, 1) := by decide +kernel
theorem dL_law_2384 : decode cL_law 2384 = .ok (.ireturn, 1) := by decide +kernel
theorem dL_law_2385 : decode cL_law 2385 = .ok (.aload_n 1, 1) := by decide +kernel
theorem dL_law_2386 : decode cL_law 2386 = .ok (.aload_n 0, 1) := by decide +kernel
theorem dL_law_2387 : decode cL_law 2387 = .ok (.iload 4, 2) := by decide +kernel
theorem dL_law_2389 : decode cL_law 2389 = .ok (.iconst 1, 1) := by decide +kernel
theorem dL_law_2390 : decode cL_law 2390 = .ok (.iadd, 1) := by decide +kernel
theorem dL_law_2391 : decode cL_law 2391 = .ok (.iaload, 1) := by decide +kernel
theorem dL_law_2392 : decode cL_law 2392 = .ok (.aload_n 0, 1) := by decide +kernel
theorem dL_law_2393 : decode cL_law 2393 = .ok (.iload 4, 2) := by decide +kernel
theorem dL_law_2395 : decode cL_law 2395 = .ok (.iconst 2, 1) := by decide +kernel
theorem dL_law_2396 : decode cL_law 2396 = .ok (.iadd, 1) := by decide +kernel
theorem dL_law_2397 : decode cL_law 2397 = .ok (.iaload, 1) := by decide +kernel
theorem dL_law_2398 : decode cL_law 2398 = .ok (.aload_n 3, 1) := by decide +kernel
theorem dL_law_2399 : decode cL_law 2399 = .ok (.invokestatic 311, 3) := by decide +kernel
theorem dL_law_2402 : decode cL_law 2402 = .ok (.istore 5, 2) := by decide +kernel
theorem dL_law_2404 : decode cL_law 2404 = .ok (.aload_n 2, 1) := by decide +kernel
theorem dL_law_2405 : decode cL_law 2405 = .ok (.aload_n 0, 1) := by decide +kernel
theorem dL_law_2406 : decode cL_law 2406 = .ok (.iload 4, 2) := by decide +kernel
theorem dL_law_2408 : decode cL_law 2408 = .ok (.iconst 1, 1) := by decide +kernel
theorem dL_law_2409 : decode cL_law 2409 = .ok (.iadd, 1) := by decide +kernel
theorem dL_law_2410 : decode cL_law 2410 = .ok (.iaload, 1) := by decide +kernel
theorem dL_law_2411 : decode cL_law 2411 = .ok (.aload_n 0, 1) := by decide +kernel
theorem dL_law_2412 : decode cL_law 2412 = .ok (.iload 4, 2) := by decide +kernel
theorem dL_law_2414 : decode cL_law 2414 = .ok (.iconst 2, 1) := by decide +kernel
theorem dL_law_2415 : decode cL_law 2415 = .ok (.iadd, 1) := by decide +kernel
theorem dL_law_2416 : decode cL_law 2416 = .ok (.iaload, 1) := by decide +kernel
theorem dL_law_2417 : decode cL_law 2417 = .ok (.invokevirtual 313, 3) := by decide +kernel
theorem dL_law_2420 : decode cL_law 2420 = .ok (.istore 6, 2) := by decide +kernel
theorem dL_law_2422 : decode cL_law 2422 = .ok (.aload_n 2, 1) := by decide +kernel
theorem dL_law_2423 : decode cL_law 2423 = .ok (.invokevirtual 136, 3) := by decide +kernel
theorem dL_law_2426 : decode cL_law 2426 = .ok (.iload 5, 2) := by decide +kernel
theorem dL_law_2428 : decode cL_law 2428 = .ok (.if_icmp .eq 5, 3) := by decide +kernel
theorem dL_law_2431 : decode cL_law 2431 = .ok (.iconst 0, 1) := by decide +kernel
theorem dL_law_2432 : decode cL_law 2432 = .ok (.ireturn, 1) := by decide +kernel
theorem dL_law_2433 : decode cL_law 2433 = .ok (.iload 5, 2) := by decide +kernel
theorem dL_law_2435 : decode cL_law 2435 = .ok (.ifCond .ne 15, 3) := by decide +kernel
theorem dL_law_2438 : decode cL_law 2438 = .ok (.aload_n 3, 1) := by decide +kernel
theorem dL_law_2439 : decode cL_law 2439 = .ok (.iconst 0, 1) := by decide +kernel
theorem dL_law_2440 : decode cL_law 2440 = .ok (.laload, 1) := by decide +kernel
theorem dL_law_2441 : decode cL_law 2441 = .ok (.iload 6, 2) := by decide +kernel
theorem dL_law_2443 : decode cL_law 2443 = .ok (.i2l, 1) := by decide +kernel
theorem dL_law_2444 : decode cL_law 2444 = .ok (.lcmp, 1) := by decide +kernel
theorem dL_law_2445 : decode cL_law 2445 = .ok (.ifCond .eq 5, 3) := by decide +kernel
theorem dL_law_2448 : decode cL_law 2448 = .ok (.iconst 0, 1) := by decide +kernel
theorem dL_law_2449 : decode cL_law 2449 = .ok (.ireturn, 1) := by decide +kernel
theorem dL_law_2450 : decode cL_law 2450 = .ok (.goto 508, 3) := by decide +kernel
theorem dL_law_2453 : decode cL_law 2453 = .ok (.aload_n 1, 1) := by decide +kernel
theorem dL_law_2454 : decode cL_law 2454 = .ok (.aload_n 0, 1) := by decide +kernel
theorem dL_law_2455 : decode cL_law 2455 = .ok (.iload 4, 2) := by decide +kernel
theorem dL_law_2457 : decode cL_law 2457 = .ok (.iconst 1, 1) := by decide +kernel
theorem dL_law_2458 : decode cL_law 2458 = .ok (.iadd, 1) := by decide +kernel
theorem dL_law_2459 : decode cL_law 2459 = .ok (.iaload, 1) := by decide +kernel
theorem dL_law_2460 : decode cL_law 2460 = .ok (.aload_n 0, 1) := by decide +kernel
theorem dL_law_2461 : decode cL_law 2461 = .ok (.iload 4, 2) := by decide +kernel
theorem dL_law_2463 : decode cL_law 2463 = .ok (.iconst 2, 1) := by decide +kernel
theorem dL_law_2464 : decode cL_law 2464 = .ok (.iadd, 1) := by decide +kernel
theorem dL_law_2465 : decode cL_law 2465 = .ok (.iaload, 1) := by decide +kernel
theorem dL_law_2466 : decode cL_law 2466 = .ok (.aload_n 3, 1) := by decide +kernel
theorem dL_law_2467 : decode cL_law 2467 = .ok (.invokestatic 314, 3) := by decide +kernel
theorem dL_law_2470 : decode cL_law 2470 = .ok (.istore 5, 2) := by decide +kernel
theorem dL_law_2472 : decode cL_law 2472 = .ok (.aload_n 2, 1) := by decide +kernel
theorem dL_law_2473 : decode cL_law 2473 = .ok (.aload_n 0, 1) := by decide +kernel
theorem dL_law_2474 : decode cL_law 2474 = .ok (.iload 4, 2) := by decide +kernel
theorem dL_law_2476 : decode cL_law 2476 = .ok (.iconst 1, 1) := by decide +kernel
theorem dL_law_2477 : decode cL_law 2477 = .ok (.iadd, 1) := by decide +kernel
theorem dL_law_2478 : decode cL_law 2478 = .ok (.iaload, 1) := by decide +kernel
theorem dL_law_2479 : decode cL_law 2479 = .ok (.aload_n 0, 1) := by decide +kernel
theorem dL_law_2480 : decode cL_law 2480 = .ok (.iload 4, 2) := by decide +kernel
theorem dL_law_2482 : decode cL_law 2482 = .ok (.iconst 2, 1) := by decide +kernel
theorem dL_law_2483 : decode cL_law 2483 = .ok (.iadd, 1) := by decide +kernel
theorem dL_law_2484 : decode cL_law 2484 = .ok (.iaload, 1) := by decide +kernel
theorem dL_law_2485 : decode cL_law 2485 = .ok (.invokevirtual 316, 3) := by decide +kernel
theorem dL_law_2488 : decode cL_law 2488 = .ok (.istore 6, 2) := by decide +kernel
theorem dL_law_2490 : decode cL_law 2490 = .ok (.aload_n 2, 1) := by decide +kernel
theorem dL_law_2491 : decode cL_law 2491 = .ok (.invokevirtual 136, 3) := by decide +kernel
theorem dL_law_2494 : decode cL_law 2494 = .ok (.iload 5, 2) := by decide +kernel
theorem dL_law_2496 : decode cL_law 2496 = .ok (.if_icmp .eq 5, 3) := by decide +kernel
theorem dL_law_2499 : decode cL_law 2499 = .ok (.iconst 0, 1) := by decide +kernel
theorem dL_law_2500 : decode cL_law 2500 = .ok (.ireturn, 1) := by decide +kernel
theorem dL_law_2501 : decode cL_law 2501 = .ok (.iload 5, 2) := by decide +kernel
theorem dL_law_2503 : decode cL_law 2503 = .ok (.ifCond .ne 15, 3) := by decide +kernel
theorem dL_law_2506 : decode cL_law 2506 = .ok (.aload_n 3, 1) := by decide +kernel
theorem dL_law_2507 : decode cL_law 2507 = .ok (.iconst 0, 1) := by decide +kernel
theorem dL_law_2508 : decode cL_law 2508 = .ok (.laload, 1) := by decide +kernel
theorem dL_law_2509 : decode cL_law 2509 = .ok (.iload 6, 2) := by decide +kernel
theorem dL_law_2511 : decode cL_law 2511 = .ok (.i2l, 1) := by decide +kernel
theorem dL_law_2512 : decode cL_law 2512 = .ok (.lcmp, 1) := by decide +kernel
theorem dL_law_2513 : decode cL_law 2513 = .ok (.ifCond .eq 5, 3) := by decide +kernel
theorem dL_law_2516 : decode cL_law 2516 = .ok (.iconst 0, 1) := by decide +kernel
theorem dL_law_2517 : decode cL_law 2517 = .ok (.ireturn, 1) := by decide +kernel
theorem dL_law_2518 : decode cL_law 2518 = .ok (.goto 440, 3) := by decide +kernel
theorem dL_law_2521 : decode cL_law 2521 = .ok (.aload_n 1, 1) := by decide +kernel
theorem dL_law_2522 : decode cL_law 2522 = .ok (.aload_n 0, 1) := by decide +kernel
theorem dL_law_2523 : decode cL_law 2523 = .ok (.iload 4, 2) := by decide +kernel
theorem dL_law_2525 : decode cL_law 2525 = .ok (.iconst 1, 1) := by decide +kernel
theorem dL_law_2526 : decode cL_law 2526 = .ok (.iadd, 1) := by decide +kernel
theorem dL_law_2527 : decode cL_law 2527 = .ok (.iaload, 1) := by decide +kernel
theorem dL_law_2528 : decode cL_law 2528 = .ok (.aload_n 0, 1) := by decide +kernel
theorem dL_law_2529 : decode cL_law 2529 = .ok (.iload 4, 2) := by decide +kernel
theorem dL_law_2531 : decode cL_law 2531 = .ok (.iconst 2, 1) := by decide +kernel
theorem dL_law_2532 : decode cL_law 2532 = .ok (.iadd, 1) := by decide +kernel
theorem dL_law_2533 : decode cL_law 2533 = .ok (.iaload, 1) := by decide +kernel
theorem dL_law_2534 : decode cL_law 2534 = .ok (.aload_n 3, 1) := by decide +kernel
theorem dL_law_2535 : decode cL_law 2535 = .ok (.invokestatic 317, 3) := by decide +kernel
theorem dL_law_2538 : decode cL_law 2538 = .ok (.istore 5, 2) := by decide +kernel
theorem dL_law_2540 : decode cL_law 2540 = .ok (.aload_n 2, 1) := by decide +kernel
theorem dL_law_2541 : decode cL_law 2541 = .ok (.aload_n 0, 1) := by decide +kernel
theorem dL_law_2542 : decode cL_law 2542 = .ok (.iload 4, 2) := by decide +kernel
theorem dL_law_2544 : decode cL_law 2544 = .ok (.iconst 1, 1) := by decide +kernel
theorem dL_law_2545 : decode cL_law 2545 = .ok (.iadd, 1) := by decide +kernel
theorem dL_law_2546 : decode cL_law 2546 = .ok (.iaload, 1) := by decide +kernel
theorem dL_law_2547 : decode cL_law 2547 = .ok (.aload_n 0, 1) := by decide +kernel
theorem dL_law_2548 : decode cL_law 2548 = .ok (.iload 4, 2) := by decide +kernel
theorem dL_law_2550 : decode cL_law 2550 = .ok (.iconst 2, 1) := by decide +kernel
theorem dL_law_2551 : decode cL_law 2551 = .ok (.iadd, 1) := by decide +kernel
theorem dL_law_2552 : decode cL_law 2552 = .ok (.iaload, 1) := by decide +kernel
theorem dL_law_2553 : decode cL_law 2553 = .ok (.invokevirtual 319, 3) := by decide +kernel
theorem dL_law_2556 : decode cL_law 2556 = .ok (.istore 6, 2) := by decide +kernel
theorem dL_law_2558 : decode cL_law 2558 = .ok (.aload_n 2, 1) := by decide +kernel
theorem dL_law_2559 : decode cL_law 2559 = .ok (.invokevirtual 136, 3) := by decide +kernel
theorem dL_law_2562 : decode cL_law 2562 = .ok (.iload 5, 2) := by decide +kernel
theorem dL_law_2564 : decode cL_law 2564 = .ok (.if_icmp .eq 5, 3) := by decide +kernel
theorem dL_law_2567 : decode cL_law 2567 = .ok (.iconst 0, 1) := by decide +kernel
theorem dL_law_2568 : decode cL_law 2568 = .ok (.ireturn, 1) := by decide +kernel
theorem dL_law_2569 : decode cL_law 2569 = .ok (.iload 5, 2) := by decide +kernel
theorem dL_law_2571 : decode cL_law 2571 = .ok (.ifCond .ne 15, 3) := by decide +kernel
theorem dL_law_2574 : decode cL_law 2574 = .ok (.aload_n 3, 1) := by decide +kernel
theorem dL_law_2575 : decode cL_law 2575 = .ok (.iconst 0, 1) := by decide +kernel
theorem dL_law_2576 : decode cL_law 2576 = .ok (.laload, 1) := by decide +kernel
theorem dL_law_2577 : decode cL_law 2577 = .ok (.iload 6, 2) := by decide +kernel
theorem dL_law_2579 : decode cL_law 2579 = .ok (.i2l, 1) := by decide +kernel
theorem dL_law_2580 : decode cL_law 2580 = .ok (.lcmp, 1) := by decide +kernel
theorem dL_law_2581 : decode cL_law 2581 = .ok (.ifCond .eq 5, 3) := by decide +kernel
theorem dL_law_2584 : decode cL_law 2584 = .ok (.iconst 0, 1) := by decide +kernel
theorem dL_law_2585 : decode cL_law 2585 = .ok (.ireturn, 1) := by decide +kernel
theorem dL_law_2586 : decode cL_law 2586 = .ok (.goto 372, 3) := by decide +kernel
theorem dL_law_2589 : decode cL_law 2589 = .ok (.aload_n 1, 1) := by decide +kernel
theorem dL_law_2590 : decode cL_law 2590 = .ok (.aload_n 0, 1) := by decide +kernel
theorem dL_law_2591 : decode cL_law 2591 = .ok (.iload 4, 2) := by decide +kernel
theorem dL_law_2593 : decode cL_law 2593 = .ok (.iconst 1, 1) := by decide +kernel
theorem dL_law_2594 : decode cL_law 2594 = .ok (.iadd, 1) := by decide +kernel
theorem dL_law_2595 : decode cL_law 2595 = .ok (.iaload, 1) := by decide +kernel
theorem dL_law_2596 : decode cL_law 2596 = .ok (.aload_n 0, 1) := by decide +kernel
theorem dL_law_2597 : decode cL_law 2597 = .ok (.iload 4, 2) := by decide +kernel
theorem dL_law_2599 : decode cL_law 2599 = .ok (.iconst 2, 1) := by decide +kernel
theorem dL_law_2600 : decode cL_law 2600 = .ok (.iadd, 1) := by decide +kernel
theorem dL_law_2601 : decode cL_law 2601 = .ok (.iaload, 1) := by decide +kernel
theorem dL_law_2602 : decode cL_law 2602 = .ok (.aload_n 3, 1) := by decide +kernel
theorem dL_law_2603 : decode cL_law 2603 = .ok (.invokestatic 320, 3) := by decide +kernel
theorem dL_law_2606 : decode cL_law 2606 = .ok (.istore 5, 2) := by decide +kernel
theorem dL_law_2608 : decode cL_law 2608 = .ok (.aload_n 2, 1) := by decide +kernel
theorem dL_law_2609 : decode cL_law 2609 = .ok (.aload_n 0, 1) := by decide +kernel
theorem dL_law_2610 : decode cL_law 2610 = .ok (.iload 4, 2) := by decide +kernel
theorem dL_law_2612 : decode cL_law 2612 = .ok (.iconst 1, 1) := by decide +kernel
theorem dL_law_2613 : decode cL_law 2613 = .ok (.iadd, 1) := by decide +kernel
theorem dL_law_2614 : decode cL_law 2614 = .ok (.iaload, 1) := by decide +kernel
theorem dL_law_2615 : decode cL_law 2615 = .ok (.aload_n 0, 1) := by decide +kernel
theorem dL_law_2616 : decode cL_law 2616 = .ok (.iload 4, 2) := by decide +kernel
theorem dL_law_2618 : decode cL_law 2618 = .ok (.iconst 2, 1) := by decide +kernel
theorem dL_law_2619 : decode cL_law 2619 = .ok (.iadd, 1) := by decide +kernel
theorem dL_law_2620 : decode cL_law 2620 = .ok (.iaload, 1) := by decide +kernel
theorem dL_law_2621 : decode cL_law 2621 = .ok (.invokevirtual 322, 3) := by decide +kernel
theorem dL_law_2624 : decode cL_law 2624 = .ok (.istore 6, 2) := by decide +kernel
theorem dL_law_2626 : decode cL_law 2626 = .ok (.aload_n 2, 1) := by decide +kernel
theorem dL_law_2627 : decode cL_law 2627 = .ok (.invokevirtual 136, 3) := by decide +kernel
theorem dL_law_2630 : decode cL_law 2630 = .ok (.iload 5, 2) := by decide +kernel
theorem dL_law_2632 : decode cL_law 2632 = .ok (.if_icmp .eq 5, 3) := by decide +kernel
theorem dL_law_2635 : decode cL_law 2635 = .ok (.iconst 0, 1) := by decide +kernel
theorem dL_law_2636 : decode cL_law 2636 = .ok (.ireturn, 1) := by decide +kernel
theorem dL_law_2637 : decode cL_law 2637 = .ok (.iload 5, 2) := by decide +kernel
theorem dL_law_2639 : decode cL_law 2639 = .ok (.ifCond .ne 15, 3) := by decide +kernel
theorem dL_law_2642 : decode cL_law 2642 = .ok (.aload_n 3, 1) := by decide +kernel
theorem dL_law_2643 : decode cL_law 2643 = .ok (.iconst 0, 1) := by decide +kernel
theorem dL_law_2644 : decode cL_law 2644 = .ok (.laload, 1) := by decide +kernel
theorem dL_law_2645 : decode cL_law 2645 = .ok (.iload 6, 2) := by decide +kernel
theorem dL_law_2647 : decode cL_law 2647 = .ok (.i2l, 1) := by decide +kernel
theorem dL_law_2648 : decode cL_law 2648 = .ok (.lcmp, 1) := by decide +kernel
theorem dL_law_2649 : decode cL_law 2649 = .ok (.ifCond .eq 5, 3) := by decide +kernel
theorem dL_law_2652 : decode cL_law 2652 = .ok (.iconst 0, 1) := by decide +kernel
theorem dL_law_2653 : decode cL_law 2653 = .ok (.ireturn, 1) := by decide +kernel
theorem dL_law_2654 : decode cL_law 2654 = .ok (.goto 304, 3) := by decide +kernel
theorem dL_law_2657 : decode cL_law 2657 = .ok (.aload_n 1, 1) := by decide +kernel
theorem dL_law_2658 : decode cL_law 2658 = .ok (.aload_n 0, 1) := by decide +kernel
theorem dL_law_2659 : decode cL_law 2659 = .ok (.iload 4, 2) := by decide +kernel
theorem dL_law_2661 : decode cL_law 2661 = .ok (.iconst 1, 1) := by decide +kernel
theorem dL_law_2662 : decode cL_law 2662 = .ok (.iadd, 1) := by decide +kernel
theorem dL_law_2663 : decode cL_law 2663 = .ok (.iaload, 1) := by decide +kernel
theorem dL_law_2664 : decode cL_law 2664 = .ok (.aload_n 0, 1) := by decide +kernel
theorem dL_law_2665 : decode cL_law 2665 = .ok (.iload 4, 2) := by decide +kernel
theorem dL_law_2667 : decode cL_law 2667 = .ok (.iconst 2, 1) := by decide +kernel
theorem dL_law_2668 : decode cL_law 2668 = .ok (.iadd, 1) := by decide +kernel
theorem dL_law_2669 : decode cL_law 2669 = .ok (.iaload, 1) := by decide +kernel
theorem dL_law_2670 : decode cL_law 2670 = .ok (.aload_n 3, 1) := by decide +kernel
theorem dL_law_2671 : decode cL_law 2671 = .ok (.invokestatic 323, 3) := by decide +kernel
theorem dL_law_2674 : decode cL_law 2674 = .ok (.istore 5, 2) := by decide +kernel
theorem dL_law_2676 : decode cL_law 2676 = .ok (.aload_n 2, 1) := by decide +kernel
theorem dL_law_2677 : decode cL_law 2677 = .ok (.aload_n 0, 1) := by decide +kernel
theorem dL_law_2678 : decode cL_law 2678 = .ok (.iload 4, 2) := by decide +kernel
theorem dL_law_2680 : decode cL_law 2680 = .ok (.iconst 1, 1) := by decide +kernel
theorem dL_law_2681 : decode cL_law 2681 = .ok (.iadd, 1) := by decide +kernel
theorem dL_law_2682 : decode cL_law 2682 = .ok (.iaload, 1) := by decide +kernel
theorem dL_law_2683 : decode cL_law 2683 = .ok (.aload_n 0, 1) := by decide +kernel
theorem dL_law_2684 : decode cL_law 2684 = .ok (.iload 4, 2) := by decide +kernel
theorem dL_law_2686 : decode cL_law 2686 = .ok (.iconst 2, 1) := by decide +kernel
theorem dL_law_2687 : decode cL_law 2687 = .ok (.iadd, 1) := by decide +kernel
theorem dL_law_2688 : decode cL_law 2688 = .ok (.iaload, 1) := by decide +kernel
theorem dL_law_2689 : decode cL_law 2689 = .ok (.invokevirtual 325, 3) := by decide +kernel
theorem dL_law_2692 : decode cL_law 2692 = .ok (.istore 6, 2) := by decide +kernel
theorem dL_law_2694 : decode cL_law 2694 = .ok (.aload_n 2, 1) := by decide +kernel
theorem dL_law_2695 : decode cL_law 2695 = .ok (.invokevirtual 136, 3) := by decide +kernel
theorem dL_law_2698 : decode cL_law 2698 = .ok (.iload 5, 2) := by decide +kernel
theorem dL_law_2700 : decode cL_law 2700 = .ok (.if_icmp .eq 5, 3) := by decide +kernel
theorem dL_law_2703 : decode cL_law 2703 = .ok (.iconst 0, 1) := by decide +kernel
theorem dL_law_2704 : decode cL_law 2704 = .ok (.ireturn, 1) := by decide +kernel
theorem dL_law_2705 : decode cL_law 2705 = .ok (.iload 5, 2) := by decide +kernel
theorem dL_law_2707 : decode cL_law 2707 = .ok (.ifCond .ne 15, 3) := by decide +kernel
theorem dL_law_2710 : decode cL_law 2710 = .ok (.aload_n 3, 1) := by decide +kernel
theorem dL_law_2711 : decode cL_law 2711 = .ok (.iconst 0, 1) := by decide +kernel
theorem dL_law_2712 : decode cL_law 2712 = .ok (.laload, 1) := by decide +kernel
theorem dL_law_2713 : decode cL_law 2713 = .ok (.iload 6, 2) := by decide +kernel
theorem dL_law_2715 : decode cL_law 2715 = .ok (.i2l, 1) := by decide +kernel
theorem dL_law_2716 : decode cL_law 2716 = .ok (.lcmp, 1) := by decide +kernel
theorem dL_law_2717 : decode cL_law 2717 = .ok (.ifCond .eq 5, 3) := by decide +kernel
theorem dL_law_2720 : decode cL_law 2720 = .ok (.iconst 0, 1) := by decide +kernel
theorem dL_law_2721 : decode cL_law 2721 = .ok (.ireturn, 1) := by decide +kernel
theorem dL_law_2722 : decode cL_law 2722 = .ok (.goto 236, 3) := by decide +kernel
theorem dL_law_2725 : decode cL_law 2725 = .ok (.aload_n 1, 1) := by decide +kernel
theorem dL_law_2726 : decode cL_law 2726 = .ok (.aload_n 0, 1) := by decide +kernel
theorem dL_law_2727 : decode cL_law 2727 = .ok (.iload 4, 2) := by decide +kernel
theorem dL_law_2729 : decode cL_law 2729 = .ok (.iconst 1, 1) := by decide +kernel
theorem dL_law_2730 : decode cL_law 2730 = .ok (.iadd, 1) := by decide +kernel
theorem dL_law_2731 : decode cL_law 2731 = .ok (.iaload, 1) := by decide +kernel
theorem dL_law_2732 : decode cL_law 2732 = .ok (.aload_n 3, 1) := by decide +kernel
theorem dL_law_2733 : decode cL_law 2733 = .ok (.invokestatic 326, 3) := by decide +kernel
theorem dL_law_2736 : decode cL_law 2736 = .ok (.istore 5, 2) := by decide +kernel
theorem dL_law_2738 : decode cL_law 2738 = .ok (.aload_n 2, 1) := by decide +kernel
theorem dL_law_2739 : decode cL_law 2739 = .ok (.aload_n 0, 1) := by decide +kernel
theorem dL_law_2740 : decode cL_law 2740 = .ok (.iload 4, 2) := by decide +kernel
theorem dL_law_2742 : decode cL_law 2742 = .ok (.iconst 1, 1) := by decide +kernel
theorem dL_law_2743 : decode cL_law 2743 = .ok (.iadd, 1) := by decide +kernel
theorem dL_law_2744 : decode cL_law 2744 = .ok (.iaload, 1) := by decide +kernel
theorem dL_law_2745 : decode cL_law 2745 = .ok (.invokevirtual 328, 3) := by decide +kernel
theorem dL_law_2748 : decode cL_law 2748 = .ok (.istore 6, 2) := by decide +kernel
theorem dL_law_2750 : decode cL_law 2750 = .ok (.aload_n 2, 1) := by decide +kernel
theorem dL_law_2751 : decode cL_law 2751 = .ok (.invokevirtual 136, 3) := by decide +kernel
theorem dL_law_2754 : decode cL_law 2754 = .ok (.iload 5, 2) := by decide +kernel
theorem dL_law_2756 : decode cL_law 2756 = .ok (.if_icmp .eq 5, 3) := by decide +kernel
theorem dL_law_2759 : decode cL_law 2759 = .ok (.iconst 0, 1) := by decide +kernel
theorem dL_law_2760 : decode cL_law 2760 = .ok (.ireturn, 1) := by decide +kernel
theorem dL_law_2761 : decode cL_law 2761 = .ok (.iload 5, 2) := by decide +kernel
theorem dL_law_2763 : decode cL_law 2763 = .ok (.ifCond .ne 15, 3) := by decide +kernel
theorem dL_law_2766 : decode cL_law 2766 = .ok (.aload_n 3, 1) := by decide +kernel
theorem dL_law_2767 : decode cL_law 2767 = .ok (.iconst 0, 1) := by decide +kernel
theorem dL_law_2768 : decode cL_law 2768 = .ok (.laload, 1) := by decide +kernel
theorem dL_law_2769 : decode cL_law 2769 = .ok (.iload 6, 2) := by decide +kernel
theorem dL_law_2771 : decode cL_law 2771 = .ok (.i2l, 1) := by decide +kernel
theorem dL_law_2772 : decode cL_law 2772 = .ok (.lcmp, 1) := by decide +kernel
theorem dL_law_2773 : decode cL_law 2773 = .ok (.ifCond .eq 5, 3) := by decide +kernel
theorem dL_law_2776 : decode cL_law 2776 = .ok (.iconst 0, 1) := by decide +kernel
theorem dL_law_2777 : decode cL_law 2777 = .ok (.ireturn, 1) := by decide +kernel
theorem dL_law_2778 : decode cL_law 2778 = .ok (.goto 180, 3) := by decide +kernel
theorem dL_law_2781 : decode cL_law 2781 = .ok (.aload_n 1, 1) := by decide +kernel
theorem dL_law_2782 : decode cL_law 2782 = .ok (.invokevirtual 329, 3) := by decide +kernel
theorem dL_law_2785 : decode cL_law 2785 = .ok (.aload_n 2, 1) := by decide +kernel
theorem dL_law_2786 : decode cL_law 2786 = .ok (.invokevirtual 332, 3) := by decide +kernel
theorem dL_law_2789 : decode cL_law 2789 = .ok (.if_icmp .eq 169, 3) := by decide +kernel
theorem dL_law_2792 : decode cL_law 2792 = .ok (.iconst 0, 1) := by decide +kernel
theorem dL_law_2793 : decode cL_law 2793 = .ok (.ireturn, 1) := by decide +kernel
theorem dL_law_2794 : decode cL_law 2794 = .ok (.aload_n 1, 1) := by decide +kernel
theorem dL_law_2795 : decode cL_law 2795 = .ok (.aload_n 0, 1) := by decide +kernel
theorem dL_law_2796 : decode cL_law 2796 = .ok (.iload 4, 2) := by decide +kernel
theorem dL_law_2798 : decode cL_law 2798 = .ok (.iconst 1, 1) := by decide +kernel
theorem dL_law_2799 : decode cL_law 2799 = .ok (.iadd, 1) := by decide +kernel
theorem dL_law_2800 : decode cL_law 2800 = .ok (.iaload, 1) := by decide +kernel
theorem dL_law_2801 : decode cL_law 2801 = .ok (.aload_n 3, 1) := by decide +kernel
theorem dL_law_2802 : decode cL_law 2802 = .ok (.invokestatic 333, 3) := by decide +kernel
theorem dL_law_2805 : decode cL_law 2805 = .ok (.istore 5, 2) := by decide +kernel
theorem dL_law_2807 : decode cL_law 2807 = .ok (.aload_n 2, 1) := by decide +kernel
theorem dL_law_2808 : decode cL_law 2808 = .ok (.aload_n 0, 1) := by decide +kernel
theorem dL_law_2809 : decode cL_law 2809 = .ok (.iload 4, 2) := by decide +kernel
theorem dL_law_2811 : decode cL_law 2811 = .ok (.iconst 1, 1) := by decide +kernel
theorem dL_law_2812 : decode cL_law 2812 = .ok (.iadd, 1) := by decide +kernel
theorem dL_law_2813 : decode cL_law 2813 = .ok (.iaload, 1) := by decide +kernel
theorem dL_law_2814 : decode cL_law 2814 = .ok (.invokevirtual 335, 3) := by decide +kernel
theorem dL_law_2817 : decode cL_law 2817 = .ok (.istore 6, 2) := by decide +kernel
theorem dL_law_2819 : decode cL_law 2819 = .ok (.aload_n 2, 1) := by decide +kernel
theorem dL_law_2820 : decode cL_law 2820 = .ok (.invokevirtual 136, 3) := by decide +kernel
theorem dL_law_2823 : decode cL_law 2823 = .ok (.iload 5, 2) := by decide +kernel
theorem dL_law_2825 : decode cL_law 2825 = .ok (.if_icmp .eq 5, 3) := by decide +kernel
theorem dL_law_2828 : decode cL_law 2828 = .ok (.iconst 0, 1) := by decide +kernel
theorem dL_law_2829 : decode cL_law 2829 = .ok (.ireturn, 1) := by decide +kernel
theorem dL_law_2830 : decode cL_law 2830 = .ok (.iload 5, 2) := by decide +kernel
theorem dL_law_2832 : decode cL_law 2832 = .ok (.ifCond .ne 15, 3) := by decide +kernel
theorem dL_law_2835 : decode cL_law 2835 = .ok (.aload_n 3, 1) := by decide +kernel
theorem dL_law_2836 : decode cL_law 2836 = .ok (.iconst 0, 1) := by decide +kernel
theorem dL_law_2837 : decode cL_law 2837 = .ok (.laload, 1) := by decide +kernel
theorem dL_law_2838 : decode cL_law 2838 = .ok (.iload 6, 2) := by decide +kernel
theorem dL_law_2840 : decode cL_law 2840 = .ok (.i2l, 1) := by decide +kernel
theorem dL_law_2841 : decode cL_law 2841 = .ok (.lcmp, 1) := by decide +kernel
theorem dL_law_2842 : decode cL_law 2842 = .ok (.ifCond .eq 5, 3) := by decide +kernel
theorem dL_law_2845 : decode cL_law 2845 = .ok (.iconst 0, 1) := by decide +kernel
theorem dL_law_2846 : decode cL_law 2846 = .ok (.ireturn, 1) := by decide +kernel
theorem dL_law_2847 : decode cL_law 2847 = .ok (.goto 111, 3) := by decide +kernel
theorem dL_law_2850 : decode cL_law 2850 = .ok (.aload_n 1, 1) := by decide +kernel
theorem dL_law_2851 : decode cL_law 2851 = .ok (.aload_n 0, 1) := by decide +kernel
theorem dL_law_2852 : decode cL_law 2852 = .ok (.iload 4, 2) := by decide +kernel
theorem dL_law_2854 : decode cL_law 2854 = .ok (.iconst 1, 1) := by decide +kernel
theorem dL_law_2855 : decode cL_law 2855 = .ok (.iadd, 1) := by decide +kernel
theorem dL_law_2856 : decode cL_law 2856 = .ok (.iaload, 1) := by decide +kernel
theorem dL_law_2857 : decode cL_law 2857 = .ok (.invokevirtual 336, 3) := by decide +kernel
theorem dL_law_2860 : decode cL_law 2860 = .ok (.aload_n 2, 1) := by decide +kernel
theorem dL_law_2861 : decode cL_law 2861 = .ok (.aload_n 0, 1) := by decide +kernel
theorem dL_law_2862 : decode cL_law 2862 = .ok (.iload 4, 2) := by decide +kernel
theorem dL_law_2864 : decode cL_law 2864 = .ok (.iconst 1, 1) := by decide +kernel
theorem dL_law_2865 : decode cL_law 2865 = .ok (.iadd, 1) := by decide +kernel
theorem dL_law_2866 : decode cL_law 2866 = .ok (.iaload, 1) := by decide +kernel
theorem dL_law_2867 : decode cL_law 2867 = .ok (.invokevirtual 339, 3) := by decide +kernel
theorem dL_law_2870 : decode cL_law 2870 = .ok (.if_icmp .eq 88, 3) := by decide +kernel
theorem dL_law_2873 : decode cL_law 2873 = .ok (.iconst 0, 1) := by decide +kernel
theorem dL_law_2874 : decode cL_law 2874 = .ok (.ireturn, 1) := by decide +kernel
theorem dL_law_2875 : decode cL_law 2875 = .ok (.aload_n 1, 1) := by decide +kernel
theorem dL_law_2876 : decode cL_law 2876 = .ok (.invokevirtual 340, 3) := by decide +kernel
theorem dL_law_2879 : decode cL_law 2879 = .ok (.aload_n 2, 1) := by decide +kernel
theorem dL_law_2880 : decode cL_law 2880 = .ok (.invokevirtual 343, 3) := by decide +kernel
theorem dL_law_2883 : decode cL_law 2883 = .ok (.if_icmp .eq 75, 3) := by decide +kernel
theorem dL_law_2886 : decode cL_law 2886 = .ok (.iconst 0, 1) := by decide +kernel
theorem dL_law_2887 : decode cL_law 2887 = .ok (.ireturn, 1) := by decide +kernel
theorem dL_law_2888 : decode cL_law 2888 = .ok (.aload_n 1, 1) := by decide +kernel
theorem dL_law_2889 : decode cL_law 2889 = .ok (.invokevirtual 344, 3) := by decide +kernel
theorem dL_law_2892 : decode cL_law 2892 = .ok (.aload_n 2, 1) := by decide +kernel
theorem dL_law_2893 : decode cL_law 2893 = .ok (.invokevirtual 347, 3) := by decide +kernel
theorem dL_law_2896 : decode cL_law 2896 = .ok (.if_icmp .eq 62, 3) := by decide +kernel
theorem dL_law_2899 : decode cL_law 2899 = .ok (.iconst 0, 1) := by decide +kernel
theorem dL_law_2900 : decode cL_law 2900 = .ok (.ireturn, 1) := by decide +kernel
theorem dL_law_2901 : decode cL_law 2901 = .ok (.aload_n 1, 1) := by decide +kernel
theorem dL_law_2902 : decode cL_law 2902 = .ok (.invokevirtual 348, 3) := by decide +kernel
theorem dL_law_2905 : decode cL_law 2905 = .ok (.aload_n 2, 1) := by decide +kernel
theorem dL_law_2906 : decode cL_law 2906 = .ok (.invokevirtual 351, 3) := by decide +kernel
theorem dL_law_2909 : decode cL_law 2909 = .ok (.if_icmp .eq 49, 3) := by decide +kernel
theorem dL_law_2912 : decode cL_law 2912 = .ok (.iconst 0, 1) := by decide +kernel
theorem dL_law_2913 : decode cL_law 2913 = .ok (.ireturn, 1) := by decide +kernel
theorem dL_law_2914 : decode cL_law 2914 = .ok (.aload_n 1, 1) := by decide +kernel
theorem dL_law_2915 : decode cL_law 2915 = .ok (.aload_n 3, 1) := by decide +kernel
theorem dL_law_2916 : decode cL_law 2916 = .ok (.invokestatic 352, 3) := by decide +kernel
theorem dL_law_2919 : decode cL_law 2919 = .ok (.istore 5, 2) := by decide +kernel
theorem dL_law_2921 : decode cL_law 2921 = .ok (.aload_n 2, 1) := by decide +kernel
theorem dL_law_2922 : decode cL_law 2922 = .ok (.invokevirtual 355, 3) := by decide +kernel
theorem dL_law_2925 : decode cL_law 2925 = .ok (.istore 6, 2) := by decide +kernel
theorem dL_law_2927 : decode cL_law 2927 = .ok (.aload_n 2, 1) := by decide +kernel
theorem dL_law_2928 : decode cL_law 2928 = .ok (.invokevirtual 136, 3) := by decide +kernel
theorem dL_law_2931 : decode cL_law 2931 = .ok (.iload 5, 2) := by decide +kernel
theorem dL_law_2933 : decode cL_law 2933 = .ok (.if_icmp .eq 5, 3) := by decide +kernel
theorem dL_law_2936 : decode cL_law 2936 = .ok (.iconst 0, 1) := by decide +kernel
theorem dL_law_2937 : decode cL_law 2937 = .ok (.ireturn, 1) := by decide +kernel
theorem dL_law_2938 : decode cL_law 2938 = .ok (.iload 5, 2) := by decide +kernel
theorem dL_law_2940 : decode cL_law 2940 = .ok (.ifCond .ne 15, 3) := by decide +kernel
theorem dL_law_2943 : decode cL_law 2943 = .ok (.aload_n 3, 1) := by decide +kernel
theorem dL_law_2944 : decode cL_law 2944 = .ok (.iconst 0, 1) := by decide +kernel
theorem dL_law_2945 : decode cL_law 2945 = .ok (.laload, 1) := by decide +kernel
theorem dL_law_2946 : decode cL_law 2946 = .ok (.iload 6, 2) := by decide +kernel
theorem dL_law_2948 : decode cL_law 2948 = .ok (.i2l, 1) := by decide +kernel
theorem dL_law_2949 : decode cL_law 2949 = .ok (.lcmp, 1) := by decide +kernel
theorem dL_law_2950 : decode cL_law 2950 = .ok (.ifCond .eq 5, 3) := by decide +kernel
theorem dL_law_2953 : decode cL_law 2953 = .ok (.iconst 0, 1) := by decide +kernel
theorem dL_law_2954 : decode cL_law 2954 = .ok (.ireturn, 1) := by decide +kernel
theorem dL_law_2955 : decode cL_law 2955 = .ok (.goto 3, 3) := by decide +kernel
theorem dL_law_2958 : decode cL_law 2958 = .ok (.iinc 4 6, 3) := by decide +kernel
theorem dL_law_2961 : decode cL_law 2961 = .ok (.goto (-2938), 3) := by decide +kernel
theorem dL_law_2964 : decode cL_law 2964 = .ok (.iconst 1, 1) := by decide +kernel
theorem dL_law_2965 : decode cL_law 2965 = .ok (.ireturn, 1) := by decide +kernel
