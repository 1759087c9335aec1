theorem dX5_chargeOrEvict_7 : decode cX5_chargeOrEvict 7 = .ok (.iload_n 1, 1) := by decide +kernel
theorem dX5_chargeOrEvict_8 : decode cX5_chargeOrEvict 8 = .ok (.invokevirtual 68, 3) := by decide +kernel
theorem dX5_chargeOrEvict_11 : decode cX5_chargeOrEvict 11 = .ok (.ifCond .eq 8, 3) := by decide +kernel
theorem dX5_chargeOrEvict_14 : decode cX5_chargeOrEvict 14 = .ok (.iload_n 2, 1) := by decide +kernel
theorem dX5_chargeOrEvict_15 : decode cX5_chargeOrEvict 15 = .ok (.iconst (-1), 1) := by decide +kernel
theorem dX5_chargeOrEvict_16 : decode cX5_chargeOrEvict 16 = .ok (.if_icmp .ne 4, 3) := by decide +kernel
theorem dX5_chargeOrEvict_19 : decode cX5_chargeOrEvict 19 = .ok (.return_, 1) := by decide +kernel
theorem dX5_chargeOrEvict_20 : decode cX5_chargeOrEvict 20 = .ok (.aload_n 0, 1) := by decide +kernel
theorem dX5_chargeOrEvict_21 : decode cX5_chargeOrEvict 21 = .ok (.iload_n 2, 1) := by decide +kernel
theorem dX5_chargeOrEvict_22 : decode cX5_chargeOrEvict 22 = .ok (.invokevirtual 86, 3) := by decide +kernel
theorem dX5_chargeOrEvict_25 : decode cX5_chargeOrEvict 25 = .ok (.istore_n 3, 1) := by decide +kernel
theorem dX5_chargeOrEvict_26 : decode cX5_chargeOrEvict 26 = .ok (.aload_n 0, 1) := by decide +kernel
theorem dX5_chargeOrEvict_27 : decode cX5_chargeOrEvict 27 = .ok (.getfield 43, 3) := by decide +kernel
theorem dX5_chargeOrEvict_30 : decode cX5_chargeOrEvict 30 = .ok (.iload_n 1, 1) := by decide +kernel
theorem dX5_chargeOrEvict_31 : decode cX5_chargeOrEvict 31 = .ok (.iaload, 1) := by decide +kernel
theorem dX5_chargeOrEvict_32 : decode cX5_chargeOrEvict 32 = .ok (.iload_n 3, 1) := by decide +kernel
theorem dX5_chargeOrEvict_33 : decode cX5_chargeOrEvict 33 = .ok (.if_icmp .lt 26, 3) := by decide +kernel
theorem dX5_chargeOrEvict_36 : decode cX5_chargeOrEvict 36 = .ok (.aload_n 0, 1) := by decide +kernel
theorem dX5_chargeOrEvict_37 : decode cX5_chargeOrEvict 37 = .ok (.getfield 43, 3) := by decide +kernel
theorem dX5_chargeOrEvict_40 : decode cX5_chargeOrEvict 40 = .ok (.iload_n 1, 1) := by decide +kernel
theorem dX5_chargeOrEvict_41 : decode cX5_chargeOrEvict 41 = .ok (.dup2, 1) := by decide +kernel
theorem dX5_chargeOrEvict_42 : decode cX5_chargeOrEvict 42 = .ok (.iaload, 1) := by decide +kernel
theorem dX5_chargeOrEvict_43 : decode cX5_chargeOrEvict 43 = .ok (.iload_n 3, 1) := by decide +kernel
theorem dX5_chargeOrEvict_44 : decode cX5_chargeOrEvict 44 = .ok (.isub, 1) := by decide +kernel
theorem dX5_chargeOrEvict_45 : decode cX5_chargeOrEvict 45 = .ok (.iastore, 1) := by decide +kernel
theorem dX5_chargeOrEvict_46 : decode cX5_chargeOrEvict 46 = .ok (.aload_n 0, 1) := by decide +kernel
theorem dX5_chargeOrEvict_47 : decode cX5_chargeOrEvict 47 = .ok (.dup, 1) := by decide +kernel
theorem dX5_chargeOrEvict_48 : decode cX5_chargeOrEvict 48 = .ok (.getfield 21, 3) := by decide +kernel
theorem dX5_chargeOrEvict_51 : decode cX5_chargeOrEvict 51 = .ok (.iload_n 3, 1) := by decide +kernel
theorem dX5_chargeOrEvict_52 : decode cX5_chargeOrEvict 52 = .ok (.iadd, 1) := by decide +kernel
theorem dX5_chargeOrEvict_53 : decode cX5_chargeOrEvict 53 = .ok (.putfield 21, 3) := by decide +kernel
theorem dX5_chargeOrEvict_56 : decode cX5_chargeOrEvict 56 = .ok (.goto 20, 3) := by decide +kernel
theorem dX5_chargeOrEvict_59 : decode cX5_chargeOrEvict 59 = .ok (.aload_n 0, 1) := by decide +kernel
theorem dX5_chargeOrEvict_60 : decode cX5_chargeOrEvict 60 = .ok (.getfield 50, 3) := by decide +kernel
theorem dX5_chargeOrEvict_63 : decode cX5_chargeOrEvict 63 = .ok (.iload_n 1, 1) := by decide +kernel
theorem dX5_chargeOrEvict_64 : decode cX5_chargeOrEvict 64 = .ok (.iconst (-1), 1) := by decide +kernel
theorem dX5_chargeOrEvict_65 : decode cX5_chargeOrEvict 65 = .ok (.iastore, 1) := by decide +kernel
theorem dX5_chargeOrEvict_66 : decode cX5_chargeOrEvict 66 = .ok (.aload_n 0, 1) := by decide +kernel
theorem dX5_chargeOrEvict_67 : decode cX5_chargeOrEvict 67 = .ok (.dup, 1) := by decide +kernel
theorem dX5_chargeOrEvict_68 : decode cX5_chargeOrEvict 68 = .ok (.getfield 24, 3) := by decide +kernel
theorem dX5_chargeOrEvict_71 : decode cX5_chargeOrEvict 71 = .ok (.iconst 1, 1) := by decide +kernel
theorem dX5_chargeOrEvict_72 : decode cX5_chargeOrEvict 72 = .ok (.iadd, 1) := by decide +kernel
theorem dX5_chargeOrEvict_73 : decode cX5_chargeOrEvict 73 = .ok (.putfield 24, 3) := by decide +kernel
theorem dX5_chargeOrEvict_76 : decode cX5_chargeOrEvict 76 = .ok (.return_, 1) := by decide +kernel
theorem dX6_init_0 : decode cX6_init 0 = .ok (.aload_n 0, 1) := by decide +kernel
theorem dX6_init_1 : decode cX6_init 1 = .ok (.invokespecial 3, 3) := by decide +kernel
theorem dX6_init_4 : decode cX6_init 4 = .ok (.aload_n 0, 1) := by decide +kernel
theorem dX6_init_5 : decode cX6_init 5 = .ok (.sipush 256, 3) := by decide +kernel
theorem dX6_init_8 : decode cX6_init 8 = .ok (.newarray .int, 2) := by decide +kernel
theorem dX6_init_10 : decode cX6_init 10 = .ok (.putfield 9, 3) := by decide +kernel
theorem dX6_init_13 : decode cX6_init 13 = .ok (.aload_n 0, 1) := by decide +kernel
theorem dX6_init_14 : decode cX6_init 14 = .ok (.iconst 0, 1) := by decide +kernel
theorem dX6_init_15 : decode cX6_init 15 = .ok (.putfield 15, 3) := by decide +kernel
theorem dX6_init_18 : decode cX6_init 18 = .ok (.aload_n 0, 1) := by decide +kernel
theorem dX6_init_19 : decode cX6_init 19 = .ok (.iconst 0, 1) := by decide +kernel
theorem dX6_init_20 : decode cX6_init 20 = .ok (.putfield 19, 3) := by decide +kernel
theorem dX6_init_23 : decode cX6_init 23 = .ok (.return_, 1) := by decide +kernel
theorem dX7_init_0 : decode cX7_init 0 = .ok (.aload_n 0, 1) := by decide +kernel
theorem dX7_init_1 : decode cX7_init 1 = .ok (.invokespecial 3, 3) := by decide +kernel
theorem dX7_init_4 : decode cX7_init 4 = .ok (.aload_n 0, 1) := by decide +kernel
theorem dX7_init_5 : decode cX7_init 5 = .ok (.new 9, 3) := by decide +kernel
theorem dX7_init_8 : decode cX7_init 8 = .ok (.dup, 1) := by decide +kernel
theorem dX7_init_9 : decode cX7_init 9 = .ok (.invokespecial 11, 3) := by decide +kernel
theorem dX7_init_12 : decode cX7_init 12 = .ok (.putfield 12, 3) := by decide +kernel
theorem dX7_init_15 : decode cX7_init 15 = .ok (.aload_n 0, 1) := by decide +kernel
theorem dX7_init_16 : decode cX7_init 16 = .ok (.iconst 0, 1) := by decide +kernel
theorem dX7_init_17 : decode cX7_init 17 = .ok (.putfield 18, 3) := by decide +kernel
theorem dX7_init_20 : decode cX7_init 20 = .ok (.aload_n 0, 1) := by decide +kernel
theorem dX7_init_21 : decode cX7_init 21 = .ok (.iconst (-1), 1) := by decide +kernel
theorem dX7_init_22 : decode cX7_init 22 = .ok (.putfield 22, 3) := by decide +kernel
theorem dX7_init_25 : decode cX7_init 25 = .ok (.return_, 1) := by decide +kernel
theorem dX7_begin_0 : decode cX7_begin 0 = .ok (.aload_n 0, 1) := by decide +kernel
theorem dX7_begin_1 : decode cX7_begin 1 = .ok (.iconst 0, 1) := by decide +kernel
theorem dX7_begin_2 : decode cX7_begin 2 = .ok (.putfield 18, 3) := by decide +kernel
theorem dX7_begin_5 : decode cX7_begin 5 = .ok (.aload_n 0, 1) := by decide +kernel
theorem dX7_begin_6 : decode cX7_begin 6 = .ok (.iconst (-1), 1) := by decide +kernel
theorem dX7_begin_7 : decode cX7_begin 7 = .ok (.putfield 22, 3) := by decide +kernel
theorem dX7_begin_10 : decode cX7_begin 10 = .ok (.aload_n 0, 1) := by decide +kernel
theorem dX7_begin_11 : decode cX7_begin 11 = .ok (.getfield 12, 3) := by decide +kernel
theorem dX7_begin_14 : decode cX7_begin 14 = .ok (.invokevirtual 25, 3) := by decide +kernel
theorem dX7_begin_17 : decode cX7_begin 17 = .ok (.return_, 1) := by decide +kernel
theorem dX7_fail_0 : decode cX7_fail 0 = .ok (.aload_n 0, 1) := by decide +kernel
theorem dX7_fail_1 : decode cX7_fail 1 = .ok (.iload_n 1, 1) := by decide +kernel
theorem dX7_fail_2 : decode cX7_fail 2 = .ok (.putfield 18, 3) := by decide +kernel
theorem dX7_fail_5 : decode cX7_fail 5 = .ok (.aload_n 0, 1) := by decide +kernel
theorem dX7_fail_6 : decode cX7_fail 6 = .ok (.aload_n 0, 1) := by decide +kernel
theorem dX7_fail_7 : decode cX7_fail 7 = .ok (.getfield 12, 3) := by decide +kernel
theorem dX7_fail_10 : decode cX7_fail 10 = .ok (.getfield 28, 3) := by decide +kernel
theorem dX7_fail_13 : decode cX7_fail 13 = .ok (.putfield 22, 3) := by decide +kernel
theorem dX7_fail_16 : decode cX7_fail 16 = .ok (.iconst 0, 1) := by decide +kernel
theorem dX7_fail_17 : decode cX7_fail 17 = .ok (.ireturn, 1) := by decide +kernel
theorem dX7_takeWord_0 : decode cX7_takeWord 0 = .ok (.aload_n 0, 1) := by decide +kernel
theorem dX7_takeWord_1 : decode cX7_takeWord 1 = .ok (.getfield 12, 3) := by decide +kernel
theorem dX7_takeWord_4 : decode cX7_takeWord 4 = .ok (.aload_n 1, 1) := by decide +kernel
theorem dX7_takeWord_5 : decode cX7_takeWord 5 = .ok (.invokevirtual 31, 3) := by decide +kernel
theorem dX7_takeWord_8 : decode cX7_takeWord 8 = .ok (.ifCond .ne 9, 3) := by decide +kernel
theorem dX7_takeWord_11 : decode cX7_takeWord 11 = .ok (.aload_n 0, 1) := by decide +kernel
theorem dX7_takeWord_12 : decode cX7_takeWord 12 = .ok (.iconst 1, 1) := by decide +kernel
theorem dX7_takeWord_13 : decode cX7_takeWord 13 = .ok (.invokevirtual 35, 3) := by decide +kernel
theorem dX7_takeWord_16 : decode cX7_takeWord 16 = .ok (.ireturn, 1) := by decide +kernel
theorem dX7_takeWord_17 : decode cX7_takeWord 17 = .ok (.aload_n 0, 1) := by decide +kernel
theorem dX7_takeWord_18 : decode cX7_takeWord 18 = .ok (.getfield 12, 3) := by decide +kernel
theorem dX7_takeWord_21 : decode cX7_takeWord 21 = .ok (.invokevirtual 39, 3) := by decide +kernel
theorem dX7_takeWord_24 : decode cX7_takeWord 24 = .ok (.iconst 1, 1) := by decide +kernel
theorem dX7_takeWord_25 : decode cX7_takeWord 25 = .ok (.ireturn, 1) := by decide +kernel
theorem dX7_takeSemicolon_0 : decode cX7_takeSemicolon 0 = .ok (.aload_n 0, 1) := by decide +kernel
theorem dX7_takeSemicolon_1 : decode cX7_takeSemicolon 1 = .ok (.getfield 12, 3) := by decide +kernel
theorem dX7_takeSemicolon_4 : decode cX7_takeSemicolon 4 = .ok (.getfield 42, 3) := by decide +kernel
theorem dX7_takeSemicolon_7 : decode cX7_takeSemicolon 7 = .ok (.iconst 3, 1) := by decide +kernel
theorem dX7_takeSemicolon_8 : decode cX7_takeSemicolon 8 = .ok (.if_icmp .eq 9, 3) := by decide +kernel
theorem dX7_takeSemicolon_11 : decode cX7_takeSemicolon 11 = .ok (.aload_n 0, 1) := by decide +kernel
theorem dX7_takeSemicolon_12 : decode cX7_takeSemicolon 12 = .ok (.iconst 1, 1) := by decide +kernel
theorem dX7_takeSemicolon_13 : decode cX7_takeSemicolon 13 = .ok (.invokevirtual 35, 3) := by decide +kernel
theorem dX7_takeSemicolon_16 : decode cX7_takeSemicolon 16 = .ok (.ireturn, 1) := by decide +kernel
theorem dX7_takeSemicolon_17 : decode cX7_takeSemicolon 17 = .ok (.aload_n 0, 1) := by decide +kernel
theorem dX7_takeSemicolon_18 : decode cX7_takeSemicolon 18 = .ok (.getfield 12, 3) := by decide +kernel
theorem dX7_takeSemicolon_21 : decode cX7_takeSemicolon 21 = .ok (.invokevirtual 39, 3) := by decide +kernel
theorem dX7_takeSemicolon_24 : decode cX7_takeSemicolon 24 = .ok (.iconst 1, 1) := by decide +kernel
theorem dX7_takeSemicolon_25 : decode cX7_takeSemicolon 25 = .ok (.ireturn, 1) := by decide +kernel
theorem dX7_takeNumber_0 : decode cX7_takeNumber 0 = .ok (.aload_n 0, 1) := by decide +kernel
theorem dX7_takeNumber_1 : decode cX7_takeNumber 1 = .ok (.getfield 12, 3) := by decide +kernel
theorem dX7_takeNumber_4 : decode cX7_takeNumber 4 = .ok (.getfield 45, 3) := by decide +kernel
theorem dX7_takeNumber_7 : decode cX7_takeNumber 7 = .ok (.istore_n 3, 1) := by decide +kernel
theorem dX7_takeNumber_8 : decode cX7_takeNumber 8 = .ok (.aload_n 0, 1) := by decide +kernel
theorem dX7_takeNumber_9 : decode cX7_takeNumber 9 = .ok (.getfield 12, 3) := by decide +kernel
theorem dX7_takeNumber_12 : decode cX7_takeNumber 12 = .ok (.getfield 42, 3) := by decide +kernel
theorem dX7_takeNumber_15 : decode cX7_takeNumber 15 = .ok (.iconst 2, 1) := by decide +kernel
theorem dX7_takeNumber_16 : decode cX7_takeNumber 16 = .ok (.if_icmp .eq 11, 3) := by decide +kernel
theorem dX7_takeNumber_19 : decode cX7_takeNumber 19 = .ok (.aload_n 0, 1) := by decide +kernel
theorem dX7_takeNumber_20 : decode cX7_takeNumber 20 = .ok (.iconst 1, 1) := by decide +kernel
theorem dX7_takeNumber_21 : decode cX7_takeNumber 21 = .ok (.invokevirtual 35, 3) := by decide +kernel
theorem dX7_takeNumber_24 : decode cX7_takeNumber 24 = .ok (.pop, 1) := by decide +kernel
theorem dX7_takeNumber_25 : decode cX7_takeNumber 25 = .ok (.iconst (-1), 1) := by decide +kernel
theorem dX7_takeNumber_26 : decode cX7_takeNumber 26 = .ok (.ireturn, 1) := by decide +kernel
theorem dX7_takeNumber_27 : decode cX7_takeNumber 27 = .ok (.iload_n 3, 1) := by decide +kernel
theorem dX7_takeNumber_28 : decode cX7_takeNumber 28 = .ok (.iload_n 1, 1) := by decide +kernel
theorem dX7_takeNumber_29 : decode cX7_takeNumber 29 = .ok (.if_icmp .lt 8, 3) := by decide +kernel
theorem dX7_takeNumber_32 : decode cX7_takeNumber 32 = .ok (.iload_n 3, 1) := by decide +kernel
theorem dX7_takeNumber_33 : decode cX7_takeNumber 33 = .ok (.iload_n 2, 1) := by decide +kernel
theorem dX7_takeNumber_34 : decode cX7_takeNumber 34 = .ok (.if_icmp .le 11, 3) := by decide +kernel
theorem dX7_takeNumber_37 : decode cX7_takeNumber 37 = .ok (.aload_n 0, 1) := by decide +kernel
theorem dX7_takeNumber_38 : decode cX7_takeNumber 38 = .ok (.iconst 2, 1) := by decide +kernel
theorem dX7_takeNumber_39 : decode cX7_takeNumber 39 = .ok (.invokevirtual 35, 3) := by decide +kernel
theorem dX7_takeNumber_42 : decode cX7_takeNumber 42 = .ok (.pop, 1) := by decide +kernel
theorem dX7_takeNumber_43 : decode cX7_takeNumber 43 = .ok (.iconst (-1), 1) := by decide +kernel
theorem dX7_takeNumber_44 : decode cX7_takeNumber 44 = .ok (.ireturn, 1) := by decide +kernel
theorem dX7_takeNumber_45 : decode cX7_takeNumber 45 = .ok (.aload_n 0, 1) := by decide +kernel
theorem dX7_takeNumber_46 : decode cX7_takeNumber 46 = .ok (.getfield 12, 3) := by decide +kernel
theorem dX7_takeNumber_49 : decode cX7_takeNumber 49 = .ok (.invokevirtual 39, 3) := by decide +kernel
theorem dX7_takeNumber_52 : decode cX7_takeNumber 52 = .ok (.iload_n 3, 1) := by decide +kernel
theorem dX7_takeNumber_53 : decode cX7_takeNumber 53 = .ok (.ireturn, 1) := by decide +kernel
theorem dX7_seeStall_0 : decode cX7_seeStall 0 = .ok (.aload_n 0, 1) := by decide +kernel
theorem dX7_seeStall_1 : decode cX7_seeStall 1 = .ok (.getfield 12, 3) := by decide +kernel
theorem dX7_seeStall_4 : decode cX7_seeStall 4 = .ok (.getfield 42, 3) := by decide +kernel
theorem dX7_seeStall_7 : decode cX7_seeStall 7 = .ok (.iconst 1, 1) := by decide +kernel
theorem dX7_seeStall_8 : decode cX7_seeStall 8 = .ok (.if_icmp .ne 15, 3) := by decide +kernel
theorem dX7_seeStall_11 : decode cX7_seeStall 11 = .ok (.aload_n 0, 1) := by decide +kernel
theorem dX7_seeStall_12 : decode cX7_seeStall 12 = .ok (.getfield 12, 3) := by decide +kernel
theorem dX7_seeStall_15 : decode cX7_seeStall 15 = .ok (.ldc 58, 2) := by decide +kernel
theorem dX7_seeStall_17 : decode cX7_seeStall 17 = .ok (.invokevirtual 31, 3) := by decide +kernel
theorem dX7_seeStall_20 : decode cX7_seeStall 20 = .ok (.ifCond .eq 11, 3) := by decide +kernel
theorem dX7_seeStall_23 : decode cX7_seeStall 23 = .ok (.aload_n 0, 1) := by decide +kernel
theorem dX7_seeStall_24 : decode cX7_seeStall 24 = .ok (.iconst 1, 1) := by decide +kernel
theorem dX7_seeStall_25 : decode cX7_seeStall 25 = .ok (.invokevirtual 35, 3) := by decide +kernel
theorem dX7_seeStall_28 : decode cX7_seeStall 28 = .ok (.pop, 1) := by decide +kernel
theorem dX7_seeStall_29 : decode cX7_seeStall 29 = .ok (.iconst (-1), 1) := by decide +kernel
theorem dX7_seeStall_30 : decode cX7_seeStall 30 = .ok (.ireturn, 1) := by decide +kernel
theorem dX7_seeStall_31 : decode cX7_seeStall 31 = .ok (.aload_n 1, 1) := by decide +kernel
theorem dX7_seeStall_32 : decode cX7_seeStall 32 = .ok (.aload_n 0, 1) := by decide +kernel
theorem dX7_seeStall_33 : decode cX7_seeStall 33 = .ok (.getfield 12, 3) := by decide +kernel
theorem dX7_seeStall_36 : decode cX7_seeStall 36 = .ok (.getfield 48, 3) := by decide +kernel
theorem dX7_seeStall_39 : decode cX7_seeStall 39 = .ok (.invokevirtual 60, 3) := by decide +kernel
theorem dX7_seeStall_42 : decode cX7_seeStall 42 = .ok (.istore_n 2, 1) := by decide +kernel
theorem dX7_seeStall_43 : decode cX7_seeStall 43 = .ok (.iload_n 2, 1) := by decide +kernel
theorem dX7_seeStall_44 : decode cX7_seeStall 44 = .ok (.iconst (-1), 1) := by decide +kernel
theorem dX7_seeStall_45 : decode cX7_seeStall 45 = .ok (.if_icmp .ne 9, 3) := by decide +kernel
theorem dX7_seeStall_48 : decode cX7_seeStall 48 = .ok (.aload_n 0, 1) := by decide +kernel
theorem dX7_seeStall_49 : decode cX7_seeStall 49 = .ok (.iconst 3, 1) := by decide +kernel
theorem dX7_seeStall_50 : decode cX7_seeStall 50 = .ok (.invokevirtual 35, 3) := by decide +kernel
theorem dX7_seeStall_53 : decode cX7_seeStall 53 = .ok (.pop, 1) := by decide +kernel
theorem dX7_seeStall_54 : decode cX7_seeStall 54 = .ok (.iload_n 2, 1) := by decide +kernel
theorem dX7_seeStall_55 : decode cX7_seeStall 55 = .ok (.ireturn, 1) := by decide +kernel
theorem dX8_init_0 : decode cX8_init 0 = .ok (.aload_n 0, 1) := by decide +kernel
theorem dX8_init_1 : decode cX8_init 1 = .ok (.invokespecial 3, 3) := by decide +kernel
theorem dX8_init_4 : decode cX8_init 4 = .ok (.aload_n 0, 1) := by decide +kernel
theorem dX8_init_5 : decode cX8_init 5 = .ok (.bipush 20, 2) := by decide +kernel
theorem dX8_init_7 : decode cX8_init 7 = .ok (.anewarray 9, 3) := by decide +kernel
theorem dX8_init_10 : decode cX8_init 10 = .ok (.putfield 11, 3) := by decide +kernel
theorem dX8_init_13 : decode cX8_init 13 = .ok (.aload_n 0, 1) := by decide +kernel
theorem dX8_init_14 : decode cX8_init 14 = .ok (.bipush 20, 2) := by decide +kernel
theorem dX8_init_16 : decode cX8_init 16 = .ok (.newarray .int, 2) := by decide +kernel
theorem dX8_init_18 : decode cX8_init 18 = .ok (.putfield 17, 3) := by decide +kernel
theorem dX8_init_21 : decode cX8_init 21 = .ok (.aload_n 0, 1) := by decide +kernel
theorem dX8_init_22 : decode cX8_init 22 = .ok (.bipush 20, 2) := by decide +kernel
theorem dX8_init_24 : decode cX8_init 24 = .ok (.newarray .int, 2) := by decide +kernel
theorem dX8_init_26 : decode cX8_init 26 = .ok (.putfield 21, 3) := by decide +kernel
theorem dX8_init_29 : decode cX8_init 29 = .ok (.aload_n 0, 1) := by decide +kernel
theorem dX8_init_30 : decode cX8_init 30 = .ok (.iconst 0, 1) := by decide +kernel
theorem dX8_init_31 : decode cX8_init 31 = .ok (.putfield 24, 3) := by decide +kernel
theorem dX8_init_34 : decode cX8_init 34 = .ok (.return_, 1) := by decide +kernel
theorem dX9_read_0 : decode cX9_read 0 = .ok (.aload_n 1, 1) := by decide +kernel
theorem dX9_read_1 : decode cX9_read 1 = .ok (.invokevirtual 9, 3) := by decide +kernel
theorem dX9_read_4 : decode cX9_read 4 = .ok (.aload_n 0, 1) := by decide +kernel
theorem dX9_read_5 : decode cX9_read 5 = .ok (.invokevirtual 14, 3) := by decide +kernel
theorem dX9_read_8 : decode cX9_read 8 = .ok (.aload_n 0, 1) := by decide +kernel
theorem dX9_read_9 : decode cX9_read 9 = .ok (.ldc 19, 2) := by decide +kernel
theorem dX9_read_11 : decode cX9_read 11 = .ok (.invokevirtual 21, 3) := by decide +kernel
theorem dX9_read_14 : decode cX9_read 14 = .ok (.ifCond .eq 30, 3) := by decide +kernel
theorem dX9_read_17 : decode cX9_read 17 = .ok (.aload_n 0, 1) := by decide +kernel
theorem dX9_read_18 : decode cX9_read 18 = .ok (.invokevirtual 25, 3) := by decide +kernel
theorem dX9_read_21 : decode cX9_read 21 = .ok (.ifCond .eq 23, 3) := by decide +kernel
theorem dX9_read_24 : decode cX9_read 24 = .ok (.aload_n 0, 1) := by decide +kernel
theorem dX9_read_25 : decode cX9_read 25 = .ok (.aload_n 1, 1) := by decide +kernel
theorem dX9_read_26 : decode cX9_read 26 = .ok (.invokestatic 29, 3) := by decide +kernel
theorem dX9_read_29 : decode cX9_read 29 = .ok (.ifCond .eq 15, 3) := by decide +kernel
theorem dX9_read_32 : decode cX9_read 32 = .ok (.aload_n 0, 1) := by decide +kernel
theorem dX9_read_33 : decode cX9_read 33 = .ok (.aload_n 1, 1) := by decide +kernel
theorem dX9_read_34 : decode cX9_read 34 = .ok (.invokestatic 35, 3) := by decide +kernel
theorem dX9_read_37 : decode cX9_read 37 = .ok (.ifCond .eq 7, 3) := by decide +kernel
theorem dX9_read_40 : decode cX9_read 40 = .ok (.iconst 1, 1) := by decide +kernel
theorem dX9_read_41 : decode cX9_read 41 = .ok (.goto 4, 3) := by decide +kernel
theorem dX9_read_44 : decode cX9_read 44 = .ok (.iconst 0, 1) := by decide +kernel
theorem dX9_read_45 : decode cX9_read 45 = .ok (.ireturn, 1) := by decide +kernel
theorem dX9_readStalls_0 : decode cX9_readStalls 0 = .ok (.iconst 0, 1) := by decide +kernel
theorem dX9_readStalls_1 : decode cX9_readStalls 1 = .ok (.istore_n 2, 1) := by decide +kernel
theorem dX9_readStalls_2 : decode cX9_readStalls 2 = .ok (.iload_n 2, 1) := by decide +kernel
theorem dX9_readStalls_3 : decode cX9_readStalls 3 = .ok (.bipush 8, 2) := by decide +kernel
theorem dX9_readStalls_5 : decode cX9_readStalls 5 = .ok (.if_icmp .ge 37, 3) := by decide +kernel
theorem dX9_readStalls_8 : decode cX9_readStalls 8 = .ok (.iload_n 2, 1) := by decide +kernel
theorem dX9_readStalls_9 : decode cX9_readStalls 9 = .ok (.ifCond .le 17, 3) := by decide +kernel
theorem dX9_readStalls_12 : decode cX9_readStalls 12 = .ok (.aload_n 0, 1) := by decide +kernel
theorem dX9_readStalls_13 : decode cX9_readStalls 13 = .ok (.getfield 38, 3) := by decide +kernel
theorem dX9_readStalls_16 : decode cX9_readStalls 16 = .ok (.ldc 42, 2) := by decide +kernel
theorem dX9_readStalls_18 : decode cX9_readStalls 18 = .ok (.invokevirtual 44, 3) := by decide +kernel
theorem dX9_readStalls_21 : decode cX9_readStalls 21 = .ok (.ifCond .ne 5, 3) := by decide +kernel
theorem dX9_readStalls_24 : decode cX9_readStalls 24 = .ok (.iconst 1, 1) := by decide +kernel
theorem dX9_readStalls_25 : decode cX9_readStalls 25 = .ok (.ireturn, 1) := by decide +kernel
theorem dX9_readStalls_26 : decode cX9_readStalls 26 = .ok (.aload_n 0, 1) := by decide +kernel
theorem dX9_readStalls_27 : decode cX9_readStalls 27 = .ok (.aload_n 1, 1) := by decide +kernel
theorem dX9_readStalls_28 : decode cX9_readStalls 28 = .ok (.invokestatic 49, 3) := by decide +kernel
theorem dX9_readStalls_31 : decode cX9_readStalls 31 = .ok (.ifCond .ne 5, 3) := by decide +kernel
theorem dX9_readStalls_34 : decode cX9_readStalls 34 = .ok (.iconst 0, 1) := by decide +kernel
theorem dX9_readStalls_35 : decode cX9_readStalls 35 = .ok (.ireturn, 1) := by decide +kernel
theorem dX9_readStalls_36 : decode cX9_readStalls 36 = .ok (.iinc 2 1, 3) := by decide +kernel
theorem dX9_readStalls_39 : decode cX9_readStalls 39 = .ok (.goto (-37), 3) := by decide +kernel
theorem dX9_readStalls_42 : decode cX9_readStalls 42 = .ok (.aload_n 0, 1) := by decide +kernel
theorem dX9_readStalls_43 : decode cX9_readStalls 43 = .ok (.getfield 38, 3) := by decide +kernel
theorem dX9_readStalls_46 : decode cX9_readStalls 46 = .ok (.ldc 42, 2) := by decide +kernel
theorem dX9_readStalls_48 : decode cX9_readStalls 48 = .ok (.invokevirtual 44, 3) := by decide +kernel
theorem dX9_readStalls_51 : decode cX9_readStalls 51 = .ok (.ifCond .eq 11, 3) := by decide +kernel
theorem dX9_readStalls_54 : decode cX9_readStalls 54 = .ok (.aload_n 0, 1) := by decide +kernel
theorem dX9_readStalls_55 : decode cX9_readStalls 55 = .ok (.iconst 5, 1) := by decide +kernel
theorem dX9_readStalls_56 : decode cX9_readStalls 56 = .ok (.invokevirtual 52, 3) := by decide +kernel
theorem dX9_readStalls_59 : decode cX9_readStalls 59 = .ok (.ifCond .eq 7, 3) := by decide +kernel
theorem dX9_readStalls_62 : decode cX9_readStalls 62 = .ok (.iconst 1, 1) := by decide +kernel
theorem dX9_readStalls_63 : decode cX9_readStalls 63 = .ok (.goto 4, 3) := by decide +kernel
theorem dX9_readStalls_66 : decode cX9_readStalls 66 = .ok (.iconst 0, 1) := by decide +kernel
theorem dX9_readStalls_67 : decode cX9_readStalls 67 = .ok (.ireturn, 1) := by decide +kernel
theorem dX9_readStall_0 : decode cX9_readStall 0 = .ok (.aload_n 0, 1) := by decide +kernel
theorem dX9_readStall_1 : decode cX9_readStall 1 = .ok (.ldc 42, 2) := by decide +kernel
theorem dX9_readStall_3 : decode cX9_readStall 3 = .ok (.invokevirtual 21, 3) := by decide +kernel
theorem dX9_readStall_6 : decode cX9_readStall 6 = .ok (.ifCond .ne 5, 3) := by decide +kernel
theorem dX9_readStall_9 : decode cX9_readStall 9 = .ok (.iconst 0, 1) := by decide +kernel
theorem dX9_readStall_10 : decode cX9_readStall 10 = .ok (.ireturn, 1) := by decide +kernel
theorem dX9_readStall_11 : decode cX9_readStall 11 = .ok (.aload_n 0, 1) := by decide +kernel
theorem dX9_readStall_12 : decode cX9_readStall 12 = .ok (.getfield 38, 3) := by decide +kernel
theorem dX9_readStall_15 : decode cX9_readStall 15 = .ok (.getfield 56, 3) := by decide +kernel
theorem dX9_readStall_18 : decode cX9_readStall 18 = .ok (.lstore_n 2, 1) := by decide +kernel
theorem dX9_readStall_19 : decode cX9_readStall 19 = .ok (.aload_n 0, 1) := by decide +kernel
theorem dX9_readStall_20 : decode cX9_readStall 20 = .ok (.getfield 38, 3) := by decide +kernel
theorem dX9_readStall_23 : decode cX9_readStall 23 = .ok (.ldc 60, 2) := by decide +kernel
theorem dX9_readStall_25 : decode cX9_readStall 25 = .ok (.invokevirtual 44, 3) := by decide +kernel
theorem dX9_readStall_28 : decode cX9_readStall 28 = .ok (.ifCond .ne 12, 3) := by decide +kernel
theorem dX9_readStall_31 : decode cX9_readStall 31 = .ok (.aload_n 1, 1) := by decide +kernel
theorem dX9_readStall_32 : decode cX9_readStall 32 = .ok (.lload_n 2, 1) := by decide +kernel
theorem dX9_readStall_33 : decode cX9_readStall 33 = .ok (.invokevirtual 62, 3) := by decide +kernel
theorem dX9_readStall_36 : decode cX9_readStall 36 = .ok (.iconst (-1), 1) := by decide +kernel
theorem dX9_readStall_37 : decode cX9_readStall 37 = .ok (.if_icmp .eq 7, 3) := by decide +kernel
theorem dX9_readStall_40 : decode cX9_readStall 40 = .ok (.iconst 1, 1) := by decide +kernel
theorem dX9_readStall_41 : decode cX9_readStall 41 = .ok (.goto 4, 3) := by decide +kernel
theorem dX9_readStall_44 : decode cX9_readStall 44 = .ok (.iconst 0, 1) := by decide +kernel
theorem dX9_readStall_45 : decode cX9_readStall 45 = .ok (.istore 4, 2) := by decide +kernel
theorem dX9_readStall_47 : decode cX9_readStall 47 = .ok (.aload_n 0, 1) := by decide +kernel
theorem dX9_readStall_48 : decode cX9_readStall 48 = .ok (.iload 4, 2) := by decide +kernel
theorem dX9_readStall_50 : decode cX9_readStall 50 = .ok (.invokestatic 66, 3) := by decide +kernel
theorem dX9_readStall_53 : decode cX9_readStall 53 = .ok (.ifCond .ne 5, 3) := by decide +kernel
theorem dX9_readStall_56 : decode cX9_readStall 56 = .ok (.iconst 0, 1) := by decide +kernel
theorem dX9_readStall_57 : decode cX9_readStall 57 = .ok (.ireturn, 1) := by decide +kernel
theorem dX9_readStall_58 : decode cX9_readStall 58 = .ok (.aload_n 0, 1) := by decide +kernel
theorem dX9_readStall_59 : decode cX9_readStall 59 = .ok (.iconst 0, 1) := by decide +kernel
theorem dX9_readStall_60 : decode cX9_readStall 60 = .ok (.bipush 99, 2) := by decide +kernel
theorem dX9_readStall_62 : decode cX9_readStall 62 = .ok (.invokevirtual 70, 3) := by decide +kernel
theorem dX9_readStall_65 : decode cX9_readStall 65 = .ok (.istore 5, 2) := by decide +kernel
theorem dX9_readStall_67 : decode cX9_readStall 67 = .ok (.iload 5, 2) := by decide +kernel
theorem dX9_readStall_69 : decode cX9_readStall 69 = .ok (.iconst (-1), 1) := by decide +kernel
theorem dX9_readStall_70 : decode cX9_readStall 70 = .ok (.if_icmp .ne 5, 3) := by decide +kernel
theorem dX9_readStall_73 : decode cX9_readStall 73 = .ok (.iconst 0, 1) := by decide +kernel
theorem dX9_readStall_74 : decode cX9_readStall 74 = .ok (.ireturn, 1) := by decide +kernel
theorem dX9_readStall_75 : decode cX9_readStall 75 = .ok (.aload_n 1, 1) := by decide +kernel
theorem dX9_readStall_76 : decode cX9_readStall 76 = .ok (.lload_n 2, 1) := by decide +kernel
theorem dX9_readStall_77 : decode cX9_readStall 77 = .ok (.iload 5, 2) := by decide +kernel
theorem dX9_readStall_79 : decode cX9_readStall 79 = .ok (.invokevirtual 74, 3) := by decide +kernel
theorem dX9_readStall_82 : decode cX9_readStall 82 = .ok (.aload_n 0, 1) := by decide +kernel
theorem dX9_readStall_83 : decode cX9_readStall 83 = .ok (.invokevirtual 25, 3) := by decide +kernel
theorem dX9_readStall_86 : decode cX9_readStall 86 = .ok (.ireturn, 1) := by decide +kernel
theorem dX9_takeNewName_0 : decode cX9_takeNewName 0 = .ok (.aload_n 0, 1) := by decide +kernel
theorem dX9_takeNewName_1 : decode cX9_takeNewName 1 = .ok (.getfield 38, 3) := by decide +kernel
theorem dX9_takeNewName_4 : decode cX9_takeNewName 4 = .ok (.getfield 78, 3) := by decide +kernel
theorem dX9_takeNewName_7 : decode cX9_takeNewName 7 = .ok (.iconst 1, 1) := by decide +kernel
theorem dX9_takeNewName_8 : decode cX9_takeNewName 8 = .ok (.if_icmp .eq 9, 3) := by decide +kernel
theorem dX9_takeNewName_11 : decode cX9_takeNewName 11 = .ok (.aload_n 0, 1) := by decide +kernel
theorem dX9_takeNewName_12 : decode cX9_takeNewName 12 = .ok (.iconst 1, 1) := by decide +kernel
theorem dX9_takeNewName_13 : decode cX9_takeNewName 13 = .ok (.invokevirtual 52, 3) := by decide +kernel
theorem dX9_takeNewName_16 : decode cX9_takeNewName 16 = .ok (.ireturn, 1) := by decide +kernel
theorem dX9_takeNewName_17 : decode cX9_takeNewName 17 = .ok (.iload_n 1, 1) := by decide +kernel
theorem dX9_takeNewName_18 : decode cX9_takeNewName 18 = .ok (.ifCond .ne 15, 3) := by decide +kernel
theorem dX9_takeNewName_21 : decode cX9_takeNewName 21 = .ok (.aload_n 0, 1) := by decide +kernel
theorem dX9_takeNewName_22 : decode cX9_takeNewName 22 = .ok (.getfield 38, 3) := by decide +kernel
theorem dX9_takeNewName_25 : decode cX9_takeNewName 25 = .ok (.getfield 56, 3) := by decide +kernel
theorem dX9_takeNewName_28 : decode cX9_takeNewName 28 = .ok (.lconst 0, 1) := by decide +kernel
theorem dX9_takeNewName_29 : decode cX9_takeNewName 29 = .ok (.lcmp, 1) := by decide +kernel
theorem dX9_takeNewName_30 : decode cX9_takeNewName 30 = .ok (.ifCond .ne 9, 3) := by decide +kernel
theorem dX9_takeNewName_33 : decode cX9_takeNewName 33 = .ok (.aload_n 0, 1) := by decide +kernel
theorem dX9_takeNewName_34 : decode cX9_takeNewName 34 = .ok (.iconst 3, 1) := by decide +kernel
theorem dX9_takeNewName_35 : decode cX9_takeNewName 35 = .ok (.invokevirtual 52, 3) := by decide +kernel
theorem dX9_takeNewName_38 : decode cX9_takeNewName 38 = .ok (.ireturn, 1) := by decide +kernel
theorem dX9_takeNewName_39 : decode cX9_takeNewName 39 = .ok (.aload_n 0, 1) := by decide +kernel
theorem dX9_takeNewName_40 : decode cX9_takeNewName 40 = .ok (.getfield 38, 3) := by decide +kernel
theorem dX9_takeNewName_43 : decode cX9_takeNewName 43 = .ok (.invokevirtual 82, 3) := by decide +kernel
theorem dX9_takeNewName_46 : decode cX9_takeNewName 46 = .ok (.iconst 1, 1) := by decide +kernel
theorem dX9_takeNewName_47 : decode cX9_takeNewName 47 = .ok (.ireturn, 1) := by decide +kernel
theorem dX9_readSellers_0 : decode cX9_readSellers 0 = .ok (.iconst 0, 1) := by decide +kernel
theorem dX9_readSellers_1 : decode cX9_readSellers 1 = .ok (.istore_n 2, 1) := by decide +kernel
theorem dX9_readSellers_2 : decode cX9_readSellers 2 = .ok (.iload_n 2, 1) := by decide +kernel
theorem dX9_readSellers_3 : decode cX9_readSellers 3 = .ok (.bipush 8, 2) := by decide +kernel
theorem dX9_readSellers_5 : decode cX9_readSellers 5 = .ok (.if_icmp .ge 35, 3) := by decide +kernel
theorem dX9_readSellers_8 : decode cX9_readSellers 8 = .ok (.iload_n 2, 1) := by decide +kernel
theorem dX9_readSellers_9 : decode cX9_readSellers 9 = .ok (.ifCond .le 15, 3) := by decide +kernel
theorem dX9_readSellers_12 : decode cX9_readSellers 12 = .ok (.aload_n 0, 1) := by decide +kernel
theorem dX9_readSellers_13 : decode cX9_readSellers 13 = .ok (.getfield 38, 3) := by decide +kernel
theorem dX9_readSellers_16 : decode cX9_readSellers 16 = .ok (.getfield 78, 3) := by decide +kernel
theorem dX9_readSellers_19 : decode cX9_readSellers 19 = .ok (.ifCond .ne 5, 3) := by decide +kernel
theorem dX9_readSellers_22 : decode cX9_readSellers 22 = .ok (.iconst 1, 1) := by decide +kernel
theorem dX9_readSellers_23 : decode cX9_readSellers 23 = .ok (.ireturn, 1) := by decide +kernel
theorem dX9_readSellers_24 : decode cX9_readSellers 24 = .ok (.aload_n 0, 1) := by decide +kernel
theorem dX9_readSellers_25 : decode cX9_readSellers 25 = .ok (.aload_n 1, 1) := by decide +kernel
theorem dX9_readSellers_26 : decode cX9_readSellers 26 = .ok (.invokestatic 85, 3) := by decide +kernel
theorem dX9_readSellers_29 : decode cX9_readSellers 29 = .ok (.ifCond .ne 5, 3) := by decide +kernel
theorem dX9_readSellers_32 : decode cX9_readSellers 32 = .ok (.iconst 0, 1) := by decide +kernel
theorem dX9_readSellers_33 : decode cX9_readSellers 33 = .ok (.ireturn, 1) := by decide +kernel
theorem dX9_readSellers_34 : decode cX9_readSellers 34 = .ok (.iinc 2 1, 3) := by decide +kernel
theorem dX9_readSellers_37 : decode cX9_readSellers 37 = .ok (.goto (-35), 3) := by decide +kernel
theorem dX9_readSellers_40 : decode cX9_readSellers 40 = .ok (.aload_n 0, 1) := by decide +kernel
theorem dX9_readSellers_41 : decode cX9_readSellers 41 = .ok (.getfield 38, 3) := by decide +kernel
theorem dX9_readSellers_44 : decode cX9_readSellers 44 = .ok (.getfield 78, 3) := by decide +kernel
theorem dX9_readSellers_47 : decode cX9_readSellers 47 = .ok (.ifCond .ne 5, 3) := by decide +kernel
theorem dX9_readSellers_50 : decode cX9_readSellers 50 = .ok (.iconst 1, 1) := by decide +kernel
theorem dX9_readSellers_51 : decode cX9_readSellers 51 = .ok (.ireturn, 1) := by decide +kernel
theorem dX9_readSellers_52 : decode cX9_readSellers 52 = .ok (.aload_n 0, 1) := by decide +kernel
theorem dX9_readSellers_53 : decode cX9_readSellers 53 = .ok (.aload_n 0, 1) := by decide +kernel
theorem dX9_readSellers_54 : decode cX9_readSellers 54 = .ok (.getfield 38, 3) := by decide +kernel
theorem dX9_readSellers_57 : decode cX9_readSellers 57 = .ok (.ldc 88, 2) := by decide +kernel
theorem dX9_readSellers_59 : decode cX9_readSellers 59 = .ok (.invokevirtual 44, 3) := by decide +kernel
theorem dX9_readSellers_62 : decode cX9_readSellers 62 = .ok (.ifCond .eq 7, 3) := by decide +kernel
theorem dX9_readSellers_65 : decode cX9_readSellers 65 = .ok (.iconst 5, 1) := by decide +kernel
theorem dX9_readSellers_66 : decode cX9_readSellers 66 = .ok (.goto 4, 3) := by decide +kernel
theorem dX9_readSellers_69 : decode cX9_readSellers 69 = .ok (.iconst 1, 1) := by decide +kernel
theorem dX9_readSellers_70 : decode cX9_readSellers 70 = .ok (.invokevirtual 52, 3) := by decide +kernel
theorem dX9_readSellers_73 : decode cX9_readSellers 73 = .ok (.ireturn, 1) := by decide +kernel
theorem dX9_readSeller_0 : decode cX9_readSeller 0 = .ok (.aload_n 0, 1) := by decide +kernel
theorem dX9_readSeller_1 : decode cX9_readSeller 1 = .ok (.ldc 88, 2) := by decide +kernel
theorem dX9_readSeller_3 : decode cX9_readSeller 3 = .ok (.invokevirtual 21, 3) := by decide +kernel
theorem dX9_readSeller_6 : decode cX9_readSeller 6 = .ok (.ifCond .ne 5, 3) := by decide +kernel
theorem dX9_readSeller_9 : decode cX9_readSeller 9 = .ok (.iconst 0, 1) := by decide +kernel
theorem dX9_readSeller_10 : decode cX9_readSeller 10 = .ok (.ireturn, 1) := by decide +kernel
theorem dX9_readSeller_11 : decode cX9_readSeller 11 = .ok (.aload_n 0, 1) := by decide +kernel
theorem dX9_readSeller_12 : decode cX9_readSeller 12 = .ok (.getfield 38, 3) := by decide +kernel
theorem dX9_readSeller_15 : decode cX9_readSeller 15 = .ok (.getfield 56, 3) := by decide +kernel
theorem dX9_readSeller_18 : decode cX9_readSeller 18 = .ok (.lstore_n 2, 1) := by decide +kernel
theorem dX9_readSeller_19 : decode cX9_readSeller 19 = .ok (.aload_n 0, 1) := by decide +kernel
theorem dX9_readSeller_20 : decode cX9_readSeller 20 = .ok (.aload_n 1, 1) := by decide +kernel
theorem dX9_readSeller_21 : decode cX9_readSeller 21 = .ok (.lload_n 2, 1) := by decide +kernel
theorem dX9_readSeller_22 : decode cX9_readSeller 22 = .ok (.invokevirtual 90, 3) := by decide +kernel
theorem dX9_readSeller_25 : decode cX9_readSeller 25 = .ok (.iconst (-1), 1) := by decide +kernel
theorem dX9_readSeller_26 : decode cX9_readSeller 26 = .ok (.if_icmp .eq 7, 3) := by decide +kernel
theorem dX9_readSeller_29 : decode cX9_readSeller 29 = .ok (.iconst 1, 1) := by decide +kernel
theorem dX9_readSeller_30 : decode cX9_readSeller 30 = .ok (.goto 4, 3) := by decide +kernel
theorem dX9_readSeller_33 : decode cX9_readSeller 33 = .ok (.iconst 0, 1) := by decide +kernel
theorem dX9_readSeller_34 : decode cX9_readSeller 34 = .ok (.invokestatic 66, 3) := by decide +kernel
theorem dX9_readSeller_37 : decode cX9_readSeller 37 = .ok (.ifCond .ne 5, 3) := by decide +kernel
theorem dX9_readSeller_40 : decode cX9_readSeller 40 = .ok (.iconst 0, 1) := by decide +kernel
theorem dX9_readSeller_41 : decode cX9_readSeller 41 = .ok (.ireturn, 1) := by decide +kernel
theorem dX9_readSeller_42 : decode cX9_readSeller 42 = .ok (.aload_n 0, 1) := by decide +kernel
theorem dX9_readSeller_43 : decode cX9_readSeller 43 = .ok (.iconst 0, 1) := by decide +kernel
theorem dX9_readSeller_44 : decode cX9_readSeller 44 = .ok (.sipush 9999, 3) := by decide +kernel
theorem dX9_readSeller_47 : decode cX9_readSeller 47 = .ok (.invokevirtual 70, 3) := by decide +kernel
theorem dX9_readSeller_50 : decode cX9_readSeller 50 = .ok (.istore 4, 2) := by decide +kernel
theorem dX9_readSeller_52 : decode cX9_readSeller 52 = .ok (.iload 4, 2) := by decide +kernel
theorem dX9_readSeller_54 : decode cX9_readSeller 54 = .ok (.iconst (-1), 1) := by decide +kernel
theorem dX9_readSeller_55 : decode cX9_readSeller 55 = .ok (.if_icmp .ne 5, 3) := by decide +kernel
theorem dX9_readSeller_58 : decode cX9_readSeller 58 = .ok (.iconst 0, 1) := by decide +kernel
theorem dX9_readSeller_59 : decode cX9_readSeller 59 = .ok (.ireturn, 1) := by decide +kernel
theorem dX9_readSeller_60 : decode cX9_readSeller 60 = .ok (.aload_n 0, 1) := by decide +kernel
theorem dX9_readSeller_61 : decode cX9_readSeller 61 = .ok (.iconst 0, 1) := by decide +kernel
theorem dX9_readSeller_62 : decode cX9_readSeller 62 = .ok (.bipush 99, 2) := by decide +kernel
theorem dX9_readSeller_64 : decode cX9_readSeller 64 = .ok (.invokevirtual 70, 3) := by decide +kernel
theorem dX9_readSeller_67 : decode cX9_readSeller 67 = .ok (.istore 5, 2) := by decide +kernel
theorem dX9_readSeller_69 : decode cX9_readSeller 69 = .ok (.iload 5, 2) := by decide +kernel
theorem dX9_readSeller_71 : decode cX9_readSeller 71 = .ok (.iconst (-1), 1) := by decide +kernel
theorem dX9_readSeller_72 : decode cX9_readSeller 72 = .ok (.if_icmp .ne 5, 3) := by decide +kernel
theorem dX9_readSeller_75 : decode cX9_readSeller 75 = .ok (.iconst 0, 1) := by decide +kernel
theorem dX9_readSeller_76 : decode cX9_readSeller 76 = .ok (.ireturn, 1) := by decide +kernel
theorem dX9_readSeller_77 : decode cX9_readSeller 77 = .ok (.aload_n 1, 1) := by decide +kernel
theorem dX9_readSeller_78 : decode cX9_readSeller 78 = .ok (.getfield 93, 3) := by decide +kernel
theorem dX9_readSeller_81 : decode cX9_readSeller 81 = .ok (.istore 6, 2) := by decide +kernel
theorem dX9_readSeller_83 : decode cX9_readSeller 83 = .ok (.aload_n 1, 1) := by decide +kernel
theorem dX9_readSeller_84 : decode cX9_readSeller 84 = .ok (.lload_n 2, 1) := by decide +kernel
theorem dX9_readSeller_85 : decode cX9_readSeller 85 = .ok (.iload 4, 2) := by decide +kernel
theorem dX9_readSeller_87 : decode cX9_readSeller 87 = .ok (.iload 5, 2) := by decide +kernel
theorem dX9_readSeller_89 : decode cX9_readSeller 89 = .ok (.invokevirtual 96, 3) := by decide +kernel
theorem dX9_readSeller_92 : decode cX9_readSeller 92 = .ok (.aload_n 0, 1) := by decide +kernel
theorem dX9_readSeller_93 : decode cX9_readSeller 93 = .ok (.aload_n 1, 1) := by decide +kernel
theorem dX9_readSeller_94 : decode cX9_readSeller 94 = .ok (.iload 6, 2) := by decide +kernel
theorem dX9_readSeller_96 : decode cX9_readSeller 96 = .ok (.invokestatic 100, 3) := by decide +kernel
theorem dX9_readSeller_99 : decode cX9_readSeller 99 = .ok (.ifCond .eq 24, 3) := by decide +kernel
theorem dX9_readSeller_102 : decode cX9_readSeller 102 = .ok (.aload_n 0, 1) := by decide +kernel
theorem dX9_readSeller_103 : decode cX9_readSeller 103 = .ok (.aload_n 1, 1) := by decide +kernel
theorem dX9_readSeller_104 : decode cX9_readSeller 104 = .ok (.iload 6, 2) := by decide +kernel
theorem dX9_readSeller_106 : decode cX9_readSeller 106 = .ok (.invokestatic 104, 3) := by decide +kernel
theorem dX9_readSeller_109 : decode cX9_readSeller 109 = .ok (.ifCond .eq 14, 3) := by decide +kernel
theorem dX9_readSeller_112 : decode cX9_readSeller 112 = .ok (.aload_n 0, 1) := by decide +kernel
theorem dX9_readSeller_113 : decode cX9_readSeller 113 = .ok (.invokevirtual 25, 3) := by decide +kernel
theorem dX9_readSeller_116 : decode cX9_readSeller 116 = .ok (.ifCond .eq 7, 3) := by decide +kernel
theorem dX9_readSeller_119 : decode cX9_readSeller 119 = .ok (.iconst 1, 1) := by decide +kernel
theorem dX9_readSeller_120 : decode cX9_readSeller 120 = .ok (.goto 4, 3) := by decide +kernel
theorem dX9_readSeller_123 : decode cX9_readSeller 123 = .ok (.iconst 0, 1) := by decide +kernel
theorem dX9_readSeller_124 : decode cX9_readSeller 124 = .ok (.ireturn, 1) := by decide +kernel
theorem dX9_readWishes_0 : decode cX9_readWishes 0 = .ok (.iconst 0, 1) := by decide +kernel
theorem dX9_readWishes_1 : decode cX9_readWishes 1 = .ok (.istore_n 3, 1) := by decide +kernel
theorem dX9_readWishes_2 : decode cX9_readWishes 2 = .ok (.iload_n 3, 1) := by decide +kernel
theorem dX9_readWishes_3 : decode cX9_readWishes 3 = .ok (.bipush 8, 2) := by decide +kernel
theorem dX9_readWishes_5 : decode cX9_readWishes 5 = .ok (.if_icmp .gt 80, 3) := by decide +kernel
theorem dX9_readWishes_8 : decode cX9_readWishes 8 = .ok (.aload_n 0, 1) := by decide +kernel
theorem dX9_readWishes_9 : decode cX9_readWishes 9 = .ok (.getfield 38, 3) := by decide +kernel
theorem dX9_readWishes_12 : decode cX9_readWishes 12 = .ok (.getfield 78, 3) := by decide +kernel
theorem dX9_readWishes_15 : decode cX9_readWishes 15 = .ok (.iconst 1, 1) := by decide +kernel
theorem dX9_readWishes_16 : decode cX9_readWishes 16 = .ok (.if_icmp .ne 15, 3) := by decide +kernel
theorem dX9_readWishes_19 : decode cX9_readWishes 19 = .ok (.aload_n 0, 1) := by decide +kernel
theorem dX9_readWishes_20 : decode cX9_readWishes 20 = .ok (.getfield 38, 3) := by decide +kernel
theorem dX9_readWishes_23 : decode cX9_readWishes 23 = .ok (.ldc 60, 2) := by decide +kernel
theorem dX9_readWishes_25 : decode cX9_readWishes 25 = .ok (.invokevirtual 44, 3) := by decide +kernel
theorem dX9_readWishes_28 : decode cX9_readWishes 28 = .ok (.ifCond .eq 5, 3) := by decide +kernel
theorem dX9_readWishes_31 : decode cX9_readWishes 31 = .ok (.iconst 1, 1) := by decide +kernel
theorem dX9_readWishes_32 : decode cX9_readWishes 32 = .ok (.ireturn, 1) := by decide +kernel
theorem dX9_readWishes_33 : decode cX9_readWishes 33 = .ok (.aload_n 0, 1) := by decide +kernel
theorem dX9_readWishes_34 : decode cX9_readWishes 34 = .ok (.aload_n 1, 1) := by decide +kernel
theorem dX9_readWishes_35 : decode cX9_readWishes 35 = .ok (.invokevirtual 107, 3) := by decide +kernel
theorem dX9_readWishes_38 : decode cX9_readWishes 38 = .ok (.istore 4, 2) := by decide +kernel
theorem dX9_readWishes_40 : decode cX9_readWishes 40 = .ok (.iload 4, 2) := by decide +kernel
theorem dX9_readWishes_42 : decode cX9_readWishes 42 = .ok (.iconst (-1), 1) := by decide +kernel
theorem dX9_readWishes_43 : decode cX9_readWishes 43 = .ok (.if_icmp .ne 5, 3) := by decide +kernel
theorem dX9_readWishes_46 : decode cX9_readWishes 46 = .ok (.iconst 0, 1) := by decide +kernel
theorem dX9_readWishes_47 : decode cX9_readWishes 47 = .ok (.ireturn, 1) := by decide +kernel
theorem dX9_readWishes_48 : decode cX9_readWishes 48 = .ok (.aload_n 1, 1) := by decide +kernel
theorem dX9_readWishes_49 : decode cX9_readWishes 49 = .ok (.iload_n 2, 1) := by decide +kernel
theorem dX9_readWishes_50 : decode cX9_readWishes 50 = .ok (.iload 4, 2) := by decide +kernel
theorem dX9_readWishes_52 : decode cX9_readWishes 52 = .ok (.invokevirtual 111, 3) := by decide +kernel
theorem dX9_readWishes_55 : decode cX9_readWishes 55 = .ok (.iconst (-1), 1) := by decide +kernel
theorem dX9_readWishes_56 : decode cX9_readWishes 56 = .ok (.if_icmp .eq 9, 3) := by decide +kernel
theorem dX9_readWishes_59 : decode cX9_readWishes 59 = .ok (.aload_n 0, 1) := by decide +kernel
theorem dX9_readWishes_60 : decode cX9_readWishes 60 = .ok (.iconst 4, 1) := by decide +kernel
theorem dX9_readWishes_61 : decode cX9_readWishes 61 = .ok (.invokevirtual 52, 3) := by decide +kernel
theorem dX9_readWishes_64 : decode cX9_readWishes 64 = .ok (.ireturn, 1) := by decide +kernel
theorem dX9_readWishes_65 : decode cX9_readWishes 65 = .ok (.aload_n 1, 1) := by decide +kernel
theorem dX9_readWishes_66 : decode cX9_readWishes 66 = .ok (.iload_n 2, 1) := by decide +kernel
theorem dX9_readWishes_67 : decode cX9_readWishes 67 = .ok (.iload 4, 2) := by decide +kernel
theorem dX9_readWishes_69 : decode cX9_readWishes 69 = .ok (.invokevirtual 114, 3) := by decide +kernel
theorem dX9_readWishes_72 : decode cX9_readWishes 72 = .ok (.aload_n 0, 1) := by decide +kernel
theorem dX9_readWishes_73 : decode cX9_readWishes 73 = .ok (.getfield 38, 3) := by decide +kernel
theorem dX9_readWishes_76 : decode cX9_readWishes 76 = .ok (.invokevirtual 82, 3) := by decide +kernel
theorem dX9_readWishes_79 : decode cX9_readWishes 79 = .ok (.iinc 3 1, 3) := by decide +kernel
theorem dX9_readWishes_82 : decode cX9_readWishes 82 = .ok (.goto (-80), 3) := by decide +kernel
theorem dX9_readWishes_85 : decode cX9_readWishes 85 = .ok (.iconst 1, 1) := by decide +kernel
theorem dX9_readWishes_86 : decode cX9_readWishes 86 = .ok (.ireturn, 1) := by decide +kernel
theorem dX9_readPlace_0 : decode cX9_readPlace 0 = .ok (.aload_n 0, 1) := by decide +kernel
theorem dX9_readPlace_1 : decode cX9_readPlace 1 = .ok (.getfield 38, 3) := by decide +kernel
theorem dX9_readPlace_4 : decode cX9_readPlace 4 = .ok (.ldc 60, 2) := by decide +kernel
theorem dX9_readPlace_6 : decode cX9_readPlace 6 = .ok (.invokevirtual 44, 3) := by decide +kernel
theorem dX9_readPlace_9 : decode cX9_readPlace 9 = .ok (.ifCond .ne 5, 3) := by decide +kernel
theorem dX9_readPlace_12 : decode cX9_readPlace 12 = .ok (.iconst 1, 1) := by decide +kernel
theorem dX9_readPlace_13 : decode cX9_readPlace 13 = .ok (.ireturn, 1) := by decide +kernel
theorem dX9_readPlace_14 : decode cX9_readPlace 14 = .ok (.aload_n 0, 1) := by decide +kernel
theorem dX9_readPlace_15 : decode cX9_readPlace 15 = .ok (.getfield 38, 3) := by decide +kernel
theorem dX9_readPlace_18 : decode cX9_readPlace 18 = .ok (.invokevirtual 82, 3) := by decide +kernel
theorem dX9_readPlace_21 : decode cX9_readPlace 21 = .ok (.aload_n 0, 1) := by decide +kernel
theorem dX9_readPlace_22 : decode cX9_readPlace 22 = .ok (.aload_n 1, 1) := by decide +kernel
theorem dX9_readPlace_23 : decode cX9_readPlace 23 = .ok (.invokevirtual 107, 3) := by decide +kernel
theorem dX9_readPlace_26 : decode cX9_readPlace 26 = .ok (.istore_n 3, 1) := by decide +kernel
theorem dX9_readPlace_27 : decode cX9_readPlace 27 = .ok (.iload_n 3, 1) := by decide +kernel
theorem dX9_readPlace_28 : decode cX9_readPlace 28 = .ok (.iconst (-1), 1) := by decide +kernel
theorem dX9_readPlace_29 : decode cX9_readPlace 29 = .ok (.if_icmp .ne 5, 3) := by decide +kernel
theorem dX9_readPlace_32 : decode cX9_readPlace 32 = .ok (.iconst 0, 1) := by decide +kernel
theorem dX9_readPlace_33 : decode cX9_readPlace 33 = .ok (.ireturn, 1) := by decide +kernel
theorem dX9_readPlace_34 : decode cX9_readPlace 34 = .ok (.aload_n 1, 1) := by decide +kernel
theorem dX9_readPlace_35 : decode cX9_readPlace 35 = .ok (.iload_n 3, 1) := by decide +kernel
theorem dX9_readPlace_36 : decode cX9_readPlace 36 = .ok (.invokevirtual 118, 3) := by decide +kernel
theorem dX9_readPlace_39 : decode cX9_readPlace 39 = .ok (.iconst (-1), 1) := by decide +kernel
theorem dX9_readPlace_40 : decode cX9_readPlace 40 = .ok (.if_icmp .eq 9, 3) := by decide +kernel
theorem dX9_readPlace_43 : decode cX9_readPlace 43 = .ok (.aload_n 0, 1) := by decide +kernel
theorem dX9_readPlace_44 : decode cX9_readPlace 44 = .ok (.iconst 4, 1) := by decide +kernel
theorem dX9_readPlace_45 : decode cX9_readPlace 45 = .ok (.invokevirtual 52, 3) := by decide +kernel
theorem dX9_readPlace_48 : decode cX9_readPlace 48 = .ok (.ireturn, 1) := by decide +kernel
theorem dX9_readPlace_49 : decode cX9_readPlace 49 = .ok (.aload_n 1, 1) := by decide +kernel
theorem dX9_readPlace_50 : decode cX9_readPlace 50 = .ok (.iload_n 2, 1) := by decide +kernel
theorem dX9_readPlace_51 : decode cX9_readPlace 51 = .ok (.iload_n 3, 1) := by decide +kernel
theorem dX9_readPlace_52 : decode cX9_readPlace 52 = .ok (.invokevirtual 122, 3) := by decide +kernel
theorem dX9_readPlace_55 : decode cX9_readPlace 55 = .ok (.aload_n 0, 1) := by decide +kernel
theorem dX9_readPlace_56 : decode cX9_readPlace 56 = .ok (.getfield 38, 3) := by decide +kernel
theorem dX9_readPlace_59 : decode cX9_readPlace 59 = .ok (.invokevirtual 82, 3) := by decide +kernel
theorem dX9_readPlace_62 : decode cX9_readPlace 62 = .ok (.iconst 1, 1) := by decide +kernel
theorem dX9_readPlace_63 : decode cX9_readPlace 63 = .ok (.ireturn, 1) := by decide +kernel
theorem dX10_init_0 : decode cX10_init 0 = .ok (.aload_n 0, 1) := by decide +kernel
theorem dX10_init_1 : decode cX10_init 1 = .ok (.invokespecial 3, 3) := by decide +kernel
theorem dX10_init_4 : decode cX10_init 4 = .ok (.aload_n 0, 1) := by decide +kernel
theorem dX10_init_5 : decode cX10_init 5 = .ok (.new 9, 3) := by decide +kernel
theorem dX10_init_8 : decode cX10_init 8 = .ok (.dup, 1) := by decide +kernel
theorem dX10_init_9 : decode cX10_init 9 = .ok (.invokespecial 11, 3) := by decide +kernel
theorem dX10_init_12 : decode cX10_init 12 = .ok (.putfield 12, 3) := by decide +kernel
theorem dX10_init_15 : decode cX10_init 15 = .ok (.aload_n 0, 1) := by decide +kernel
theorem dX10_init_16 : decode cX10_init 16 = .ok (.iconst 0, 1) := by decide +kernel
theorem dX10_init_17 : decode cX10_init 17 = .ok (.putfield 18, 3) := by decide +kernel
theorem dX10_init_20 : decode cX10_init 20 = .ok (.aload_n 0, 1) := by decide +kernel
theorem dX10_init_21 : decode cX10_init 21 = .ok (.iconst 0, 1) := by decide +kernel
theorem dX10_init_22 : decode cX10_init 22 = .ok (.putfield 22, 3) := by decide +kernel
theorem dX10_init_25 : decode cX10_init 25 = .ok (.aload_n 0, 1) := by decide +kernel
theorem dX10_init_26 : decode cX10_init 26 = .ok (.iconst 0, 1) := by decide +kernel
theorem dX10_init_27 : decode cX10_init 27 = .ok (.putfield 25, 3) := by decide +kernel
theorem dX10_init_30 : decode cX10_init 30 = .ok (.aload_n 0, 1) := by decide +kernel
theorem dX10_init_31 : decode cX10_init 31 = .ok (.iconst 0, 1) := by decide +kernel
theorem dX10_init_32 : decode cX10_init 32 = .ok (.putfield 28, 3) := by decide +kernel
theorem dX10_init_35 : decode cX10_init 35 = .ok (.aload_n 0, 1) := by decide +kernel
theorem dX10_init_36 : decode cX10_init 36 = .ok (.lconst 0, 1) := by decide +kernel
theorem dX10_init_37 : decode cX10_init 37 = .ok (.putfield 31, 3) := by decide +kernel
theorem dX10_init_40 : decode cX10_init 40 = .ok (.return_, 1) := by decide +kernel
theorem dX10_rewind_0 : decode cX10_rewind 0 = .ok (.aload_n 0, 1) := by decide +kernel
theorem dX10_rewind_1 : decode cX10_rewind 1 = .ok (.iconst 0, 1) := by decide +kernel
theorem dX10_rewind_2 : decode cX10_rewind 2 = .ok (.putfield 25, 3) := by decide +kernel
theorem dX10_rewind_5 : decode cX10_rewind 5 = .ok (.aload_n 0, 1) := by decide +kernel
theorem dX10_rewind_6 : decode cX10_rewind 6 = .ok (.invokevirtual 35, 3) := by decide +kernel
theorem dX10_rewind_9 : decode cX10_rewind 9 = .ok (.return_, 1) := by decide +kernel
theorem dX10_next_0 : decode cX10_next 0 = .ok (.aload_n 0, 1) := by decide +kernel
theorem dX10_next_1 : decode cX10_next 1 = .ok (.aload_n 0, 1) := by decide +kernel
theorem dX10_next_2 : decode cX10_next 2 = .ok (.getfield 25, 3) := by decide +kernel
theorem dX10_next_5 : decode cX10_next 5 = .ok (.putfield 22, 3) := by decide +kernel
theorem dX10_next_8 : decode cX10_next 8 = .ok (.aload_n 0, 1) := by decide +kernel
theorem dX10_next_9 : decode cX10_next 9 = .ok (.getfield 22, 3) := by decide +kernel
theorem dX10_next_12 : decode cX10_next 12 = .ok (.aload_n 0, 1) := by decide +kernel
theorem dX10_next_13 : decode cX10_next 13 = .ok (.getfield 12, 3) := by decide +kernel
theorem dX10_next_16 : decode cX10_next 16 = .ok (.getfield 38, 3) := by decide +kernel
theorem dX10_next_19 : decode cX10_next 19 = .ok (.if_icmp .ge 32, 3) := by decide +kernel
theorem dX10_next_22 : decode cX10_next 22 = .ok (.aload_n 0, 1) := by decide +kernel
theorem dX10_next_23 : decode cX10_next 23 = .ok (.getfield 12, 3) := by decide +kernel
theorem dX10_next_26 : decode cX10_next 26 = .ok (.aload_n 0, 1) := by decide +kernel
theorem dX10_next_27 : decode cX10_next 27 = .ok (.getfield 22, 3) := by decide +kernel
theorem dX10_next_30 : decode cX10_next 30 = .ok (.invokevirtual 41, 3) := by decide +kernel
theorem dX10_next_33 : decode cX10_next 33 = .ok (.bipush 32, 2) := by decide +kernel
theorem dX10_next_35 : decode cX10_next 35 = .ok (.if_icmp .ne 16, 3) := by decide +kernel
theorem dX10_next_38 : decode cX10_next 38 = .ok (.aload_n 0, 1) := by decide +kernel
theorem dX10_next_39 : decode cX10_next 39 = .ok (.dup, 1) := by decide +kernel
theorem dX10_next_40 : decode cX10_next 40 = .ok (.getfield 22, 3) := by decide +kernel
theorem dX10_next_43 : decode cX10_next 43 = .ok (.iconst 1, 1) := by decide +kernel
theorem dX10_next_44 : decode cX10_next 44 = .ok (.iadd, 1) := by decide +kernel
theorem dX10_next_45 : decode cX10_next 45 = .ok (.putfield 22, 3) := by decide +kernel
theorem dX10_next_48 : decode cX10_next 48 = .ok (.goto (-40), 3) := by decide +kernel
theorem dX10_next_51 : decode cX10_next 51 = .ok (.aload_n 0, 1) := by decide +kernel
theorem dX10_next_52 : decode cX10_next 52 = .ok (.aload_n 0, 1) := by decide +kernel
theorem dX10_next_53 : decode cX10_next 53 = .ok (.getfield 22, 3) := by decide +kernel
theorem dX10_next_56 : decode cX10_next 56 = .ok (.putfield 25, 3) := by decide +kernel
theorem dX10_next_59 : decode cX10_next 59 = .ok (.aload_n 0, 1) := by decide +kernel
theorem dX10_next_60 : decode cX10_next 60 = .ok (.iconst 0, 1) := by decide +kernel
theorem dX10_next_61 : decode cX10_next 61 = .ok (.putfield 28, 3) := by decide +kernel
theorem dX10_next_64 : decode cX10_next 64 = .ok (.aload_n 0, 1) := by decide +kernel
theorem dX10_next_65 : decode cX10_next 65 = .ok (.lconst 0, 1) := by decide +kernel
theorem dX10_next_66 : decode cX10_next 66 = .ok (.putfield 31, 3) := by decide +kernel
theorem dX10_next_69 : decode cX10_next 69 = .ok (.aload_n 0, 1) := by decide +kernel
theorem dX10_next_70 : decode cX10_next 70 = .ok (.getfield 12, 3) := by decide +kernel
theorem dX10_next_73 : decode cX10_next 73 = .ok (.aload_n 0, 1) := by decide +kernel
theorem dX10_next_74 : decode cX10_next 74 = .ok (.getfield 22, 3) := by decide +kernel
theorem dX10_next_77 : decode cX10_next 77 = .ok (.invokevirtual 41, 3) := by decide +kernel
theorem dX10_next_80 : decode cX10_next 80 = .ok (.istore_n 1, 1) := by decide +kernel
theorem dX10_next_81 : decode cX10_next 81 = .ok (.iload_n 1, 1) := by decide +kernel
theorem dX10_next_82 : decode cX10_next 82 = .ok (.iconst (-1), 1) := by decide +kernel
theorem dX10_next_83 : decode cX10_next 83 = .ok (.if_icmp .ne 11, 3) := by decide +kernel
theorem dX10_next_86 : decode cX10_next 86 = .ok (.aload_n 0, 1) := by decide +kernel
theorem dX10_next_87 : decode cX10_next 87 = .ok (.iconst 0, 1) := by decide +kernel
theorem dX10_next_88 : decode cX10_next 88 = .ok (.putfield 18, 3) := by decide +kernel
theorem dX10_next_91 : decode cX10_next 91 = .ok (.goto 56, 3) := by decide +kernel
theorem dX10_next_94 : decode cX10_next 94 = .ok (.iload_n 1, 1) := by decide +kernel
theorem dX10_next_95 : decode cX10_next 95 = .ok (.invokestatic 45, 3) := by decide +kernel
theorem dX10_next_98 : decode cX10_next 98 = .ok (.ifCond .eq 10, 3) := by decide +kernel
theorem dX10_next_101 : decode cX10_next 101 = .ok (.aload_n 0, 1) := by decide +kernel
theorem dX10_next_102 : decode cX10_next 102 = .ok (.invokevirtual 49, 3) := by decide +kernel
theorem dX10_next_105 : decode cX10_next 105 = .ok (.goto 42, 3) := by decide +kernel
theorem dX10_next_108 : decode cX10_next 108 = .ok (.iload_n 1, 1) := by decide +kernel
theorem dX10_next_109 : decode cX10_next 109 = .ok (.invokestatic 52, 3) := by decide +kernel
theorem dX10_next_112 : decode cX10_next 112 = .ok (.ifCond .eq 10, 3) := by decide +kernel
theorem dX10_next_115 : decode cX10_next 115 = .ok (.aload_n 0, 1) := by decide +kernel
theorem dX10_next_116 : decode cX10_next 116 = .ok (.invokevirtual 55, 3) := by decide +kernel
theorem dX10_next_119 : decode cX10_next 119 = .ok (.goto 28, 3) := by decide +kernel
theorem dX10_next_122 : decode cX10_next 122 = .ok (.aload_n 0, 1) := by decide +kernel
theorem dX10_next_123 : decode cX10_next 123 = .ok (.iload_n 1, 1) := by decide +kernel
theorem dX10_next_124 : decode cX10_next 124 = .ok (.bipush 59, 2) := by decide +kernel
theorem dX10_next_126 : decode cX10_next 126 = .ok (.if_icmp .ne 7, 3) := by decide +kernel
theorem dX10_next_129 : decode cX10_next 129 = .ok (.iconst 3, 1) := by decide +kernel
theorem dX10_next_130 : decode cX10_next 130 = .ok (.goto 4, 3) := by decide +kernel
theorem dX10_next_133 : decode cX10_next 133 = .ok (.iconst 4, 1) := by decide +kernel
theorem dX10_next_134 : decode cX10_next 134 = .ok (.putfield 18, 3) := by decide +kernel
theorem dX10_next_137 : decode cX10_next 137 = .ok (.aload_n 0, 1) := by decide +kernel
theorem dX10_next_138 : decode cX10_next 138 = .ok (.aload_n 0, 1) := by decide +kernel
theorem dX10_next_139 : decode cX10_next 139 = .ok (.getfield 22, 3) := by decide +kernel
theorem dX10_next_142 : decode cX10_next 142 = .ok (.iconst 1, 1) := by decide +kernel
theorem dX10_next_143 : decode cX10_next 143 = .ok (.iadd, 1) := by decide +kernel
theorem dX10_next_144 : decode cX10_next 144 = .ok (.putfield 25, 3) := by decide +kernel
theorem dX10_next_147 : decode cX10_next 147 = .ok (.return_, 1) := by decide +kernel
theorem dX10_readWord_0 : decode cX10_readWord 0 = .ok (.aload_n 0, 1) := by decide +kernel
theorem dX10_readWord_1 : decode cX10_readWord 1 = .ok (.iconst 1, 1) := by decide +kernel
theorem dX10_readWord_2 : decode cX10_readWord 2 = .ok (.putfield 18, 3) := by decide +kernel
theorem dX10_readWord_5 : decode cX10_readWord 5 = .ok (.aload_n 0, 1) := by decide +kernel
theorem dX10_readWord_6 : decode cX10_readWord 6 = .ok (.getfield 25, 3) := by decide +kernel
theorem dX10_readWord_9 : decode cX10_readWord 9 = .ok (.aload_n 0, 1) := by decide +kernel
theorem dX10_readWord_10 : decode cX10_readWord 10 = .ok (.getfield 12, 3) := by decide +kernel
theorem dX10_readWord_13 : decode cX10_readWord 13 = .ok (.getfield 38, 3) := by decide +kernel
theorem dX10_readWord_16 : decode cX10_readWord 16 = .ok (.if_icmp .ge 75, 3) := by decide +kernel
theorem dX10_readWord_19 : decode cX10_readWord 19 = .ok (.aload_n 0, 1) := by decide +kernel
theorem dX10_readWord_20 : decode cX10_readWord 20 = .ok (.getfield 12, 3) := by decide +kernel
theorem dX10_readWord_23 : decode cX10_readWord 23 = .ok (.aload_n 0, 1) := by decide +kernel
theorem dX10_readWord_24 : decode cX10_readWord 24 = .ok (.getfield 25, 3) := by decide +kernel
theorem dX10_readWord_27 : decode cX10_readWord 27 = .ok (.invokevirtual 41, 3) := by decide +kernel
theorem dX10_readWord_30 : decode cX10_readWord 30 = .ok (.invokestatic 45, 3) := by decide +kernel
theorem dX10_readWord_33 : decode cX10_readWord 33 = .ok (.ifCond .eq 58, 3) := by decide +kernel
theorem dX10_readWord_36 : decode cX10_readWord 36 = .ok (.aload_n 0, 1) := by decide +kernel
theorem dX10_readWord_37 : decode cX10_readWord 37 = .ok (.aload_n 0, 1) := by decide +kernel
theorem dX10_readWord_38 : decode cX10_readWord 38 = .ok (.getfield 25, 3) := by decide +kernel
theorem dX10_readWord_41 : decode cX10_readWord 41 = .ok (.aload_n 0, 1) := by decide +kernel
theorem dX10_readWord_42 : decode cX10_readWord 42 = .ok (.getfield 22, 3) := by decide +kernel
theorem dX10_readWord_45 : decode cX10_readWord 45 = .ok (.isub, 1) := by decide +kernel
theorem dX10_readWord_46 : decode cX10_readWord 46 = .ok (.bipush 6, 2) := by decide +kernel
theorem dX10_readWord_48 : decode cX10_readWord 48 = .ok (.if_icmp .ge 26, 3) := by decide +kernel
theorem dX10_readWord_51 : decode cX10_readWord 51 = .ok (.aload_n 0, 1) := by decide +kernel
theorem dX10_readWord_52 : decode cX10_readWord 52 = .ok (.getfield 31, 3) := by decide +kernel
theorem dX10_readWord_55 : decode cX10_readWord 55 = .ok (.bipush 8, 2) := by decide +kernel
theorem dX10_readWord_57 : decode cX10_readWord 57 = .ok (.lshl, 1) := by decide +kernel
theorem dX10_readWord_58 : decode cX10_readWord 58 = .ok (.aload_n 0, 1) := by decide +kernel
theorem dX10_readWord_59 : decode cX10_readWord 59 = .ok (.getfield 12, 3) := by decide +kernel
theorem dX10_readWord_62 : decode cX10_readWord 62 = .ok (.aload_n 0, 1) := by decide +kernel
theorem dX10_readWord_63 : decode cX10_readWord 63 = .ok (.getfield 25, 3) := by decide +kernel
theorem dX10_readWord_66 : decode cX10_readWord 66 = .ok (.invokevirtual 41, 3) := by decide +kernel
theorem dX10_readWord_69 : decode cX10_readWord 69 = .ok (.i2l, 1) := by decide +kernel
theorem dX10_readWord_70 : decode cX10_readWord 70 = .ok (.lor, 1) := by decide +kernel
theorem dX10_readWord_71 : decode cX10_readWord 71 = .ok (.goto 4, 3) := by decide +kernel
theorem dX10_readWord_74 : decode cX10_readWord 74 = .ok (.lconst 0, 1) := by decide +kernel
theorem dX10_readWord_75 : decode cX10_readWord 75 = .ok (.putfield 31, 3) := by decide +kernel
theorem dX10_readWord_78 : decode cX10_readWord 78 = .ok (.aload_n 0, 1) := by decide +kernel
theorem dX10_readWord_79 : decode cX10_readWord 79 = .ok (.dup, 1) := by decide +kernel
theorem dX10_readWord_80 : decode cX10_readWord 80 = .ok (.getfield 25, 3) := by decide +kernel
theorem dX10_readWord_83 : decode cX10_readWord 83 = .ok (.iconst 1, 1) := by decide +kernel
theorem dX10_readWord_84 : decode cX10_readWord 84 = .ok (.iadd, 1) := by decide +kernel
theorem dX10_readWord_85 : decode cX10_readWord 85 = .ok (.putfield 25, 3) := by decide +kernel
theorem dX10_readWord_88 : decode cX10_readWord 88 = .ok (.goto (-83), 3) := by decide +kernel
theorem dX10_readWord_91 : decode cX10_readWord 91 = .ok (.return_, 1) := by decide +kernel
theorem dX10_readNumber_0 : decode cX10_readNumber 0 = .ok (.aload_n 0, 1) := by decide +kernel
theorem dX10_readNumber_1 : decode cX10_readNumber 1 = .ok (.iconst 2, 1) := by decide +kernel
theorem dX10_readNumber_2 : decode cX10_readNumber 2 = .ok (.putfield 18, 3) := by decide +kernel
theorem dX10_readNumber_5 : decode cX10_readNumber 5 = .ok (.aload_n 0, 1) := by decide +kernel
theorem dX10_readNumber_6 : decode cX10_readNumber 6 = .ok (.getfield 25, 3) := by decide +kernel
theorem dX10_readNumber_9 : decode cX10_readNumber 9 = .ok (.aload_n 0, 1) := by decide +kernel
theorem dX10_readNumber_10 : decode cX10_readNumber 10 = .ok (.getfield 12, 3) := by decide +kernel
theorem dX10_readNumber_13 : decode cX10_readNumber 13 = .ok (.getfield 38, 3) := by decide +kernel
theorem dX10_readNumber_16 : decode cX10_readNumber 16 = .ok (.if_icmp .ge 69, 3) := by decide +kernel
theorem dX10_readNumber_19 : decode cX10_readNumber 19 = .ok (.aload_n 0, 1) := by decide +kernel
theorem dX10_readNumber_20 : decode cX10_readNumber 20 = .ok (.getfield 12, 3) := by decide +kernel
theorem dX10_readNumber_23 : decode cX10_readNumber 23 = .ok (.aload_n 0, 1) := by decide +kernel
theorem dX10_readNumber_24 : decode cX10_readNumber 24 = .ok (.getfield 25, 3) := by decide +kernel
theorem dX10_readNumber_27 : decode cX10_readNumber 27 = .ok (.invokevirtual 41, 3) := by decide +kernel
theorem dX10_readNumber_30 : decode cX10_readNumber 30 = .ok (.invokestatic 52, 3) := by decide +kernel
theorem dX10_readNumber_33 : decode cX10_readNumber 33 = .ok (.ifCond .eq 52, 3) := by decide +kernel
theorem dX10_readNumber_36 : decode cX10_readNumber 36 = .ok (.aload_n 0, 1) := by decide +kernel
theorem dX10_readNumber_37 : decode cX10_readNumber 37 = .ok (.getfield 28, 3) := by decide +kernel
theorem dX10_readNumber_40 : decode cX10_readNumber 40 = .ok (.sipush 10000, 3) := by decide +kernel
theorem dX10_readNumber_43 : decode cX10_readNumber 43 = .ok (.if_icmp .ge 29, 3) := by decide +kernel
theorem dX10_readNumber_46 : decode cX10_readNumber 46 = .ok (.aload_n 0, 1) := by decide +kernel
theorem dX10_readNumber_47 : decode cX10_readNumber 47 = .ok (.bipush 10, 2) := by decide +kernel
theorem dX10_readNumber_49 : decode cX10_readNumber 49 = .ok (.aload_n 0, 1) := by decide +kernel
theorem dX10_readNumber_50 : decode cX10_readNumber 50 = .ok (.getfield 28, 3) := by decide +kernel
theorem dX10_readNumber_53 : decode cX10_readNumber 53 = .ok (.imul, 1) := by decide +kernel
theorem dX10_readNumber_54 : decode cX10_readNumber 54 = .ok (.aload_n 0, 1) := by decide +kernel
theorem dX10_readNumber_55 : decode cX10_readNumber 55 = .ok (.getfield 12, 3) := by decide +kernel
theorem dX10_readNumber_58 : decode cX10_readNumber 58 = .ok (.aload_n 0, 1) := by decide +kernel
theorem dX10_readNumber_59 : decode cX10_readNumber 59 = .ok (.getfield 25, 3) := by decide +kernel
theorem dX10_readNumber_62 : decode cX10_readNumber 62 = .ok (.invokevirtual 41, 3) := by decide +kernel
theorem dX10_readNumber_65 : decode cX10_readNumber 65 = .ok (.iadd, 1) := by decide +kernel
theorem dX10_readNumber_66 : decode cX10_readNumber 66 = .ok (.bipush 48, 2) := by decide +kernel
theorem dX10_readNumber_68 : decode cX10_readNumber 68 = .ok (.isub, 1) := by decide +kernel
theorem dX10_readNumber_69 : decode cX10_readNumber 69 = .ok (.putfield 28, 3) := by decide +kernel
theorem dX10_readNumber_72 : decode cX10_readNumber 72 = .ok (.aload_n 0, 1) := by decide +kernel
theorem dX10_readNumber_73 : decode cX10_readNumber 73 = .ok (.dup, 1) := by decide +kernel
theorem dX10_readNumber_74 : decode cX10_readNumber 74 = .ok (.getfield 25, 3) := by decide +kernel
theorem dX10_readNumber_77 : decode cX10_readNumber 77 = .ok (.iconst 1, 1) := by decide +kernel
theorem dX10_readNumber_78 : decode cX10_readNumber 78 = .ok (.iadd, 1) := by decide +kernel
theorem dX10_readNumber_79 : decode cX10_readNumber 79 = .ok (.putfield 25, 3) := by decide +kernel
theorem dX10_readNumber_82 : decode cX10_readNumber 82 = .ok (.goto (-77), 3) := by decide +kernel
theorem dX10_readNumber_85 : decode cX10_readNumber 85 = .ok (.return_, 1) := by decide +kernel
theorem dX10_isWord_0 : decode cX10_isWord 0 = .ok (.aload_n 0, 1) := by decide +kernel
theorem dX10_isWord_1 : decode cX10_isWord 1 = .ok (.getfield 18, 3) := by decide +kernel
theorem dX10_isWord_4 : decode cX10_isWord 4 = .ok (.iconst 1, 1) := by decide +kernel
theorem dX10_isWord_5 : decode cX10_isWord 5 = .ok (.if_icmp .ne 19, 3) := by decide +kernel
theorem dX10_isWord_8 : decode cX10_isWord 8 = .ok (.aload_n 0, 1) := by decide +kernel
theorem dX10_isWord_9 : decode cX10_isWord 9 = .ok (.getfield 25, 3) := by decide +kernel
theorem dX10_isWord_12 : decode cX10_isWord 12 = .ok (.aload_n 0, 1) := by decide +kernel
theorem dX10_isWord_13 : decode cX10_isWord 13 = .ok (.getfield 22, 3) := by decide +kernel
theorem dX10_isWord_16 : decode cX10_isWord 16 = .ok (.isub, 1) := by decide +kernel
theorem dX10_isWord_17 : decode cX10_isWord 17 = .ok (.aload_n 1, 1) := by decide +kernel
theorem dX10_isWord_18 : decode cX10_isWord 18 = .ok (.invokevirtual 58, 3) := by decide +kernel
theorem dX10_isWord_21 : decode cX10_isWord 21 = .ok (.if_icmp .eq 5, 3) := by decide +kernel
theorem dX10_isWord_24 : decode cX10_isWord 24 = .ok (.iconst 0, 1) := by decide +kernel
theorem dX10_isWord_25 : decode cX10_isWord 25 = .ok (.ireturn, 1) := by decide +kernel
theorem dX10_isWord_26 : decode cX10_isWord 26 = .ok (.iconst 0, 1) := by decide +kernel
theorem dX10_isWord_27 : decode cX10_isWord 27 = .ok (.istore_n 2, 1) := by decide +kernel
theorem dX10_isWord_28 : decode cX10_isWord 28 = .ok (.iload_n 2, 1) := by decide +kernel
theorem dX10_isWord_29 : decode cX10_isWord 29 = .ok (.aload_n 1, 1) := by decide +kernel
theorem dX10_isWord_30 : decode cX10_isWord 30 = .ok (.invokevirtual 58, 3) := by decide +kernel
theorem dX10_isWord_33 : decode cX10_isWord 33 = .ok (.if_icmp .ge 32, 3) := by decide +kernel
theorem dX10_isWord_36 : decode cX10_isWord 36 = .ok (.aload_n 0, 1) := by decide +kernel
theorem dX10_isWord_37 : decode cX10_isWord 37 = .ok (.getfield 12, 3) := by decide +kernel
theorem dX10_isWord_40 : decode cX10_isWord 40 = .ok (.aload_n 0, 1) := by decide +kernel
theorem dX10_isWord_41 : decode cX10_isWord 41 = .ok (.getfield 22, 3) := by decide +kernel
theorem dX10_isWord_44 : decode cX10_isWord 44 = .ok (.iload_n 2, 1) := by decide +kernel
theorem dX10_isWord_45 : decode cX10_isWord 45 = .ok (.iadd, 1) := by decide +kernel
theorem dX10_isWord_46 : decode cX10_isWord 46 = .ok (.invokevirtual 41, 3) := by decide +kernel
theorem dX10_isWord_49 : decode cX10_isWord 49 = .ok (.aload_n 1, 1) := by decide +kernel
theorem dX10_isWord_50 : decode cX10_isWord 50 = .ok (.iload_n 2, 1) := by decide +kernel
theorem dX10_isWord_51 : decode cX10_isWord 51 = .ok (.invokevirtual 63, 3) := by decide +kernel
theorem dX10_isWord_54 : decode cX10_isWord 54 = .ok (.if_icmp .eq 5, 3) := by decide +kernel
theorem dX10_isWord_57 : decode cX10_isWord 57 = .ok (.iconst 0, 1) := by decide +kernel
theorem dX10_isWord_58 : decode cX10_isWord 58 = .ok (.ireturn, 1) := by decide +kernel
theorem dX10_isWord_59 : decode cX10_isWord 59 = .ok (.iinc 2 1, 3) := by decide +kernel
theorem dX10_isWord_62 : decode cX10_isWord 62 = .ok (.goto (-34), 3) := by decide +kernel
theorem dX10_isWord_65 : decode cX10_isWord 65 = .ok (.iconst 1, 1) := by decide +kernel
theorem dX10_isWord_66 : decode cX10_isWord 66 = .ok (.ireturn, 1) := by decide +kernel
theorem dX10_isLetter_0 : decode cX10_isLetter 0 = .ok (.iload_n 0, 1) := by decide +kernel
theorem dX10_isLetter_1 : decode cX10_isLetter 1 = .ok (.bipush 97, 2) := by decide +kernel
theorem dX10_isLetter_3 : decode cX10_isLetter 3 = .ok (.if_icmp .lt 13, 3) := by decide +kernel
theorem dX10_isLetter_6 : decode cX10_isLetter 6 = .ok (.iload_n 0, 1) := by decide +kernel
theorem dX10_isLetter_7 : decode cX10_isLetter 7 = .ok (.bipush 122, 2) := by decide +kernel
theorem dX10_isLetter_9 : decode cX10_isLetter 9 = .ok (.if_icmp .gt 7, 3) := by decide +kernel
theorem dX10_isLetter_12 : decode cX10_isLetter 12 = .ok (.iconst 1, 1) := by decide +kernel
theorem dX10_isLetter_13 : decode cX10_isLetter 13 = .ok (.goto 4, 3) := by decide +kernel
theorem dX10_isLetter_16 : decode cX10_isLetter 16 = .ok (.iconst 0, 1) := by decide +kernel
theorem dX10_isLetter_17 : decode cX10_isLetter 17 = .ok (.ireturn, 1) := by decide +kernel
theorem dX10_isDigit_0 : decode cX10_isDigit 0 = .ok (.iload_n 0, 1) := by decide +kernel
theorem dX10_isDigit_1 : decode cX10_isDigit 1 = .ok (.bipush 48, 2) := by decide +kernel
theorem dX10_isDigit_3 : decode cX10_isDigit 3 = .ok (.if_icmp .lt 13, 3) := by decide +kernel
theorem dX10_isDigit_6 : decode cX10_isDigit 6 = .ok (.iload_n 0, 1) := by decide +kernel
theorem dX10_isDigit_7 : decode cX10_isDigit 7 = .ok (.bipush 57, 2) := by decide +kernel
theorem dX10_isDigit_9 : decode cX10_isDigit 9 = .ok (.if_icmp .gt 7, 3) := by decide +kernel
theorem dX10_isDigit_12 : decode cX10_isDigit 12 = .ok (.iconst 1, 1) := by decide +kernel
theorem dX10_isDigit_13 : decode cX10_isDigit 13 = .ok (.goto 4, 3) := by decide +kernel
theorem dX10_isDigit_16 : decode cX10_isDigit 16 = .ok (.iconst 0, 1) := by decide +kernel
theorem dX10_isDigit_17 : decode cX10_isDigit 17 = .ok (.ireturn, 1) := by decide +kernel
theorem dX12_init_0 : decode cX12_init 0 = .ok (.aload_n 0, 1) := by decide +kernel
theorem dX12_init_1 : decode cX12_init 1 = .ok (.invokespecial 3, 3) := by decide +kernel
theorem dX12_init_4 : decode cX12_init 4 = .ok (.aload_n 0, 1) := by decide +kernel
theorem dX12_init_5 : decode cX12_init 5 = .ok (.new 9, 3) := by decide +kernel
theorem dX12_init_8 : decode cX12_init 8 = .ok (.dup, 1) := by decide +kernel
theorem dX12_init_9 : decode cX12_init 9 = .ok (.invokespecial 11, 3) := by decide +kernel
theorem dX12_init_12 : decode cX12_init 12 = .ok (.putfield 12, 3) := by decide +kernel
theorem dX12_init_15 : decode cX12_init 15 = .ok (.aload_n 0, 1) := by decide +kernel
theorem dX12_init_16 : decode cX12_init 16 = .ok (.new 16, 3) := by decide +kernel
theorem dX12_init_19 : decode cX12_init 19 = .ok (.dup, 1) := by decide +kernel
theorem dX12_init_20 : decode cX12_init 20 = .ok (.invokespecial 18, 3) := by decide +kernel
theorem dX12_init_23 : decode cX12_init 23 = .ok (.putfield 19, 3) := by decide +kernel
theorem dX12_init_26 : decode cX12_init 26 = .ok (.aload_n 0, 1) := by decide +kernel
theorem dX12_init_27 : decode cX12_init 27 = .ok (.new 23, 3) := by decide +kernel
theorem dX12_init_30 : decode cX12_init 30 = .ok (.dup, 1) := by decide +kernel
theorem dX12_init_31 : decode cX12_init 31 = .ok (.invokespecial 25, 3) := by decide +kernel
theorem dX12_init_34 : decode cX12_init 34 = .ok (.putfield 26, 3) := by decide +kernel
theorem dX12_init_37 : decode cX12_init 37 = .ok (.aload_n 0, 1) := by decide +kernel
theorem dX12_init_38 : decode cX12_init 38 = .ok (.new 23, 3) := by decide +kernel
theorem dX12_init_41 : decode cX12_init 41 = .ok (.dup, 1) := by decide +kernel
theorem dX12_init_42 : decode cX12_init 42 = .ok (.invokespecial 25, 3) := by decide +kernel
theorem dX12_init_45 : decode cX12_init 45 = .ok (.putfield 30, 3) := by decide +kernel
theorem dX12_init_48 : decode cX12_init 48 = .ok (.aload_n 0, 1) := by decide +kernel
theorem dX12_init_49 : decode cX12_init 49 = .ok (.iconst 0, 1) := by decide +kernel
theorem dX12_init_50 : decode cX12_init 50 = .ok (.putfield 33, 3) := by decide +kernel
theorem dX12_init_53 : decode cX12_init 53 = .ok (.aload_n 0, 1) := by decide +kernel
theorem dX12_init_54 : decode cX12_init 54 = .ok (.new 37, 3) := by decide +kernel
theorem dX12_init_57 : decode cX12_init 57 = .ok (.dup, 1) := by decide +kernel
theorem dX12_init_58 : decode cX12_init 58 = .ok (.invokespecial 39, 3) := by decide +kernel
theorem dX12_init_61 : decode cX12_init 61 = .ok (.putfield 40, 3) := by decide +kernel
theorem dX12_init_64 : decode cX12_init 64 = .ok (.aload_n 0, 1) := by decide +kernel
theorem dX12_init_65 : decode cX12_init 65 = .ok (.new 44, 3) := by decide +kernel
theorem dX12_init_68 : decode cX12_init 68 = .ok (.dup, 1) := by decide +kernel
theorem dX12_init_69 : decode cX12_init 69 = .ok (.invokespecial 46, 3) := by decide +kernel
theorem dX12_init_72 : decode cX12_init 72 = .ok (.putfield 47, 3) := by decide +kernel
theorem dX12_init_75 : decode cX12_init 75 = .ok (.aload_n 0, 1) := by decide +kernel
theorem dX12_init_76 : decode cX12_init 76 = .ok (.new 51, 3) := by decide +kernel
theorem dX12_init_79 : decode cX12_init 79 = .ok (.dup, 1) := by decide +kernel
theorem dX12_init_80 : decode cX12_init 80 = .ok (.invokespecial 53, 3) := by decide +kernel
theorem dX12_init_83 : decode cX12_init 83 = .ok (.putfield 54, 3) := by decide +kernel
theorem dX12_init_86 : decode cX12_init 86 = .ok (.new 58, 3) := by decide +kernel
theorem dX12_init_89 : decode cX12_init 89 = .ok (.dup, 1) := by decide +kernel
theorem dX12_init_90 : decode cX12_init 90 = .ok (.invokespecial 60, 3) := by decide +kernel
theorem dX12_init_93 : decode cX12_init 93 = .ok (.astore_n 1, 1) := by decide +kernel
theorem dX12_init_94 : decode cX12_init 94 = .ok (.new 23, 3) := by decide +kernel
theorem dX12_init_97 : decode cX12_init 97 = .ok (.dup, 1) := by decide +kernel
theorem dX12_init_98 : decode cX12_init 98 = .ok (.invokespecial 25, 3) := by decide +kernel
theorem dX12_init_101 : decode cX12_init 101 = .ok (.astore_n 2, 1) := by decide +kernel
theorem dX12_init_102 : decode cX12_init 102 = .ok (.iconst 0, 1) := by decide +kernel
theorem dX12_init_103 : decode cX12_init 103 = .ok (.istore_n 3, 1) := by decide +kernel
theorem dX12_init_104 : decode cX12_init 104 = .ok (.iload_n 3, 1) := by decide +kernel
theorem dX12_init_105 : decode cX12_init 105 = .ok (.ldc 61, 2) := by decide +kernel
theorem dX12_init_107 : decode cX12_init 107 = .ok (.invokevirtual 63, 3) := by decide +kernel
theorem dX12_init_110 : decode cX12_init 110 = .ok (.if_icmp .ge 25, 3) := by decide +kernel
theorem dX12_init_113 : decode cX12_init 113 = .ok (.aload_n 1, 1) := by decide +kernel
theorem dX12_init_114 : decode cX12_init 114 = .ok (.getfield 69, 3) := by decide +kernel
theorem dX12_init_117 : decode cX12_init 117 = .ok (.getfield 73, 3) := by decide +kernel
theorem dX12_init_120 : decode cX12_init 120 = .ok (.ldc 61, 2) := by decide +kernel
theorem dX12_init_122 : decode cX12_init 122 = .ok (.iload_n 3, 1) := by decide +kernel
theorem dX12_init_123 : decode cX12_init 123 = .ok (.invokevirtual 78, 3) := by decide +kernel
theorem dX12_init_126 : decode cX12_init 126 = .ok (.invokevirtual 82, 3) := by decide +kernel
theorem dX12_init_129 : decode cX12_init 129 = .ok (.iinc 3 1, 3) := by decide +kernel
theorem dX12_init_132 : decode cX12_init 132 = .ok (.goto (-28), 3) := by decide +kernel
theorem dX12_init_135 : decode cX12_init 135 = .ok (.aload_n 1, 1) := by decide +kernel
theorem dX12_init_136 : decode cX12_init 136 = .ok (.aload_n 2, 1) := by decide +kernel
theorem dX12_init_137 : decode cX12_init 137 = .ok (.invokestatic 86, 3) := by decide +kernel
theorem dX12_init_140 : decode cX12_init 140 = .ok (.pop, 1) := by decide +kernel
theorem dX12_init_141 : decode cX12_init 141 = .ok (.aload_n 1, 1) := by decide +kernel
theorem dX12_init_142 : decode cX12_init 142 = .ok (.getfield 69, 3) := by decide +kernel
theorem dX12_init_145 : decode cX12_init 145 = .ok (.getfield 73, 3) := by decide +kernel
theorem dX12_init_148 : decode cX12_init 148 = .ok (.iconst 0, 1) := by decide +kernel
theorem dX12_init_149 : decode cX12_init 149 = .ok (.invokevirtual 92, 3) := by decide +kernel
theorem dX12_init_152 : decode cX12_init 152 = .ok (.aload_n 0, 1) := by decide +kernel
theorem dX12_init_153 : decode cX12_init 153 = .ok (.aload_n 1, 1) := by decide +kernel
theorem dX12_init_154 : decode cX12_init 154 = .ok (.putfield 95, 3) := by decide +kernel
theorem dX12_init_157 : decode cX12_init 157 = .ok (.aload_n 0, 1) := by decide +kernel
theorem dX12_init_158 : decode cX12_init 158 = .ok (.aload_n 2, 1) := by decide +kernel
theorem dX12_init_159 : decode cX12_init 159 = .ok (.putfield 99, 3) := by decide +kernel
theorem dX12_init_162 : decode cX12_init 162 = .ok (.return_, 1) := by decide +kernel
theorem dX12_appendInput_0 : decode cX12_appendInput 0 = .ok (.aload_n 0, 1) := by decide +kernel
theorem dX12_appendInput_1 : decode cX12_appendInput 1 = .ok (.getfield 95, 3) := by decide +kernel
theorem dX12_appendInput_4 : decode cX12_appendInput 4 = .ok (.getfield 69, 3) := by decide +kernel
theorem dX12_appendInput_7 : decode cX12_appendInput 7 = .ok (.getfield 73, 3) := by decide +kernel
theorem dX12_appendInput_10 : decode cX12_appendInput 10 = .ok (.astore 6, 2) := by decide +kernel
theorem dX12_appendInput_12 : decode cX12_appendInput 12 = .ok (.aload 6, 2) := by decide +kernel
theorem dX12_appendInput_14 : decode cX12_appendInput 14 = .ok (.getfield 102, 3) := by decide +kernel
theorem dX12_appendInput_17 : decode cX12_appendInput 17 = .ok (.sipush 680, 3) := by decide +kernel
theorem dX12_appendInput_20 : decode cX12_appendInput 20 = .ok (.if_icmp .le 13, 3) := by decide +kernel
theorem dX12_appendInput_23 : decode cX12_appendInput 23 = .ok (.new 105, 3) := by decide +kernel
theorem dX12_appendInput_26 : decode cX12_appendInput 26 = .ok (.dup, 1) := by decide +kernel
theorem dX12_appendInput_27 : decode cX12_appendInput 27 = .ok (.ldc 107, 2) := by decide +kernel
theorem dX12_appendInput_29 : decode cX12_appendInput 29 = .ok (.invokespecial 109, 3) := by decide +kernel
theorem dX12_appendInput_32 : decode cX12_appendInput 32 = .ok (.athrow, 1) := by decide +kernel
theorem dX12_appendInput_33 : decode cX12_appendInput 33 = .ok (.aload 6, 2) := by decide +kernel
theorem dX12_appendInput_35 : decode cX12_appendInput 35 = .ok (.iload_n 1, 1) := by decide +kernel
theorem dX12_appendInput_36 : decode cX12_appendInput 36 = .ok (.invokevirtual 112, 3) := by decide +kernel
theorem dX12_appendInput_39 : decode cX12_appendInput 39 = .ok (.aload 6, 2) := by decide +kernel
theorem dX12_appendInput_41 : decode cX12_appendInput 41 = .ok (.iload_n 2, 1) := by decide +kernel
theorem dX12_appendInput_42 : decode cX12_appendInput 42 = .ok (.invokevirtual 112, 3) := by decide +kernel
theorem dX12_appendInput_45 : decode cX12_appendInput 45 = .ok (.aload 6, 2) := by decide +kernel
theorem dX12_appendInput_47 : decode cX12_appendInput 47 = .ok (.iload_n 3, 1) := by decide +kernel
theorem dX12_appendInput_48 : decode cX12_appendInput 48 = .ok (.invokevirtual 112, 3) := by decide +kernel
theorem dX12_appendInput_51 : decode cX12_appendInput 51 = .ok (.aload 6, 2) := by decide +kernel
theorem dX12_appendInput_53 : decode cX12_appendInput 53 = .ok (.iload 4, 2) := by decide +kernel
theorem dX12_appendInput_55 : decode cX12_appendInput 55 = .ok (.invokevirtual 112, 3) := by decide +kernel
theorem dX12_appendInput_58 : decode cX12_appendInput 58 = .ok (.aload 6, 2) := by decide +kernel
theorem dX12_appendInput_60 : decode cX12_appendInput 60 = .ok (.iload 5, 2) := by decide +kernel
theorem dX12_appendInput_62 : decode cX12_appendInput 62 = .ok (.invokevirtual 112, 3) := by decide +kernel
theorem dX12_appendInput_65 : decode cX12_appendInput 65 = .ok (.aload 6, 2) := by decide +kernel
theorem dX12_appendInput_67 : decode cX12_appendInput 67 = .ok (.getfield 102, 3) := by decide +kernel
theorem dX12_appendInput_70 : decode cX12_appendInput 70 = .ok (.ireturn, 1) := by decide +kernel
theorem dX12_loadSetup_0 : decode cX12_loadSetup 0 = .ok (.aload_n 0, 1) := by decide +kernel
theorem dX12_loadSetup_1 : decode cX12_loadSetup 1 = .ok (.getfield 95, 3) := by decide +kernel
theorem dX12_loadSetup_4 : decode cX12_loadSetup 4 = .ok (.aload_n 0, 1) := by decide +kernel
theorem dX12_loadSetup_5 : decode cX12_loadSetup 5 = .ok (.getfield 26, 3) := by decide +kernel
theorem dX12_loadSetup_8 : decode cX12_loadSetup 8 = .ok (.invokestatic 86, 3) := by decide +kernel
theorem dX12_loadSetup_11 : decode cX12_loadSetup 11 = .ok (.istore_n 1, 1) := by decide +kernel
theorem dX12_loadSetup_12 : decode cX12_loadSetup 12 = .ok (.aload_n 0, 1) := by decide +kernel
theorem dX12_loadSetup_13 : decode cX12_loadSetup 13 = .ok (.getfield 95, 3) := by decide +kernel
theorem dX12_loadSetup_16 : decode cX12_loadSetup 16 = .ok (.getfield 69, 3) := by decide +kernel
theorem dX12_loadSetup_19 : decode cX12_loadSetup 19 = .ok (.getfield 73, 3) := by decide +kernel
theorem dX12_loadSetup_22 : decode cX12_loadSetup 22 = .ok (.iconst 0, 1) := by decide +kernel
theorem dX12_loadSetup_23 : decode cX12_loadSetup 23 = .ok (.invokevirtual 92, 3) := by decide +kernel
theorem dX12_loadSetup_26 : decode cX12_loadSetup 26 = .ok (.iload_n 1, 1) := by decide +kernel
theorem dX12_loadSetup_27 : decode cX12_loadSetup 27 = .ok (.ifCond .ne 5, 3) := by decide +kernel
theorem dX12_loadSetup_30 : decode cX12_loadSetup 30 = .ok (.iconst (-1), 1) := by decide +kernel
theorem dX12_loadSetup_31 : decode cX12_loadSetup 31 = .ok (.ireturn, 1) := by decide +kernel
theorem dX12_loadSetup_32 : decode cX12_loadSetup 32 = .ok (.aload_n 0, 1) := by decide +kernel
theorem dX12_loadSetup_33 : decode cX12_loadSetup 33 = .ok (.getfield 26, 3) := by decide +kernel
theorem dX12_loadSetup_36 : decode cX12_loadSetup 36 = .ok (.aload_n 0, 1) := by decide +kernel
theorem dX12_loadSetup_37 : decode cX12_loadSetup 37 = .ok (.getfield 99, 3) := by decide +kernel
theorem dX12_loadSetup_40 : decode cX12_loadSetup 40 = .ok (.invokestatic 120, 3) := by decide +kernel
theorem dX12_loadSetup_43 : decode cX12_loadSetup 43 = .ok (.aload_n 0, 1) := by decide +kernel
theorem dX12_loadSetup_44 : decode cX12_loadSetup 44 = .ok (.getfield 40, 3) := by decide +kernel
theorem dX12_loadSetup_47 : decode cX12_loadSetup 47 = .ok (.invokevirtual 124, 3) := by decide +kernel
theorem dX12_loadSetup_50 : decode cX12_loadSetup 50 = .ok (.aload_n 0, 1) := by decide +kernel
theorem dX12_loadSetup_51 : decode cX12_loadSetup 51 = .ok (.getfield 99, 3) := by decide +kernel
theorem dX12_loadSetup_54 : decode cX12_loadSetup 54 = .ok (.getfield 127, 3) := by decide +kernel
theorem dX12_loadSetup_57 : decode cX12_loadSetup 57 = .ok (.ireturn, 1) := by decide +kernel
theorem dX12_sellerCount_0 : decode cX12_sellerCount 0 = .ok (.aload_n 0, 1) := by decide +kernel
theorem dX12_sellerCount_1 : decode cX12_sellerCount 1 = .ok (.getfield 99, 3) := by decide +kernel
theorem dX12_sellerCount_4 : decode cX12_sellerCount 4 = .ok (.getfield 127, 3) := by decide +kernel
theorem dX12_sellerCount_7 : decode cX12_sellerCount 7 = .ok (.ireturn, 1) := by decide +kernel
theorem dX12_stallCount_0 : decode cX12_stallCount 0 = .ok (.aload_n 0, 1) := by decide +kernel
theorem dX12_stallCount_1 : decode cX12_stallCount 1 = .ok (.getfield 99, 3) := by decide +kernel
theorem dX12_stallCount_4 : decode cX12_stallCount 4 = .ok (.getfield 145, 3) := by decide +kernel
theorem dX12_stallCount_7 : decode cX12_stallCount 7 = .ok (.ireturn, 1) := by decide +kernel
theorem dX12_day_0 : decode cX12_day 0 = .ok (.aload_n 0, 1) := by decide +kernel
theorem dX12_day_1 : decode cX12_day 1 = .ok (.getfield 99, 3) := by decide +kernel
theorem dX12_day_4 : decode cX12_day 4 = .ok (.getfield 148, 3) := by decide +kernel
theorem dX12_day_7 : decode cX12_day 7 = .ok (.ireturn, 1) := by decide +kernel
theorem dX12_balance_0 : decode cX12_balance 0 = .ok (.aload_n 0, 1) := by decide +kernel
theorem dX12_balance_1 : decode cX12_balance 1 = .ok (.iload_n 1, 1) := by decide +kernel
theorem dX12_balance_2 : decode cX12_balance 2 = .ok (.invokevirtual 151, 3) := by decide +kernel
theorem dX12_balance_5 : decode cX12_balance 5 = .ok (.aload_n 0, 1) := by decide +kernel
theorem dX12_balance_6 : decode cX12_balance 6 = .ok (.getfield 99, 3) := by decide +kernel
theorem dX12_balance_9 : decode cX12_balance 9 = .ok (.iload_n 1, 1) := by decide +kernel
theorem dX12_balance_10 : decode cX12_balance 10 = .ok (.invokevirtual 154, 3) := by decide +kernel
theorem dX12_balance_13 : decode cX12_balance 13 = .ok (.ireturn, 1) := by decide +kernel
theorem dX12_rent_0 : decode cX12_rent 0 = .ok (.aload_n 0, 1) := by decide +kernel
theorem dX12_rent_1 : decode cX12_rent 1 = .ok (.iload_n 1, 1) := by decide +kernel
theorem dX12_rent_2 : decode cX12_rent 2 = .ok (.invokevirtual 161, 3) := by decide +kernel
theorem dX12_rent_5 : decode cX12_rent 5 = .ok (.aload_n 0, 1) := by decide +kernel
theorem dX12_rent_6 : decode cX12_rent 6 = .ok (.getfield 99, 3) := by decide +kernel
theorem dX12_rent_9 : decode cX12_rent 9 = .ok (.iload_n 1, 1) := by decide +kernel
theorem dX12_rent_10 : decode cX12_rent 10 = .ok (.invokevirtual 164, 3) := by decide +kernel
theorem dX12_rent_13 : decode cX12_rent 13 = .ok (.ireturn, 1) := by decide +kernel
theorem dX12_stallOf_0 : decode cX12_stallOf 0 = .ok (.aload_n 0, 1) := by decide +kernel
theorem dX12_stallOf_1 : decode cX12_stallOf 1 = .ok (.iload_n 1, 1) := by decide +kernel
theorem dX12_stallOf_2 : decode cX12_stallOf 2 = .ok (.invokevirtual 151, 3) := by decide +kernel
theorem dX12_stallOf_5 : decode cX12_stallOf 5 = .ok (.aload_n 0, 1) := by decide +kernel
theorem dX12_stallOf_6 : decode cX12_stallOf 6 = .ok (.getfield 99, 3) := by decide +kernel
theorem dX12_stallOf_9 : decode cX12_stallOf 9 = .ok (.iload_n 1, 1) := by decide +kernel
theorem dX12_stallOf_10 : decode cX12_stallOf 10 = .ok (.invokevirtual 167, 3) := by decide +kernel
theorem dX12_stallOf_13 : decode cX12_stallOf 13 = .ok (.ireturn, 1) := by decide +kernel
theorem dX12_occupantOf_0 : decode cX12_occupantOf 0 = .ok (.aload_n 0, 1) := by decide +kernel
theorem dX12_occupantOf_1 : decode cX12_occupantOf 1 = .ok (.iload_n 1, 1) := by decide +kernel
theorem dX12_occupantOf_2 : decode cX12_occupantOf 2 = .ok (.invokevirtual 161, 3) := by decide +kernel
theorem dX12_occupantOf_5 : decode cX12_occupantOf 5 = .ok (.aload_n 0, 1) := by decide +kernel
theorem dX12_occupantOf_6 : decode cX12_occupantOf 6 = .ok (.getfield 99, 3) := by decide +kernel
theorem dX12_occupantOf_9 : decode cX12_occupantOf 9 = .ok (.iload_n 1, 1) := by decide +kernel
theorem dX12_occupantOf_10 : decode cX12_occupantOf 10 = .ok (.invokevirtual 170, 3) := by decide +kernel
theorem dX12_occupantOf_13 : decode cX12_occupantOf 13 = .ok (.ireturn, 1) := by decide +kernel
theorem dX12_priorityOf_0 : decode cX12_priorityOf 0 = .ok (.aload_n 0, 1) := by decide +kernel
theorem dX12_priorityOf_1 : decode cX12_priorityOf 1 = .ok (.iload_n 1, 1) := by decide +kernel
theorem dX12_priorityOf_2 : decode cX12_priorityOf 2 = .ok (.invokevirtual 151, 3) := by decide +kernel
theorem dX12_priorityOf_5 : decode cX12_priorityOf 5 = .ok (.aload_n 0, 1) := by decide +kernel
theorem dX12_priorityOf_6 : decode cX12_priorityOf 6 = .ok (.getfield 99, 3) := by decide +kernel
theorem dX12_priorityOf_9 : decode cX12_priorityOf 9 = .ok (.iload_n 1, 1) := by decide +kernel
theorem dX12_priorityOf_10 : decode cX12_priorityOf 10 = .ok (.invokevirtual 173, 3) := by decide +kernel
theorem dX12_priorityOf_13 : decode cX12_priorityOf 13 = .ok (.ireturn, 1) := by decide +kernel
theorem dX12_preferenceCount_0 : decode cX12_preferenceCount 0 = .ok (.aload_n 0, 1) := by decide +kernel
theorem dX12_preferenceCount_1 : decode cX12_preferenceCount 1 = .ok (.iload_n 1, 1) := by decide +kernel
theorem dX12_preferenceCount_2 : decode cX12_preferenceCount 2 = .ok (.invokevirtual 151, 3) := by decide +kernel
theorem dX12_preferenceCount_5 : decode cX12_preferenceCount 5 = .ok (.aload_n 0, 1) := by decide +kernel
theorem dX12_preferenceCount_6 : decode cX12_preferenceCount 6 = .ok (.getfield 99, 3) := by decide +kernel
theorem dX12_preferenceCount_9 : decode cX12_preferenceCount 9 = .ok (.iload_n 1, 1) := by decide +kernel
theorem dX12_preferenceCount_10 : decode cX12_preferenceCount 10 = .ok (.invokevirtual 176, 3) := by decide +kernel
theorem dX12_preferenceCount_13 : decode cX12_preferenceCount 13 = .ok (.ireturn, 1) := by decide +kernel
theorem dX12_preferenceAt_0 : decode cX12_preferenceAt 0 = .ok (.aload_n 0, 1) := by decide +kernel
theorem dX12_preferenceAt_1 : decode cX12_preferenceAt 1 = .ok (.iload_n 1, 1) := by decide +kernel
theorem dX12_preferenceAt_2 : decode cX12_preferenceAt 2 = .ok (.invokevirtual 151, 3) := by decide +kernel
theorem dX12_preferenceAt_5 : decode cX12_preferenceAt 5 = .ok (.iload_n 2, 1) := by decide +kernel
theorem dX12_preferenceAt_6 : decode cX12_preferenceAt 6 = .ok (.ifCond .lt 15, 3) := by decide +kernel
theorem dX12_preferenceAt_9 : decode cX12_preferenceAt 9 = .ok (.iload_n 2, 1) := by decide +kernel
theorem dX12_preferenceAt_10 : decode cX12_preferenceAt 10 = .ok (.aload_n 0, 1) := by decide +kernel
theorem dX12_preferenceAt_11 : decode cX12_preferenceAt 11 = .ok (.getfield 99, 3) := by decide +kernel
theorem dX12_preferenceAt_14 : decode cX12_preferenceAt 14 = .ok (.iload_n 1, 1) := by decide +kernel
theorem dX12_preferenceAt_15 : decode cX12_preferenceAt 15 = .ok (.invokevirtual 176, 3) := by decide +kernel
theorem dX12_preferenceAt_18 : decode cX12_preferenceAt 18 = .ok (.if_icmp .lt 13, 3) := by decide +kernel
theorem dX12_preferenceAt_21 : decode cX12_preferenceAt 21 = .ok (.new 179, 3) := by decide +kernel
theorem dX12_preferenceAt_24 : decode cX12_preferenceAt 24 = .ok (.dup, 1) := by decide +kernel
theorem dX12_preferenceAt_25 : decode cX12_preferenceAt 25 = .ok (.ldc 181, 2) := by decide +kernel
theorem dX12_preferenceAt_27 : decode cX12_preferenceAt 27 = .ok (.invokespecial 183, 3) := by decide +kernel
theorem dX12_preferenceAt_30 : decode cX12_preferenceAt 30 = .ok (.athrow, 1) := by decide +kernel
theorem dX12_preferenceAt_31 : decode cX12_preferenceAt 31 = .ok (.aload_n 0, 1) := by decide +kernel
theorem dX12_preferenceAt_32 : decode cX12_preferenceAt 32 = .ok (.getfield 99, 3) := by decide +kernel
theorem dX12_preferenceAt_35 : decode cX12_preferenceAt 35 = .ok (.iload_n 1, 1) := by decide +kernel
theorem dX12_preferenceAt_36 : decode cX12_preferenceAt 36 = .ok (.iload_n 2, 1) := by decide +kernel
theorem dX12_preferenceAt_37 : decode cX12_preferenceAt 37 = .ok (.invokevirtual 184, 3) := by decide +kernel
theorem dX12_preferenceAt_40 : decode cX12_preferenceAt 40 = .ok (.ireturn, 1) := by decide +kernel
theorem dX12_isEfficient_0 : decode cX12_isEfficient 0 = .ok (.aload_n 0, 1) := by decide +kernel
theorem dX12_isEfficient_1 : decode cX12_isEfficient 1 = .ok (.getfield 99, 3) := by decide +kernel
theorem dX12_isEfficient_4 : decode cX12_isEfficient 4 = .ok (.invokestatic 246, 3) := by decide +kernel
theorem dX12_isEfficient_7 : decode cX12_isEfficient 7 = .ok (.ifCond .ne 7, 3) := by decide +kernel
theorem dX12_isEfficient_10 : decode cX12_isEfficient 10 = .ok (.iconst 1, 1) := by decide +kernel
theorem dX12_isEfficient_11 : decode cX12_isEfficient 11 = .ok (.goto 4, 3) := by decide +kernel
theorem dX12_isEfficient_14 : decode cX12_isEfficient 14 = .ok (.iconst 0, 1) := by decide +kernel
theorem dX12_isEfficient_15 : decode cX12_isEfficient 15 = .ok (.ireturn, 1) := by decide +kernel
theorem dX12_allocatedStall_0 : decode cX12_allocatedStall 0 = .ok (.aload_n 0, 1) := by decide +kernel
theorem dX12_allocatedStall_1 : decode cX12_allocatedStall 1 = .ok (.iload_n 1, 1) := by decide +kernel
theorem dX12_allocatedStall_2 : decode cX12_allocatedStall 2 = .ok (.invokevirtual 151, 3) := by decide +kernel
theorem dX12_allocatedStall_5 : decode cX12_allocatedStall 5 = .ok (.aload_n 0, 1) := by decide +kernel
theorem dX12_allocatedStall_6 : decode cX12_allocatedStall 6 = .ok (.getfield 47, 3) := by decide +kernel
theorem dX12_allocatedStall_9 : decode cX12_allocatedStall 9 = .ok (.aload_n 0, 1) := by decide +kernel
theorem dX12_allocatedStall_10 : decode cX12_allocatedStall 10 = .ok (.getfield 99, 3) := by decide +kernel
theorem dX12_allocatedStall_13 : decode cX12_allocatedStall 13 = .ok (.invokevirtual 250, 3) := by decide +kernel
theorem dX12_allocatedStall_16 : decode cX12_allocatedStall 16 = .ok (.aload_n 0, 1) := by decide +kernel
theorem dX12_allocatedStall_17 : decode cX12_allocatedStall 17 = .ok (.getfield 47, 3) := by decide +kernel
theorem dX12_allocatedStall_20 : decode cX12_allocatedStall 20 = .ok (.iload_n 1, 1) := by decide +kernel
theorem dX12_allocatedStall_21 : decode cX12_allocatedStall 21 = .ok (.invokevirtual 253, 3) := by decide +kernel
theorem dX12_allocatedStall_24 : decode cX12_allocatedStall 24 = .ok (.ireturn, 1) := by decide +kernel
theorem dX12_ledgerDifference_0 : decode cX12_ledgerDifference 0 = .ok (.iconst 0, 1) := by decide +kernel
theorem dX12_ledgerDifference_1 : decode cX12_ledgerDifference 1 = .ok (.istore_n 1, 1) := by decide +kernel
theorem dX12_ledgerDifference_2 : decode cX12_ledgerDifference 2 = .ok (.iconst 0, 1) := by decide +kernel
theorem dX12_ledgerDifference_3 : decode cX12_ledgerDifference 3 = .ok (.istore_n 2, 1) := by decide +kernel
theorem dX12_ledgerDifference_4 : decode cX12_ledgerDifference 4 = .ok (.iload_n 2, 1) := by decide +kernel
theorem dX12_ledgerDifference_5 : decode cX12_ledgerDifference 5 = .ok (.aload_n 0, 1) := by decide +kernel
theorem dX12_ledgerDifference_6 : decode cX12_ledgerDifference 6 = .ok (.getfield 99, 3) := by decide +kernel
theorem dX12_ledgerDifference_9 : decode cX12_ledgerDifference 9 = .ok (.getfield 127, 3) := by decide +kernel
theorem dX12_ledgerDifference_12 : decode cX12_ledgerDifference 12 = .ok (.if_icmp .ge 20, 3) := by decide +kernel
theorem dX12_ledgerDifference_15 : decode cX12_ledgerDifference 15 = .ok (.iload_n 1, 1) := by decide +kernel
theorem dX12_ledgerDifference_16 : decode cX12_ledgerDifference 16 = .ok (.aload_n 0, 1) := by decide +kernel
theorem dX12_ledgerDifference_17 : decode cX12_ledgerDifference 17 = .ok (.getfield 99, 3) := by decide +kernel
theorem dX12_ledgerDifference_20 : decode cX12_ledgerDifference 20 = .ok (.iload_n 2, 1) := by decide +kernel
theorem dX12_ledgerDifference_21 : decode cX12_ledgerDifference 21 = .ok (.invokevirtual 154, 3) := by decide +kernel
theorem dX12_ledgerDifference_24 : decode cX12_ledgerDifference 24 = .ok (.iadd, 1) := by decide +kernel
theorem dX12_ledgerDifference_25 : decode cX12_ledgerDifference 25 = .ok (.istore_n 1, 1) := by decide +kernel
theorem dX12_ledgerDifference_26 : decode cX12_ledgerDifference 26 = .ok (.iinc 2 1, 3) := by decide +kernel
theorem dX12_ledgerDifference_29 : decode cX12_ledgerDifference 29 = .ok (.goto (-25), 3) := by decide +kernel
theorem dX12_ledgerDifference_32 : decode cX12_ledgerDifference 32 = .ok (.iload_n 1, 1) := by decide +kernel
theorem dX12_ledgerDifference_33 : decode cX12_ledgerDifference 33 = .ok (.aload_n 0, 1) := by decide +kernel
theorem dX12_ledgerDifference_34 : decode cX12_ledgerDifference 34 = .ok (.getfield 99, 3) := by decide +kernel
theorem dX12_ledgerDifference_37 : decode cX12_ledgerDifference 37 = .ok (.getfield 286, 3) := by decide +kernel
theorem dX12_ledgerDifference_40 : decode cX12_ledgerDifference 40 = .ok (.isub, 1) := by decide +kernel
theorem dX12_ledgerDifference_41 : decode cX12_ledgerDifference 41 = .ok (.aload_n 0, 1) := by decide +kernel
theorem dX12_ledgerDifference_42 : decode cX12_ledgerDifference 42 = .ok (.getfield 99, 3) := by decide +kernel
theorem dX12_ledgerDifference_45 : decode cX12_ledgerDifference 45 = .ok (.getfield 289, 3) := by decide +kernel
theorem dX12_ledgerDifference_48 : decode cX12_ledgerDifference 48 = .ok (.isub, 1) := by decide +kernel
theorem dX12_ledgerDifference_49 : decode cX12_ledgerDifference 49 = .ok (.aload_n 0, 1) := by decide +kernel
theorem dX12_ledgerDifference_50 : decode cX12_ledgerDifference 50 = .ok (.getfield 99, 3) := by decide +kernel
theorem dX12_ledgerDifference_53 : decode cX12_ledgerDifference 53 = .ok (.getfield 274, 3) := by decide +kernel
theorem dX12_ledgerDifference_56 : decode cX12_ledgerDifference 56 = .ok (.iadd, 1) := by decide +kernel
theorem dX12_ledgerDifference_57 : decode cX12_ledgerDifference 57 = .ok (.ireturn, 1) := by decide +kernel
theorem dX12_assign_0 : decode cX12_assign 0 = .ok (.aload_n 0, 1) := by decide +kernel
theorem dX12_assign_1 : decode cX12_assign 1 = .ok (.iload_n 1, 1) := by decide +kernel
theorem dX12_assign_2 : decode cX12_assign 2 = .ok (.invokevirtual 151, 3) := by decide +kernel
theorem dX12_assign_5 : decode cX12_assign 5 = .ok (.aload_n 0, 1) := by decide +kernel
theorem dX12_assign_6 : decode cX12_assign 6 = .ok (.iload_n 2, 1) := by decide +kernel
theorem dX12_assign_7 : decode cX12_assign 7 = .ok (.invokevirtual 161, 3) := by decide +kernel
theorem dX12_assign_10 : decode cX12_assign 10 = .ok (.aload_n 0, 1) := by decide +kernel
theorem dX12_assign_11 : decode cX12_assign 11 = .ok (.getfield 99, 3) := by decide +kernel
theorem dX12_assign_14 : decode cX12_assign 14 = .ok (.iload_n 1, 1) := by decide +kernel
theorem dX12_assign_15 : decode cX12_assign 15 = .ok (.iload_n 2, 1) := by decide +kernel
theorem dX12_assign_16 : decode cX12_assign 16 = .ok (.invokevirtual 292, 3) := by decide +kernel
theorem dX12_assign_19 : decode cX12_assign 19 = .ok (.ifCond .ne 14, 3) := by decide +kernel
theorem dX12_assign_22 : decode cX12_assign 22 = .ok (.new 105, 3) := by decide +kernel
theorem dX12_assign_25 : decode cX12_assign 25 = .ok (.dup, 1) := by decide +kernel
theorem dX12_assign_26 : decode cX12_assign 26 = .ok (.ldc_w 296, 3) := by decide +kernel
theorem dX12_assign_29 : decode cX12_assign 29 = .ok (.invokespecial 109, 3) := by decide +kernel
theorem dX12_assign_32 : decode cX12_assign 32 = .ok (.athrow, 1) := by decide +kernel
theorem dX12_assign_33 : decode cX12_assign 33 = .ok (.aload_n 0, 1) := by decide +kernel
theorem dX12_assign_34 : decode cX12_assign 34 = .ok (.getfield 40, 3) := by decide +kernel
theorem dX12_assign_37 : decode cX12_assign 37 = .ok (.aload_n 0, 1) := by decide +kernel
theorem dX12_assign_38 : decode cX12_assign 38 = .ok (.getfield 99, 3) := by decide +kernel
theorem dX12_assign_41 : decode cX12_assign 41 = .ok (.invokevirtual 131, 3) := by decide +kernel
theorem dX12_assign_44 : decode cX12_assign 44 = .ok (.aload_n 0, 1) := by decide +kernel
theorem dX12_assign_45 : decode cX12_assign 45 = .ok (.getfield 99, 3) := by decide +kernel
theorem dX12_assign_48 : decode cX12_assign 48 = .ok (.iload_n 1, 1) := by decide +kernel
theorem dX12_assign_49 : decode cX12_assign 49 = .ok (.invokevirtual 167, 3) := by decide +kernel
theorem dX12_assign_52 : decode cX12_assign 52 = .ok (.istore_n 3, 1) := by decide +kernel
theorem dX12_assign_53 : decode cX12_assign 53 = .ok (.aload_n 0, 1) := by decide +kernel
theorem dX12_assign_54 : decode cX12_assign 54 = .ok (.getfield 99, 3) := by decide +kernel
theorem dX12_assign_57 : decode cX12_assign 57 = .ok (.iload_n 1, 1) := by decide +kernel
theorem dX12_assign_58 : decode cX12_assign 58 = .ok (.iload_n 2, 1) := by decide +kernel
theorem dX12_assign_59 : decode cX12_assign 59 = .ok (.invokevirtual 298, 3) := by decide +kernel
theorem dX12_assign_62 : decode cX12_assign 62 = .ok (.iload_n 3, 1) := by decide +kernel
theorem dX12_assign_63 : decode cX12_assign 63 = .ok (.ireturn, 1) := by decide +kernel
theorem dX12_vacate_0 : decode cX12_vacate 0 = .ok (.aload_n 0, 1) := by decide +kernel
theorem dX12_vacate_1 : decode cX12_vacate 1 = .ok (.iload_n 1, 1) := by decide +kernel
theorem dX12_vacate_2 : decode cX12_vacate 2 = .ok (.invokevirtual 151, 3) := by decide +kernel
theorem dX12_vacate_5 : decode cX12_vacate 5 = .ok (.aload_n 0, 1) := by decide +kernel
theorem dX12_vacate_6 : decode cX12_vacate 6 = .ok (.getfield 99, 3) := by decide +kernel
theorem dX12_vacate_9 : decode cX12_vacate 9 = .ok (.iload_n 1, 1) := by decide +kernel
theorem dX12_vacate_10 : decode cX12_vacate 10 = .ok (.invokevirtual 167, 3) := by decide +kernel
theorem dX12_vacate_13 : decode cX12_vacate 13 = .ok (.istore_n 2, 1) := by decide +kernel
theorem dX12_vacate_14 : decode cX12_vacate 14 = .ok (.iload_n 2, 1) := by decide +kernel
theorem dX12_vacate_15 : decode cX12_vacate 15 = .ok (.iconst (-1), 1) := by decide +kernel
theorem dX12_vacate_16 : decode cX12_vacate 16 = .ok (.if_icmp .ne 14, 3) := by decide +kernel
theorem dX12_vacate_19 : decode cX12_vacate 19 = .ok (.new 105, 3) := by decide +kernel
theorem dX12_vacate_22 : decode cX12_vacate 22 = .ok (.dup, 1) := by decide +kernel
theorem dX12_vacate_23 : decode cX12_vacate 23 = .ok (.ldc_w 301, 3) := by decide +kernel
theorem dX12_vacate_26 : decode cX12_vacate 26 = .ok (.invokespecial 109, 3) := by decide +kernel
theorem dX12_vacate_29 : decode cX12_vacate 29 = .ok (.athrow, 1) := by decide +kernel
theorem dX12_vacate_30 : decode cX12_vacate 30 = .ok (.aload_n 0, 1) := by decide +kernel
theorem dX12_vacate_31 : decode cX12_vacate 31 = .ok (.getfield 40, 3) := by decide +kernel
theorem dX12_vacate_34 : decode cX12_vacate 34 = .ok (.aload_n 0, 1) := by decide +kernel
theorem dX12_vacate_35 : decode cX12_vacate 35 = .ok (.getfield 99, 3) := by decide +kernel
theorem dX12_vacate_38 : decode cX12_vacate 38 = .ok (.invokevirtual 131, 3) := by decide +kernel
theorem dX12_vacate_41 : decode cX12_vacate 41 = .ok (.aload_n 0, 1) := by decide +kernel
theorem dX12_vacate_42 : decode cX12_vacate 42 = .ok (.getfield 99, 3) := by decide +kernel
theorem dX12_vacate_45 : decode cX12_vacate 45 = .ok (.iload_n 1, 1) := by decide +kernel
theorem dX12_vacate_46 : decode cX12_vacate 46 = .ok (.iconst (-1), 1) := by decide +kernel
theorem dX12_vacate_47 : decode cX12_vacate 47 = .ok (.invokevirtual 298, 3) := by decide +kernel
theorem dX12_vacate_50 : decode cX12_vacate 50 = .ok (.iload_n 2, 1) := by decide +kernel
theorem dX12_vacate_51 : decode cX12_vacate 51 = .ok (.ireturn, 1) := by decide +kernel
theorem dX12_swap_0 : decode cX12_swap 0 = .ok (.aload_n 0, 1) := by decide +kernel
theorem dX12_swap_1 : decode cX12_swap 1 = .ok (.iload_n 1, 1) := by decide +kernel
theorem dX12_swap_2 : decode cX12_swap 2 = .ok (.invokevirtual 151, 3) := by decide +kernel
theorem dX12_swap_5 : decode cX12_swap 5 = .ok (.aload_n 0, 1) := by decide +kernel
theorem dX12_swap_6 : decode cX12_swap 6 = .ok (.iload_n 2, 1) := by decide +kernel
theorem dX12_swap_7 : decode cX12_swap 7 = .ok (.invokevirtual 151, 3) := by decide +kernel
theorem dX12_swap_10 : decode cX12_swap 10 = .ok (.aload_n 0, 1) := by decide +kernel
theorem dX12_swap_11 : decode cX12_swap 11 = .ok (.getfield 99, 3) := by decide +kernel
theorem dX12_swap_14 : decode cX12_swap 14 = .ok (.iload_n 1, 1) := by decide +kernel
theorem dX12_swap_15 : decode cX12_swap 15 = .ok (.iload_n 2, 1) := by decide +kernel
theorem dX12_swap_16 : decode cX12_swap 16 = .ok (.invokestatic 232, 3) := by decide +kernel
theorem dX12_swap_19 : decode cX12_swap 19 = .ok (.ifCond .ne 14, 3) := by decide +kernel
theorem dX12_swap_22 : decode cX12_swap 22 = .ok (.new 105, 3) := by decide +kernel
theorem dX12_swap_25 : decode cX12_swap 25 = .ok (.dup, 1) := by decide +kernel
theorem dX12_swap_26 : decode cX12_swap 26 = .ok (.ldc_w 303, 3) := by decide +kernel
theorem dX12_swap_29 : decode cX12_swap 29 = .ok (.invokespecial 109, 3) := by decide +kernel
theorem dX12_swap_32 : decode cX12_swap 32 = .ok (.athrow, 1) := by decide +kernel
theorem dX12_swap_33 : decode cX12_swap 33 = .ok (.aload_n 0, 1) := by decide +kernel
theorem dX12_swap_34 : decode cX12_swap 34 = .ok (.getfield 40, 3) := by decide +kernel
theorem dX12_swap_37 : decode cX12_swap 37 = .ok (.aload_n 0, 1) := by decide +kernel
theorem dX12_swap_38 : decode cX12_swap 38 = .ok (.getfield 99, 3) := by decide +kernel
theorem dX12_swap_41 : decode cX12_swap 41 = .ok (.invokevirtual 131, 3) := by decide +kernel
theorem dX12_swap_44 : decode cX12_swap 44 = .ok (.aload_n 0, 1) := by decide +kernel
theorem dX12_swap_45 : decode cX12_swap 45 = .ok (.getfield 99, 3) := by decide +kernel
theorem dX12_swap_48 : decode cX12_swap 48 = .ok (.iload_n 1, 1) := by decide +kernel
theorem dX12_swap_49 : decode cX12_swap 49 = .ok (.iload_n 2, 1) := by decide +kernel
theorem dX12_swap_50 : decode cX12_swap 50 = .ok (.invokevirtual 305, 3) := by decide +kernel
theorem dX12_swap_53 : decode cX12_swap 53 = .ok (.aload_n 0, 1) := by decide +kernel
theorem dX12_swap_54 : decode cX12_swap 54 = .ok (.getfield 99, 3) := by decide +kernel
theorem dX12_swap_57 : decode cX12_swap 57 = .ok (.iload_n 1, 1) := by decide +kernel
theorem dX12_swap_58 : decode cX12_swap 58 = .ok (.invokevirtual 167, 3) := by decide +kernel
theorem dX12_swap_61 : decode cX12_swap 61 = .ok (.ireturn, 1) := by decide +kernel
theorem dX12_reallocate_0 : decode cX12_reallocate 0 = .ok (.aload_n 0, 1) := by decide +kernel
theorem dX12_reallocate_1 : decode cX12_reallocate 1 = .ok (.getfield 40, 3) := by decide +kernel
theorem dX12_reallocate_4 : decode cX12_reallocate 4 = .ok (.aload_n 0, 1) := by decide +kernel
theorem dX12_reallocate_5 : decode cX12_reallocate 5 = .ok (.getfield 99, 3) := by decide +kernel
theorem dX12_reallocate_8 : decode cX12_reallocate 8 = .ok (.invokevirtual 131, 3) := by decide +kernel
theorem dX12_reallocate_11 : decode cX12_reallocate 11 = .ok (.aload_n 0, 1) := by decide +kernel
theorem dX12_reallocate_12 : decode cX12_reallocate 12 = .ok (.getfield 47, 3) := by decide +kernel
theorem dX12_reallocate_15 : decode cX12_reallocate 15 = .ok (.aload_n 0, 1) := by decide +kernel
theorem dX12_reallocate_16 : decode cX12_reallocate 16 = .ok (.getfield 99, 3) := by decide +kernel
theorem dX12_reallocate_19 : decode cX12_reallocate 19 = .ok (.invokevirtual 250, 3) := by decide +kernel
theorem dX12_reallocate_22 : decode cX12_reallocate 22 = .ok (.aload_n 0, 1) := by decide +kernel
theorem dX12_reallocate_23 : decode cX12_reallocate 23 = .ok (.getfield 47, 3) := by decide +kernel
theorem dX12_reallocate_26 : decode cX12_reallocate 26 = .ok (.aload_n 0, 1) := by decide +kernel
theorem dX12_reallocate_27 : decode cX12_reallocate 27 = .ok (.getfield 99, 3) := by decide +kernel
theorem dX12_reallocate_30 : decode cX12_reallocate 30 = .ok (.invokevirtual 308, 3) := by decide +kernel
theorem dX12_reallocate_33 : decode cX12_reallocate 33 = .ok (.ireturn, 1) := by decide +kernel
theorem dX12_setPriority_0 : decode cX12_setPriority 0 = .ok (.aload_n 0, 1) := by decide +kernel
theorem dX12_setPriority_1 : decode cX12_setPriority 1 = .ok (.iload_n 1, 1) := by decide +kernel
theorem dX12_setPriority_2 : decode cX12_setPriority 2 = .ok (.invokevirtual 151, 3) := by decide +kernel
theorem dX12_setPriority_5 : decode cX12_setPriority 5 = .ok (.iload_n 2, 1) := by decide +kernel
theorem dX12_setPriority_6 : decode cX12_setPriority 6 = .ok (.ifCond .lt 14, 3) := by decide +kernel
theorem dX12_setPriority_9 : decode cX12_setPriority 9 = .ok (.iload_n 2, 1) := by decide +kernel
theorem dX12_setPriority_10 : decode cX12_setPriority 10 = .ok (.aload_n 0, 1) := by decide +kernel
theorem dX12_setPriority_11 : decode cX12_setPriority 11 = .ok (.getfield 99, 3) := by decide +kernel
theorem dX12_setPriority_14 : decode cX12_setPriority 14 = .ok (.getfield 127, 3) := by decide +kernel
theorem dX12_setPriority_17 : decode cX12_setPriority 17 = .ok (.if_icmp .lt 14, 3) := by decide +kernel
theorem dX12_setPriority_20 : decode cX12_setPriority 20 = .ok (.new 115, 3) := by decide +kernel
theorem dX12_setPriority_23 : decode cX12_setPriority 23 = .ok (.dup, 1) := by decide +kernel
theorem dX12_setPriority_24 : decode cX12_setPriority 24 = .ok (.ldc_w 311, 3) := by decide +kernel
theorem dX12_setPriority_27 : decode cX12_setPriority 27 = .ok (.invokespecial 119, 3) := by decide +kernel
theorem dX12_setPriority_30 : decode cX12_setPriority 30 = .ok (.athrow, 1) := by decide +kernel
theorem dX12_setPriority_31 : decode cX12_setPriority 31 = .ok (.aload_n 0, 1) := by decide +kernel
theorem dX12_setPriority_32 : decode cX12_setPriority 32 = .ok (.getfield 40, 3) := by decide +kernel
theorem dX12_setPriority_35 : decode cX12_setPriority 35 = .ok (.aload_n 0, 1) := by decide +kernel
theorem dX12_setPriority_36 : decode cX12_setPriority 36 = .ok (.getfield 99, 3) := by decide +kernel
theorem dX12_setPriority_39 : decode cX12_setPriority 39 = .ok (.invokevirtual 131, 3) := by decide +kernel
theorem dX12_setPriority_42 : decode cX12_setPriority 42 = .ok (.aload_n 0, 1) := by decide +kernel
theorem dX12_setPriority_43 : decode cX12_setPriority 43 = .ok (.getfield 99, 3) := by decide +kernel
theorem dX12_setPriority_46 : decode cX12_setPriority 46 = .ok (.iload_n 1, 1) := by decide +kernel
theorem dX12_setPriority_47 : decode cX12_setPriority 47 = .ok (.invokevirtual 173, 3) := by decide +kernel
theorem dX12_setPriority_50 : decode cX12_setPriority 50 = .ok (.istore_n 3, 1) := by decide +kernel
theorem dX12_setPriority_51 : decode cX12_setPriority 51 = .ok (.aload_n 0, 1) := by decide +kernel
theorem dX12_setPriority_52 : decode cX12_setPriority 52 = .ok (.getfield 99, 3) := by decide +kernel
theorem dX12_setPriority_55 : decode cX12_setPriority 55 = .ok (.iload_n 1, 1) := by decide +kernel
theorem dX12_setPriority_56 : decode cX12_setPriority 56 = .ok (.iload_n 2, 1) := by decide +kernel
theorem dX12_setPriority_57 : decode cX12_setPriority 57 = .ok (.invokevirtual 256, 3) := by decide +kernel
theorem dX12_setPriority_60 : decode cX12_setPriority 60 = .ok (.iload_n 3, 1) := by decide +kernel
theorem dX12_setPriority_61 : decode cX12_setPriority 61 = .ok (.ireturn, 1) := by decide +kernel
theorem dX12_preferFirst_0 : decode cX12_preferFirst 0 = .ok (.aload_n 0, 1) := by decide +kernel
theorem dX12_preferFirst_1 : decode cX12_preferFirst 1 = .ok (.iload_n 1, 1) := by decide +kernel
theorem dX12_preferFirst_2 : decode cX12_preferFirst 2 = .ok (.invokevirtual 151, 3) := by decide +kernel
theorem dX12_preferFirst_5 : decode cX12_preferFirst 5 = .ok (.aload_n 0, 1) := by decide +kernel
theorem dX12_preferFirst_6 : decode cX12_preferFirst 6 = .ok (.iload_n 2, 1) := by decide +kernel
theorem dX12_preferFirst_7 : decode cX12_preferFirst 7 = .ok (.invokevirtual 161, 3) := by decide +kernel
theorem dX12_preferFirst_10 : decode cX12_preferFirst 10 = .ok (.aload_n 0, 1) := by decide +kernel
theorem dX12_preferFirst_11 : decode cX12_preferFirst 11 = .ok (.getfield 40, 3) := by decide +kernel
theorem dX12_preferFirst_14 : decode cX12_preferFirst 14 = .ok (.aload_n 0, 1) := by decide +kernel
theorem dX12_preferFirst_15 : decode cX12_preferFirst 15 = .ok (.getfield 99, 3) := by decide +kernel
theorem dX12_preferFirst_18 : decode cX12_preferFirst 18 = .ok (.invokevirtual 131, 3) := by decide +kernel
theorem dX12_preferFirst_21 : decode cX12_preferFirst 21 = .ok (.aload_n 0, 1) := by decide +kernel
theorem dX12_preferFirst_22 : decode cX12_preferFirst 22 = .ok (.getfield 99, 3) := by decide +kernel
theorem dX12_preferFirst_25 : decode cX12_preferFirst 25 = .ok (.iload_n 1, 1) := by decide +kernel
theorem dX12_preferFirst_26 : decode cX12_preferFirst 26 = .ok (.iload_n 2, 1) := by decide +kernel
theorem dX12_preferFirst_27 : decode cX12_preferFirst 27 = .ok (.invokevirtual 260, 3) := by decide +kernel
theorem dX12_preferFirst_30 : decode cX12_preferFirst 30 = .ok (.aload_n 0, 1) := by decide +kernel
theorem dX12_preferFirst_31 : decode cX12_preferFirst 31 = .ok (.getfield 99, 3) := by decide +kernel
theorem dX12_preferFirst_34 : decode cX12_preferFirst 34 = .ok (.iload_n 1, 1) := by decide +kernel
theorem dX12_preferFirst_35 : decode cX12_preferFirst 35 = .ok (.invokevirtual 176, 3) := by decide +kernel
theorem dX12_preferFirst_38 : decode cX12_preferFirst 38 = .ok (.ireturn, 1) := by decide +kernel
theorem dX12_removePreference_0 : decode cX12_removePreference 0 = .ok (.aload_n 0, 1) := by decide +kernel
theorem dX12_removePreference_1 : decode cX12_removePreference 1 = .ok (.iload_n 1, 1) := by decide +kernel
theorem dX12_removePreference_2 : decode cX12_removePreference 2 = .ok (.invokevirtual 151, 3) := by decide +kernel
theorem dX12_removePreference_5 : decode cX12_removePreference 5 = .ok (.aload_n 0, 1) := by decide +kernel
theorem dX12_removePreference_6 : decode cX12_removePreference 6 = .ok (.iload_n 2, 1) := by decide +kernel
theorem dX12_removePreference_7 : decode cX12_removePreference 7 = .ok (.invokevirtual 161, 3) := by decide +kernel
theorem dX12_removePreference_10 : decode cX12_removePreference 10 = .ok (.aload_n 0, 1) := by decide +kernel
theorem dX12_removePreference_11 : decode cX12_removePreference 11 = .ok (.getfield 99, 3) := by decide +kernel
theorem dX12_removePreference_14 : decode cX12_removePreference 14 = .ok (.iload_n 1, 1) := by decide +kernel
theorem dX12_removePreference_15 : decode cX12_removePreference 15 = .ok (.iload_n 2, 1) := by decide +kernel
theorem dX12_removePreference_16 : decode cX12_removePreference 16 = .ok (.invokevirtual 188, 3) := by decide +kernel
theorem dX12_removePreference_19 : decode cX12_removePreference 19 = .ok (.iconst (-1), 1) := by decide +kernel
theorem dX12_removePreference_20 : decode cX12_removePreference 20 = .ok (.if_icmp .ne 14, 3) := by decide +kernel
theorem dX12_removePreference_23 : decode cX12_removePreference 23 = .ok (.new 105, 3) := by decide +kernel
theorem dX12_removePreference_26 : decode cX12_removePreference 26 = .ok (.dup, 1) := by decide +kernel
theorem dX12_removePreference_27 : decode cX12_removePreference 27 = .ok (.ldc_w 313, 3) := by decide +kernel
theorem dX12_removePreference_30 : decode cX12_removePreference 30 = .ok (.invokespecial 109, 3) := by decide +kernel
theorem dX12_removePreference_33 : decode cX12_removePreference 33 = .ok (.athrow, 1) := by decide +kernel
theorem dX12_removePreference_34 : decode cX12_removePreference 34 = .ok (.aload_n 0, 1) := by decide +kernel
theorem dX12_removePreference_35 : decode cX12_removePreference 35 = .ok (.getfield 40, 3) := by decide +kernel
theorem dX12_removePreference_38 : decode cX12_removePreference 38 = .ok (.aload_n 0, 1) := by decide +kernel
theorem dX12_removePreference_39 : decode cX12_removePreference 39 = .ok (.getfield 99, 3) := by decide +kernel
theorem dX12_removePreference_42 : decode cX12_removePreference 42 = .ok (.invokevirtual 131, 3) := by decide +kernel
theorem dX12_removePreference_45 : decode cX12_removePreference 45 = .ok (.aload_n 0, 1) := by decide +kernel
theorem dX12_removePreference_46 : decode cX12_removePreference 46 = .ok (.getfield 99, 3) := by decide +kernel
theorem dX12_removePreference_49 : decode cX12_removePreference 49 = .ok (.iload_n 1, 1) := by decide +kernel
theorem dX12_removePreference_50 : decode cX12_removePreference 50 = .ok (.iload_n 2, 1) := by decide +kernel
theorem dX12_removePreference_51 : decode cX12_removePreference 51 = .ok (.invokevirtual 315, 3) := by decide +kernel
theorem dX12_removePreference_54 : decode cX12_removePreference 54 = .ok (.aload_n 0, 1) := by decide +kernel
theorem dX12_removePreference_55 : decode cX12_removePreference 55 = .ok (.getfield 99, 3) := by decide +kernel
theorem dX12_removePreference_58 : decode cX12_removePreference 58 = .ok (.iload_n 1, 1) := by decide +kernel
theorem dX12_removePreference_59 : decode cX12_removePreference 59 = .ok (.invokevirtual 176, 3) := by decide +kernel
theorem dX12_removePreference_62 : decode cX12_removePreference 62 = .ok (.ireturn, 1) := by decide +kernel
theorem dX12_setRent_0 : decode cX12_setRent 0 = .ok (.aload_n 0, 1) := by decide +kernel
theorem dX12_setRent_1 : decode cX12_setRent 1 = .ok (.iload_n 1, 1) := by decide +kernel
theorem dX12_setRent_2 : decode cX12_setRent 2 = .ok (.invokevirtual 161, 3) := by decide +kernel
theorem dX12_setRent_5 : decode cX12_setRent 5 = .ok (.iload_n 2, 1) := by decide +kernel
theorem dX12_setRent_6 : decode cX12_setRent 6 = .ok (.ifCond .lt 9, 3) := by decide +kernel
theorem dX12_setRent_9 : decode cX12_setRent 9 = .ok (.iload_n 2, 1) := by decide +kernel
theorem dX12_setRent_10 : decode cX12_setRent 10 = .ok (.bipush 99, 2) := by decide +kernel
theorem dX12_setRent_12 : decode cX12_setRent 12 = .ok (.if_icmp .le 14, 3) := by decide +kernel
theorem dX12_setRent_15 : decode cX12_setRent 15 = .ok (.new 115, 3) := by decide +kernel
theorem dX12_setRent_18 : decode cX12_setRent 18 = .ok (.dup, 1) := by decide +kernel
theorem dX12_setRent_19 : decode cX12_setRent 19 = .ok (.ldc_w 318, 3) := by decide +kernel
theorem dX12_setRent_22 : decode cX12_setRent 22 = .ok (.invokespecial 119, 3) := by decide +kernel
theorem dX12_setRent_25 : decode cX12_setRent 25 = .ok (.athrow, 1) := by decide +kernel
theorem dX12_setRent_26 : decode cX12_setRent 26 = .ok (.aload_n 0, 1) := by decide +kernel
theorem dX12_setRent_27 : decode cX12_setRent 27 = .ok (.getfield 40, 3) := by decide +kernel
theorem dX12_setRent_30 : decode cX12_setRent 30 = .ok (.aload_n 0, 1) := by decide +kernel
theorem dX12_setRent_31 : decode cX12_setRent 31 = .ok (.getfield 99, 3) := by decide +kernel
theorem dX12_setRent_34 : decode cX12_setRent 34 = .ok (.invokevirtual 131, 3) := by decide +kernel
theorem dX12_setRent_37 : decode cX12_setRent 37 = .ok (.aload_n 0, 1) := by decide +kernel
theorem dX12_setRent_38 : decode cX12_setRent 38 = .ok (.getfield 99, 3) := by decide +kernel
theorem dX12_setRent_41 : decode cX12_setRent 41 = .ok (.iload_n 1, 1) := by decide +kernel
theorem dX12_setRent_42 : decode cX12_setRent 42 = .ok (.invokevirtual 164, 3) := by decide +kernel
theorem dX12_setRent_45 : decode cX12_setRent 45 = .ok (.istore_n 3, 1) := by decide +kernel
theorem dX12_setRent_46 : decode cX12_setRent 46 = .ok (.aload_n 0, 1) := by decide +kernel
theorem dX12_setRent_47 : decode cX12_setRent 47 = .ok (.getfield 99, 3) := by decide +kernel
theorem dX12_setRent_50 : decode cX12_setRent 50 = .ok (.iload_n 1, 1) := by decide +kernel
theorem dX12_setRent_51 : decode cX12_setRent 51 = .ok (.iload_n 2, 1) := by decide +kernel
theorem dX12_setRent_52 : decode cX12_setRent 52 = .ok (.invokevirtual 320, 3) := by decide +kernel
theorem dX12_setRent_55 : decode cX12_setRent 55 = .ok (.iload_n 3, 1) := by decide +kernel
theorem dX12_setRent_56 : decode cX12_setRent 56 = .ok (.ireturn, 1) := by decide +kernel
theorem dX12_advanceDays_0 : decode cX12_advanceDays 0 = .ok (.iload_n 1, 1) := by decide +kernel
theorem dX12_advanceDays_1 : decode cX12_advanceDays 1 = .ok (.iconst 1, 1) := by decide +kernel
theorem dX12_advanceDays_2 : decode cX12_advanceDays 2 = .ok (.if_icmp .lt 9, 3) := by decide +kernel
theorem dX12_advanceDays_5 : decode cX12_advanceDays 5 = .ok (.iload_n 1, 1) := by decide +kernel
theorem dX12_advanceDays_6 : decode cX12_advanceDays 6 = .ok (.bipush 99, 2) := by decide +kernel
theorem dX12_advanceDays_8 : decode cX12_advanceDays 8 = .ok (.if_icmp .le 14, 3) := by decide +kernel
theorem dX12_advanceDays_11 : decode cX12_advanceDays 11 = .ok (.new 115, 3) := by decide +kernel
theorem dX12_advanceDays_14 : decode cX12_advanceDays 14 = .ok (.dup, 1) := by decide +kernel
theorem dX12_advanceDays_15 : decode cX12_advanceDays 15 = .ok (.ldc_w 328, 3) := by decide +kernel
theorem dX12_advanceDays_18 : decode cX12_advanceDays 18 = .ok (.invokespecial 119, 3) := by decide +kernel
theorem dX12_advanceDays_21 : decode cX12_advanceDays 21 = .ok (.athrow, 1) := by decide +kernel
theorem dX12_advanceDays_22 : decode cX12_advanceDays 22 = .ok (.aload_n 0, 1) := by decide +kernel
theorem dX12_advanceDays_23 : decode cX12_advanceDays 23 = .ok (.getfield 99, 3) := by decide +kernel
theorem dX12_advanceDays_26 : decode cX12_advanceDays 26 = .ok (.iload_n 1, 1) := by decide +kernel
theorem dX12_advanceDays_27 : decode cX12_advanceDays 27 = .ok (.invokevirtual 330, 3) := by decide +kernel
theorem dX12_advanceDays_30 : decode cX12_advanceDays 30 = .ok (.ifCond .ne 14, 3) := by decide +kernel
theorem dX12_advanceDays_33 : decode cX12_advanceDays 33 = .ok (.new 105, 3) := by decide +kernel
theorem dX12_advanceDays_36 : decode cX12_advanceDays 36 = .ok (.dup, 1) := by decide +kernel
theorem dX12_advanceDays_37 : decode cX12_advanceDays 37 = .ok (.ldc_w 334, 3) := by decide +kernel
theorem dX12_advanceDays_40 : decode cX12_advanceDays 40 = .ok (.invokespecial 109, 3) := by decide +kernel
theorem dX12_advanceDays_43 : decode cX12_advanceDays 43 = .ok (.athrow, 1) := by decide +kernel
theorem dX12_advanceDays_44 : decode cX12_advanceDays 44 = .ok (.aload_n 0, 1) := by decide +kernel
theorem dX12_advanceDays_45 : decode cX12_advanceDays 45 = .ok (.getfield 40, 3) := by decide +kernel
theorem dX12_advanceDays_48 : decode cX12_advanceDays 48 = .ok (.aload_n 0, 1) := by decide +kernel
theorem dX12_advanceDays_49 : decode cX12_advanceDays 49 = .ok (.getfield 99, 3) := by decide +kernel
theorem dX12_advanceDays_52 : decode cX12_advanceDays 52 = .ok (.invokevirtual 131, 3) := by decide +kernel
theorem dX12_advanceDays_55 : decode cX12_advanceDays 55 = .ok (.aload_n 0, 1) := by decide +kernel
theorem dX12_advanceDays_56 : decode cX12_advanceDays 56 = .ok (.getfield 99, 3) := by decide +kernel
theorem dX12_advanceDays_59 : decode cX12_advanceDays 59 = .ok (.getfield 277, 3) := by decide +kernel
theorem dX12_advanceDays_62 : decode cX12_advanceDays 62 = .ok (.istore_n 2, 1) := by decide +kernel
theorem dX12_advanceDays_63 : decode cX12_advanceDays 63 = .ok (.aload_n 0, 1) := by decide +kernel
theorem dX12_advanceDays_64 : decode cX12_advanceDays 64 = .ok (.getfield 99, 3) := by decide +kernel
theorem dX12_advanceDays_67 : decode cX12_advanceDays 67 = .ok (.iload_n 1, 1) := by decide +kernel
theorem dX12_advanceDays_68 : decode cX12_advanceDays 68 = .ok (.invokevirtual 336, 3) := by decide +kernel
theorem dX12_advanceDays_71 : decode cX12_advanceDays 71 = .ok (.aload_n 0, 1) := by decide +kernel
theorem dX12_advanceDays_72 : decode cX12_advanceDays 72 = .ok (.getfield 99, 3) := by decide +kernel
theorem dX12_advanceDays_75 : decode cX12_advanceDays 75 = .ok (.getfield 277, 3) := by decide +kernel
theorem dX12_advanceDays_78 : decode cX12_advanceDays 78 = .ok (.iload_n 2, 1) := by decide +kernel
theorem dX12_advanceDays_79 : decode cX12_advanceDays 79 = .ok (.isub, 1) := by decide +kernel
theorem dX12_advanceDays_80 : decode cX12_advanceDays 80 = .ok (.ireturn, 1) := by decide +kernel
theorem dX12_undo_0 : decode cX12_undo 0 = .ok (.aload_n 0, 1) := by decide +kernel
theorem dX12_undo_1 : decode cX12_undo 1 = .ok (.getfield 40, 3) := by decide +kernel
theorem dX12_undo_4 : decode cX12_undo 4 = .ok (.aload_n 0, 1) := by decide +kernel
theorem dX12_undo_5 : decode cX12_undo 5 = .ok (.getfield 99, 3) := by decide +kernel
theorem dX12_undo_8 : decode cX12_undo 8 = .ok (.invokevirtual 346, 3) := by decide +kernel
theorem dX12_undo_11 : decode cX12_undo 11 = .ok (.ireturn, 1) := by decide +kernel
theorem dX12_requireSeller_0 : decode cX12_requireSeller 0 = .ok (.iload_n 1, 1) := by decide +kernel
theorem dX12_requireSeller_1 : decode cX12_requireSeller 1 = .ok (.ifCond .lt 14, 3) := by decide +kernel
theorem dX12_requireSeller_4 : decode cX12_requireSeller 4 = .ok (.iload_n 1, 1) := by decide +kernel
theorem dX12_requireSeller_5 : decode cX12_requireSeller 5 = .ok (.aload_n 0, 1) := by decide +kernel
theorem dX12_requireSeller_6 : decode cX12_requireSeller 6 = .ok (.getfield 99, 3) := by decide +kernel
theorem dX12_requireSeller_9 : decode cX12_requireSeller 9 = .ok (.getfield 127, 3) := by decide +kernel
theorem dX12_requireSeller_12 : decode cX12_requireSeller 12 = .ok (.if_icmp .lt 14, 3) := by decide +kernel
theorem dX12_requireSeller_15 : decode cX12_requireSeller 15 = .ok (.new 179, 3) := by decide +kernel
theorem dX12_requireSeller_18 : decode cX12_requireSeller 18 = .ok (.dup, 1) := by decide +kernel
theorem dX12_requireSeller_19 : decode cX12_requireSeller 19 = .ok (.ldc_w 354, 3) := by decide +kernel
theorem dX12_requireSeller_22 : decode cX12_requireSeller 22 = .ok (.invokespecial 183, 3) := by decide +kernel
theorem dX12_requireSeller_25 : decode cX12_requireSeller 25 = .ok (.athrow, 1) := by decide +kernel
theorem dX12_requireSeller_26 : decode cX12_requireSeller 26 = .ok (.return_, 1) := by decide +kernel
theorem dX12_requireStall_0 : decode cX12_requireStall 0 = .ok (.iload_n 1, 1) := by decide +kernel
theorem dX12_requireStall_1 : decode cX12_requireStall 1 = .ok (.ifCond .lt 14, 3) := by decide +kernel
theorem dX12_requireStall_4 : decode cX12_requireStall 4 = .ok (.iload_n 1, 1) := by decide +kernel
theorem dX12_requireStall_5 : decode cX12_requireStall 5 = .ok (.aload_n 0, 1) := by decide +kernel
theorem dX12_requireStall_6 : decode cX12_requireStall 6 = .ok (.getfield 99, 3) := by decide +kernel
theorem dX12_requireStall_9 : decode cX12_requireStall 9 = .ok (.getfield 145, 3) := by decide +kernel
theorem dX12_requireStall_12 : decode cX12_requireStall 12 = .ok (.if_icmp .lt 14, 3) := by decide +kernel
theorem dX12_requireStall_15 : decode cX12_requireStall 15 = .ok (.new 179, 3) := by decide +kernel
theorem dX12_requireStall_18 : decode cX12_requireStall 18 = .ok (.dup, 1) := by decide +kernel
theorem dX12_requireStall_19 : decode cX12_requireStall 19 = .ok (.ldc_w 356, 3) := by decide +kernel
theorem dX12_requireStall_22 : decode cX12_requireStall 22 = .ok (.invokespecial 183, 3) := by decide +kernel
theorem dX12_requireStall_25 : decode cX12_requireStall 25 = .ok (.athrow, 1) := by decide +kernel
theorem dX12_requireStall_26 : decode cX12_requireStall 26 = .ok (.return_, 1) := by decide +kernel
theorem dX13_init_0 : decode cX13_init 0 = .ok (.aload_n 0, 1) := by decide +kernel
theorem dX13_init_1 : decode cX13_init 1 = .ok (.invokespecial 3, 3) := by decide +kernel
theorem dX13_init_4 : decode cX13_init 4 = .ok (.aload_n 0, 1) := by decide +kernel
theorem dX13_init_5 : decode cX13_init 5 = .ok (.sipush 700, 3) := by decide +kernel
theorem dX13_init_8 : decode cX13_init 8 = .ok (.newarray .byte, 2) := by decide +kernel
theorem dX13_init_10 : decode cX13_init 10 = .ok (.putfield 9, 3) := by decide +kernel
theorem dX13_init_13 : decode cX13_init 13 = .ok (.aload_n 0, 1) := by decide +kernel
theorem dX13_init_14 : decode cX13_init 14 = .ok (.bipush 8, 2) := by decide +kernel
theorem dX13_init_16 : decode cX13_init 16 = .ok (.newarray .int, 2) := by decide +kernel
theorem dX13_init_18 : decode cX13_init 18 = .ok (.putfield 15, 3) := by decide +kernel
theorem dX13_init_21 : decode cX13_init 21 = .ok (.aload_n 0, 1) := by decide +kernel
theorem dX13_init_22 : decode cX13_init 22 = .ok (.bipush 8, 2) := by decide +kernel
theorem dX13_init_24 : decode cX13_init 24 = .ok (.newarray .int, 2) := by decide +kernel
theorem dX13_init_26 : decode cX13_init 26 = .ok (.putfield 19, 3) := by decide +kernel
theorem dX13_init_29 : decode cX13_init 29 = .ok (.aload_n 0, 1) := by decide +kernel
theorem dX13_init_30 : decode cX13_init 30 = .ok (.bipush 8, 2) := by decide +kernel
theorem dX13_init_32 : decode cX13_init 32 = .ok (.newarray .int, 2) := by decide +kernel
theorem dX13_init_34 : decode cX13_init 34 = .ok (.putfield 22, 3) := by decide +kernel
theorem dX13_init_37 : decode cX13_init 37 = .ok (.aload_n 0, 1) := by decide +kernel
theorem dX13_init_38 : decode cX13_init 38 = .ok (.bipush 8, 2) := by decide +kernel
theorem dX13_init_40 : decode cX13_init 40 = .ok (.newarray .int, 2) := by decide +kernel
theorem dX13_init_42 : decode cX13_init 42 = .ok (.putfield 25, 3) := by decide +kernel
theorem dX13_init_45 : decode cX13_init 45 = .ok (.aload_n 0, 1) := by decide +kernel
theorem dX13_init_46 : decode cX13_init 46 = .ok (.bipush 8, 2) := by decide +kernel
theorem dX13_init_48 : decode cX13_init 48 = .ok (.newarray .int, 2) := by decide +kernel
theorem dX13_init_50 : decode cX13_init 50 = .ok (.putfield 28, 3) := by decide +kernel
theorem dX13_init_53 : decode cX13_init 53 = .ok (.aload_n 0, 1) := by decide +kernel
theorem dX13_init_54 : decode cX13_init 54 = .ok (.bipush 8, 2) := by decide +kernel
theorem dX13_init_56 : decode cX13_init 56 = .ok (.newarray .int, 2) := by decide +kernel
theorem dX13_init_58 : decode cX13_init 58 = .ok (.putfield 31, 3) := by decide +kernel
theorem dX13_init_61 : decode cX13_init 61 = .ok (.aload_n 0, 1) := by decide +kernel
theorem dX13_init_62 : decode cX13_init 62 = .ok (.bipush 8, 2) := by decide +kernel
theorem dX13_init_64 : decode cX13_init 64 = .ok (.newarray .int, 2) := by decide +kernel
theorem dX13_init_66 : decode cX13_init 66 = .ok (.putfield 34, 3) := by decide +kernel
theorem dX13_init_69 : decode cX13_init 69 = .ok (.aload_n 0, 1) := by decide +kernel
theorem dX13_init_70 : decode cX13_init 70 = .ok (.bipush 8, 2) := by decide +kernel
theorem dX13_init_72 : decode cX13_init 72 = .ok (.newarray .int, 2) := by decide +kernel
theorem dX13_init_74 : decode cX13_init 74 = .ok (.putfield 37, 3) := by decide +kernel
theorem dX13_init_77 : decode cX13_init 77 = .ok (.aload_n 0, 1) := by decide +kernel
theorem dX13_init_78 : decode cX13_init 78 = .ok (.bipush 8, 2) := by decide +kernel
theorem dX13_init_80 : decode cX13_init 80 = .ok (.newarray .int, 2) := by decide +kernel
theorem dX13_init_82 : decode cX13_init 82 = .ok (.putfield 40, 3) := by decide +kernel
theorem dX13_init_85 : decode cX13_init 85 = .ok (.aload_n 0, 1) := by decide +kernel
theorem dX13_init_86 : decode cX13_init 86 = .ok (.bipush 8, 2) := by decide +kernel
theorem dX13_init_88 : decode cX13_init 88 = .ok (.bipush 8, 2) := by decide +kernel
theorem dX13_init_90 : decode cX13_init 90 = .ok (.multianewarray 43 2, 4) := by decide +kernel
theorem dX13_init_94 : decode cX13_init 94 = .ok (.putfield 45, 3) := by decide +kernel
theorem dX13_init_97 : decode cX13_init 97 = .ok (.aload_n 0, 1) := by decide +kernel
theorem dX13_init_98 : decode cX13_init 98 = .ok (.bipush 8, 2) := by decide +kernel
theorem dX13_init_100 : decode cX13_init 100 = .ok (.newarray .boolean, 2) := by decide +kernel
theorem dX13_init_102 : decode cX13_init 102 = .ok (.putfield 48, 3) := by decide +kernel
theorem dX13_init_105 : decode cX13_init 105 = .ok (.return_, 1) := by decide +kernel
theorem dX13_draw_0 : decode cX13_draw 0 = .ok (.aload_n 0, 1) := by decide +kernel
theorem dX13_draw_1 : decode cX13_draw 1 = .ok (.aload_n 0, 1) := by decide +kernel
theorem dX13_draw_2 : decode cX13_draw 2 = .ok (.getfield 52, 3) := by decide +kernel
theorem dX13_draw_5 : decode cX13_draw 5 = .ok (.ldc 56, 2) := by decide +kernel
theorem dX13_draw_7 : decode cX13_draw 7 = .ok (.imul, 1) := by decide +kernel
theorem dX13_draw_8 : decode cX13_draw 8 = .ok (.sipush 12345, 3) := by decide +kernel
theorem dX13_draw_11 : decode cX13_draw 11 = .ok (.iadd, 1) := by decide +kernel
theorem dX13_draw_12 : decode cX13_draw 12 = .ok (.putfield 52, 3) := by decide +kernel
theorem dX13_draw_15 : decode cX13_draw 15 = .ok (.aload_n 0, 1) := by decide +kernel
theorem dX13_draw_16 : decode cX13_draw 16 = .ok (.getfield 52, 3) := by decide +kernel
theorem dX13_draw_19 : decode cX13_draw 19 = .ok (.bipush 16, 2) := by decide +kernel
theorem dX13_draw_21 : decode cX13_draw 21 = .ok (.iushr, 1) := by decide +kernel
theorem dX13_draw_22 : decode cX13_draw 22 = .ok (.iload_n 1, 1) := by decide +kernel
theorem dX13_draw_23 : decode cX13_draw 23 = .ok (.irem, 1) := by decide +kernel
theorem dX13_draw_24 : decode cX13_draw 24 = .ok (.ireturn, 1) := by decide +kernel
theorem dX13_put_0 : decode cX13_put 0 = .ok (.iconst 0, 1) := by decide +kernel
theorem dX13_put_1 : decode cX13_put 1 = .ok (.istore_n 2, 1) := by decide +kernel
theorem dX13_put_2 : decode cX13_put 2 = .ok (.iload_n 2, 1) := by decide +kernel
theorem dX13_put_3 : decode cX13_put 3 = .ok (.aload_n 1, 1) := by decide +kernel
theorem dX13_put_4 : decode cX13_put 4 = .ok (.invokevirtual 57, 3) := by decide +kernel
theorem dX13_put_7 : decode cX13_put 7 = .ok (.if_icmp .ge 31, 3) := by decide +kernel
theorem dX13_put_10 : decode cX13_put 10 = .ok (.aload_n 0, 1) := by decide +kernel
theorem dX13_put_11 : decode cX13_put 11 = .ok (.getfield 9, 3) := by decide +kernel
theorem dX13_put_14 : decode cX13_put 14 = .ok (.aload_n 0, 1) := by decide +kernel
theorem dX13_put_15 : decode cX13_put 15 = .ok (.dup, 1) := by decide +kernel
theorem dX13_put_16 : decode cX13_put 16 = .ok (.getfield 62, 3) := by decide +kernel
theorem dX13_put_19 : decode cX13_put 19 = .ok (.dup_x1, 1) := by decide +kernel
theorem dX13_put_20 : decode cX13_put 20 = .ok (.iconst 1, 1) := by decide +kernel
theorem dX13_put_21 : decode cX13_put 21 = .ok (.iadd, 1) := by decide +kernel
theorem dX13_put_22 : decode cX13_put 22 = .ok (.putfield 62, 3) := by decide +kernel
theorem dX13_put_25 : decode cX13_put 25 = .ok (.aload_n 1, 1) := by decide +kernel
theorem dX13_put_26 : decode cX13_put 26 = .ok (.iload_n 2, 1) := by decide +kernel
theorem dX13_put_27 : decode cX13_put 27 = .ok (.invokevirtual 65, 3) := by decide +kernel
theorem dX13_put_30 : decode cX13_put 30 = .ok (.i2b, 1) := by decide +kernel
theorem dX13_put_31 : decode cX13_put 31 = .ok (.bastore, 1) := by decide +kernel
theorem dX13_put_32 : decode cX13_put 32 = .ok (.iinc 2 1, 3) := by decide +kernel
theorem dX13_put_35 : decode cX13_put 35 = .ok (.goto (-33), 3) := by decide +kernel
theorem dX13_put_38 : decode cX13_put 38 = .ok (.return_, 1) := by decide +kernel
theorem dX13_digits_0 : decode cX13_digits 0 = .ok (.iload_n 1, 1) := by decide +kernel
theorem dX13_digits_1 : decode cX13_digits 1 = .ok (.bipush 9, 2) := by decide +kernel
theorem dX13_digits_3 : decode cX13_digits 3 = .ok (.if_icmp .le 11, 3) := by decide +kernel
theorem dX13_digits_6 : decode cX13_digits 6 = .ok (.aload_n 0, 1) := by decide +kernel
theorem dX13_digits_7 : decode cX13_digits 7 = .ok (.iload_n 1, 1) := by decide +kernel
theorem dX13_digits_8 : decode cX13_digits 8 = .ok (.bipush 10, 2) := by decide +kernel
theorem dX13_digits_10 : decode cX13_digits 10 = .ok (.idiv, 1) := by decide +kernel
theorem dX13_digits_11 : decode cX13_digits 11 = .ok (.invokevirtual 69, 3) := by decide +kernel
theorem dX13_digits_14 : decode cX13_digits 14 = .ok (.aload_n 0, 1) := by decide +kernel
theorem dX13_digits_15 : decode cX13_digits 15 = .ok (.getfield 9, 3) := by decide +kernel
theorem dX13_digits_18 : decode cX13_digits 18 = .ok (.aload_n 0, 1) := by decide +kernel
theorem dX13_digits_19 : decode cX13_digits 19 = .ok (.dup, 1) := by decide +kernel
theorem dX13_digits_20 : decode cX13_digits 20 = .ok (.getfield 62, 3) := by decide +kernel
theorem dX13_digits_23 : decode cX13_digits 23 = .ok (.dup_x1, 1) := by decide +kernel
theorem dX13_digits_24 : decode cX13_digits 24 = .ok (.iconst 1, 1) := by decide +kernel
theorem dX13_digits_25 : decode cX13_digits 25 = .ok (.iadd, 1) := by decide +kernel
theorem dX13_digits_26 : decode cX13_digits 26 = .ok (.putfield 62, 3) := by decide +kernel
theorem dX13_digits_29 : decode cX13_digits 29 = .ok (.bipush 48, 2) := by decide +kernel
theorem dX13_digits_31 : decode cX13_digits 31 = .ok (.iload_n 1, 1) := by decide +kernel
theorem dX13_digits_32 : decode cX13_digits 32 = .ok (.bipush 10, 2) := by decide +kernel
theorem dX13_digits_34 : decode cX13_digits 34 = .ok (.irem, 1) := by decide +kernel
theorem dX13_digits_35 : decode cX13_digits 35 = .ok (.iadd, 1) := by decide +kernel
theorem dX13_digits_36 : decode cX13_digits 36 = .ok (.i2b, 1) := by decide +kernel
theorem dX13_digits_37 : decode cX13_digits 37 = .ok (.bastore, 1) := by decide +kernel
theorem dX13_digits_38 : decode cX13_digits 38 = .ok (.return_, 1) := by decide +kernel
theorem dX13_put__0 : decode cX13_put_ 0 = .ok (.aload_n 0, 1) := by decide +kernel
theorem dX13_put__1 : decode cX13_put_ 1 = .ok (.ldc 73, 2) := by decide +kernel
theorem dX13_put__3 : decode cX13_put_ 3 = .ok (.invokevirtual 75, 3) := by decide +kernel
theorem dX13_put__6 : decode cX13_put_ 6 = .ok (.aload_n 0, 1) := by decide +kernel
theorem dX13_put__7 : decode cX13_put_ 7 = .ok (.iload_n 1, 1) := by decide +kernel
theorem dX13_put__8 : decode cX13_put_ 8 = .ok (.invokevirtual 69, 3) := by decide +kernel
theorem dX13_put__11 : decode cX13_put_ 11 = .ok (.return_, 1) := by decide +kernel
theorem dX13_letter_0 : decode cX13_letter 0 = .ok (.aload_n 0, 1) := by decide +kernel
theorem dX13_letter_1 : decode cX13_letter 1 = .ok (.ldc 73, 2) := by decide +kernel
theorem dX13_letter_3 : decode cX13_letter 3 = .ok (.invokevirtual 75, 3) := by decide +kernel
theorem dX13_letter_6 : decode cX13_letter 6 = .ok (.aload_n 0, 1) := by decide +kernel
theorem dX13_letter_7 : decode cX13_letter 7 = .ok (.getfield 9, 3) := by decide +kernel
theorem dX13_letter_10 : decode cX13_letter 10 = .ok (.aload_n 0, 1) := by decide +kernel
theorem dX13_letter_11 : decode cX13_letter 11 = .ok (.dup, 1) := by decide +kernel
theorem dX13_letter_12 : decode cX13_letter 12 = .ok (.getfield 62, 3) := by decide +kernel
theorem dX13_letter_15 : decode cX13_letter 15 = .ok (.dup_x1, 1) := by decide +kernel
theorem dX13_letter_16 : decode cX13_letter 16 = .ok (.iconst 1, 1) := by decide +kernel
theorem dX13_letter_17 : decode cX13_letter 17 = .ok (.iadd, 1) := by decide +kernel
theorem dX13_letter_18 : decode cX13_letter 18 = .ok (.putfield 62, 3) := by decide +kernel
theorem dX13_letter_21 : decode cX13_letter 21 = .ok (.iload_n 1, 1) := by decide +kernel
theorem dX13_letter_22 : decode cX13_letter 22 = .ok (.iload_n 2, 1) := by decide +kernel
theorem dX13_letter_23 : decode cX13_letter 23 = .ok (.iadd, 1) := by decide +kernel
theorem dX13_letter_24 : decode cX13_letter 24 = .ok (.i2b, 1) := by decide +kernel
theorem dX13_letter_25 : decode cX13_letter 25 = .ok (.bastore, 1) := by decide +kernel
theorem dX13_letter_26 : decode cX13_letter 26 = .ok (.return_, 1) := by decide +kernel
theorem dX13_four_0 : decode cX13_four 0 = .ok (.iconst 0, 1) := by decide +kernel
theorem dX13_four_1 : decode cX13_four 1 = .ok (.istore_n 2, 1) := by decide +kernel
theorem dX13_four_2 : decode cX13_four 2 = .ok (.iload_n 1, 1) := by decide +kernel
theorem dX13_four_3 : decode cX13_four 3 = .ok (.istore_n 3, 1) := by decide +kernel
theorem dX13_four_4 : decode cX13_four 4 = .ok (.iload_n 3, 1) := by decide +kernel
theorem dX13_four_5 : decode cX13_four 5 = .ok (.iload_n 1, 1) := by decide +kernel
theorem dX13_four_6 : decode cX13_four 6 = .ok (.iconst 4, 1) := by decide +kernel
theorem dX13_four_7 : decode cX13_four 7 = .ok (.iadd, 1) := by decide +kernel
theorem dX13_four_8 : decode cX13_four 8 = .ok (.if_icmp .ge 34, 3) := by decide +kernel
theorem dX13_four_11 : decode cX13_four 11 = .ok (.iload_n 2, 1) := by decide +kernel
theorem dX13_four_12 : decode cX13_four 12 = .ok (.bipush 8, 2) := by decide +kernel
theorem dX13_four_14 : decode cX13_four 14 = .ok (.ishl, 1) := by decide +kernel
theorem dX13_four_15 : decode cX13_four 15 = .ok (.iload_n 3, 1) := by decide +kernel
