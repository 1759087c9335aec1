theorem dX1_init_0 : decode cX1_init 0 = .ok (.aload_n 0, 1) := by decide +kernel
theorem dX1_init_1 : decode cX1_init 1 = .ok (.invokespecial 3, 3) := by decide +kernel
theorem dX1_init_4 : decode cX1_init 4 = .ok (.aload_n 0, 1) := by decide +kernel
theorem dX1_init_5 : decode cX1_init 5 = .ok (.bipush 8, 2) := by decide +kernel
theorem dX1_init_7 : decode cX1_init 7 = .ok (.newarray .int, 2) := by decide +kernel
theorem dX1_init_9 : decode cX1_init 9 = .ok (.putfield 9, 3) := by decide +kernel
theorem dX1_init_12 : decode cX1_init 12 = .ok (.aload_n 0, 1) := by decide +kernel
theorem dX1_init_13 : decode cX1_init 13 = .ok (.bipush 8, 2) := by decide +kernel
theorem dX1_init_15 : decode cX1_init 15 = .ok (.newarray .boolean, 2) := by decide +kernel
theorem dX1_init_17 : decode cX1_init 17 = .ok (.putfield 15, 3) := by decide +kernel
theorem dX1_init_20 : decode cX1_init 20 = .ok (.aload_n 0, 1) := by decide +kernel
theorem dX1_init_21 : decode cX1_init 21 = .ok (.bipush 8, 2) := by decide +kernel
theorem dX1_init_23 : decode cX1_init 23 = .ok (.newarray .boolean, 2) := by decide +kernel
theorem dX1_init_25 : decode cX1_init 25 = .ok (.putfield 19, 3) := by decide +kernel
theorem dX1_init_28 : decode cX1_init 28 = .ok (.aload_n 0, 1) := by decide +kernel
theorem dX1_init_29 : decode cX1_init 29 = .ok (.bipush 8, 2) := by decide +kernel
theorem dX1_init_31 : decode cX1_init 31 = .ok (.newarray .int, 2) := by decide +kernel
theorem dX1_init_33 : decode cX1_init 33 = .ok (.putfield 22, 3) := by decide +kernel
theorem dX1_init_36 : decode cX1_init 36 = .ok (.aload_n 0, 1) := by decide +kernel
theorem dX1_init_37 : decode cX1_init 37 = .ok (.iconst 0, 1) := by decide +kernel
theorem dX1_init_38 : decode cX1_init 38 = .ok (.putfield 25, 3) := by decide +kernel
theorem dX1_init_41 : decode cX1_init 41 = .ok (.return_, 1) := by decide +kernel
theorem dX1_decide_0 : decode cX1_decide 0 = .ok (.aload_n 0, 1) := by decide +kernel
theorem dX1_decide_1 : decode cX1_decide 1 = .ok (.iconst 0, 1) := by decide +kernel
theorem dX1_decide_2 : decode cX1_decide 2 = .ok (.putfield 25, 3) := by decide +kernel
theorem dX1_decide_5 : decode cX1_decide 5 = .ok (.iconst 0, 1) := by decide +kernel
theorem dX1_decide_6 : decode cX1_decide 6 = .ok (.istore_n 2, 1) := by decide +kernel
theorem dX1_decide_7 : decode cX1_decide 7 = .ok (.iload_n 2, 1) := by decide +kernel
theorem dX1_decide_8 : decode cX1_decide 8 = .ok (.bipush 8, 2) := by decide +kernel
theorem dX1_decide_10 : decode cX1_decide 10 = .ok (.if_icmp .ge 23, 3) := by decide +kernel
theorem dX1_decide_13 : decode cX1_decide 13 = .ok (.aload_n 0, 1) := by decide +kernel
theorem dX1_decide_14 : decode cX1_decide 14 = .ok (.getfield 9, 3) := by decide +kernel
theorem dX1_decide_17 : decode cX1_decide 17 = .ok (.iload_n 2, 1) := by decide +kernel
theorem dX1_decide_18 : decode cX1_decide 18 = .ok (.iconst (-1), 1) := by decide +kernel
theorem dX1_decide_19 : decode cX1_decide 19 = .ok (.iastore, 1) := by decide +kernel
theorem dX1_decide_20 : decode cX1_decide 20 = .ok (.aload_n 0, 1) := by decide +kernel
theorem dX1_decide_21 : decode cX1_decide 21 = .ok (.getfield 15, 3) := by decide +kernel
theorem dX1_decide_24 : decode cX1_decide 24 = .ok (.iload_n 2, 1) := by decide +kernel
theorem dX1_decide_25 : decode cX1_decide 25 = .ok (.iconst 0, 1) := by decide +kernel
theorem dX1_decide_26 : decode cX1_decide 26 = .ok (.bastore, 1) := by decide +kernel
theorem dX1_decide_27 : decode cX1_decide 27 = .ok (.iinc 2 1, 3) := by decide +kernel
theorem dX1_decide_30 : decode cX1_decide 30 = .ok (.goto (-23), 3) := by decide +kernel
theorem dX1_decide_33 : decode cX1_decide 33 = .ok (.iconst 0, 1) := by decide +kernel
theorem dX1_decide_34 : decode cX1_decide 34 = .ok (.istore_n 2, 1) := by decide +kernel
theorem dX1_decide_35 : decode cX1_decide 35 = .ok (.iload_n 2, 1) := by decide +kernel
theorem dX1_decide_36 : decode cX1_decide 36 = .ok (.bipush 8, 2) := by decide +kernel
theorem dX1_decide_38 : decode cX1_decide 38 = .ok (.if_icmp .ge 16, 3) := by decide +kernel
theorem dX1_decide_41 : decode cX1_decide 41 = .ok (.aload_n 0, 1) := by decide +kernel
theorem dX1_decide_42 : decode cX1_decide 42 = .ok (.getfield 19, 3) := by decide +kernel
theorem dX1_decide_45 : decode cX1_decide 45 = .ok (.iload_n 2, 1) := by decide +kernel
theorem dX1_decide_46 : decode cX1_decide 46 = .ok (.iconst 0, 1) := by decide +kernel
theorem dX1_decide_47 : decode cX1_decide 47 = .ok (.bastore, 1) := by decide +kernel
theorem dX1_decide_48 : decode cX1_decide 48 = .ok (.iinc 2 1, 3) := by decide +kernel
theorem dX1_decide_51 : decode cX1_decide 51 = .ok (.goto (-16), 3) := by decide +kernel
theorem dX1_decide_54 : decode cX1_decide 54 = .ok (.iconst 0, 1) := by decide +kernel
theorem dX1_decide_55 : decode cX1_decide 55 = .ok (.istore_n 2, 1) := by decide +kernel
theorem dX1_decide_56 : decode cX1_decide 56 = .ok (.iload_n 2, 1) := by decide +kernel
theorem dX1_decide_57 : decode cX1_decide 57 = .ok (.bipush 16, 2) := by decide +kernel
theorem dX1_decide_59 : decode cX1_decide 59 = .ok (.if_icmp .ge 48, 3) := by decide +kernel
theorem dX1_decide_62 : decode cX1_decide 62 = .ok (.aload_n 0, 1) := by decide +kernel
theorem dX1_decide_63 : decode cX1_decide 63 = .ok (.getfield 25, 3) := by decide +kernel
theorem dX1_decide_66 : decode cX1_decide 66 = .ok (.ifCond .ne 12, 3) := by decide +kernel
theorem dX1_decide_69 : decode cX1_decide 69 = .ok (.aload_n 0, 1) := by decide +kernel
theorem dX1_decide_70 : decode cX1_decide 70 = .ok (.aload_n 0, 1) := by decide +kernel
theorem dX1_decide_71 : decode cX1_decide 71 = .ok (.aload_n 1, 1) := by decide +kernel
theorem dX1_decide_72 : decode cX1_decide 72 = .ok (.invokevirtual 29, 3) := by decide +kernel
theorem dX1_decide_75 : decode cX1_decide 75 = .ok (.invokevirtual 33, 3) := by decide +kernel
theorem dX1_decide_78 : decode cX1_decide 78 = .ok (.aload_n 0, 1) := by decide +kernel
theorem dX1_decide_79 : decode cX1_decide 79 = .ok (.getfield 25, 3) := by decide +kernel
theorem dX1_decide_82 : decode cX1_decide 82 = .ok (.ifCond .le 19, 3) := by decide +kernel
theorem dX1_decide_85 : decode cX1_decide 85 = .ok (.aload_n 0, 1) := by decide +kernel
theorem dX1_decide_86 : decode cX1_decide 86 = .ok (.aload_n 1, 1) := by decide +kernel
theorem dX1_decide_87 : decode cX1_decide 87 = .ok (.aload_n 0, 1) := by decide +kernel
theorem dX1_decide_88 : decode cX1_decide 88 = .ok (.getfield 22, 3) := by decide +kernel
theorem dX1_decide_91 : decode cX1_decide 91 = .ok (.aload_n 0, 1) := by decide +kernel
theorem dX1_decide_92 : decode cX1_decide 92 = .ok (.getfield 25, 3) := by decide +kernel
theorem dX1_decide_95 : decode cX1_decide 95 = .ok (.iconst 1, 1) := by decide +kernel
theorem dX1_decide_96 : decode cX1_decide 96 = .ok (.isub, 1) := by decide +kernel
theorem dX1_decide_97 : decode cX1_decide 97 = .ok (.iaload, 1) := by decide +kernel
theorem dX1_decide_98 : decode cX1_decide 98 = .ok (.invokevirtual 37, 3) := by decide +kernel
theorem dX1_decide_101 : decode cX1_decide 101 = .ok (.iinc 2 1, 3) := by decide +kernel
theorem dX1_decide_104 : decode cX1_decide 104 = .ok (.goto (-48), 3) := by decide +kernel
theorem dX1_decide_107 : decode cX1_decide 107 = .ok (.return_, 1) := by decide +kernel
theorem dX1_nextInTurn_0 : decode cX1_nextInTurn 0 = .ok (.iconst (-1), 1) := by decide +kernel
theorem dX1_nextInTurn_1 : decode cX1_nextInTurn 1 = .ok (.istore_n 2, 1) := by decide +kernel
theorem dX1_nextInTurn_2 : decode cX1_nextInTurn 2 = .ok (.iconst 0, 1) := by decide +kernel
theorem dX1_nextInTurn_3 : decode cX1_nextInTurn 3 = .ok (.istore_n 3, 1) := by decide +kernel
theorem dX1_nextInTurn_4 : decode cX1_nextInTurn 4 = .ok (.iload_n 3, 1) := by decide +kernel
theorem dX1_nextInTurn_5 : decode cX1_nextInTurn 5 = .ok (.aload_n 1, 1) := by decide +kernel
theorem dX1_nextInTurn_6 : decode cX1_nextInTurn 6 = .ok (.getfield 41, 3) := by decide +kernel
theorem dX1_nextInTurn_9 : decode cX1_nextInTurn 9 = .ok (.if_icmp .ge 38, 3) := by decide +kernel
theorem dX1_nextInTurn_12 : decode cX1_nextInTurn 12 = .ok (.aload_n 0, 1) := by decide +kernel
theorem dX1_nextInTurn_13 : decode cX1_nextInTurn 13 = .ok (.getfield 15, 3) := by decide +kernel
theorem dX1_nextInTurn_16 : decode cX1_nextInTurn 16 = .ok (.iload_n 3, 1) := by decide +kernel
theorem dX1_nextInTurn_17 : decode cX1_nextInTurn 17 = .ok (.baload, 1) := by decide +kernel
theorem dX1_nextInTurn_18 : decode cX1_nextInTurn 18 = .ok (.ifCond .ne 23, 3) := by decide +kernel
theorem dX1_nextInTurn_21 : decode cX1_nextInTurn 21 = .ok (.iload_n 2, 1) := by decide +kernel
theorem dX1_nextInTurn_22 : decode cX1_nextInTurn 22 = .ok (.iconst (-1), 1) := by decide +kernel
theorem dX1_nextInTurn_23 : decode cX1_nextInTurn 23 = .ok (.if_icmp .eq 16, 3) := by decide +kernel
theorem dX1_nextInTurn_26 : decode cX1_nextInTurn 26 = .ok (.aload_n 1, 1) := by decide +kernel
theorem dX1_nextInTurn_27 : decode cX1_nextInTurn 27 = .ok (.iload_n 3, 1) := by decide +kernel
theorem dX1_nextInTurn_28 : decode cX1_nextInTurn 28 = .ok (.invokevirtual 46, 3) := by decide +kernel
theorem dX1_nextInTurn_31 : decode cX1_nextInTurn 31 = .ok (.aload_n 1, 1) := by decide +kernel
theorem dX1_nextInTurn_32 : decode cX1_nextInTurn 32 = .ok (.iload_n 2, 1) := by decide +kernel
theorem dX1_nextInTurn_33 : decode cX1_nextInTurn 33 = .ok (.invokevirtual 46, 3) := by decide +kernel
theorem dX1_nextInTurn_36 : decode cX1_nextInTurn 36 = .ok (.if_icmp .ge 5, 3) := by decide +kernel
theorem dX1_nextInTurn_39 : decode cX1_nextInTurn 39 = .ok (.iload_n 3, 1) := by decide +kernel
theorem dX1_nextInTurn_40 : decode cX1_nextInTurn 40 = .ok (.istore_n 2, 1) := by decide +kernel
theorem dX1_nextInTurn_41 : decode cX1_nextInTurn 41 = .ok (.iinc 3 1, 3) := by decide +kernel
theorem dX1_nextInTurn_44 : decode cX1_nextInTurn 44 = .ok (.goto (-40), 3) := by decide +kernel
theorem dX1_nextInTurn_47 : decode cX1_nextInTurn 47 = .ok (.iload_n 2, 1) := by decide +kernel
theorem dX1_nextInTurn_48 : decode cX1_nextInTurn 48 = .ok (.ireturn, 1) := by decide +kernel
theorem dX1_append_0 : decode cX1_append 0 = .ok (.iload_n 1, 1) := by decide +kernel
theorem dX1_append_1 : decode cX1_append 1 = .ok (.iconst (-1), 1) := by decide +kernel
theorem dX1_append_2 : decode cX1_append 2 = .ok (.if_icmp .eq 32, 3) := by decide +kernel
theorem dX1_append_5 : decode cX1_append 5 = .ok (.aload_n 0, 1) := by decide +kernel
theorem dX1_append_6 : decode cX1_append 6 = .ok (.getfield 25, 3) := by decide +kernel
theorem dX1_append_9 : decode cX1_append 9 = .ok (.bipush 8, 2) := by decide +kernel
theorem dX1_append_11 : decode cX1_append 11 = .ok (.if_icmp .ge 23, 3) := by decide +kernel
theorem dX1_append_14 : decode cX1_append 14 = .ok (.aload_n 0, 1) := by decide +kernel
theorem dX1_append_15 : decode cX1_append 15 = .ok (.getfield 22, 3) := by decide +kernel
theorem dX1_append_18 : decode cX1_append 18 = .ok (.aload_n 0, 1) := by decide +kernel
theorem dX1_append_19 : decode cX1_append 19 = .ok (.getfield 25, 3) := by decide +kernel
theorem dX1_append_22 : decode cX1_append 22 = .ok (.iload_n 1, 1) := by decide +kernel
theorem dX1_append_23 : decode cX1_append 23 = .ok (.iastore, 1) := by decide +kernel
theorem dX1_append_24 : decode cX1_append 24 = .ok (.aload_n 0, 1) := by decide +kernel
theorem dX1_append_25 : decode cX1_append 25 = .ok (.dup, 1) := by decide +kernel
theorem dX1_append_26 : decode cX1_append 26 = .ok (.getfield 25, 3) := by decide +kernel
theorem dX1_append_29 : decode cX1_append 29 = .ok (.iconst 1, 1) := by decide +kernel
theorem dX1_append_30 : decode cX1_append 30 = .ok (.iadd, 1) := by decide +kernel
theorem dX1_append_31 : decode cX1_append 31 = .ok (.putfield 25, 3) := by decide +kernel
theorem dX1_append_34 : decode cX1_append 34 = .ok (.return_, 1) := by decide +kernel
theorem dX1_serve_0 : decode cX1_serve 0 = .ok (.aload_n 0, 1) := by decide +kernel
theorem dX1_serve_1 : decode cX1_serve 1 = .ok (.aload_n 1, 1) := by decide +kernel
theorem dX1_serve_2 : decode cX1_serve 2 = .ok (.iload_n 2, 1) := by decide +kernel
theorem dX1_serve_3 : decode cX1_serve 3 = .ok (.invokevirtual 50, 3) := by decide +kernel
theorem dX1_serve_6 : decode cX1_serve 6 = .ok (.istore_n 3, 1) := by decide +kernel
theorem dX1_serve_7 : decode cX1_serve 7 = .ok (.aload_n 0, 1) := by decide +kernel
theorem dX1_serve_8 : decode cX1_serve 8 = .ok (.getfield 9, 3) := by decide +kernel
theorem dX1_serve_11 : decode cX1_serve 11 = .ok (.iload_n 2, 1) := by decide +kernel
theorem dX1_serve_12 : decode cX1_serve 12 = .ok (.iload_n 3, 1) := by decide +kernel
theorem dX1_serve_13 : decode cX1_serve 13 = .ok (.iastore, 1) := by decide +kernel
theorem dX1_serve_14 : decode cX1_serve 14 = .ok (.aload_n 1, 1) := by decide +kernel
theorem dX1_serve_15 : decode cX1_serve 15 = .ok (.iload_n 3, 1) := by decide +kernel
theorem dX1_serve_16 : decode cX1_serve 16 = .ok (.invokevirtual 54, 3) := by decide +kernel
theorem dX1_serve_19 : decode cX1_serve 19 = .ok (.istore 4, 2) := by decide +kernel
theorem dX1_serve_21 : decode cX1_serve 21 = .ok (.iload 4, 2) := by decide +kernel
theorem dX1_serve_23 : decode cX1_serve 23 = .ok (.iconst (-1), 1) := by decide +kernel
theorem dX1_serve_24 : decode cX1_serve 24 = .ok (.if_icmp .eq 19, 3) := by decide +kernel
theorem dX1_serve_27 : decode cX1_serve 27 = .ok (.iload 4, 2) := by decide +kernel
theorem dX1_serve_29 : decode cX1_serve 29 = .ok (.iload_n 2, 1) := by decide +kernel
theorem dX1_serve_30 : decode cX1_serve 30 = .ok (.if_icmp .eq 13, 3) := by decide +kernel
theorem dX1_serve_33 : decode cX1_serve 33 = .ok (.aload_n 0, 1) := by decide +kernel
theorem dX1_serve_34 : decode cX1_serve 34 = .ok (.getfield 15, 3) := by decide +kernel
theorem dX1_serve_37 : decode cX1_serve 37 = .ok (.iload 4, 2) := by decide +kernel
theorem dX1_serve_39 : decode cX1_serve 39 = .ok (.baload, 1) := by decide +kernel
theorem dX1_serve_40 : decode cX1_serve 40 = .ok (.ifCond .eq 14, 3) := by decide +kernel
theorem dX1_serve_43 : decode cX1_serve 43 = .ok (.aload_n 0, 1) := by decide +kernel
theorem dX1_serve_44 : decode cX1_serve 44 = .ok (.aload_n 0, 1) := by decide +kernel
theorem dX1_serve_45 : decode cX1_serve 45 = .ok (.getfield 25, 3) := by decide +kernel
theorem dX1_serve_48 : decode cX1_serve 48 = .ok (.iconst 1, 1) := by decide +kernel
theorem dX1_serve_49 : decode cX1_serve 49 = .ok (.isub, 1) := by decide +kernel
theorem dX1_serve_50 : decode cX1_serve 50 = .ok (.invokevirtual 57, 3) := by decide +kernel
theorem dX1_serve_53 : decode cX1_serve 53 = .ok (.return_, 1) := by decide +kernel
theorem dX1_serve_54 : decode cX1_serve 54 = .ok (.aload_n 0, 1) := by decide +kernel
theorem dX1_serve_55 : decode cX1_serve 55 = .ok (.iload 4, 2) := by decide +kernel
theorem dX1_serve_57 : decode cX1_serve 57 = .ok (.invokevirtual 60, 3) := by decide +kernel
theorem dX1_serve_60 : decode cX1_serve 60 = .ok (.istore 5, 2) := by decide +kernel
theorem dX1_serve_62 : decode cX1_serve 62 = .ok (.iload 5, 2) := by decide +kernel
theorem dX1_serve_64 : decode cX1_serve 64 = .ok (.iconst (-1), 1) := by decide +kernel
theorem dX1_serve_65 : decode cX1_serve 65 = .ok (.if_icmp .ne 12, 3) := by decide +kernel
theorem dX1_serve_68 : decode cX1_serve 68 = .ok (.aload_n 0, 1) := by decide +kernel
theorem dX1_serve_69 : decode cX1_serve 69 = .ok (.iload 4, 2) := by decide +kernel
theorem dX1_serve_71 : decode cX1_serve 71 = .ok (.invokevirtual 33, 3) := by decide +kernel
theorem dX1_serve_74 : decode cX1_serve 74 = .ok (.goto 9, 3) := by decide +kernel
theorem dX1_serve_77 : decode cX1_serve 77 = .ok (.aload_n 0, 1) := by decide +kernel
theorem dX1_serve_78 : decode cX1_serve 78 = .ok (.iload 5, 2) := by decide +kernel
theorem dX1_serve_80 : decode cX1_serve 80 = .ok (.invokevirtual 57, 3) := by decide +kernel
theorem dX1_serve_83 : decode cX1_serve 83 = .ok (.return_, 1) := by decide +kernel
theorem dX1_firstAvailable_0 : decode cX1_firstAvailable 0 = .ok (.iconst 0, 1) := by decide +kernel
theorem dX1_firstAvailable_1 : decode cX1_firstAvailable 1 = .ok (.istore_n 3, 1) := by decide +kernel
theorem dX1_firstAvailable_2 : decode cX1_firstAvailable 2 = .ok (.iload_n 3, 1) := by decide +kernel
theorem dX1_firstAvailable_3 : decode cX1_firstAvailable 3 = .ok (.aload_n 1, 1) := by decide +kernel
theorem dX1_firstAvailable_4 : decode cX1_firstAvailable 4 = .ok (.iload_n 2, 1) := by decide +kernel
theorem dX1_firstAvailable_5 : decode cX1_firstAvailable 5 = .ok (.invokevirtual 63, 3) := by decide +kernel
theorem dX1_firstAvailable_8 : decode cX1_firstAvailable 8 = .ok (.if_icmp .ge 36, 3) := by decide +kernel
theorem dX1_firstAvailable_11 : decode cX1_firstAvailable 11 = .ok (.aload_n 1, 1) := by decide +kernel
theorem dX1_firstAvailable_12 : decode cX1_firstAvailable 12 = .ok (.iload_n 2, 1) := by decide +kernel
theorem dX1_firstAvailable_13 : decode cX1_firstAvailable 13 = .ok (.iload_n 3, 1) := by decide +kernel
theorem dX1_firstAvailable_14 : decode cX1_firstAvailable 14 = .ok (.invokevirtual 66, 3) := by decide +kernel
theorem dX1_firstAvailable_17 : decode cX1_firstAvailable 17 = .ok (.istore 4, 2) := by decide +kernel
theorem dX1_firstAvailable_19 : decode cX1_firstAvailable 19 = .ok (.iload 4, 2) := by decide +kernel
theorem dX1_firstAvailable_21 : decode cX1_firstAvailable 21 = .ok (.iconst (-1), 1) := by decide +kernel
theorem dX1_firstAvailable_22 : decode cX1_firstAvailable 22 = .ok (.if_icmp .eq 16, 3) := by decide +kernel
theorem dX1_firstAvailable_25 : decode cX1_firstAvailable 25 = .ok (.aload_n 0, 1) := by decide +kernel
theorem dX1_firstAvailable_26 : decode cX1_firstAvailable 26 = .ok (.getfield 19, 3) := by decide +kernel
theorem dX1_firstAvailable_29 : decode cX1_firstAvailable 29 = .ok (.iload 4, 2) := by decide +kernel
theorem dX1_firstAvailable_31 : decode cX1_firstAvailable 31 = .ok (.baload, 1) := by decide +kernel
theorem dX1_firstAvailable_32 : decode cX1_firstAvailable 32 = .ok (.ifCond .ne 6, 3) := by decide +kernel
theorem dX1_firstAvailable_35 : decode cX1_firstAvailable 35 = .ok (.iload 4, 2) := by decide +kernel
theorem dX1_firstAvailable_37 : decode cX1_firstAvailable 37 = .ok (.ireturn, 1) := by decide +kernel
theorem dX1_firstAvailable_38 : decode cX1_firstAvailable 38 = .ok (.iinc 3 1, 3) := by decide +kernel
theorem dX1_firstAvailable_41 : decode cX1_firstAvailable 41 = .ok (.goto (-39), 3) := by decide +kernel
theorem dX1_firstAvailable_44 : decode cX1_firstAvailable 44 = .ok (.iconst (-1), 1) := by decide +kernel
theorem dX1_firstAvailable_45 : decode cX1_firstAvailable 45 = .ok (.ireturn, 1) := by decide +kernel
theorem dX1_placeInChain_0 : decode cX1_placeInChain 0 = .ok (.iconst 0, 1) := by decide +kernel
theorem dX1_placeInChain_1 : decode cX1_placeInChain 1 = .ok (.istore_n 2, 1) := by decide +kernel
theorem dX1_placeInChain_2 : decode cX1_placeInChain 2 = .ok (.iload_n 2, 1) := by decide +kernel
theorem dX1_placeInChain_3 : decode cX1_placeInChain 3 = .ok (.aload_n 0, 1) := by decide +kernel
theorem dX1_placeInChain_4 : decode cX1_placeInChain 4 = .ok (.getfield 25, 3) := by decide +kernel
theorem dX1_placeInChain_7 : decode cX1_placeInChain 7 = .ok (.if_icmp .ge 21, 3) := by decide +kernel
theorem dX1_placeInChain_10 : decode cX1_placeInChain 10 = .ok (.aload_n 0, 1) := by decide +kernel
theorem dX1_placeInChain_11 : decode cX1_placeInChain 11 = .ok (.getfield 22, 3) := by decide +kernel
theorem dX1_placeInChain_14 : decode cX1_placeInChain 14 = .ok (.iload_n 2, 1) := by decide +kernel
theorem dX1_placeInChain_15 : decode cX1_placeInChain 15 = .ok (.iaload, 1) := by decide +kernel
theorem dX1_placeInChain_16 : decode cX1_placeInChain 16 = .ok (.iload_n 1, 1) := by decide +kernel
theorem dX1_placeInChain_17 : decode cX1_placeInChain 17 = .ok (.if_icmp .ne 5, 3) := by decide +kernel
theorem dX1_placeInChain_20 : decode cX1_placeInChain 20 = .ok (.iload_n 2, 1) := by decide +kernel
theorem dX1_placeInChain_21 : decode cX1_placeInChain 21 = .ok (.ireturn, 1) := by decide +kernel
theorem dX1_placeInChain_22 : decode cX1_placeInChain 22 = .ok (.iinc 2 1, 3) := by decide +kernel
theorem dX1_placeInChain_25 : decode cX1_placeInChain 25 = .ok (.goto (-23), 3) := by decide +kernel
theorem dX1_placeInChain_28 : decode cX1_placeInChain 28 = .ok (.iconst (-1), 1) := by decide +kernel
theorem dX1_placeInChain_29 : decode cX1_placeInChain 29 = .ok (.ireturn, 1) := by decide +kernel
theorem dX1_finishFrom_0 : decode cX1_finishFrom 0 = .ok (.iload_n 1, 1) := by decide +kernel
theorem dX1_finishFrom_1 : decode cX1_finishFrom 1 = .ok (.istore_n 2, 1) := by decide +kernel
theorem dX1_finishFrom_2 : decode cX1_finishFrom 2 = .ok (.iload_n 2, 1) := by decide +kernel
theorem dX1_finishFrom_3 : decode cX1_finishFrom 3 = .ok (.ifCond .lt 53, 3) := by decide +kernel
theorem dX1_finishFrom_6 : decode cX1_finishFrom 6 = .ok (.iload_n 2, 1) := by decide +kernel
theorem dX1_finishFrom_7 : decode cX1_finishFrom 7 = .ok (.aload_n 0, 1) := by decide +kernel
theorem dX1_finishFrom_8 : decode cX1_finishFrom 8 = .ok (.getfield 25, 3) := by decide +kernel
theorem dX1_finishFrom_11 : decode cX1_finishFrom 11 = .ok (.if_icmp .ge 45, 3) := by decide +kernel
theorem dX1_finishFrom_14 : decode cX1_finishFrom 14 = .ok (.aload_n 0, 1) := by decide +kernel
theorem dX1_finishFrom_15 : decode cX1_finishFrom 15 = .ok (.getfield 22, 3) := by decide +kernel
theorem dX1_finishFrom_18 : decode cX1_finishFrom 18 = .ok (.iload_n 2, 1) := by decide +kernel
theorem dX1_finishFrom_19 : decode cX1_finishFrom 19 = .ok (.iaload, 1) := by decide +kernel
theorem dX1_finishFrom_20 : decode cX1_finishFrom 20 = .ok (.istore_n 3, 1) := by decide +kernel
theorem dX1_finishFrom_21 : decode cX1_finishFrom 21 = .ok (.aload_n 0, 1) := by decide +kernel
theorem dX1_finishFrom_22 : decode cX1_finishFrom 22 = .ok (.getfield 15, 3) := by decide +kernel
theorem dX1_finishFrom_25 : decode cX1_finishFrom 25 = .ok (.iload_n 3, 1) := by decide +kernel
theorem dX1_finishFrom_26 : decode cX1_finishFrom 26 = .ok (.iconst 1, 1) := by decide +kernel
theorem dX1_finishFrom_27 : decode cX1_finishFrom 27 = .ok (.bastore, 1) := by decide +kernel
theorem dX1_finishFrom_28 : decode cX1_finishFrom 28 = .ok (.aload_n 0, 1) := by decide +kernel
theorem dX1_finishFrom_29 : decode cX1_finishFrom 29 = .ok (.getfield 9, 3) := by decide +kernel
theorem dX1_finishFrom_32 : decode cX1_finishFrom 32 = .ok (.iload_n 3, 1) := by decide +kernel
theorem dX1_finishFrom_33 : decode cX1_finishFrom 33 = .ok (.iaload, 1) := by decide +kernel
theorem dX1_finishFrom_34 : decode cX1_finishFrom 34 = .ok (.istore 4, 2) := by decide +kernel
theorem dX1_finishFrom_36 : decode cX1_finishFrom 36 = .ok (.iload 4, 2) := by decide +kernel
theorem dX1_finishFrom_38 : decode cX1_finishFrom 38 = .ok (.iconst (-1), 1) := by decide +kernel
theorem dX1_finishFrom_39 : decode cX1_finishFrom 39 = .ok (.if_icmp .eq 11, 3) := by decide +kernel
theorem dX1_finishFrom_42 : decode cX1_finishFrom 42 = .ok (.aload_n 0, 1) := by decide +kernel
theorem dX1_finishFrom_43 : decode cX1_finishFrom 43 = .ok (.getfield 19, 3) := by decide +kernel
theorem dX1_finishFrom_46 : decode cX1_finishFrom 46 = .ok (.iload 4, 2) := by decide +kernel
theorem dX1_finishFrom_48 : decode cX1_finishFrom 48 = .ok (.iconst 1, 1) := by decide +kernel
theorem dX1_finishFrom_49 : decode cX1_finishFrom 49 = .ok (.bastore, 1) := by decide +kernel
theorem dX1_finishFrom_50 : decode cX1_finishFrom 50 = .ok (.iinc 2 1, 3) := by decide +kernel
theorem dX1_finishFrom_53 : decode cX1_finishFrom 53 = .ok (.goto (-51), 3) := by decide +kernel
theorem dX1_finishFrom_56 : decode cX1_finishFrom 56 = .ok (.aload_n 0, 1) := by decide +kernel
theorem dX1_finishFrom_57 : decode cX1_finishFrom 57 = .ok (.iload_n 1, 1) := by decide +kernel
theorem dX1_finishFrom_58 : decode cX1_finishFrom 58 = .ok (.putfield 25, 3) := by decide +kernel
theorem dX1_finishFrom_61 : decode cX1_finishFrom 61 = .ok (.return_, 1) := by decide +kernel
theorem dX1_givenTo_0 : decode cX1_givenTo 0 = .ok (.iload_n 1, 1) := by decide +kernel
theorem dX1_givenTo_1 : decode cX1_givenTo 1 = .ok (.ifCond .lt 9, 3) := by decide +kernel
theorem dX1_givenTo_4 : decode cX1_givenTo 4 = .ok (.iload_n 1, 1) := by decide +kernel
theorem dX1_givenTo_5 : decode cX1_givenTo 5 = .ok (.bipush 8, 2) := by decide +kernel
theorem dX1_givenTo_7 : decode cX1_givenTo 7 = .ok (.if_icmp .lt 7, 3) := by decide +kernel
theorem dX1_givenTo_10 : decode cX1_givenTo 10 = .ok (.iconst (-1), 1) := by decide +kernel
theorem dX1_givenTo_11 : decode cX1_givenTo 11 = .ok (.goto 9, 3) := by decide +kernel
theorem dX1_givenTo_14 : decode cX1_givenTo 14 = .ok (.aload_n 0, 1) := by decide +kernel
theorem dX1_givenTo_15 : decode cX1_givenTo 15 = .ok (.getfield 9, 3) := by decide +kernel
theorem dX1_givenTo_18 : decode cX1_givenTo 18 = .ok (.iload_n 1, 1) := by decide +kernel
theorem dX1_givenTo_19 : decode cX1_givenTo 19 = .ok (.iaload, 1) := by decide +kernel
theorem dX1_givenTo_20 : decode cX1_givenTo 20 = .ok (.ireturn, 1) := by decide +kernel
theorem dX1_applyTo_0 : decode cX1_applyTo 0 = .ok (.iconst 0, 1) := by decide +kernel
theorem dX1_applyTo_1 : decode cX1_applyTo 1 = .ok (.istore_n 2, 1) := by decide +kernel
theorem dX1_applyTo_2 : decode cX1_applyTo 2 = .ok (.iconst 0, 1) := by decide +kernel
theorem dX1_applyTo_3 : decode cX1_applyTo 3 = .ok (.istore_n 3, 1) := by decide +kernel
theorem dX1_applyTo_4 : decode cX1_applyTo 4 = .ok (.iload_n 3, 1) := by decide +kernel
theorem dX1_applyTo_5 : decode cX1_applyTo 5 = .ok (.aload_n 1, 1) := by decide +kernel
theorem dX1_applyTo_6 : decode cX1_applyTo 6 = .ok (.getfield 41, 3) := by decide +kernel
theorem dX1_applyTo_9 : decode cX1_applyTo 9 = .ok (.if_icmp .ge 45, 3) := by decide +kernel
theorem dX1_applyTo_12 : decode cX1_applyTo 12 = .ok (.aload_n 0, 1) := by decide +kernel
theorem dX1_applyTo_13 : decode cX1_applyTo 13 = .ok (.iload_n 3, 1) := by decide +kernel
theorem dX1_applyTo_14 : decode cX1_applyTo 14 = .ok (.invokevirtual 70, 3) := by decide +kernel
theorem dX1_applyTo_17 : decode cX1_applyTo 17 = .ok (.istore 4, 2) := by decide +kernel
theorem dX1_applyTo_19 : decode cX1_applyTo 19 = .ok (.iload 4, 2) := by decide +kernel
theorem dX1_applyTo_21 : decode cX1_applyTo 21 = .ok (.aload_n 1, 1) := by decide +kernel
theorem dX1_applyTo_22 : decode cX1_applyTo 22 = .ok (.iload_n 3, 1) := by decide +kernel
theorem dX1_applyTo_23 : decode cX1_applyTo 23 = .ok (.invokevirtual 73, 3) := by decide +kernel
theorem dX1_applyTo_26 : decode cX1_applyTo 26 = .ok (.if_icmp .eq 22, 3) := by decide +kernel
theorem dX1_applyTo_29 : decode cX1_applyTo 29 = .ok (.iinc 2 1, 3) := by decide +kernel
theorem dX1_applyTo_32 : decode cX1_applyTo 32 = .ok (.iload 4, 2) := by decide +kernel
theorem dX1_applyTo_34 : decode cX1_applyTo 34 = .ok (.iconst (-1), 1) := by decide +kernel
theorem dX1_applyTo_35 : decode cX1_applyTo 35 = .ok (.if_icmp .eq 13, 3) := by decide +kernel
theorem dX1_applyTo_38 : decode cX1_applyTo 38 = .ok (.aload_n 1, 1) := by decide +kernel
theorem dX1_applyTo_39 : decode cX1_applyTo 39 = .ok (.dup, 1) := by decide +kernel
theorem dX1_applyTo_40 : decode cX1_applyTo 40 = .ok (.getfield 76, 3) := by decide +kernel
theorem dX1_applyTo_43 : decode cX1_applyTo 43 = .ok (.iconst 1, 1) := by decide +kernel
theorem dX1_applyTo_44 : decode cX1_applyTo 44 = .ok (.iadd, 1) := by decide +kernel
theorem dX1_applyTo_45 : decode cX1_applyTo 45 = .ok (.putfield 76, 3) := by decide +kernel
theorem dX1_applyTo_48 : decode cX1_applyTo 48 = .ok (.iinc 3 1, 3) := by decide +kernel
theorem dX1_applyTo_51 : decode cX1_applyTo 51 = .ok (.goto (-47), 3) := by decide +kernel
theorem dX1_applyTo_54 : decode cX1_applyTo 54 = .ok (.iconst 0, 1) := by decide +kernel
theorem dX1_applyTo_55 : decode cX1_applyTo 55 = .ok (.istore_n 3, 1) := by decide +kernel
theorem dX1_applyTo_56 : decode cX1_applyTo 56 = .ok (.iload_n 3, 1) := by decide +kernel
theorem dX1_applyTo_57 : decode cX1_applyTo 57 = .ok (.aload_n 1, 1) := by decide +kernel
theorem dX1_applyTo_58 : decode cX1_applyTo 58 = .ok (.getfield 41, 3) := by decide +kernel
theorem dX1_applyTo_61 : decode cX1_applyTo 61 = .ok (.if_icmp .ge 19, 3) := by decide +kernel
theorem dX1_applyTo_64 : decode cX1_applyTo 64 = .ok (.aload_n 1, 1) := by decide +kernel
theorem dX1_applyTo_65 : decode cX1_applyTo 65 = .ok (.iload_n 3, 1) := by decide +kernel
theorem dX1_applyTo_66 : decode cX1_applyTo 66 = .ok (.aload_n 0, 1) := by decide +kernel
theorem dX1_applyTo_67 : decode cX1_applyTo 67 = .ok (.iload_n 3, 1) := by decide +kernel
theorem dX1_applyTo_68 : decode cX1_applyTo 68 = .ok (.invokevirtual 70, 3) := by decide +kernel
theorem dX1_applyTo_71 : decode cX1_applyTo 71 = .ok (.invokevirtual 79, 3) := by decide +kernel
theorem dX1_applyTo_74 : decode cX1_applyTo 74 = .ok (.iinc 3 1, 3) := by decide +kernel
theorem dX1_applyTo_77 : decode cX1_applyTo 77 = .ok (.goto (-21), 3) := by decide +kernel
theorem dX1_applyTo_80 : decode cX1_applyTo 80 = .ok (.iload_n 2, 1) := by decide +kernel
theorem dX1_applyTo_81 : decode cX1_applyTo 81 = .ok (.ireturn, 1) := by decide +kernel
theorem dX2_init_0 : decode cX2_init 0 = .ok (.aload_n 0, 1) := by decide +kernel
theorem dX2_init_1 : decode cX2_init 1 = .ok (.invokespecial 3, 3) := by decide +kernel
theorem dX2_init_4 : decode cX2_init 4 = .ok (.aload_n 0, 1) := by decide +kernel
theorem dX2_init_5 : decode cX2_init 5 = .ok (.sipush 700, 3) := by decide +kernel
theorem dX2_init_8 : decode cX2_init 8 = .ok (.newarray .int, 2) := by decide +kernel
theorem dX2_init_10 : decode cX2_init 10 = .ok (.putfield 9, 3) := by decide +kernel
theorem dX2_init_13 : decode cX2_init 13 = .ok (.aload_n 0, 1) := by decide +kernel
theorem dX2_init_14 : decode cX2_init 14 = .ok (.iconst 0, 1) := by decide +kernel
theorem dX2_init_15 : decode cX2_init 15 = .ok (.putfield 15, 3) := by decide +kernel
theorem dX2_init_18 : decode cX2_init 18 = .ok (.return_, 1) := by decide +kernel
theorem dX2_byteAt_0 : decode cX2_byteAt 0 = .ok (.iload_n 1, 1) := by decide +kernel
theorem dX2_byteAt_1 : decode cX2_byteAt 1 = .ok (.ifCond .lt 11, 3) := by decide +kernel
theorem dX2_byteAt_4 : decode cX2_byteAt 4 = .ok (.iload_n 1, 1) := by decide +kernel
theorem dX2_byteAt_5 : decode cX2_byteAt 5 = .ok (.aload_n 0, 1) := by decide +kernel
theorem dX2_byteAt_6 : decode cX2_byteAt 6 = .ok (.getfield 15, 3) := by decide +kernel
theorem dX2_byteAt_9 : decode cX2_byteAt 9 = .ok (.if_icmp .lt 7, 3) := by decide +kernel
theorem dX2_byteAt_12 : decode cX2_byteAt 12 = .ok (.iconst (-1), 1) := by decide +kernel
theorem dX2_byteAt_13 : decode cX2_byteAt 13 = .ok (.goto 9, 3) := by decide +kernel
theorem dX2_byteAt_16 : decode cX2_byteAt 16 = .ok (.aload_n 0, 1) := by decide +kernel
theorem dX2_byteAt_17 : decode cX2_byteAt 17 = .ok (.getfield 9, 3) := by decide +kernel
theorem dX2_byteAt_20 : decode cX2_byteAt 20 = .ok (.iload_n 1, 1) := by decide +kernel
theorem dX2_byteAt_21 : decode cX2_byteAt 21 = .ok (.iaload, 1) := by decide +kernel
theorem dX2_byteAt_22 : decode cX2_byteAt 22 = .ok (.ireturn, 1) := by decide +kernel
theorem dX2_add_0 : decode cX2_add 0 = .ok (.aload_n 0, 1) := by decide +kernel
theorem dX2_add_1 : decode cX2_add 1 = .ok (.getfield 15, 3) := by decide +kernel
theorem dX2_add_4 : decode cX2_add 4 = .ok (.sipush 700, 3) := by decide +kernel
theorem dX2_add_7 : decode cX2_add 7 = .ok (.if_icmp .ge 23, 3) := by decide +kernel
theorem dX2_add_10 : decode cX2_add 10 = .ok (.aload_n 0, 1) := by decide +kernel
theorem dX2_add_11 : decode cX2_add 11 = .ok (.getfield 9, 3) := by decide +kernel
theorem dX2_add_14 : decode cX2_add 14 = .ok (.aload_n 0, 1) := by decide +kernel
theorem dX2_add_15 : decode cX2_add 15 = .ok (.getfield 15, 3) := by decide +kernel
theorem dX2_add_18 : decode cX2_add 18 = .ok (.iload_n 1, 1) := by decide +kernel
theorem dX2_add_19 : decode cX2_add 19 = .ok (.iastore, 1) := by decide +kernel
theorem dX2_add_20 : decode cX2_add 20 = .ok (.aload_n 0, 1) := by decide +kernel
theorem dX2_add_21 : decode cX2_add 21 = .ok (.dup, 1) := by decide +kernel
theorem dX2_add_22 : decode cX2_add 22 = .ok (.getfield 15, 3) := by decide +kernel
theorem dX2_add_25 : decode cX2_add 25 = .ok (.iconst 1, 1) := by decide +kernel
theorem dX2_add_26 : decode cX2_add 26 = .ok (.iadd, 1) := by decide +kernel
theorem dX2_add_27 : decode cX2_add 27 = .ok (.putfield 15, 3) := by decide +kernel
theorem dX2_add_30 : decode cX2_add 30 = .ok (.return_, 1) := by decide +kernel
theorem dX2_addWord_0 : decode cX2_addWord 0 = .ok (.bipush 24, 2) := by decide +kernel
theorem dX2_addWord_2 : decode cX2_addWord 2 = .ok (.istore_n 2, 1) := by decide +kernel
theorem dX2_addWord_3 : decode cX2_addWord 3 = .ok (.iload_n 2, 1) := by decide +kernel
theorem dX2_addWord_4 : decode cX2_addWord 4 = .ok (.ifCond .lt 20, 3) := by decide +kernel
theorem dX2_addWord_7 : decode cX2_addWord 7 = .ok (.aload_n 0, 1) := by decide +kernel
theorem dX2_addWord_8 : decode cX2_addWord 8 = .ok (.iload_n 1, 1) := by decide +kernel
theorem dX2_addWord_9 : decode cX2_addWord 9 = .ok (.iload_n 2, 1) := by decide +kernel
theorem dX2_addWord_10 : decode cX2_addWord 10 = .ok (.iushr, 1) := by decide +kernel
theorem dX2_addWord_11 : decode cX2_addWord 11 = .ok (.sipush 255, 3) := by decide +kernel
theorem dX2_addWord_14 : decode cX2_addWord 14 = .ok (.iand, 1) := by decide +kernel
theorem dX2_addWord_15 : decode cX2_addWord 15 = .ok (.invokevirtual 19, 3) := by decide +kernel
theorem dX2_addWord_18 : decode cX2_addWord 18 = .ok (.iinc 2 (-8), 3) := by decide +kernel
theorem dX2_addWord_21 : decode cX2_addWord 21 = .ok (.goto (-18), 3) := by decide +kernel
theorem dX2_addWord_24 : decode cX2_addWord 24 = .ok (.return_, 1) := by decide +kernel
theorem dX2_cut_0 : decode cX2_cut 0 = .ok (.iload_n 1, 1) := by decide +kernel
theorem dX2_cut_1 : decode cX2_cut 1 = .ok (.ifCond .lt 16, 3) := by decide +kernel
theorem dX2_cut_4 : decode cX2_cut 4 = .ok (.iload_n 1, 1) := by decide +kernel
theorem dX2_cut_5 : decode cX2_cut 5 = .ok (.aload_n 0, 1) := by decide +kernel
theorem dX2_cut_6 : decode cX2_cut 6 = .ok (.getfield 15, 3) := by decide +kernel
theorem dX2_cut_9 : decode cX2_cut 9 = .ok (.if_icmp .ge 8, 3) := by decide +kernel
theorem dX2_cut_12 : decode cX2_cut 12 = .ok (.aload_n 0, 1) := by decide +kernel
theorem dX2_cut_13 : decode cX2_cut 13 = .ok (.iload_n 1, 1) := by decide +kernel
theorem dX2_cut_14 : decode cX2_cut 14 = .ok (.putfield 15, 3) := by decide +kernel
theorem dX2_cut_17 : decode cX2_cut 17 = .ok (.return_, 1) := by decide +kernel
theorem dX3_wantsStallOf_0 : decode cX3_wantsStallOf 0 = .ok (.aload_n 0, 1) := by decide +kernel
theorem dX3_wantsStallOf_1 : decode cX3_wantsStallOf 1 = .ok (.iload_n 2, 1) := by decide +kernel
theorem dX3_wantsStallOf_2 : decode cX3_wantsStallOf 2 = .ok (.invokevirtual 9, 3) := by decide +kernel
theorem dX3_wantsStallOf_5 : decode cX3_wantsStallOf 5 = .ok (.istore_n 3, 1) := by decide +kernel
theorem dX3_wantsStallOf_6 : decode cX3_wantsStallOf 6 = .ok (.iload_n 3, 1) := by decide +kernel
theorem dX3_wantsStallOf_7 : decode cX3_wantsStallOf 7 = .ok (.iconst (-1), 1) := by decide +kernel
theorem dX3_wantsStallOf_8 : decode cX3_wantsStallOf 8 = .ok (.if_icmp .eq 21, 3) := by decide +kernel
theorem dX3_wantsStallOf_11 : decode cX3_wantsStallOf 11 = .ok (.aload_n 0, 1) := by decide +kernel
theorem dX3_wantsStallOf_12 : decode cX3_wantsStallOf 12 = .ok (.iload_n 1, 1) := by decide +kernel
theorem dX3_wantsStallOf_13 : decode cX3_wantsStallOf 13 = .ok (.iload_n 3, 1) := by decide +kernel
theorem dX3_wantsStallOf_14 : decode cX3_wantsStallOf 14 = .ok (.aload_n 0, 1) := by decide +kernel
theorem dX3_wantsStallOf_15 : decode cX3_wantsStallOf 15 = .ok (.iload_n 1, 1) := by decide +kernel
theorem dX3_wantsStallOf_16 : decode cX3_wantsStallOf 16 = .ok (.invokevirtual 9, 3) := by decide +kernel
theorem dX3_wantsStallOf_19 : decode cX3_wantsStallOf 19 = .ok (.invokevirtual 15, 3) := by decide +kernel
theorem dX3_wantsStallOf_22 : decode cX3_wantsStallOf 22 = .ok (.ifCond .eq 7, 3) := by decide +kernel
theorem dX3_wantsStallOf_25 : decode cX3_wantsStallOf 25 = .ok (.iconst 1, 1) := by decide +kernel
theorem dX3_wantsStallOf_26 : decode cX3_wantsStallOf 26 = .ok (.goto 4, 3) := by decide +kernel
theorem dX3_wantsStallOf_29 : decode cX3_wantsStallOf 29 = .ok (.iconst 0, 1) := by decide +kernel
theorem dX3_wantsStallOf_30 : decode cX3_wantsStallOf 30 = .ok (.ireturn, 1) := by decide +kernel
theorem dX3_bothGain_0 : decode cX3_bothGain 0 = .ok (.aload_n 0, 1) := by decide +kernel
theorem dX3_bothGain_1 : decode cX3_bothGain 1 = .ok (.iload_n 1, 1) := by decide +kernel
theorem dX3_bothGain_2 : decode cX3_bothGain 2 = .ok (.invokevirtual 9, 3) := by decide +kernel
theorem dX3_bothGain_5 : decode cX3_bothGain 5 = .ok (.iconst (-1), 1) := by decide +kernel
theorem dX3_bothGain_6 : decode cX3_bothGain 6 = .ok (.if_icmp .eq 25, 3) := by decide +kernel
theorem dX3_bothGain_9 : decode cX3_bothGain 9 = .ok (.aload_n 0, 1) := by decide +kernel
theorem dX3_bothGain_10 : decode cX3_bothGain 10 = .ok (.iload_n 1, 1) := by decide +kernel
theorem dX3_bothGain_11 : decode cX3_bothGain 11 = .ok (.iload_n 2, 1) := by decide +kernel
theorem dX3_bothGain_12 : decode cX3_bothGain 12 = .ok (.invokestatic 19, 3) := by decide +kernel
theorem dX3_bothGain_15 : decode cX3_bothGain 15 = .ok (.ifCond .eq 16, 3) := by decide +kernel
theorem dX3_bothGain_18 : decode cX3_bothGain 18 = .ok (.aload_n 0, 1) := by decide +kernel
theorem dX3_bothGain_19 : decode cX3_bothGain 19 = .ok (.iload_n 2, 1) := by decide +kernel
theorem dX3_bothGain_20 : decode cX3_bothGain 20 = .ok (.iload_n 1, 1) := by decide +kernel
theorem dX3_bothGain_21 : decode cX3_bothGain 21 = .ok (.invokestatic 19, 3) := by decide +kernel
theorem dX3_bothGain_24 : decode cX3_bothGain 24 = .ok (.ifCond .eq 7, 3) := by decide +kernel
theorem dX3_bothGain_27 : decode cX3_bothGain 27 = .ok (.iconst 1, 1) := by decide +kernel
theorem dX3_bothGain_28 : decode cX3_bothGain 28 = .ok (.goto 4, 3) := by decide +kernel
theorem dX3_bothGain_31 : decode cX3_bothGain 31 = .ok (.iconst 0, 1) := by decide +kernel
theorem dX3_bothGain_32 : decode cX3_bothGain 32 = .ok (.ireturn, 1) := by decide +kernel
theorem dX3_shortestCycle_0 : decode cX3_shortestCycle 0 = .ok (.aload_n 0, 1) := by decide +kernel
theorem dX3_shortestCycle_1 : decode cX3_shortestCycle 1 = .ok (.iload_n 1, 1) := by decide +kernel
theorem dX3_shortestCycle_2 : decode cX3_shortestCycle 2 = .ok (.invokevirtual 9, 3) := by decide +kernel
theorem dX3_shortestCycle_5 : decode cX3_shortestCycle 5 = .ok (.iconst (-1), 1) := by decide +kernel
theorem dX3_shortestCycle_6 : decode cX3_shortestCycle 6 = .ok (.if_icmp .ne 5, 3) := by decide +kernel
theorem dX3_shortestCycle_9 : decode cX3_shortestCycle 9 = .ok (.iconst (-1), 1) := by decide +kernel
theorem dX3_shortestCycle_10 : decode cX3_shortestCycle 10 = .ok (.ireturn, 1) := by decide +kernel
theorem dX3_shortestCycle_11 : decode cX3_shortestCycle 11 = .ok (.iconst 1, 1) := by decide +kernel
theorem dX3_shortestCycle_12 : decode cX3_shortestCycle 12 = .ok (.iload_n 1, 1) := by decide +kernel
theorem dX3_shortestCycle_13 : decode cX3_shortestCycle 13 = .ok (.ishl, 1) := by decide +kernel
theorem dX3_shortestCycle_14 : decode cX3_shortestCycle 14 = .ok (.istore_n 2, 1) := by decide +kernel
theorem dX3_shortestCycle_15 : decode cX3_shortestCycle 15 = .ok (.iconst 1, 1) := by decide +kernel
theorem dX3_shortestCycle_16 : decode cX3_shortestCycle 16 = .ok (.istore_n 3, 1) := by decide +kernel
theorem dX3_shortestCycle_17 : decode cX3_shortestCycle 17 = .ok (.iload_n 3, 1) := by decide +kernel
theorem dX3_shortestCycle_18 : decode cX3_shortestCycle 18 = .ok (.aload_n 0, 1) := by decide +kernel
theorem dX3_shortestCycle_19 : decode cX3_shortestCycle 19 = .ok (.getfield 25, 3) := by decide +kernel
theorem dX3_shortestCycle_22 : decode cX3_shortestCycle 22 = .ok (.if_icmp .gt 25, 3) := by decide +kernel
theorem dX3_shortestCycle_25 : decode cX3_shortestCycle 25 = .ok (.aload_n 0, 1) := by decide +kernel
theorem dX3_shortestCycle_26 : decode cX3_shortestCycle 26 = .ok (.iload_n 2, 1) := by decide +kernel
theorem dX3_shortestCycle_27 : decode cX3_shortestCycle 27 = .ok (.invokestatic 32, 3) := by decide +kernel
theorem dX3_shortestCycle_30 : decode cX3_shortestCycle 30 = .ok (.istore_n 2, 1) := by decide +kernel
theorem dX3_shortestCycle_31 : decode cX3_shortestCycle 31 = .ok (.iload_n 2, 1) := by decide +kernel
theorem dX3_shortestCycle_32 : decode cX3_shortestCycle 32 = .ok (.iconst 1, 1) := by decide +kernel
theorem dX3_shortestCycle_33 : decode cX3_shortestCycle 33 = .ok (.iload_n 1, 1) := by decide +kernel
theorem dX3_shortestCycle_34 : decode cX3_shortestCycle 34 = .ok (.ishl, 1) := by decide +kernel
theorem dX3_shortestCycle_35 : decode cX3_shortestCycle 35 = .ok (.iand, 1) := by decide +kernel
theorem dX3_shortestCycle_36 : decode cX3_shortestCycle 36 = .ok (.ifCond .eq 5, 3) := by decide +kernel
theorem dX3_shortestCycle_39 : decode cX3_shortestCycle 39 = .ok (.iload_n 3, 1) := by decide +kernel
theorem dX3_shortestCycle_40 : decode cX3_shortestCycle 40 = .ok (.ireturn, 1) := by decide +kernel
theorem dX3_shortestCycle_41 : decode cX3_shortestCycle 41 = .ok (.iinc 3 1, 3) := by decide +kernel
theorem dX3_shortestCycle_44 : decode cX3_shortestCycle 44 = .ok (.goto (-27), 3) := by decide +kernel
theorem dX3_shortestCycle_47 : decode cX3_shortestCycle 47 = .ok (.iconst (-1), 1) := by decide +kernel
theorem dX3_shortestCycle_48 : decode cX3_shortestCycle 48 = .ok (.ireturn, 1) := by decide +kernel
theorem dX3_wantedByAny_0 : decode cX3_wantedByAny 0 = .ok (.iconst 0, 1) := by decide +kernel
theorem dX3_wantedByAny_1 : decode cX3_wantedByAny 1 = .ok (.istore_n 2, 1) := by decide +kernel
theorem dX3_wantedByAny_2 : decode cX3_wantedByAny 2 = .ok (.iconst 0, 1) := by decide +kernel
theorem dX3_wantedByAny_3 : decode cX3_wantedByAny 3 = .ok (.istore_n 3, 1) := by decide +kernel
theorem dX3_wantedByAny_4 : decode cX3_wantedByAny 4 = .ok (.iload_n 3, 1) := by decide +kernel
theorem dX3_wantedByAny_5 : decode cX3_wantedByAny 5 = .ok (.aload_n 0, 1) := by decide +kernel
theorem dX3_wantedByAny_6 : decode cX3_wantedByAny 6 = .ok (.getfield 25, 3) := by decide +kernel
theorem dX3_wantedByAny_9 : decode cX3_wantedByAny 9 = .ok (.if_icmp .ge 52, 3) := by decide +kernel
theorem dX3_wantedByAny_12 : decode cX3_wantedByAny 12 = .ok (.iconst 0, 1) := by decide +kernel
theorem dX3_wantedByAny_13 : decode cX3_wantedByAny 13 = .ok (.istore 4, 2) := by decide +kernel
theorem dX3_wantedByAny_15 : decode cX3_wantedByAny 15 = .ok (.iload 4, 2) := by decide +kernel
theorem dX3_wantedByAny_17 : decode cX3_wantedByAny 17 = .ok (.aload_n 0, 1) := by decide +kernel
theorem dX3_wantedByAny_18 : decode cX3_wantedByAny 18 = .ok (.getfield 25, 3) := by decide +kernel
theorem dX3_wantedByAny_21 : decode cX3_wantedByAny 21 = .ok (.if_icmp .ge 34, 3) := by decide +kernel
theorem dX3_wantedByAny_24 : decode cX3_wantedByAny 24 = .ok (.iload_n 1, 1) := by decide +kernel
theorem dX3_wantedByAny_25 : decode cX3_wantedByAny 25 = .ok (.iconst 1, 1) := by decide +kernel
theorem dX3_wantedByAny_26 : decode cX3_wantedByAny 26 = .ok (.iload_n 3, 1) := by decide +kernel
theorem dX3_wantedByAny_27 : decode cX3_wantedByAny 27 = .ok (.ishl, 1) := by decide +kernel
theorem dX3_wantedByAny_28 : decode cX3_wantedByAny 28 = .ok (.iand, 1) := by decide +kernel
theorem dX3_wantedByAny_29 : decode cX3_wantedByAny 29 = .ok (.ifCond .eq 20, 3) := by decide +kernel
theorem dX3_wantedByAny_32 : decode cX3_wantedByAny 32 = .ok (.aload_n 0, 1) := by decide +kernel
theorem dX3_wantedByAny_33 : decode cX3_wantedByAny 33 = .ok (.iload_n 3, 1) := by decide +kernel
theorem dX3_wantedByAny_34 : decode cX3_wantedByAny 34 = .ok (.iload 4, 2) := by decide +kernel
theorem dX3_wantedByAny_36 : decode cX3_wantedByAny 36 = .ok (.invokestatic 19, 3) := by decide +kernel
theorem dX3_wantedByAny_39 : decode cX3_wantedByAny 39 = .ok (.ifCond .eq 10, 3) := by decide +kernel
theorem dX3_wantedByAny_42 : decode cX3_wantedByAny 42 = .ok (.iload_n 2, 1) := by decide +kernel
theorem dX3_wantedByAny_43 : decode cX3_wantedByAny 43 = .ok (.iconst 1, 1) := by decide +kernel
theorem dX3_wantedByAny_44 : decode cX3_wantedByAny 44 = .ok (.iload 4, 2) := by decide +kernel
theorem dX3_wantedByAny_46 : decode cX3_wantedByAny 46 = .ok (.ishl, 1) := by decide +kernel
theorem dX3_wantedByAny_47 : decode cX3_wantedByAny 47 = .ok (.ior, 1) := by decide +kernel
theorem dX3_wantedByAny_48 : decode cX3_wantedByAny 48 = .ok (.istore_n 2, 1) := by decide +kernel
theorem dX3_wantedByAny_49 : decode cX3_wantedByAny 49 = .ok (.iinc 4 1, 3) := by decide +kernel
theorem dX3_wantedByAny_52 : decode cX3_wantedByAny 52 = .ok (.goto (-37), 3) := by decide +kernel
theorem dX3_wantedByAny_55 : decode cX3_wantedByAny 55 = .ok (.iinc 3 1, 3) := by decide +kernel
theorem dX3_wantedByAny_58 : decode cX3_wantedByAny 58 = .ok (.goto (-54), 3) := by decide +kernel
theorem dX3_wantedByAny_61 : decode cX3_wantedByAny 61 = .ok (.iload_n 2, 1) := by decide +kernel
theorem dX3_wantedByAny_62 : decode cX3_wantedByAny 62 = .ok (.ireturn, 1) := by decide +kernel
theorem dX3_bestFreeStall_0 : decode cX3_bestFreeStall 0 = .ok (.aload_n 0, 1) := by decide +kernel
theorem dX3_bestFreeStall_1 : decode cX3_bestFreeStall 1 = .ok (.iload_n 1, 1) := by decide +kernel
theorem dX3_bestFreeStall_2 : decode cX3_bestFreeStall 2 = .ok (.invokevirtual 9, 3) := by decide +kernel
theorem dX3_bestFreeStall_5 : decode cX3_bestFreeStall 5 = .ok (.istore_n 2, 1) := by decide +kernel
theorem dX3_bestFreeStall_6 : decode cX3_bestFreeStall 6 = .ok (.iconst 0, 1) := by decide +kernel
theorem dX3_bestFreeStall_7 : decode cX3_bestFreeStall 7 = .ok (.istore_n 3, 1) := by decide +kernel
theorem dX3_bestFreeStall_8 : decode cX3_bestFreeStall 8 = .ok (.iload_n 3, 1) := by decide +kernel
theorem dX3_bestFreeStall_9 : decode cX3_bestFreeStall 9 = .ok (.aload_n 0, 1) := by decide +kernel
theorem dX3_bestFreeStall_10 : decode cX3_bestFreeStall 10 = .ok (.iload_n 1, 1) := by decide +kernel
theorem dX3_bestFreeStall_11 : decode cX3_bestFreeStall 11 = .ok (.invokevirtual 36, 3) := by decide +kernel
theorem dX3_bestFreeStall_14 : decode cX3_bestFreeStall 14 = .ok (.if_icmp .ge 38, 3) := by decide +kernel
theorem dX3_bestFreeStall_17 : decode cX3_bestFreeStall 17 = .ok (.aload_n 0, 1) := by decide +kernel
theorem dX3_bestFreeStall_18 : decode cX3_bestFreeStall 18 = .ok (.iload_n 1, 1) := by decide +kernel
theorem dX3_bestFreeStall_19 : decode cX3_bestFreeStall 19 = .ok (.iload_n 3, 1) := by decide +kernel
theorem dX3_bestFreeStall_20 : decode cX3_bestFreeStall 20 = .ok (.invokevirtual 39, 3) := by decide +kernel
theorem dX3_bestFreeStall_23 : decode cX3_bestFreeStall 23 = .ok (.istore 4, 2) := by decide +kernel
theorem dX3_bestFreeStall_25 : decode cX3_bestFreeStall 25 = .ok (.iload 4, 2) := by decide +kernel
theorem dX3_bestFreeStall_27 : decode cX3_bestFreeStall 27 = .ok (.iload_n 2, 1) := by decide +kernel
theorem dX3_bestFreeStall_28 : decode cX3_bestFreeStall 28 = .ok (.if_icmp .ne 5, 3) := by decide +kernel
theorem dX3_bestFreeStall_31 : decode cX3_bestFreeStall 31 = .ok (.iconst (-1), 1) := by decide +kernel
theorem dX3_bestFreeStall_32 : decode cX3_bestFreeStall 32 = .ok (.ireturn, 1) := by decide +kernel
theorem dX3_bestFreeStall_33 : decode cX3_bestFreeStall 33 = .ok (.aload_n 0, 1) := by decide +kernel
theorem dX3_bestFreeStall_34 : decode cX3_bestFreeStall 34 = .ok (.iload 4, 2) := by decide +kernel
theorem dX3_bestFreeStall_36 : decode cX3_bestFreeStall 36 = .ok (.invokevirtual 43, 3) := by decide +kernel
theorem dX3_bestFreeStall_39 : decode cX3_bestFreeStall 39 = .ok (.iconst (-1), 1) := by decide +kernel
theorem dX3_bestFreeStall_40 : decode cX3_bestFreeStall 40 = .ok (.if_icmp .ne 6, 3) := by decide +kernel
theorem dX3_bestFreeStall_43 : decode cX3_bestFreeStall 43 = .ok (.iload 4, 2) := by decide +kernel
theorem dX3_bestFreeStall_45 : decode cX3_bestFreeStall 45 = .ok (.ireturn, 1) := by decide +kernel
theorem dX3_bestFreeStall_46 : decode cX3_bestFreeStall 46 = .ok (.iinc 3 1, 3) := by decide +kernel
theorem dX3_bestFreeStall_49 : decode cX3_bestFreeStall 49 = .ok (.goto (-41), 3) := by decide +kernel
theorem dX3_bestFreeStall_52 : decode cX3_bestFreeStall 52 = .ok (.iconst (-1), 1) := by decide +kernel
theorem dX3_bestFreeStall_53 : decode cX3_bestFreeStall 53 = .ok (.ireturn, 1) := by decide +kernel
theorem dX3_canImprove_0 : decode cX3_canImprove 0 = .ok (.iconst 0, 1) := by decide +kernel
theorem dX3_canImprove_1 : decode cX3_canImprove 1 = .ok (.istore_n 1, 1) := by decide +kernel
theorem dX3_canImprove_2 : decode cX3_canImprove 2 = .ok (.iload_n 1, 1) := by decide +kernel
theorem dX3_canImprove_3 : decode cX3_canImprove 3 = .ok (.aload_n 0, 1) := by decide +kernel
theorem dX3_canImprove_4 : decode cX3_canImprove 4 = .ok (.getfield 25, 3) := by decide +kernel
theorem dX3_canImprove_7 : decode cX3_canImprove 7 = .ok (.if_icmp .ge 45, 3) := by decide +kernel
theorem dX3_canImprove_10 : decode cX3_canImprove 10 = .ok (.aload_n 0, 1) := by decide +kernel
theorem dX3_canImprove_11 : decode cX3_canImprove 11 = .ok (.iload_n 1, 1) := by decide +kernel
theorem dX3_canImprove_12 : decode cX3_canImprove 12 = .ok (.iconst (-1), 1) := by decide +kernel
theorem dX3_canImprove_13 : decode cX3_canImprove 13 = .ok (.aload_n 0, 1) := by decide +kernel
theorem dX3_canImprove_14 : decode cX3_canImprove 14 = .ok (.iload_n 1, 1) := by decide +kernel
theorem dX3_canImprove_15 : decode cX3_canImprove 15 = .ok (.invokevirtual 9, 3) := by decide +kernel
theorem dX3_canImprove_18 : decode cX3_canImprove 18 = .ok (.invokevirtual 15, 3) := by decide +kernel
theorem dX3_canImprove_21 : decode cX3_canImprove 21 = .ok (.istore_n 2, 1) := by decide +kernel
theorem dX3_canImprove_22 : decode cX3_canImprove 22 = .ok (.iload_n 2, 1) := by decide +kernel
theorem dX3_canImprove_23 : decode cX3_canImprove 23 = .ok (.ifCond .ne 21, 3) := by decide +kernel
theorem dX3_canImprove_26 : decode cX3_canImprove 26 = .ok (.aload_n 0, 1) := by decide +kernel
theorem dX3_canImprove_27 : decode cX3_canImprove 27 = .ok (.iload_n 1, 1) := by decide +kernel
theorem dX3_canImprove_28 : decode cX3_canImprove 28 = .ok (.invokestatic 46, 3) := by decide +kernel
theorem dX3_canImprove_31 : decode cX3_canImprove 31 = .ok (.iconst (-1), 1) := by decide +kernel
theorem dX3_canImprove_32 : decode cX3_canImprove 32 = .ok (.if_icmp .ne 12, 3) := by decide +kernel
theorem dX3_canImprove_35 : decode cX3_canImprove 35 = .ok (.aload_n 0, 1) := by decide +kernel
theorem dX3_canImprove_36 : decode cX3_canImprove 36 = .ok (.iload_n 1, 1) := by decide +kernel
theorem dX3_canImprove_37 : decode cX3_canImprove 37 = .ok (.invokestatic 49, 3) := by decide +kernel
theorem dX3_canImprove_40 : decode cX3_canImprove 40 = .ok (.iconst (-1), 1) := by decide +kernel
theorem dX3_canImprove_41 : decode cX3_canImprove 41 = .ok (.if_icmp .eq 5, 3) := by decide +kernel
theorem dX3_canImprove_44 : decode cX3_canImprove 44 = .ok (.iconst 1, 1) := by decide +kernel
theorem dX3_canImprove_45 : decode cX3_canImprove 45 = .ok (.ireturn, 1) := by decide +kernel
theorem dX3_canImprove_46 : decode cX3_canImprove 46 = .ok (.iinc 1 1, 3) := by decide +kernel
theorem dX3_canImprove_49 : decode cX3_canImprove 49 = .ok (.goto (-47), 3) := by decide +kernel
theorem dX3_canImprove_52 : decode cX3_canImprove 52 = .ok (.iconst 0, 1) := by decide +kernel
theorem dX3_canImprove_53 : decode cX3_canImprove 53 = .ok (.ireturn, 1) := by decide +kernel
theorem dX4_init_0 : decode cX4_init 0 = .ok (.aload_n 0, 1) := by decide +kernel
theorem dX4_init_1 : decode cX4_init 1 = .ok (.invokespecial 3, 3) := by decide +kernel
theorem dX4_init_4 : decode cX4_init 4 = .ok (.aload_n 0, 1) := by decide +kernel
theorem dX4_init_5 : decode cX4_init 5 = .ok (.bipush 8, 2) := by decide +kernel
theorem dX4_init_7 : decode cX4_init 7 = .ok (.anewarray 9, 3) := by decide +kernel
theorem dX4_init_10 : decode cX4_init 10 = .ok (.putfield 11, 3) := by decide +kernel
theorem dX4_init_13 : decode cX4_init 13 = .ok (.aload_n 0, 1) := by decide +kernel
theorem dX4_init_14 : decode cX4_init 14 = .ok (.iconst 0, 1) := by decide +kernel
theorem dX4_init_15 : decode cX4_init 15 = .ok (.putfield 17, 3) := by decide +kernel
theorem dX4_init_18 : decode cX4_init 18 = .ok (.aload_n 0, 1) := by decide +kernel
theorem dX4_init_19 : decode cX4_init 19 = .ok (.iconst 0, 1) := by decide +kernel
theorem dX4_init_20 : decode cX4_init 20 = .ok (.putfield 21, 3) := by decide +kernel
theorem dX4_init_23 : decode cX4_init 23 = .ok (.iconst 0, 1) := by decide +kernel
theorem dX4_init_24 : decode cX4_init 24 = .ok (.istore_n 1, 1) := by decide +kernel
theorem dX4_init_25 : decode cX4_init 25 = .ok (.iload_n 1, 1) := by decide +kernel
theorem dX4_init_26 : decode cX4_init 26 = .ok (.bipush 8, 2) := by decide +kernel
theorem dX4_init_28 : decode cX4_init 28 = .ok (.if_icmp .ge 22, 3) := by decide +kernel
theorem dX4_init_31 : decode cX4_init 31 = .ok (.aload_n 0, 1) := by decide +kernel
theorem dX4_init_32 : decode cX4_init 32 = .ok (.getfield 11, 3) := by decide +kernel
theorem dX4_init_35 : decode cX4_init 35 = .ok (.iload_n 1, 1) := by decide +kernel
theorem dX4_init_36 : decode cX4_init 36 = .ok (.new 9, 3) := by decide +kernel
theorem dX4_init_39 : decode cX4_init 39 = .ok (.dup, 1) := by decide +kernel
theorem dX4_init_40 : decode cX4_init 40 = .ok (.invokespecial 24, 3) := by decide +kernel
theorem dX4_init_43 : decode cX4_init 43 = .ok (.aastore, 1) := by decide +kernel
theorem dX4_init_44 : decode cX4_init 44 = .ok (.iinc 1 1, 3) := by decide +kernel
theorem dX4_init_47 : decode cX4_init 47 = .ok (.goto (-22), 3) := by decide +kernel
theorem dX4_init_50 : decode cX4_init 50 = .ok (.return_, 1) := by decide +kernel
theorem dX4_clear_0 : decode cX4_clear 0 = .ok (.aload_n 0, 1) := by decide +kernel
theorem dX4_clear_1 : decode cX4_clear 1 = .ok (.iconst 0, 1) := by decide +kernel
theorem dX4_clear_2 : decode cX4_clear 2 = .ok (.putfield 17, 3) := by decide +kernel
theorem dX4_clear_5 : decode cX4_clear 5 = .ok (.aload_n 0, 1) := by decide +kernel
theorem dX4_clear_6 : decode cX4_clear 6 = .ok (.iconst 0, 1) := by decide +kernel
theorem dX4_clear_7 : decode cX4_clear 7 = .ok (.putfield 21, 3) := by decide +kernel
theorem dX4_clear_10 : decode cX4_clear 10 = .ok (.return_, 1) := by decide +kernel
theorem dX4_record_0 : decode cX4_record 0 = .ok (.aload_n 1, 1) := by decide +kernel
theorem dX4_record_1 : decode cX4_record 1 = .ok (.aload_n 0, 1) := by decide +kernel
theorem dX4_record_2 : decode cX4_record 2 = .ok (.getfield 11, 3) := by decide +kernel
theorem dX4_record_5 : decode cX4_record 5 = .ok (.aload_n 0, 1) := by decide +kernel
theorem dX4_record_6 : decode cX4_record 6 = .ok (.aload_n 0, 1) := by decide +kernel
theorem dX4_record_7 : decode cX4_record 7 = .ok (.getfield 21, 3) := by decide +kernel
theorem dX4_record_10 : decode cX4_record 10 = .ok (.invokevirtual 25, 3) := by decide +kernel
theorem dX4_record_13 : decode cX4_record 13 = .ok (.aaload, 1) := by decide +kernel
theorem dX4_record_14 : decode cX4_record 14 = .ok (.invokestatic 29, 3) := by decide +kernel
theorem dX4_record_17 : decode cX4_record 17 = .ok (.aload_n 0, 1) := by decide +kernel
theorem dX4_record_18 : decode cX4_record 18 = .ok (.getfield 21, 3) := by decide +kernel
theorem dX4_record_21 : decode cX4_record 21 = .ok (.bipush 8, 2) := by decide +kernel
theorem dX4_record_23 : decode cX4_record 23 = .ok (.if_icmp .ge 16, 3) := by decide +kernel
theorem dX4_record_26 : decode cX4_record 26 = .ok (.aload_n 0, 1) := by decide +kernel
theorem dX4_record_27 : decode cX4_record 27 = .ok (.dup, 1) := by decide +kernel
theorem dX4_record_28 : decode cX4_record 28 = .ok (.getfield 21, 3) := by decide +kernel
theorem dX4_record_31 : decode cX4_record 31 = .ok (.iconst 1, 1) := by decide +kernel
theorem dX4_record_32 : decode cX4_record 32 = .ok (.iadd, 1) := by decide +kernel
theorem dX4_record_33 : decode cX4_record 33 = .ok (.putfield 21, 3) := by decide +kernel
theorem dX4_record_36 : decode cX4_record 36 = .ok (.goto 12, 3) := by decide +kernel
theorem dX4_record_39 : decode cX4_record 39 = .ok (.aload_n 0, 1) := by decide +kernel
theorem dX4_record_40 : decode cX4_record 40 = .ok (.aload_n 0, 1) := by decide +kernel
theorem dX4_record_41 : decode cX4_record 41 = .ok (.iconst 1, 1) := by decide +kernel
theorem dX4_record_42 : decode cX4_record 42 = .ok (.invokevirtual 25, 3) := by decide +kernel
theorem dX4_record_45 : decode cX4_record 45 = .ok (.putfield 17, 3) := by decide +kernel
theorem dX4_record_48 : decode cX4_record 48 = .ok (.return_, 1) := by decide +kernel
theorem dX4_takeBack_0 : decode cX4_takeBack 0 = .ok (.aload_n 0, 1) := by decide +kernel
theorem dX4_takeBack_1 : decode cX4_takeBack 1 = .ok (.getfield 21, 3) := by decide +kernel
theorem dX4_takeBack_4 : decode cX4_takeBack 4 = .ok (.ifCond .ne 5, 3) := by decide +kernel
theorem dX4_takeBack_7 : decode cX4_takeBack 7 = .ok (.iconst (-1), 1) := by decide +kernel
theorem dX4_takeBack_8 : decode cX4_takeBack 8 = .ok (.ireturn, 1) := by decide +kernel
theorem dX4_takeBack_9 : decode cX4_takeBack 9 = .ok (.aload_n 0, 1) := by decide +kernel
theorem dX4_takeBack_10 : decode cX4_takeBack 10 = .ok (.dup, 1) := by decide +kernel
theorem dX4_takeBack_11 : decode cX4_takeBack 11 = .ok (.getfield 21, 3) := by decide +kernel
theorem dX4_takeBack_14 : decode cX4_takeBack 14 = .ok (.iconst 1, 1) := by decide +kernel
theorem dX4_takeBack_15 : decode cX4_takeBack 15 = .ok (.isub, 1) := by decide +kernel
theorem dX4_takeBack_16 : decode cX4_takeBack 16 = .ok (.putfield 21, 3) := by decide +kernel
theorem dX4_takeBack_19 : decode cX4_takeBack 19 = .ok (.aload_n 0, 1) := by decide +kernel
theorem dX4_takeBack_20 : decode cX4_takeBack 20 = .ok (.getfield 11, 3) := by decide +kernel
theorem dX4_takeBack_23 : decode cX4_takeBack 23 = .ok (.aload_n 0, 1) := by decide +kernel
theorem dX4_takeBack_24 : decode cX4_takeBack 24 = .ok (.aload_n 0, 1) := by decide +kernel
theorem dX4_takeBack_25 : decode cX4_takeBack 25 = .ok (.getfield 21, 3) := by decide +kernel
theorem dX4_takeBack_28 : decode cX4_takeBack 28 = .ok (.invokevirtual 25, 3) := by decide +kernel
theorem dX4_takeBack_31 : decode cX4_takeBack 31 = .ok (.aaload, 1) := by decide +kernel
theorem dX4_takeBack_32 : decode cX4_takeBack 32 = .ok (.aload_n 1, 1) := by decide +kernel
theorem dX4_takeBack_33 : decode cX4_takeBack 33 = .ok (.invokestatic 29, 3) := by decide +kernel
theorem dX4_takeBack_36 : decode cX4_takeBack 36 = .ok (.aload_n 0, 1) := by decide +kernel
theorem dX4_takeBack_37 : decode cX4_takeBack 37 = .ok (.getfield 21, 3) := by decide +kernel
theorem dX4_takeBack_40 : decode cX4_takeBack 40 = .ok (.ireturn, 1) := by decide +kernel
theorem dX4_slotAfter_0 : decode cX4_slotAfter 0 = .ok (.aload_n 0, 1) := by decide +kernel
theorem dX4_slotAfter_1 : decode cX4_slotAfter 1 = .ok (.getfield 17, 3) := by decide +kernel
theorem dX4_slotAfter_4 : decode cX4_slotAfter 4 = .ok (.iload_n 1, 1) := by decide +kernel
theorem dX4_slotAfter_5 : decode cX4_slotAfter 5 = .ok (.iadd, 1) := by decide +kernel
theorem dX4_slotAfter_6 : decode cX4_slotAfter 6 = .ok (.bipush 8, 2) := by decide +kernel
theorem dX4_slotAfter_8 : decode cX4_slotAfter 8 = .ok (.irem, 1) := by decide +kernel
theorem dX4_slotAfter_9 : decode cX4_slotAfter 9 = .ok (.ireturn, 1) := by decide +kernel
theorem dX5_init_0 : decode cX5_init 0 = .ok (.aload_n 0, 1) := by decide +kernel
theorem dX5_init_1 : decode cX5_init 1 = .ok (.invokespecial 3, 3) := by decide +kernel
theorem dX5_init_4 : decode cX5_init 4 = .ok (.aload_n 0, 1) := by decide +kernel
theorem dX5_init_5 : decode cX5_init 5 = .ok (.iconst 0, 1) := by decide +kernel
theorem dX5_init_6 : decode cX5_init 6 = .ok (.putfield 9, 3) := by decide +kernel
theorem dX5_init_9 : decode cX5_init 9 = .ok (.aload_n 0, 1) := by decide +kernel
theorem dX5_init_10 : decode cX5_init 10 = .ok (.iconst 0, 1) := by decide +kernel
theorem dX5_init_11 : decode cX5_init 11 = .ok (.putfield 15, 3) := by decide +kernel
theorem dX5_init_14 : decode cX5_init 14 = .ok (.aload_n 0, 1) := by decide +kernel
theorem dX5_init_15 : decode cX5_init 15 = .ok (.iconst 0, 1) := by decide +kernel
theorem dX5_init_16 : decode cX5_init 16 = .ok (.putfield 18, 3) := by decide +kernel
theorem dX5_init_19 : decode cX5_init 19 = .ok (.aload_n 0, 1) := by decide +kernel
theorem dX5_init_20 : decode cX5_init 20 = .ok (.iconst 0, 1) := by decide +kernel
theorem dX5_init_21 : decode cX5_init 21 = .ok (.putfield 21, 3) := by decide +kernel
theorem dX5_init_24 : decode cX5_init 24 = .ok (.aload_n 0, 1) := by decide +kernel
theorem dX5_init_25 : decode cX5_init 25 = .ok (.iconst 0, 1) := by decide +kernel
theorem dX5_init_26 : decode cX5_init 26 = .ok (.putfield 24, 3) := by decide +kernel
theorem dX5_init_29 : decode cX5_init 29 = .ok (.aload_n 0, 1) := by decide +kernel
theorem dX5_init_30 : decode cX5_init 30 = .ok (.iconst 0, 1) := by decide +kernel
theorem dX5_init_31 : decode cX5_init 31 = .ok (.putfield 27, 3) := by decide +kernel
theorem dX5_init_34 : decode cX5_init 34 = .ok (.aload_n 0, 1) := by decide +kernel
theorem dX5_init_35 : decode cX5_init 35 = .ok (.iconst 0, 1) := by decide +kernel
theorem dX5_init_36 : decode cX5_init 36 = .ok (.putfield 30, 3) := by decide +kernel
theorem dX5_init_39 : decode cX5_init 39 = .ok (.aload_n 0, 1) := by decide +kernel
theorem dX5_init_40 : decode cX5_init 40 = .ok (.iconst 0, 1) := by decide +kernel
theorem dX5_init_41 : decode cX5_init 41 = .ok (.putfield 33, 3) := by decide +kernel
theorem dX5_init_44 : decode cX5_init 44 = .ok (.aload_n 0, 1) := by decide +kernel
theorem dX5_init_45 : decode cX5_init 45 = .ok (.iconst 0, 1) := by decide +kernel
theorem dX5_init_46 : decode cX5_init 46 = .ok (.putfield 36, 3) := by decide +kernel
theorem dX5_init_49 : decode cX5_init 49 = .ok (.aload_n 0, 1) := by decide +kernel
theorem dX5_init_50 : decode cX5_init 50 = .ok (.bipush 8, 2) := by decide +kernel
theorem dX5_init_52 : decode cX5_init 52 = .ok (.newarray .long, 2) := by decide +kernel
theorem dX5_init_54 : decode cX5_init 54 = .ok (.putfield 39, 3) := by decide +kernel
theorem dX5_init_57 : decode cX5_init 57 = .ok (.aload_n 0, 1) := by decide +kernel
theorem dX5_init_58 : decode cX5_init 58 = .ok (.bipush 8, 2) := by decide +kernel
theorem dX5_init_60 : decode cX5_init 60 = .ok (.newarray .int, 2) := by decide +kernel
theorem dX5_init_62 : decode cX5_init 62 = .ok (.putfield 43, 3) := by decide +kernel
theorem dX5_init_65 : decode cX5_init 65 = .ok (.aload_n 0, 1) := by decide +kernel
theorem dX5_init_66 : decode cX5_init 66 = .ok (.bipush 8, 2) := by decide +kernel
theorem dX5_init_68 : decode cX5_init 68 = .ok (.newarray .int, 2) := by decide +kernel
theorem dX5_init_70 : decode cX5_init 70 = .ok (.putfield 47, 3) := by decide +kernel
theorem dX5_init_73 : decode cX5_init 73 = .ok (.aload_n 0, 1) := by decide +kernel
theorem dX5_init_74 : decode cX5_init 74 = .ok (.bipush 8, 2) := by decide +kernel
theorem dX5_init_76 : decode cX5_init 76 = .ok (.newarray .int, 2) := by decide +kernel
theorem dX5_init_78 : decode cX5_init 78 = .ok (.putfield 50, 3) := by decide +kernel
theorem dX5_init_81 : decode cX5_init 81 = .ok (.aload_n 0, 1) := by decide +kernel
theorem dX5_init_82 : decode cX5_init 82 = .ok (.bipush 8, 2) := by decide +kernel
theorem dX5_init_84 : decode cX5_init 84 = .ok (.newarray .int, 2) := by decide +kernel
theorem dX5_init_86 : decode cX5_init 86 = .ok (.putfield 53, 3) := by decide +kernel
theorem dX5_init_89 : decode cX5_init 89 = .ok (.aload_n 0, 1) := by decide +kernel
theorem dX5_init_90 : decode cX5_init 90 = .ok (.bipush 8, 2) := by decide +kernel
theorem dX5_init_92 : decode cX5_init 92 = .ok (.newarray .int, 2) := by decide +kernel
theorem dX5_init_94 : decode cX5_init 94 = .ok (.putfield 56, 3) := by decide +kernel
theorem dX5_init_97 : decode cX5_init 97 = .ok (.aload_n 0, 1) := by decide +kernel
theorem dX5_init_98 : decode cX5_init 98 = .ok (.bipush 64, 2) := by decide +kernel
theorem dX5_init_100 : decode cX5_init 100 = .ok (.newarray .int, 2) := by decide +kernel
theorem dX5_init_102 : decode cX5_init 102 = .ok (.putfield 59, 3) := by decide +kernel
theorem dX5_init_105 : decode cX5_init 105 = .ok (.aload_n 0, 1) := by decide +kernel
theorem dX5_init_106 : decode cX5_init 106 = .ok (.bipush 8, 2) := by decide +kernel
theorem dX5_init_108 : decode cX5_init 108 = .ok (.newarray .long, 2) := by decide +kernel
theorem dX5_init_110 : decode cX5_init 110 = .ok (.putfield 62, 3) := by decide +kernel
theorem dX5_init_113 : decode cX5_init 113 = .ok (.aload_n 0, 1) := by decide +kernel
theorem dX5_init_114 : decode cX5_init 114 = .ok (.bipush 8, 2) := by decide +kernel
theorem dX5_init_116 : decode cX5_init 116 = .ok (.newarray .int, 2) := by decide +kernel
theorem dX5_init_118 : decode cX5_init 118 = .ok (.putfield 65, 3) := by decide +kernel
theorem dX5_init_121 : decode cX5_init 121 = .ok (.return_, 1) := by decide +kernel
theorem dX5_copy_0 : decode cX5_copy 0 = .ok (.aload_n 0, 1) := by decide +kernel
theorem dX5_copy_1 : decode cX5_copy 1 = .ok (.ifnull 7, 3) := by decide +kernel
theorem dX5_copy_4 : decode cX5_copy 4 = .ok (.aload_n 1, 1) := by decide +kernel
theorem dX5_copy_5 : decode cX5_copy 5 = .ok (.ifnonnull 4, 3) := by decide +kernel
theorem dX5_copy_8 : decode cX5_copy 8 = .ok (.return_, 1) := by decide +kernel
theorem dX5_copy_9 : decode cX5_copy 9 = .ok (.aload_n 1, 1) := by decide +kernel
theorem dX5_copy_10 : decode cX5_copy 10 = .ok (.aload_n 0, 1) := by decide +kernel
theorem dX5_copy_11 : decode cX5_copy 11 = .ok (.getfield 9, 3) := by decide +kernel
theorem dX5_copy_14 : decode cX5_copy 14 = .ok (.putfield 9, 3) := by decide +kernel
theorem dX5_copy_17 : decode cX5_copy 17 = .ok (.aload_n 1, 1) := by decide +kernel
theorem dX5_copy_18 : decode cX5_copy 18 = .ok (.aload_n 0, 1) := by decide +kernel
theorem dX5_copy_19 : decode cX5_copy 19 = .ok (.getfield 15, 3) := by decide +kernel
theorem dX5_copy_22 : decode cX5_copy 22 = .ok (.putfield 15, 3) := by decide +kernel
theorem dX5_copy_25 : decode cX5_copy 25 = .ok (.aload_n 1, 1) := by decide +kernel
theorem dX5_copy_26 : decode cX5_copy 26 = .ok (.aload_n 0, 1) := by decide +kernel
theorem dX5_copy_27 : decode cX5_copy 27 = .ok (.getfield 18, 3) := by decide +kernel
theorem dX5_copy_30 : decode cX5_copy 30 = .ok (.putfield 18, 3) := by decide +kernel
theorem dX5_copy_33 : decode cX5_copy 33 = .ok (.aload_n 1, 1) := by decide +kernel
theorem dX5_copy_34 : decode cX5_copy 34 = .ok (.aload_n 0, 1) := by decide +kernel
theorem dX5_copy_35 : decode cX5_copy 35 = .ok (.getfield 21, 3) := by decide +kernel
theorem dX5_copy_38 : decode cX5_copy 38 = .ok (.putfield 21, 3) := by decide +kernel
theorem dX5_copy_41 : decode cX5_copy 41 = .ok (.aload_n 1, 1) := by decide +kernel
theorem dX5_copy_42 : decode cX5_copy 42 = .ok (.aload_n 0, 1) := by decide +kernel
theorem dX5_copy_43 : decode cX5_copy 43 = .ok (.getfield 24, 3) := by decide +kernel
theorem dX5_copy_46 : decode cX5_copy 46 = .ok (.putfield 24, 3) := by decide +kernel
theorem dX5_copy_49 : decode cX5_copy 49 = .ok (.aload_n 1, 1) := by decide +kernel
theorem dX5_copy_50 : decode cX5_copy 50 = .ok (.aload_n 0, 1) := by decide +kernel
theorem dX5_copy_51 : decode cX5_copy 51 = .ok (.getfield 27, 3) := by decide +kernel
theorem dX5_copy_54 : decode cX5_copy 54 = .ok (.putfield 27, 3) := by decide +kernel
theorem dX5_copy_57 : decode cX5_copy 57 = .ok (.aload_n 1, 1) := by decide +kernel
theorem dX5_copy_58 : decode cX5_copy 58 = .ok (.aload_n 0, 1) := by decide +kernel
theorem dX5_copy_59 : decode cX5_copy 59 = .ok (.getfield 30, 3) := by decide +kernel
theorem dX5_copy_62 : decode cX5_copy 62 = .ok (.putfield 30, 3) := by decide +kernel
theorem dX5_copy_65 : decode cX5_copy 65 = .ok (.aload_n 1, 1) := by decide +kernel
theorem dX5_copy_66 : decode cX5_copy 66 = .ok (.aload_n 0, 1) := by decide +kernel
theorem dX5_copy_67 : decode cX5_copy 67 = .ok (.getfield 33, 3) := by decide +kernel
theorem dX5_copy_70 : decode cX5_copy 70 = .ok (.putfield 33, 3) := by decide +kernel
theorem dX5_copy_73 : decode cX5_copy 73 = .ok (.aload_n 1, 1) := by decide +kernel
theorem dX5_copy_74 : decode cX5_copy 74 = .ok (.aload_n 0, 1) := by decide +kernel
theorem dX5_copy_75 : decode cX5_copy 75 = .ok (.getfield 36, 3) := by decide +kernel
theorem dX5_copy_78 : decode cX5_copy 78 = .ok (.putfield 36, 3) := by decide +kernel
theorem dX5_copy_81 : decode cX5_copy 81 = .ok (.iconst 0, 1) := by decide +kernel
theorem dX5_copy_82 : decode cX5_copy 82 = .ok (.istore_n 2, 1) := by decide +kernel
theorem dX5_copy_83 : decode cX5_copy 83 = .ok (.iload_n 2, 1) := by decide +kernel
theorem dX5_copy_84 : decode cX5_copy 84 = .ok (.bipush 8, 2) := by decide +kernel
theorem dX5_copy_86 : decode cX5_copy 86 = .ok (.if_icmp .ge 81, 3) := by decide +kernel
theorem dX5_copy_89 : decode cX5_copy 89 = .ok (.aload_n 1, 1) := by decide +kernel
theorem dX5_copy_90 : decode cX5_copy 90 = .ok (.getfield 39, 3) := by decide +kernel
theorem dX5_copy_93 : decode cX5_copy 93 = .ok (.iload_n 2, 1) := by decide +kernel
theorem dX5_copy_94 : decode cX5_copy 94 = .ok (.aload_n 0, 1) := by decide +kernel
theorem dX5_copy_95 : decode cX5_copy 95 = .ok (.getfield 39, 3) := by decide +kernel
theorem dX5_copy_98 : decode cX5_copy 98 = .ok (.iload_n 2, 1) := by decide +kernel
theorem dX5_copy_99 : decode cX5_copy 99 = .ok (.laload, 1) := by decide +kernel
theorem dX5_copy_100 : decode cX5_copy 100 = .ok (.lastore, 1) := by decide +kernel
theorem dX5_copy_101 : decode cX5_copy 101 = .ok (.aload_n 1, 1) := by decide +kernel
theorem dX5_copy_102 : decode cX5_copy 102 = .ok (.getfield 43, 3) := by decide +kernel
theorem dX5_copy_105 : decode cX5_copy 105 = .ok (.iload_n 2, 1) := by decide +kernel
theorem dX5_copy_106 : decode cX5_copy 106 = .ok (.aload_n 0, 1) := by decide +kernel
theorem dX5_copy_107 : decode cX5_copy 107 = .ok (.getfield 43, 3) := by decide +kernel
theorem dX5_copy_110 : decode cX5_copy 110 = .ok (.iload_n 2, 1) := by decide +kernel
theorem dX5_copy_111 : decode cX5_copy 111 = .ok (.iaload, 1) := by decide +kernel
theorem dX5_copy_112 : decode cX5_copy 112 = .ok (.iastore, 1) := by decide +kernel
theorem dX5_copy_113 : decode cX5_copy 113 = .ok (.aload_n 1, 1) := by decide +kernel
theorem dX5_copy_114 : decode cX5_copy 114 = .ok (.getfield 47, 3) := by decide +kernel
theorem dX5_copy_117 : decode cX5_copy 117 = .ok (.iload_n 2, 1) := by decide +kernel
theorem dX5_copy_118 : decode cX5_copy 118 = .ok (.aload_n 0, 1) := by decide +kernel
theorem dX5_copy_119 : decode cX5_copy 119 = .ok (.getfield 47, 3) := by decide +kernel
theorem dX5_copy_122 : decode cX5_copy 122 = .ok (.iload_n 2, 1) := by decide +kernel
theorem dX5_copy_123 : decode cX5_copy 123 = .ok (.iaload, 1) := by decide +kernel
theorem dX5_copy_124 : decode cX5_copy 124 = .ok (.iastore, 1) := by decide +kernel
theorem dX5_copy_125 : decode cX5_copy 125 = .ok (.aload_n 1, 1) := by decide +kernel
theorem dX5_copy_126 : decode cX5_copy 126 = .ok (.getfield 50, 3) := by decide +kernel
theorem dX5_copy_129 : decode cX5_copy 129 = .ok (.iload_n 2, 1) := by decide +kernel
theorem dX5_copy_130 : decode cX5_copy 130 = .ok (.aload_n 0, 1) := by decide +kernel
theorem dX5_copy_131 : decode cX5_copy 131 = .ok (.getfield 50, 3) := by decide +kernel
theorem dX5_copy_134 : decode cX5_copy 134 = .ok (.iload_n 2, 1) := by decide +kernel
theorem dX5_copy_135 : decode cX5_copy 135 = .ok (.iaload, 1) := by decide +kernel
theorem dX5_copy_136 : decode cX5_copy 136 = .ok (.iastore, 1) := by decide +kernel
theorem dX5_copy_137 : decode cX5_copy 137 = .ok (.aload_n 1, 1) := by decide +kernel
theorem dX5_copy_138 : decode cX5_copy 138 = .ok (.getfield 53, 3) := by decide +kernel
theorem dX5_copy_141 : decode cX5_copy 141 = .ok (.iload_n 2, 1) := by decide +kernel
theorem dX5_copy_142 : decode cX5_copy 142 = .ok (.aload_n 0, 1) := by decide +kernel
theorem dX5_copy_143 : decode cX5_copy 143 = .ok (.getfield 53, 3) := by decide +kernel
theorem dX5_copy_146 : decode cX5_copy 146 = .ok (.iload_n 2, 1) := by decide +kernel
theorem dX5_copy_147 : decode cX5_copy 147 = .ok (.iaload, 1) := by decide +kernel
theorem dX5_copy_148 : decode cX5_copy 148 = .ok (.iastore, 1) := by decide +kernel
theorem dX5_copy_149 : decode cX5_copy 149 = .ok (.aload_n 1, 1) := by decide +kernel
theorem dX5_copy_150 : decode cX5_copy 150 = .ok (.getfield 56, 3) := by decide +kernel
theorem dX5_copy_153 : decode cX5_copy 153 = .ok (.iload_n 2, 1) := by decide +kernel
theorem dX5_copy_154 : decode cX5_copy 154 = .ok (.aload_n 0, 1) := by decide +kernel
theorem dX5_copy_155 : decode cX5_copy 155 = .ok (.getfield 56, 3) := by decide +kernel
theorem dX5_copy_158 : decode cX5_copy 158 = .ok (.iload_n 2, 1) := by decide +kernel
theorem dX5_copy_159 : decode cX5_copy 159 = .ok (.iaload, 1) := by decide +kernel
theorem dX5_copy_160 : decode cX5_copy 160 = .ok (.iastore, 1) := by decide +kernel
theorem dX5_copy_161 : decode cX5_copy 161 = .ok (.iinc 2 1, 3) := by decide +kernel
theorem dX5_copy_164 : decode cX5_copy 164 = .ok (.goto (-81), 3) := by decide +kernel
theorem dX5_copy_167 : decode cX5_copy 167 = .ok (.iconst 0, 1) := by decide +kernel
theorem dX5_copy_168 : decode cX5_copy 168 = .ok (.istore_n 2, 1) := by decide +kernel
theorem dX5_copy_169 : decode cX5_copy 169 = .ok (.iload_n 2, 1) := by decide +kernel
theorem dX5_copy_170 : decode cX5_copy 170 = .ok (.bipush 64, 2) := by decide +kernel
theorem dX5_copy_172 : decode cX5_copy 172 = .ok (.if_icmp .ge 21, 3) := by decide +kernel
theorem dX5_copy_175 : decode cX5_copy 175 = .ok (.aload_n 1, 1) := by decide +kernel
theorem dX5_copy_176 : decode cX5_copy 176 = .ok (.getfield 59, 3) := by decide +kernel
theorem dX5_copy_179 : decode cX5_copy 179 = .ok (.iload_n 2, 1) := by decide +kernel
theorem dX5_copy_180 : decode cX5_copy 180 = .ok (.aload_n 0, 1) := by decide +kernel
theorem dX5_copy_181 : decode cX5_copy 181 = .ok (.getfield 59, 3) := by decide +kernel
theorem dX5_copy_184 : decode cX5_copy 184 = .ok (.iload_n 2, 1) := by decide +kernel
theorem dX5_copy_185 : decode cX5_copy 185 = .ok (.iaload, 1) := by decide +kernel
theorem dX5_copy_186 : decode cX5_copy 186 = .ok (.iastore, 1) := by decide +kernel
theorem dX5_copy_187 : decode cX5_copy 187 = .ok (.iinc 2 1, 3) := by decide +kernel
theorem dX5_copy_190 : decode cX5_copy 190 = .ok (.goto (-21), 3) := by decide +kernel
theorem dX5_copy_193 : decode cX5_copy 193 = .ok (.iconst 0, 1) := by decide +kernel
theorem dX5_copy_194 : decode cX5_copy 194 = .ok (.istore_n 2, 1) := by decide +kernel
theorem dX5_copy_195 : decode cX5_copy 195 = .ok (.iload_n 2, 1) := by decide +kernel
theorem dX5_copy_196 : decode cX5_copy 196 = .ok (.bipush 8, 2) := by decide +kernel
theorem dX5_copy_198 : decode cX5_copy 198 = .ok (.if_icmp .ge 33, 3) := by decide +kernel
theorem dX5_copy_201 : decode cX5_copy 201 = .ok (.aload_n 1, 1) := by decide +kernel
theorem dX5_copy_202 : decode cX5_copy 202 = .ok (.getfield 62, 3) := by decide +kernel
theorem dX5_copy_205 : decode cX5_copy 205 = .ok (.iload_n 2, 1) := by decide +kernel
theorem dX5_copy_206 : decode cX5_copy 206 = .ok (.aload_n 0, 1) := by decide +kernel
theorem dX5_copy_207 : decode cX5_copy 207 = .ok (.getfield 62, 3) := by decide +kernel
theorem dX5_copy_210 : decode cX5_copy 210 = .ok (.iload_n 2, 1) := by decide +kernel
theorem dX5_copy_211 : decode cX5_copy 211 = .ok (.laload, 1) := by decide +kernel
theorem dX5_copy_212 : decode cX5_copy 212 = .ok (.lastore, 1) := by decide +kernel
theorem dX5_copy_213 : decode cX5_copy 213 = .ok (.aload_n 1, 1) := by decide +kernel
theorem dX5_copy_214 : decode cX5_copy 214 = .ok (.getfield 65, 3) := by decide +kernel
theorem dX5_copy_217 : decode cX5_copy 217 = .ok (.iload_n 2, 1) := by decide +kernel
theorem dX5_copy_218 : decode cX5_copy 218 = .ok (.aload_n 0, 1) := by decide +kernel
theorem dX5_copy_219 : decode cX5_copy 219 = .ok (.getfield 65, 3) := by decide +kernel
theorem dX5_copy_222 : decode cX5_copy 222 = .ok (.iload_n 2, 1) := by decide +kernel
theorem dX5_copy_223 : decode cX5_copy 223 = .ok (.iaload, 1) := by decide +kernel
theorem dX5_copy_224 : decode cX5_copy 224 = .ok (.iastore, 1) := by decide +kernel
theorem dX5_copy_225 : decode cX5_copy 225 = .ok (.iinc 2 1, 3) := by decide +kernel
theorem dX5_copy_228 : decode cX5_copy 228 = .ok (.goto (-33), 3) := by decide +kernel
theorem dX5_copy_231 : decode cX5_copy 231 = .ok (.return_, 1) := by decide +kernel
theorem dX5_clear_0 : decode cX5_clear 0 = .ok (.aload_n 0, 1) := by decide +kernel
theorem dX5_clear_1 : decode cX5_clear 1 = .ok (.iconst 0, 1) := by decide +kernel
theorem dX5_clear_2 : decode cX5_clear 2 = .ok (.putfield 9, 3) := by decide +kernel
theorem dX5_clear_5 : decode cX5_clear 5 = .ok (.aload_n 0, 1) := by decide +kernel
theorem dX5_clear_6 : decode cX5_clear 6 = .ok (.iconst 0, 1) := by decide +kernel
theorem dX5_clear_7 : decode cX5_clear 7 = .ok (.putfield 15, 3) := by decide +kernel
theorem dX5_clear_10 : decode cX5_clear 10 = .ok (.aload_n 0, 1) := by decide +kernel
theorem dX5_clear_11 : decode cX5_clear 11 = .ok (.iconst 0, 1) := by decide +kernel
theorem dX5_clear_12 : decode cX5_clear 12 = .ok (.putfield 18, 3) := by decide +kernel
theorem dX5_clear_15 : decode cX5_clear 15 = .ok (.aload_n 0, 1) := by decide +kernel
theorem dX5_clear_16 : decode cX5_clear 16 = .ok (.iconst 0, 1) := by decide +kernel
theorem dX5_clear_17 : decode cX5_clear 17 = .ok (.putfield 21, 3) := by decide +kernel
theorem dX5_clear_20 : decode cX5_clear 20 = .ok (.aload_n 0, 1) := by decide +kernel
theorem dX5_clear_21 : decode cX5_clear 21 = .ok (.iconst 0, 1) := by decide +kernel
theorem dX5_clear_22 : decode cX5_clear 22 = .ok (.putfield 24, 3) := by decide +kernel
theorem dX5_clear_25 : decode cX5_clear 25 = .ok (.aload_n 0, 1) := by decide +kernel
theorem dX5_clear_26 : decode cX5_clear 26 = .ok (.iconst 0, 1) := by decide +kernel
theorem dX5_clear_27 : decode cX5_clear 27 = .ok (.putfield 27, 3) := by decide +kernel
theorem dX5_clear_30 : decode cX5_clear 30 = .ok (.aload_n 0, 1) := by decide +kernel
theorem dX5_clear_31 : decode cX5_clear 31 = .ok (.iconst 0, 1) := by decide +kernel
theorem dX5_clear_32 : decode cX5_clear 32 = .ok (.putfield 30, 3) := by decide +kernel
theorem dX5_clear_35 : decode cX5_clear 35 = .ok (.aload_n 0, 1) := by decide +kernel
theorem dX5_clear_36 : decode cX5_clear 36 = .ok (.iconst 0, 1) := by decide +kernel
theorem dX5_clear_37 : decode cX5_clear 37 = .ok (.putfield 33, 3) := by decide +kernel
theorem dX5_clear_40 : decode cX5_clear 40 = .ok (.aload_n 0, 1) := by decide +kernel
theorem dX5_clear_41 : decode cX5_clear 41 = .ok (.iconst 0, 1) := by decide +kernel
theorem dX5_clear_42 : decode cX5_clear 42 = .ok (.putfield 36, 3) := by decide +kernel
theorem dX5_clear_45 : decode cX5_clear 45 = .ok (.return_, 1) := by decide +kernel
theorem dX5_addStall_0 : decode cX5_addStall 0 = .ok (.aload_n 0, 1) := by decide +kernel
theorem dX5_addStall_1 : decode cX5_addStall 1 = .ok (.getfield 15, 3) := by decide +kernel
theorem dX5_addStall_4 : decode cX5_addStall 4 = .ok (.bipush 8, 2) := by decide +kernel
theorem dX5_addStall_6 : decode cX5_addStall 6 = .ok (.if_icmp .ge 33, 3) := by decide +kernel
theorem dX5_addStall_9 : decode cX5_addStall 9 = .ok (.aload_n 0, 1) := by decide +kernel
theorem dX5_addStall_10 : decode cX5_addStall 10 = .ok (.getfield 62, 3) := by decide +kernel
theorem dX5_addStall_13 : decode cX5_addStall 13 = .ok (.aload_n 0, 1) := by decide +kernel
theorem dX5_addStall_14 : decode cX5_addStall 14 = .ok (.getfield 15, 3) := by decide +kernel
theorem dX5_addStall_17 : decode cX5_addStall 17 = .ok (.lload_n 1, 1) := by decide +kernel
theorem dX5_addStall_18 : decode cX5_addStall 18 = .ok (.lastore, 1) := by decide +kernel
theorem dX5_addStall_19 : decode cX5_addStall 19 = .ok (.aload_n 0, 1) := by decide +kernel
theorem dX5_addStall_20 : decode cX5_addStall 20 = .ok (.getfield 65, 3) := by decide +kernel
theorem dX5_addStall_23 : decode cX5_addStall 23 = .ok (.aload_n 0, 1) := by decide +kernel
theorem dX5_addStall_24 : decode cX5_addStall 24 = .ok (.getfield 15, 3) := by decide +kernel
theorem dX5_addStall_27 : decode cX5_addStall 27 = .ok (.iload_n 3, 1) := by decide +kernel
theorem dX5_addStall_28 : decode cX5_addStall 28 = .ok (.iastore, 1) := by decide +kernel
theorem dX5_addStall_29 : decode cX5_addStall 29 = .ok (.aload_n 0, 1) := by decide +kernel
theorem dX5_addStall_30 : decode cX5_addStall 30 = .ok (.dup, 1) := by decide +kernel
theorem dX5_addStall_31 : decode cX5_addStall 31 = .ok (.getfield 15, 3) := by decide +kernel
theorem dX5_addStall_34 : decode cX5_addStall 34 = .ok (.iconst 1, 1) := by decide +kernel
theorem dX5_addStall_35 : decode cX5_addStall 35 = .ok (.iadd, 1) := by decide +kernel
theorem dX5_addStall_36 : decode cX5_addStall 36 = .ok (.putfield 15, 3) := by decide +kernel
theorem dX5_addStall_39 : decode cX5_addStall 39 = .ok (.return_, 1) := by decide +kernel
theorem dX5_addSeller_0 : decode cX5_addSeller 0 = .ok (.aload_n 0, 1) := by decide +kernel
theorem dX5_addSeller_1 : decode cX5_addSeller 1 = .ok (.getfield 9, 3) := by decide +kernel
theorem dX5_addSeller_4 : decode cX5_addSeller 4 = .ok (.bipush 8, 2) := by decide +kernel
theorem dX5_addSeller_6 : decode cX5_addSeller 6 = .ok (.if_icmp .ge 87, 3) := by decide +kernel
theorem dX5_addSeller_9 : decode cX5_addSeller 9 = .ok (.aload_n 0, 1) := by decide +kernel
theorem dX5_addSeller_10 : decode cX5_addSeller 10 = .ok (.getfield 39, 3) := by decide +kernel
theorem dX5_addSeller_13 : decode cX5_addSeller 13 = .ok (.aload_n 0, 1) := by decide +kernel
theorem dX5_addSeller_14 : decode cX5_addSeller 14 = .ok (.getfield 9, 3) := by decide +kernel
theorem dX5_addSeller_17 : decode cX5_addSeller 17 = .ok (.lload_n 1, 1) := by decide +kernel
theorem dX5_addSeller_18 : decode cX5_addSeller 18 = .ok (.lastore, 1) := by decide +kernel
theorem dX5_addSeller_19 : decode cX5_addSeller 19 = .ok (.aload_n 0, 1) := by decide +kernel
theorem dX5_addSeller_20 : decode cX5_addSeller 20 = .ok (.getfield 43, 3) := by decide +kernel
theorem dX5_addSeller_23 : decode cX5_addSeller 23 = .ok (.aload_n 0, 1) := by decide +kernel
theorem dX5_addSeller_24 : decode cX5_addSeller 24 = .ok (.getfield 9, 3) := by decide +kernel
theorem dX5_addSeller_27 : decode cX5_addSeller 27 = .ok (.iload_n 3, 1) := by decide +kernel
theorem dX5_addSeller_28 : decode cX5_addSeller 28 = .ok (.iastore, 1) := by decide +kernel
theorem dX5_addSeller_29 : decode cX5_addSeller 29 = .ok (.aload_n 0, 1) := by decide +kernel
theorem dX5_addSeller_30 : decode cX5_addSeller 30 = .ok (.getfield 47, 3) := by decide +kernel
theorem dX5_addSeller_33 : decode cX5_addSeller 33 = .ok (.aload_n 0, 1) := by decide +kernel
theorem dX5_addSeller_34 : decode cX5_addSeller 34 = .ok (.getfield 9, 3) := by decide +kernel
theorem dX5_addSeller_37 : decode cX5_addSeller 37 = .ok (.iload 4, 2) := by decide +kernel
theorem dX5_addSeller_39 : decode cX5_addSeller 39 = .ok (.iastore, 1) := by decide +kernel
theorem dX5_addSeller_40 : decode cX5_addSeller 40 = .ok (.aload_n 0, 1) := by decide +kernel
theorem dX5_addSeller_41 : decode cX5_addSeller 41 = .ok (.getfield 50, 3) := by decide +kernel
theorem dX5_addSeller_44 : decode cX5_addSeller 44 = .ok (.aload_n 0, 1) := by decide +kernel
theorem dX5_addSeller_45 : decode cX5_addSeller 45 = .ok (.getfield 9, 3) := by decide +kernel
theorem dX5_addSeller_48 : decode cX5_addSeller 48 = .ok (.iconst (-1), 1) := by decide +kernel
theorem dX5_addSeller_49 : decode cX5_addSeller 49 = .ok (.iastore, 1) := by decide +kernel
theorem dX5_addSeller_50 : decode cX5_addSeller 50 = .ok (.aload_n 0, 1) := by decide +kernel
theorem dX5_addSeller_51 : decode cX5_addSeller 51 = .ok (.getfield 53, 3) := by decide +kernel
theorem dX5_addSeller_54 : decode cX5_addSeller 54 = .ok (.aload_n 0, 1) := by decide +kernel
theorem dX5_addSeller_55 : decode cX5_addSeller 55 = .ok (.getfield 9, 3) := by decide +kernel
theorem dX5_addSeller_58 : decode cX5_addSeller 58 = .ok (.aload_n 0, 1) := by decide +kernel
theorem dX5_addSeller_59 : decode cX5_addSeller 59 = .ok (.getfield 9, 3) := by decide +kernel
theorem dX5_addSeller_62 : decode cX5_addSeller 62 = .ok (.iastore, 1) := by decide +kernel
theorem dX5_addSeller_63 : decode cX5_addSeller 63 = .ok (.aload_n 0, 1) := by decide +kernel
theorem dX5_addSeller_64 : decode cX5_addSeller 64 = .ok (.getfield 56, 3) := by decide +kernel
theorem dX5_addSeller_67 : decode cX5_addSeller 67 = .ok (.aload_n 0, 1) := by decide +kernel
theorem dX5_addSeller_68 : decode cX5_addSeller 68 = .ok (.getfield 9, 3) := by decide +kernel
theorem dX5_addSeller_71 : decode cX5_addSeller 71 = .ok (.iconst 0, 1) := by decide +kernel
theorem dX5_addSeller_72 : decode cX5_addSeller 72 = .ok (.iastore, 1) := by decide +kernel
theorem dX5_addSeller_73 : decode cX5_addSeller 73 = .ok (.aload_n 0, 1) := by decide +kernel
theorem dX5_addSeller_74 : decode cX5_addSeller 74 = .ok (.dup, 1) := by decide +kernel
theorem dX5_addSeller_75 : decode cX5_addSeller 75 = .ok (.getfield 33, 3) := by decide +kernel
theorem dX5_addSeller_78 : decode cX5_addSeller 78 = .ok (.iload_n 3, 1) := by decide +kernel
theorem dX5_addSeller_79 : decode cX5_addSeller 79 = .ok (.iadd, 1) := by decide +kernel
theorem dX5_addSeller_80 : decode cX5_addSeller 80 = .ok (.putfield 33, 3) := by decide +kernel
theorem dX5_addSeller_83 : decode cX5_addSeller 83 = .ok (.aload_n 0, 1) := by decide +kernel
theorem dX5_addSeller_84 : decode cX5_addSeller 84 = .ok (.dup, 1) := by decide +kernel
theorem dX5_addSeller_85 : decode cX5_addSeller 85 = .ok (.getfield 9, 3) := by decide +kernel
theorem dX5_addSeller_88 : decode cX5_addSeller 88 = .ok (.iconst 1, 1) := by decide +kernel
theorem dX5_addSeller_89 : decode cX5_addSeller 89 = .ok (.iadd, 1) := by decide +kernel
theorem dX5_addSeller_90 : decode cX5_addSeller 90 = .ok (.putfield 9, 3) := by decide +kernel
theorem dX5_addSeller_93 : decode cX5_addSeller 93 = .ok (.return_, 1) := by decide +kernel
theorem dX5_hasSeller_0 : decode cX5_hasSeller 0 = .ok (.iload_n 1, 1) := by decide +kernel
theorem dX5_hasSeller_1 : decode cX5_hasSeller 1 = .ok (.ifCond .lt 15, 3) := by decide +kernel
theorem dX5_hasSeller_4 : decode cX5_hasSeller 4 = .ok (.iload_n 1, 1) := by decide +kernel
theorem dX5_hasSeller_5 : decode cX5_hasSeller 5 = .ok (.aload_n 0, 1) := by decide +kernel
theorem dX5_hasSeller_6 : decode cX5_hasSeller 6 = .ok (.getfield 9, 3) := by decide +kernel
theorem dX5_hasSeller_9 : decode cX5_hasSeller 9 = .ok (.if_icmp .ge 7, 3) := by decide +kernel
theorem dX5_hasSeller_12 : decode cX5_hasSeller 12 = .ok (.iconst 1, 1) := by decide +kernel
theorem dX5_hasSeller_13 : decode cX5_hasSeller 13 = .ok (.goto 4, 3) := by decide +kernel
theorem dX5_hasSeller_16 : decode cX5_hasSeller 16 = .ok (.iconst 0, 1) := by decide +kernel
theorem dX5_hasSeller_17 : decode cX5_hasSeller 17 = .ok (.ireturn, 1) := by decide +kernel
theorem dX5_hasStall_0 : decode cX5_hasStall 0 = .ok (.iload_n 1, 1) := by decide +kernel
theorem dX5_hasStall_1 : decode cX5_hasStall 1 = .ok (.ifCond .lt 15, 3) := by decide +kernel
theorem dX5_hasStall_4 : decode cX5_hasStall 4 = .ok (.iload_n 1, 1) := by decide +kernel
theorem dX5_hasStall_5 : decode cX5_hasStall 5 = .ok (.aload_n 0, 1) := by decide +kernel
theorem dX5_hasStall_6 : decode cX5_hasStall 6 = .ok (.getfield 15, 3) := by decide +kernel
theorem dX5_hasStall_9 : decode cX5_hasStall 9 = .ok (.if_icmp .ge 7, 3) := by decide +kernel
theorem dX5_hasStall_12 : decode cX5_hasStall 12 = .ok (.iconst 1, 1) := by decide +kernel
theorem dX5_hasStall_13 : decode cX5_hasStall 13 = .ok (.goto 4, 3) := by decide +kernel
theorem dX5_hasStall_16 : decode cX5_hasStall 16 = .ok (.iconst 0, 1) := by decide +kernel
theorem dX5_hasStall_17 : decode cX5_hasStall 17 = .ok (.ireturn, 1) := by decide +kernel
theorem dX5_coinsOf_0 : decode cX5_coinsOf 0 = .ok (.aload_n 0, 1) := by decide +kernel
theorem dX5_coinsOf_1 : decode cX5_coinsOf 1 = .ok (.iload_n 1, 1) := by decide +kernel
theorem dX5_coinsOf_2 : decode cX5_coinsOf 2 = .ok (.invokevirtual 68, 3) := by decide +kernel
theorem dX5_coinsOf_5 : decode cX5_coinsOf 5 = .ok (.ifCond .eq 12, 3) := by decide +kernel
theorem dX5_coinsOf_8 : decode cX5_coinsOf 8 = .ok (.aload_n 0, 1) := by decide +kernel
theorem dX5_coinsOf_9 : decode cX5_coinsOf 9 = .ok (.getfield 43, 3) := by decide +kernel
theorem dX5_coinsOf_12 : decode cX5_coinsOf 12 = .ok (.iload_n 1, 1) := by decide +kernel
theorem dX5_coinsOf_13 : decode cX5_coinsOf 13 = .ok (.iaload, 1) := by decide +kernel
theorem dX5_coinsOf_14 : decode cX5_coinsOf 14 = .ok (.goto 4, 3) := by decide +kernel
theorem dX5_coinsOf_17 : decode cX5_coinsOf 17 = .ok (.iconst 0, 1) := by decide +kernel
theorem dX5_coinsOf_18 : decode cX5_coinsOf 18 = .ok (.ireturn, 1) := by decide +kernel
theorem dX5_heldBy_0 : decode cX5_heldBy 0 = .ok (.aload_n 0, 1) := by decide +kernel
theorem dX5_heldBy_1 : decode cX5_heldBy 1 = .ok (.iload_n 1, 1) := by decide +kernel
theorem dX5_heldBy_2 : decode cX5_heldBy 2 = .ok (.invokevirtual 68, 3) := by decide +kernel
theorem dX5_heldBy_5 : decode cX5_heldBy 5 = .ok (.ifCond .eq 12, 3) := by decide +kernel
theorem dX5_heldBy_8 : decode cX5_heldBy 8 = .ok (.aload_n 0, 1) := by decide +kernel
theorem dX5_heldBy_9 : decode cX5_heldBy 9 = .ok (.getfield 50, 3) := by decide +kernel
theorem dX5_heldBy_12 : decode cX5_heldBy 12 = .ok (.iload_n 1, 1) := by decide +kernel
theorem dX5_heldBy_13 : decode cX5_heldBy 13 = .ok (.iaload, 1) := by decide +kernel
theorem dX5_heldBy_14 : decode cX5_heldBy 14 = .ok (.goto 4, 3) := by decide +kernel
theorem dX5_heldBy_17 : decode cX5_heldBy 17 = .ok (.iconst (-1), 1) := by decide +kernel
theorem dX5_heldBy_18 : decode cX5_heldBy 18 = .ok (.ireturn, 1) := by decide +kernel
theorem dX5_turnOf_0 : decode cX5_turnOf 0 = .ok (.aload_n 0, 1) := by decide +kernel
theorem dX5_turnOf_1 : decode cX5_turnOf 1 = .ok (.iload_n 1, 1) := by decide +kernel
theorem dX5_turnOf_2 : decode cX5_turnOf 2 = .ok (.invokevirtual 68, 3) := by decide +kernel
theorem dX5_turnOf_5 : decode cX5_turnOf 5 = .ok (.ifCond .eq 12, 3) := by decide +kernel
theorem dX5_turnOf_8 : decode cX5_turnOf 8 = .ok (.aload_n 0, 1) := by decide +kernel
theorem dX5_turnOf_9 : decode cX5_turnOf 9 = .ok (.getfield 53, 3) := by decide +kernel
theorem dX5_turnOf_12 : decode cX5_turnOf 12 = .ok (.iload_n 1, 1) := by decide +kernel
theorem dX5_turnOf_13 : decode cX5_turnOf 13 = .ok (.iaload, 1) := by decide +kernel
theorem dX5_turnOf_14 : decode cX5_turnOf 14 = .ok (.goto 4, 3) := by decide +kernel
theorem dX5_turnOf_17 : decode cX5_turnOf 17 = .ok (.iconst (-1), 1) := by decide +kernel
theorem dX5_turnOf_18 : decode cX5_turnOf 18 = .ok (.ireturn, 1) := by decide +kernel
theorem dX5_wishesOf_0 : decode cX5_wishesOf 0 = .ok (.aload_n 0, 1) := by decide +kernel
theorem dX5_wishesOf_1 : decode cX5_wishesOf 1 = .ok (.iload_n 1, 1) := by decide +kernel
theorem dX5_wishesOf_2 : decode cX5_wishesOf 2 = .ok (.invokevirtual 68, 3) := by decide +kernel
theorem dX5_wishesOf_5 : decode cX5_wishesOf 5 = .ok (.ifCond .eq 12, 3) := by decide +kernel
theorem dX5_wishesOf_8 : decode cX5_wishesOf 8 = .ok (.aload_n 0, 1) := by decide +kernel
theorem dX5_wishesOf_9 : decode cX5_wishesOf 9 = .ok (.getfield 56, 3) := by decide +kernel
theorem dX5_wishesOf_12 : decode cX5_wishesOf 12 = .ok (.iload_n 1, 1) := by decide +kernel
theorem dX5_wishesOf_13 : decode cX5_wishesOf 13 = .ok (.iaload, 1) := by decide +kernel
theorem dX5_wishesOf_14 : decode cX5_wishesOf 14 = .ok (.goto 4, 3) := by decide +kernel
theorem dX5_wishesOf_17 : decode cX5_wishesOf 17 = .ok (.iconst 0, 1) := by decide +kernel
theorem dX5_wishesOf_18 : decode cX5_wishesOf 18 = .ok (.ireturn, 1) := by decide +kernel
theorem dX5_priceOf_0 : decode cX5_priceOf 0 = .ok (.aload_n 0, 1) := by decide +kernel
theorem dX5_priceOf_1 : decode cX5_priceOf 1 = .ok (.iload_n 1, 1) := by decide +kernel
theorem dX5_priceOf_2 : decode cX5_priceOf 2 = .ok (.invokevirtual 72, 3) := by decide +kernel
theorem dX5_priceOf_5 : decode cX5_priceOf 5 = .ok (.ifCond .eq 12, 3) := by decide +kernel
theorem dX5_priceOf_8 : decode cX5_priceOf 8 = .ok (.aload_n 0, 1) := by decide +kernel
theorem dX5_priceOf_9 : decode cX5_priceOf 9 = .ok (.getfield 65, 3) := by decide +kernel
theorem dX5_priceOf_12 : decode cX5_priceOf 12 = .ok (.iload_n 1, 1) := by decide +kernel
theorem dX5_priceOf_13 : decode cX5_priceOf 13 = .ok (.iaload, 1) := by decide +kernel
theorem dX5_priceOf_14 : decode cX5_priceOf 14 = .ok (.goto 4, 3) := by decide +kernel
theorem dX5_priceOf_17 : decode cX5_priceOf 17 = .ok (.iconst 0, 1) := by decide +kernel
theorem dX5_priceOf_18 : decode cX5_priceOf 18 = .ok (.ireturn, 1) := by decide +kernel
theorem dX5_sellerCalled_0 : decode cX5_sellerCalled 0 = .ok (.iconst 0, 1) := by decide +kernel
theorem dX5_sellerCalled_1 : decode cX5_sellerCalled 1 = .ok (.istore_n 3, 1) := by decide +kernel
theorem dX5_sellerCalled_2 : decode cX5_sellerCalled 2 = .ok (.iload_n 3, 1) := by decide +kernel
theorem dX5_sellerCalled_3 : decode cX5_sellerCalled 3 = .ok (.aload_n 0, 1) := by decide +kernel
theorem dX5_sellerCalled_4 : decode cX5_sellerCalled 4 = .ok (.getfield 9, 3) := by decide +kernel
theorem dX5_sellerCalled_7 : decode cX5_sellerCalled 7 = .ok (.if_icmp .ge 22, 3) := by decide +kernel
theorem dX5_sellerCalled_10 : decode cX5_sellerCalled 10 = .ok (.aload_n 0, 1) := by decide +kernel
theorem dX5_sellerCalled_11 : decode cX5_sellerCalled 11 = .ok (.getfield 39, 3) := by decide +kernel
theorem dX5_sellerCalled_14 : decode cX5_sellerCalled 14 = .ok (.iload_n 3, 1) := by decide +kernel
theorem dX5_sellerCalled_15 : decode cX5_sellerCalled 15 = .ok (.laload, 1) := by decide +kernel
theorem dX5_sellerCalled_16 : decode cX5_sellerCalled 16 = .ok (.lload_n 1, 1) := by decide +kernel
theorem dX5_sellerCalled_17 : decode cX5_sellerCalled 17 = .ok (.lcmp, 1) := by decide +kernel
theorem dX5_sellerCalled_18 : decode cX5_sellerCalled 18 = .ok (.ifCond .ne 5, 3) := by decide +kernel
theorem dX5_sellerCalled_21 : decode cX5_sellerCalled 21 = .ok (.iload_n 3, 1) := by decide +kernel
theorem dX5_sellerCalled_22 : decode cX5_sellerCalled 22 = .ok (.ireturn, 1) := by decide +kernel
theorem dX5_sellerCalled_23 : decode cX5_sellerCalled 23 = .ok (.iinc 3 1, 3) := by decide +kernel
theorem dX5_sellerCalled_26 : decode cX5_sellerCalled 26 = .ok (.goto (-24), 3) := by decide +kernel
theorem dX5_sellerCalled_29 : decode cX5_sellerCalled 29 = .ok (.iconst (-1), 1) := by decide +kernel
theorem dX5_sellerCalled_30 : decode cX5_sellerCalled 30 = .ok (.ireturn, 1) := by decide +kernel
theorem dX5_stallCalled_0 : decode cX5_stallCalled 0 = .ok (.iconst 0, 1) := by decide +kernel
theorem dX5_stallCalled_1 : decode cX5_stallCalled 1 = .ok (.istore_n 3, 1) := by decide +kernel
theorem dX5_stallCalled_2 : decode cX5_stallCalled 2 = .ok (.iload_n 3, 1) := by decide +kernel
theorem dX5_stallCalled_3 : decode cX5_stallCalled 3 = .ok (.aload_n 0, 1) := by decide +kernel
theorem dX5_stallCalled_4 : decode cX5_stallCalled 4 = .ok (.getfield 15, 3) := by decide +kernel
theorem dX5_stallCalled_7 : decode cX5_stallCalled 7 = .ok (.if_icmp .ge 22, 3) := by decide +kernel
theorem dX5_stallCalled_10 : decode cX5_stallCalled 10 = .ok (.aload_n 0, 1) := by decide +kernel
theorem dX5_stallCalled_11 : decode cX5_stallCalled 11 = .ok (.getfield 62, 3) := by decide +kernel
theorem dX5_stallCalled_14 : decode cX5_stallCalled 14 = .ok (.iload_n 3, 1) := by decide +kernel
theorem dX5_stallCalled_15 : decode cX5_stallCalled 15 = .ok (.laload, 1) := by decide +kernel
theorem dX5_stallCalled_16 : decode cX5_stallCalled 16 = .ok (.lload_n 1, 1) := by decide +kernel
theorem dX5_stallCalled_17 : decode cX5_stallCalled 17 = .ok (.lcmp, 1) := by decide +kernel
theorem dX5_stallCalled_18 : decode cX5_stallCalled 18 = .ok (.ifCond .ne 5, 3) := by decide +kernel
theorem dX5_stallCalled_21 : decode cX5_stallCalled 21 = .ok (.iload_n 3, 1) := by decide +kernel
theorem dX5_stallCalled_22 : decode cX5_stallCalled 22 = .ok (.ireturn, 1) := by decide +kernel
theorem dX5_stallCalled_23 : decode cX5_stallCalled 23 = .ok (.iinc 3 1, 3) := by decide +kernel
theorem dX5_stallCalled_26 : decode cX5_stallCalled 26 = .ok (.goto (-24), 3) := by decide +kernel
theorem dX5_stallCalled_29 : decode cX5_stallCalled 29 = .ok (.iconst (-1), 1) := by decide +kernel
theorem dX5_stallCalled_30 : decode cX5_stallCalled 30 = .ok (.ireturn, 1) := by decide +kernel
theorem dX5_holderOf_0 : decode cX5_holderOf 0 = .ok (.iload_n 1, 1) := by decide +kernel
theorem dX5_holderOf_1 : decode cX5_holderOf 1 = .ok (.iconst (-1), 1) := by decide +kernel
theorem dX5_holderOf_2 : decode cX5_holderOf 2 = .ok (.if_icmp .ne 5, 3) := by decide +kernel
theorem dX5_holderOf_5 : decode cX5_holderOf 5 = .ok (.iconst (-1), 1) := by decide +kernel
theorem dX5_holderOf_6 : decode cX5_holderOf 6 = .ok (.ireturn, 1) := by decide +kernel
theorem dX5_holderOf_7 : decode cX5_holderOf 7 = .ok (.iconst 0, 1) := by decide +kernel
theorem dX5_holderOf_8 : decode cX5_holderOf 8 = .ok (.istore_n 2, 1) := by decide +kernel
theorem dX5_holderOf_9 : decode cX5_holderOf 9 = .ok (.iload_n 2, 1) := by decide +kernel
theorem dX5_holderOf_10 : decode cX5_holderOf 10 = .ok (.aload_n 0, 1) := by decide +kernel
theorem dX5_holderOf_11 : decode cX5_holderOf 11 = .ok (.getfield 9, 3) := by decide +kernel
theorem dX5_holderOf_14 : decode cX5_holderOf 14 = .ok (.if_icmp .ge 21, 3) := by decide +kernel
theorem dX5_holderOf_17 : decode cX5_holderOf 17 = .ok (.aload_n 0, 1) := by decide +kernel
theorem dX5_holderOf_18 : decode cX5_holderOf 18 = .ok (.getfield 50, 3) := by decide +kernel
theorem dX5_holderOf_21 : decode cX5_holderOf 21 = .ok (.iload_n 2, 1) := by decide +kernel
theorem dX5_holderOf_22 : decode cX5_holderOf 22 = .ok (.iaload, 1) := by decide +kernel
theorem dX5_holderOf_23 : decode cX5_holderOf 23 = .ok (.iload_n 1, 1) := by decide +kernel
theorem dX5_holderOf_24 : decode cX5_holderOf 24 = .ok (.if_icmp .ne 5, 3) := by decide +kernel
theorem dX5_holderOf_27 : decode cX5_holderOf 27 = .ok (.iload_n 2, 1) := by decide +kernel
theorem dX5_holderOf_28 : decode cX5_holderOf 28 = .ok (.ireturn, 1) := by decide +kernel
theorem dX5_holderOf_29 : decode cX5_holderOf 29 = .ok (.iinc 2 1, 3) := by decide +kernel
theorem dX5_holderOf_32 : decode cX5_holderOf 32 = .ok (.goto (-23), 3) := by decide +kernel
theorem dX5_holderOf_35 : decode cX5_holderOf 35 = .ok (.iconst (-1), 1) := by decide +kernel
theorem dX5_holderOf_36 : decode cX5_holderOf 36 = .ok (.ireturn, 1) := by decide +kernel
theorem dX5_wish_0 : decode cX5_wish 0 = .ok (.aload_n 0, 1) := by decide +kernel
theorem dX5_wish_1 : decode cX5_wish 1 = .ok (.iload_n 1, 1) := by decide +kernel
theorem dX5_wish_2 : decode cX5_wish 2 = .ok (.invokevirtual 68, 3) := by decide +kernel
theorem dX5_wish_5 : decode cX5_wish 5 = .ok (.ifCond .eq 17, 3) := by decide +kernel
theorem dX5_wish_8 : decode cX5_wish 8 = .ok (.iload_n 2, 1) := by decide +kernel
theorem dX5_wish_9 : decode cX5_wish 9 = .ok (.ifCond .lt 13, 3) := by decide +kernel
theorem dX5_wish_12 : decode cX5_wish 12 = .ok (.iload_n 2, 1) := by decide +kernel
theorem dX5_wish_13 : decode cX5_wish 13 = .ok (.aload_n 0, 1) := by decide +kernel
theorem dX5_wish_14 : decode cX5_wish 14 = .ok (.getfield 56, 3) := by decide +kernel
theorem dX5_wish_17 : decode cX5_wish 17 = .ok (.iload_n 1, 1) := by decide +kernel
theorem dX5_wish_18 : decode cX5_wish 18 = .ok (.iaload, 1) := by decide +kernel
theorem dX5_wish_19 : decode cX5_wish 19 = .ok (.if_icmp .lt 5, 3) := by decide +kernel
theorem dX5_wish_22 : decode cX5_wish 22 = .ok (.iconst (-1), 1) := by decide +kernel
theorem dX5_wish_23 : decode cX5_wish 23 = .ok (.ireturn, 1) := by decide +kernel
theorem dX5_wish_24 : decode cX5_wish 24 = .ok (.aload_n 0, 1) := by decide +kernel
theorem dX5_wish_25 : decode cX5_wish 25 = .ok (.getfield 59, 3) := by decide +kernel
theorem dX5_wish_28 : decode cX5_wish 28 = .ok (.iload_n 1, 1) := by decide +kernel
theorem dX5_wish_29 : decode cX5_wish 29 = .ok (.bipush 8, 2) := by decide +kernel
theorem dX5_wish_31 : decode cX5_wish 31 = .ok (.imul, 1) := by decide +kernel
theorem dX5_wish_32 : decode cX5_wish 32 = .ok (.iload_n 2, 1) := by decide +kernel
theorem dX5_wish_33 : decode cX5_wish 33 = .ok (.iadd, 1) := by decide +kernel
theorem dX5_wish_34 : decode cX5_wish 34 = .ok (.iaload, 1) := by decide +kernel
theorem dX5_wish_35 : decode cX5_wish 35 = .ok (.ireturn, 1) := by decide +kernel
theorem dX5_rankIn_0 : decode cX5_rankIn 0 = .ok (.iload_n 1, 1) := by decide +kernel
theorem dX5_rankIn_1 : decode cX5_rankIn 1 = .ok (.ifCond .lt 11, 3) := by decide +kernel
theorem dX5_rankIn_4 : decode cX5_rankIn 4 = .ok (.iload_n 1, 1) := by decide +kernel
theorem dX5_rankIn_5 : decode cX5_rankIn 5 = .ok (.aload_n 0, 1) := by decide +kernel
theorem dX5_rankIn_6 : decode cX5_rankIn 6 = .ok (.getfield 9, 3) := by decide +kernel
theorem dX5_rankIn_9 : decode cX5_rankIn 9 = .ok (.if_icmp .lt 5, 3) := by decide +kernel
theorem dX5_rankIn_12 : decode cX5_rankIn 12 = .ok (.iconst (-1), 1) := by decide +kernel
theorem dX5_rankIn_13 : decode cX5_rankIn 13 = .ok (.ireturn, 1) := by decide +kernel
theorem dX5_rankIn_14 : decode cX5_rankIn 14 = .ok (.iconst 0, 1) := by decide +kernel
theorem dX5_rankIn_15 : decode cX5_rankIn 15 = .ok (.istore_n 3, 1) := by decide +kernel
theorem dX5_rankIn_16 : decode cX5_rankIn 16 = .ok (.iload_n 3, 1) := by decide +kernel
theorem dX5_rankIn_17 : decode cX5_rankIn 17 = .ok (.aload_n 0, 1) := by decide +kernel
theorem dX5_rankIn_18 : decode cX5_rankIn 18 = .ok (.getfield 56, 3) := by decide +kernel
theorem dX5_rankIn_21 : decode cX5_rankIn 21 = .ok (.iload_n 1, 1) := by decide +kernel
theorem dX5_rankIn_22 : decode cX5_rankIn 22 = .ok (.iaload, 1) := by decide +kernel
theorem dX5_rankIn_23 : decode cX5_rankIn 23 = .ok (.if_icmp .ge 26, 3) := by decide +kernel
theorem dX5_rankIn_26 : decode cX5_rankIn 26 = .ok (.aload_n 0, 1) := by decide +kernel
theorem dX5_rankIn_27 : decode cX5_rankIn 27 = .ok (.getfield 59, 3) := by decide +kernel
theorem dX5_rankIn_30 : decode cX5_rankIn 30 = .ok (.iload_n 1, 1) := by decide +kernel
theorem dX5_rankIn_31 : decode cX5_rankIn 31 = .ok (.bipush 8, 2) := by decide +kernel
theorem dX5_rankIn_33 : decode cX5_rankIn 33 = .ok (.imul, 1) := by decide +kernel
theorem dX5_rankIn_34 : decode cX5_rankIn 34 = .ok (.iload_n 3, 1) := by decide +kernel
theorem dX5_rankIn_35 : decode cX5_rankIn 35 = .ok (.iadd, 1) := by decide +kernel
theorem dX5_rankIn_36 : decode cX5_rankIn 36 = .ok (.iaload, 1) := by decide +kernel
theorem dX5_rankIn_37 : decode cX5_rankIn 37 = .ok (.iload_n 2, 1) := by decide +kernel
theorem dX5_rankIn_38 : decode cX5_rankIn 38 = .ok (.if_icmp .ne 5, 3) := by decide +kernel
theorem dX5_rankIn_41 : decode cX5_rankIn 41 = .ok (.iload_n 3, 1) := by decide +kernel
theorem dX5_rankIn_42 : decode cX5_rankIn 42 = .ok (.ireturn, 1) := by decide +kernel
theorem dX5_rankIn_43 : decode cX5_rankIn 43 = .ok (.iinc 3 1, 3) := by decide +kernel
theorem dX5_rankIn_46 : decode cX5_rankIn 46 = .ok (.goto (-30), 3) := by decide +kernel
theorem dX5_rankIn_49 : decode cX5_rankIn 49 = .ok (.iconst (-1), 1) := by decide +kernel
theorem dX5_rankIn_50 : decode cX5_rankIn 50 = .ok (.ireturn, 1) := by decide +kernel
theorem dX5_ranksAbove_0 : decode cX5_ranksAbove 0 = .ok (.aload_n 0, 1) := by decide +kernel
theorem dX5_ranksAbove_1 : decode cX5_ranksAbove 1 = .ok (.iload_n 1, 1) := by decide +kernel
theorem dX5_ranksAbove_2 : decode cX5_ranksAbove 2 = .ok (.iload_n 2, 1) := by decide +kernel
theorem dX5_ranksAbove_3 : decode cX5_ranksAbove 3 = .ok (.invokevirtual 75, 3) := by decide +kernel
theorem dX5_ranksAbove_6 : decode cX5_ranksAbove 6 = .ok (.aload_n 0, 1) := by decide +kernel
theorem dX5_ranksAbove_7 : decode cX5_ranksAbove 7 = .ok (.iload_n 1, 1) := by decide +kernel
theorem dX5_ranksAbove_8 : decode cX5_ranksAbove 8 = .ok (.iload_n 3, 1) := by decide +kernel
theorem dX5_ranksAbove_9 : decode cX5_ranksAbove 9 = .ok (.invokevirtual 75, 3) := by decide +kernel
theorem dX5_ranksAbove_12 : decode cX5_ranksAbove 12 = .ok (.if_icmp .ge 7, 3) := by decide +kernel
theorem dX5_ranksAbove_15 : decode cX5_ranksAbove 15 = .ok (.iconst 1, 1) := by decide +kernel
theorem dX5_ranksAbove_16 : decode cX5_ranksAbove 16 = .ok (.goto 4, 3) := by decide +kernel
theorem dX5_ranksAbove_19 : decode cX5_ranksAbove 19 = .ok (.iconst 0, 1) := by decide +kernel
theorem dX5_ranksAbove_20 : decode cX5_ranksAbove 20 = .ok (.ireturn, 1) := by decide +kernel
theorem dX5_standing_0 : decode cX5_standing 0 = .ok (.iload_n 2, 1) := by decide +kernel
theorem dX5_standing_1 : decode cX5_standing 1 = .ok (.iconst (-1), 1) := by decide +kernel
theorem dX5_standing_2 : decode cX5_standing 2 = .ok (.if_icmp .ne 6, 3) := by decide +kernel
theorem dX5_standing_5 : decode cX5_standing 5 = .ok (.bipush 8, 2) := by decide +kernel
theorem dX5_standing_7 : decode cX5_standing 7 = .ok (.ireturn, 1) := by decide +kernel
theorem dX5_standing_8 : decode cX5_standing 8 = .ok (.aload_n 0, 1) := by decide +kernel
theorem dX5_standing_9 : decode cX5_standing 9 = .ok (.iload_n 1, 1) := by decide +kernel
theorem dX5_standing_10 : decode cX5_standing 10 = .ok (.iload_n 2, 1) := by decide +kernel
theorem dX5_standing_11 : decode cX5_standing 11 = .ok (.invokevirtual 79, 3) := by decide +kernel
theorem dX5_standing_14 : decode cX5_standing 14 = .ok (.istore_n 3, 1) := by decide +kernel
theorem dX5_standing_15 : decode cX5_standing 15 = .ok (.iload_n 3, 1) := by decide +kernel
theorem dX5_standing_16 : decode cX5_standing 16 = .ok (.iconst (-1), 1) := by decide +kernel
theorem dX5_standing_17 : decode cX5_standing 17 = .ok (.if_icmp .ne 8, 3) := by decide +kernel
theorem dX5_standing_20 : decode cX5_standing 20 = .ok (.bipush 9, 2) := by decide +kernel
theorem dX5_standing_22 : decode cX5_standing 22 = .ok (.goto 4, 3) := by decide +kernel
theorem dX5_standing_25 : decode cX5_standing 25 = .ok (.iload_n 3, 1) := by decide +kernel
theorem dX5_standing_26 : decode cX5_standing 26 = .ok (.ireturn, 1) := by decide +kernel
theorem dX5_mayMoveInto_0 : decode cX5_mayMoveInto 0 = .ok (.aload_n 0, 1) := by decide +kernel
theorem dX5_mayMoveInto_1 : decode cX5_mayMoveInto 1 = .ok (.iload_n 2, 1) := by decide +kernel
theorem dX5_mayMoveInto_2 : decode cX5_mayMoveInto 2 = .ok (.invokevirtual 82, 3) := by decide +kernel
theorem dX5_mayMoveInto_5 : decode cX5_mayMoveInto 5 = .ok (.iconst (-1), 1) := by decide +kernel
theorem dX5_mayMoveInto_6 : decode cX5_mayMoveInto 6 = .ok (.if_icmp .ne 20, 3) := by decide +kernel
theorem dX5_mayMoveInto_9 : decode cX5_mayMoveInto 9 = .ok (.aload_n 0, 1) := by decide +kernel
theorem dX5_mayMoveInto_10 : decode cX5_mayMoveInto 10 = .ok (.iload_n 2, 1) := by decide +kernel
theorem dX5_mayMoveInto_11 : decode cX5_mayMoveInto 11 = .ok (.invokevirtual 86, 3) := by decide +kernel
theorem dX5_mayMoveInto_14 : decode cX5_mayMoveInto 14 = .ok (.aload_n 0, 1) := by decide +kernel
theorem dX5_mayMoveInto_15 : decode cX5_mayMoveInto 15 = .ok (.iload_n 1, 1) := by decide +kernel
theorem dX5_mayMoveInto_16 : decode cX5_mayMoveInto 16 = .ok (.invokevirtual 89, 3) := by decide +kernel
theorem dX5_mayMoveInto_19 : decode cX5_mayMoveInto 19 = .ok (.if_icmp .gt 7, 3) := by decide +kernel
theorem dX5_mayMoveInto_22 : decode cX5_mayMoveInto 22 = .ok (.iconst 1, 1) := by decide +kernel
theorem dX5_mayMoveInto_23 : decode cX5_mayMoveInto 23 = .ok (.goto 4, 3) := by decide +kernel
theorem dX5_mayMoveInto_26 : decode cX5_mayMoveInto 26 = .ok (.iconst 0, 1) := by decide +kernel
theorem dX5_mayMoveInto_27 : decode cX5_mayMoveInto 27 = .ok (.ireturn, 1) := by decide +kernel
theorem dX5_seat_0 : decode cX5_seat 0 = .ok (.aload_n 0, 1) := by decide +kernel
theorem dX5_seat_1 : decode cX5_seat 1 = .ok (.iload_n 1, 1) := by decide +kernel
theorem dX5_seat_2 : decode cX5_seat 2 = .ok (.invokevirtual 68, 3) := by decide +kernel
theorem dX5_seat_5 : decode cX5_seat 5 = .ok (.ifCond .eq 10, 3) := by decide +kernel
theorem dX5_seat_8 : decode cX5_seat 8 = .ok (.aload_n 0, 1) := by decide +kernel
theorem dX5_seat_9 : decode cX5_seat 9 = .ok (.getfield 50, 3) := by decide +kernel
theorem dX5_seat_12 : decode cX5_seat 12 = .ok (.iload_n 1, 1) := by decide +kernel
theorem dX5_seat_13 : decode cX5_seat 13 = .ok (.iload_n 2, 1) := by decide +kernel
theorem dX5_seat_14 : decode cX5_seat 14 = .ok (.iastore, 1) := by decide +kernel
theorem dX5_seat_15 : decode cX5_seat 15 = .ok (.return_, 1) := by decide +kernel
theorem dX5_exchange_0 : decode cX5_exchange 0 = .ok (.aload_n 0, 1) := by decide +kernel
theorem dX5_exchange_1 : decode cX5_exchange 1 = .ok (.iload_n 1, 1) := by decide +kernel
theorem dX5_exchange_2 : decode cX5_exchange 2 = .ok (.invokevirtual 92, 3) := by decide +kernel
theorem dX5_exchange_5 : decode cX5_exchange 5 = .ok (.istore_n 3, 1) := by decide +kernel
theorem dX5_exchange_6 : decode cX5_exchange 6 = .ok (.aload_n 0, 1) := by decide +kernel
theorem dX5_exchange_7 : decode cX5_exchange 7 = .ok (.iload_n 1, 1) := by decide +kernel
theorem dX5_exchange_8 : decode cX5_exchange 8 = .ok (.aload_n 0, 1) := by decide +kernel
theorem dX5_exchange_9 : decode cX5_exchange 9 = .ok (.iload_n 2, 1) := by decide +kernel
theorem dX5_exchange_10 : decode cX5_exchange 10 = .ok (.invokevirtual 92, 3) := by decide +kernel
theorem dX5_exchange_13 : decode cX5_exchange 13 = .ok (.invokevirtual 95, 3) := by decide +kernel
theorem dX5_exchange_16 : decode cX5_exchange 16 = .ok (.aload_n 0, 1) := by decide +kernel
theorem dX5_exchange_17 : decode cX5_exchange 17 = .ok (.iload_n 2, 1) := by decide +kernel
theorem dX5_exchange_18 : decode cX5_exchange 18 = .ok (.iload_n 3, 1) := by decide +kernel
theorem dX5_exchange_19 : decode cX5_exchange 19 = .ok (.invokevirtual 95, 3) := by decide +kernel
theorem dX5_exchange_22 : decode cX5_exchange 22 = .ok (.aload_n 0, 1) := by decide +kernel
theorem dX5_exchange_23 : decode cX5_exchange 23 = .ok (.dup, 1) := by decide +kernel
theorem dX5_exchange_24 : decode cX5_exchange 24 = .ok (.getfield 27, 3) := by decide +kernel
theorem dX5_exchange_27 : decode cX5_exchange 27 = .ok (.iconst 1, 1) := by decide +kernel
theorem dX5_exchange_28 : decode cX5_exchange 28 = .ok (.iadd, 1) := by decide +kernel
theorem dX5_exchange_29 : decode cX5_exchange 29 = .ok (.putfield 27, 3) := by decide +kernel
theorem dX5_exchange_32 : decode cX5_exchange 32 = .ok (.return_, 1) := by decide +kernel
theorem dX5_moveTurn_0 : decode cX5_moveTurn 0 = .ok (.aload_n 0, 1) := by decide +kernel
theorem dX5_moveTurn_1 : decode cX5_moveTurn 1 = .ok (.iload_n 1, 1) := by decide +kernel
theorem dX5_moveTurn_2 : decode cX5_moveTurn 2 = .ok (.invokevirtual 99, 3) := by decide +kernel
theorem dX5_moveTurn_5 : decode cX5_moveTurn 5 = .ok (.istore_n 3, 1) := by decide +kernel
theorem dX5_moveTurn_6 : decode cX5_moveTurn 6 = .ok (.iconst 0, 1) := by decide +kernel
theorem dX5_moveTurn_7 : decode cX5_moveTurn 7 = .ok (.istore 4, 2) := by decide +kernel
theorem dX5_moveTurn_9 : decode cX5_moveTurn 9 = .ok (.iload 4, 2) := by decide +kernel
theorem dX5_moveTurn_11 : decode cX5_moveTurn 11 = .ok (.aload_n 0, 1) := by decide +kernel
theorem dX5_moveTurn_12 : decode cX5_moveTurn 12 = .ok (.getfield 9, 3) := by decide +kernel
theorem dX5_moveTurn_15 : decode cX5_moveTurn 15 = .ok (.if_icmp .ge 78, 3) := by decide +kernel
theorem dX5_moveTurn_18 : decode cX5_moveTurn 18 = .ok (.aload_n 0, 1) := by decide +kernel
theorem dX5_moveTurn_19 : decode cX5_moveTurn 19 = .ok (.getfield 53, 3) := by decide +kernel
theorem dX5_moveTurn_22 : decode cX5_moveTurn 22 = .ok (.iload 4, 2) := by decide +kernel
theorem dX5_moveTurn_24 : decode cX5_moveTurn 24 = .ok (.iaload, 1) := by decide +kernel
theorem dX5_moveTurn_25 : decode cX5_moveTurn 25 = .ok (.iload_n 3, 1) := by decide +kernel
theorem dX5_moveTurn_26 : decode cX5_moveTurn 26 = .ok (.if_icmp .le 28, 3) := by decide +kernel
theorem dX5_moveTurn_29 : decode cX5_moveTurn 29 = .ok (.aload_n 0, 1) := by decide +kernel
theorem dX5_moveTurn_30 : decode cX5_moveTurn 30 = .ok (.getfield 53, 3) := by decide +kernel
theorem dX5_moveTurn_33 : decode cX5_moveTurn 33 = .ok (.iload 4, 2) := by decide +kernel
theorem dX5_moveTurn_35 : decode cX5_moveTurn 35 = .ok (.iaload, 1) := by decide +kernel
theorem dX5_moveTurn_36 : decode cX5_moveTurn 36 = .ok (.iload_n 2, 1) := by decide +kernel
theorem dX5_moveTurn_37 : decode cX5_moveTurn 37 = .ok (.if_icmp .gt 17, 3) := by decide +kernel
theorem dX5_moveTurn_40 : decode cX5_moveTurn 40 = .ok (.aload_n 0, 1) := by decide +kernel
theorem dX5_moveTurn_41 : decode cX5_moveTurn 41 = .ok (.getfield 53, 3) := by decide +kernel
theorem dX5_moveTurn_44 : decode cX5_moveTurn 44 = .ok (.iload 4, 2) := by decide +kernel
theorem dX5_moveTurn_46 : decode cX5_moveTurn 46 = .ok (.dup2, 1) := by decide +kernel
theorem dX5_moveTurn_47 : decode cX5_moveTurn 47 = .ok (.iaload, 1) := by decide +kernel
theorem dX5_moveTurn_48 : decode cX5_moveTurn 48 = .ok (.iconst 1, 1) := by decide +kernel
theorem dX5_moveTurn_49 : decode cX5_moveTurn 49 = .ok (.isub, 1) := by decide +kernel
theorem dX5_moveTurn_50 : decode cX5_moveTurn 50 = .ok (.iastore, 1) := by decide +kernel
theorem dX5_moveTurn_51 : decode cX5_moveTurn 51 = .ok (.goto 36, 3) := by decide +kernel
theorem dX5_moveTurn_54 : decode cX5_moveTurn 54 = .ok (.aload_n 0, 1) := by decide +kernel
theorem dX5_moveTurn_55 : decode cX5_moveTurn 55 = .ok (.getfield 53, 3) := by decide +kernel
theorem dX5_moveTurn_58 : decode cX5_moveTurn 58 = .ok (.iload 4, 2) := by decide +kernel
theorem dX5_moveTurn_60 : decode cX5_moveTurn 60 = .ok (.iaload, 1) := by decide +kernel
theorem dX5_moveTurn_61 : decode cX5_moveTurn 61 = .ok (.iload_n 3, 1) := by decide +kernel
theorem dX5_moveTurn_62 : decode cX5_moveTurn 62 = .ok (.if_icmp .ge 25, 3) := by decide +kernel
theorem dX5_moveTurn_65 : decode cX5_moveTurn 65 = .ok (.aload_n 0, 1) := by decide +kernel
theorem dX5_moveTurn_66 : decode cX5_moveTurn 66 = .ok (.getfield 53, 3) := by decide +kernel
theorem dX5_moveTurn_69 : decode cX5_moveTurn 69 = .ok (.iload 4, 2) := by decide +kernel
theorem dX5_moveTurn_71 : decode cX5_moveTurn 71 = .ok (.iaload, 1) := by decide +kernel
theorem dX5_moveTurn_72 : decode cX5_moveTurn 72 = .ok (.iload_n 2, 1) := by decide +kernel
theorem dX5_moveTurn_73 : decode cX5_moveTurn 73 = .ok (.if_icmp .lt 14, 3) := by decide +kernel
theorem dX5_moveTurn_76 : decode cX5_moveTurn 76 = .ok (.aload_n 0, 1) := by decide +kernel
theorem dX5_moveTurn_77 : decode cX5_moveTurn 77 = .ok (.getfield 53, 3) := by decide +kernel
theorem dX5_moveTurn_80 : decode cX5_moveTurn 80 = .ok (.iload 4, 2) := by decide +kernel
theorem dX5_moveTurn_82 : decode cX5_moveTurn 82 = .ok (.dup2, 1) := by decide +kernel
theorem dX5_moveTurn_83 : decode cX5_moveTurn 83 = .ok (.iaload, 1) := by decide +kernel
theorem dX5_moveTurn_84 : decode cX5_moveTurn 84 = .ok (.iconst 1, 1) := by decide +kernel
theorem dX5_moveTurn_85 : decode cX5_moveTurn 85 = .ok (.iadd, 1) := by decide +kernel
theorem dX5_moveTurn_86 : decode cX5_moveTurn 86 = .ok (.iastore, 1) := by decide +kernel
theorem dX5_moveTurn_87 : decode cX5_moveTurn 87 = .ok (.iinc 4 1, 3) := by decide +kernel
theorem dX5_moveTurn_90 : decode cX5_moveTurn 90 = .ok (.goto (-81), 3) := by decide +kernel
theorem dX5_moveTurn_93 : decode cX5_moveTurn 93 = .ok (.aload_n 0, 1) := by decide +kernel
theorem dX5_moveTurn_94 : decode cX5_moveTurn 94 = .ok (.iload_n 1, 1) := by decide +kernel
theorem dX5_moveTurn_95 : decode cX5_moveTurn 95 = .ok (.invokevirtual 68, 3) := by decide +kernel
theorem dX5_moveTurn_98 : decode cX5_moveTurn 98 = .ok (.ifCond .eq 10, 3) := by decide +kernel
theorem dX5_moveTurn_101 : decode cX5_moveTurn 101 = .ok (.aload_n 0, 1) := by decide +kernel
theorem dX5_moveTurn_102 : decode cX5_moveTurn 102 = .ok (.getfield 53, 3) := by decide +kernel
theorem dX5_moveTurn_105 : decode cX5_moveTurn 105 = .ok (.iload_n 1, 1) := by decide +kernel
theorem dX5_moveTurn_106 : decode cX5_moveTurn 106 = .ok (.iload_n 2, 1) := by decide +kernel
theorem dX5_moveTurn_107 : decode cX5_moveTurn 107 = .ok (.iastore, 1) := by decide +kernel
theorem dX5_moveTurn_108 : decode cX5_moveTurn 108 = .ok (.return_, 1) := by decide +kernel
theorem dX5_wishLast_0 : decode cX5_wishLast 0 = .ok (.aload_n 0, 1) := by decide +kernel
theorem dX5_wishLast_1 : decode cX5_wishLast 1 = .ok (.iload_n 1, 1) := by decide +kernel
theorem dX5_wishLast_2 : decode cX5_wishLast 2 = .ok (.invokevirtual 102, 3) := by decide +kernel
theorem dX5_wishLast_5 : decode cX5_wishLast 5 = .ok (.istore_n 3, 1) := by decide +kernel
theorem dX5_wishLast_6 : decode cX5_wishLast 6 = .ok (.aload_n 0, 1) := by decide +kernel
theorem dX5_wishLast_7 : decode cX5_wishLast 7 = .ok (.iload_n 1, 1) := by decide +kernel
theorem dX5_wishLast_8 : decode cX5_wishLast 8 = .ok (.invokevirtual 68, 3) := by decide +kernel
theorem dX5_wishLast_11 : decode cX5_wishLast 11 = .ok (.ifCond .eq 30, 3) := by decide +kernel
theorem dX5_wishLast_14 : decode cX5_wishLast 14 = .ok (.iload_n 3, 1) := by decide +kernel
theorem dX5_wishLast_15 : decode cX5_wishLast 15 = .ok (.bipush 8, 2) := by decide +kernel
theorem dX5_wishLast_17 : decode cX5_wishLast 17 = .ok (.if_icmp .ge 24, 3) := by decide +kernel
theorem dX5_wishLast_20 : decode cX5_wishLast 20 = .ok (.aload_n 0, 1) := by decide +kernel
theorem dX5_wishLast_21 : decode cX5_wishLast 21 = .ok (.getfield 59, 3) := by decide +kernel
theorem dX5_wishLast_24 : decode cX5_wishLast 24 = .ok (.iload_n 1, 1) := by decide +kernel
theorem dX5_wishLast_25 : decode cX5_wishLast 25 = .ok (.bipush 8, 2) := by decide +kernel
theorem dX5_wishLast_27 : decode cX5_wishLast 27 = .ok (.imul, 1) := by decide +kernel
theorem dX5_wishLast_28 : decode cX5_wishLast 28 = .ok (.iload_n 3, 1) := by decide +kernel
theorem dX5_wishLast_29 : decode cX5_wishLast 29 = .ok (.iadd, 1) := by decide +kernel
theorem dX5_wishLast_30 : decode cX5_wishLast 30 = .ok (.iload_n 2, 1) := by decide +kernel
theorem dX5_wishLast_31 : decode cX5_wishLast 31 = .ok (.iastore, 1) := by decide +kernel
theorem dX5_wishLast_32 : decode cX5_wishLast 32 = .ok (.aload_n 0, 1) := by decide +kernel
theorem dX5_wishLast_33 : decode cX5_wishLast 33 = .ok (.getfield 56, 3) := by decide +kernel
theorem dX5_wishLast_36 : decode cX5_wishLast 36 = .ok (.iload_n 1, 1) := by decide +kernel
theorem dX5_wishLast_37 : decode cX5_wishLast 37 = .ok (.iload_n 3, 1) := by decide +kernel
theorem dX5_wishLast_38 : decode cX5_wishLast 38 = .ok (.iconst 1, 1) := by decide +kernel
theorem dX5_wishLast_39 : decode cX5_wishLast 39 = .ok (.iadd, 1) := by decide +kernel
theorem dX5_wishLast_40 : decode cX5_wishLast 40 = .ok (.iastore, 1) := by decide +kernel
theorem dX5_wishLast_41 : decode cX5_wishLast 41 = .ok (.return_, 1) := by decide +kernel
theorem dX5_dropWish_0 : decode cX5_dropWish 0 = .ok (.aload_n 0, 1) := by decide +kernel
theorem dX5_dropWish_1 : decode cX5_dropWish 1 = .ok (.iload_n 1, 1) := by decide +kernel
theorem dX5_dropWish_2 : decode cX5_dropWish 2 = .ok (.iload_n 2, 1) := by decide +kernel
theorem dX5_dropWish_3 : decode cX5_dropWish 3 = .ok (.invokevirtual 79, 3) := by decide +kernel
theorem dX5_dropWish_6 : decode cX5_dropWish 6 = .ok (.istore_n 3, 1) := by decide +kernel
theorem dX5_dropWish_7 : decode cX5_dropWish 7 = .ok (.aload_n 0, 1) := by decide +kernel
theorem dX5_dropWish_8 : decode cX5_dropWish 8 = .ok (.iload_n 1, 1) := by decide +kernel
theorem dX5_dropWish_9 : decode cX5_dropWish 9 = .ok (.invokevirtual 68, 3) := by decide +kernel
theorem dX5_dropWish_12 : decode cX5_dropWish 12 = .ok (.ifCond .eq 8, 3) := by decide +kernel
theorem dX5_dropWish_15 : decode cX5_dropWish 15 = .ok (.iload_n 3, 1) := by decide +kernel
theorem dX5_dropWish_16 : decode cX5_dropWish 16 = .ok (.iconst (-1), 1) := by decide +kernel
theorem dX5_dropWish_17 : decode cX5_dropWish 17 = .ok (.if_icmp .ne 4, 3) := by decide +kernel
theorem dX5_dropWish_20 : decode cX5_dropWish 20 = .ok (.return_, 1) := by decide +kernel
theorem dX5_dropWish_21 : decode cX5_dropWish 21 = .ok (.aload_n 0, 1) := by decide +kernel
theorem dX5_dropWish_22 : decode cX5_dropWish 22 = .ok (.getfield 56, 3) := by decide +kernel
theorem dX5_dropWish_25 : decode cX5_dropWish 25 = .ok (.iload_n 1, 1) := by decide +kernel
theorem dX5_dropWish_26 : decode cX5_dropWish 26 = .ok (.iaload, 1) := by decide +kernel
theorem dX5_dropWish_27 : decode cX5_dropWish 27 = .ok (.iconst 1, 1) := by decide +kernel
theorem dX5_dropWish_28 : decode cX5_dropWish 28 = .ok (.isub, 1) := by decide +kernel
theorem dX5_dropWish_29 : decode cX5_dropWish 29 = .ok (.istore 4, 2) := by decide +kernel
theorem dX5_dropWish_31 : decode cX5_dropWish 31 = .ok (.iload_n 3, 1) := by decide +kernel
theorem dX5_dropWish_32 : decode cX5_dropWish 32 = .ok (.istore 5, 2) := by decide +kernel
theorem dX5_dropWish_34 : decode cX5_dropWish 34 = .ok (.iload 5, 2) := by decide +kernel
theorem dX5_dropWish_36 : decode cX5_dropWish 36 = .ok (.iload 4, 2) := by decide +kernel
theorem dX5_dropWish_38 : decode cX5_dropWish 38 = .ok (.if_icmp .ge 34, 3) := by decide +kernel
theorem dX5_dropWish_41 : decode cX5_dropWish 41 = .ok (.iload_n 1, 1) := by decide +kernel
theorem dX5_dropWish_42 : decode cX5_dropWish 42 = .ok (.bipush 8, 2) := by decide +kernel
theorem dX5_dropWish_44 : decode cX5_dropWish 44 = .ok (.imul, 1) := by decide +kernel
theorem dX5_dropWish_45 : decode cX5_dropWish 45 = .ok (.iload 5, 2) := by decide +kernel
theorem dX5_dropWish_47 : decode cX5_dropWish 47 = .ok (.iadd, 1) := by decide +kernel
theorem dX5_dropWish_48 : decode cX5_dropWish 48 = .ok (.istore 6, 2) := by decide +kernel
theorem dX5_dropWish_50 : decode cX5_dropWish 50 = .ok (.aload_n 0, 1) := by decide +kernel
theorem dX5_dropWish_51 : decode cX5_dropWish 51 = .ok (.getfield 59, 3) := by decide +kernel
theorem dX5_dropWish_54 : decode cX5_dropWish 54 = .ok (.iload 6, 2) := by decide +kernel
theorem dX5_dropWish_56 : decode cX5_dropWish 56 = .ok (.aload_n 0, 1) := by decide +kernel
theorem dX5_dropWish_57 : decode cX5_dropWish 57 = .ok (.getfield 59, 3) := by decide +kernel
theorem dX5_dropWish_60 : decode cX5_dropWish 60 = .ok (.iload 6, 2) := by decide +kernel
theorem dX5_dropWish_62 : decode cX5_dropWish 62 = .ok (.iconst 1, 1) := by decide +kernel
theorem dX5_dropWish_63 : decode cX5_dropWish 63 = .ok (.iadd, 1) := by decide +kernel
theorem dX5_dropWish_64 : decode cX5_dropWish 64 = .ok (.iaload, 1) := by decide +kernel
theorem dX5_dropWish_65 : decode cX5_dropWish 65 = .ok (.iastore, 1) := by decide +kernel
theorem dX5_dropWish_66 : decode cX5_dropWish 66 = .ok (.iinc 5 1, 3) := by decide +kernel
theorem dX5_dropWish_69 : decode cX5_dropWish 69 = .ok (.goto (-35), 3) := by decide +kernel
theorem dX5_dropWish_72 : decode cX5_dropWish 72 = .ok (.aload_n 0, 1) := by decide +kernel
theorem dX5_dropWish_73 : decode cX5_dropWish 73 = .ok (.getfield 56, 3) := by decide +kernel
theorem dX5_dropWish_76 : decode cX5_dropWish 76 = .ok (.iload_n 1, 1) := by decide +kernel
theorem dX5_dropWish_77 : decode cX5_dropWish 77 = .ok (.iload 4, 2) := by decide +kernel
theorem dX5_dropWish_79 : decode cX5_dropWish 79 = .ok (.iastore, 1) := by decide +kernel
theorem dX5_dropWish_80 : decode cX5_dropWish 80 = .ok (.return_, 1) := by decide +kernel
theorem dX5_wishFirst_0 : decode cX5_wishFirst 0 = .ok (.aload_n 0, 1) := by decide +kernel
theorem dX5_wishFirst_1 : decode cX5_wishFirst 1 = .ok (.iload_n 1, 1) := by decide +kernel
theorem dX5_wishFirst_2 : decode cX5_wishFirst 2 = .ok (.iload_n 2, 1) := by decide +kernel
theorem dX5_wishFirst_3 : decode cX5_wishFirst 3 = .ok (.invokevirtual 105, 3) := by decide +kernel
theorem dX5_wishFirst_6 : decode cX5_wishFirst 6 = .ok (.aload_n 0, 1) := by decide +kernel
theorem dX5_wishFirst_7 : decode cX5_wishFirst 7 = .ok (.iload_n 1, 1) := by decide +kernel
theorem dX5_wishFirst_8 : decode cX5_wishFirst 8 = .ok (.invokevirtual 102, 3) := by decide +kernel
theorem dX5_wishFirst_11 : decode cX5_wishFirst 11 = .ok (.istore_n 3, 1) := by decide +kernel
theorem dX5_wishFirst_12 : decode cX5_wishFirst 12 = .ok (.aload_n 0, 1) := by decide +kernel
theorem dX5_wishFirst_13 : decode cX5_wishFirst 13 = .ok (.iload_n 1, 1) := by decide +kernel
theorem dX5_wishFirst_14 : decode cX5_wishFirst 14 = .ok (.invokevirtual 68, 3) := by decide +kernel
theorem dX5_wishFirst_17 : decode cX5_wishFirst 17 = .ok (.ifCond .eq 9, 3) := by decide +kernel
theorem dX5_wishFirst_20 : decode cX5_wishFirst 20 = .ok (.iload_n 3, 1) := by decide +kernel
theorem dX5_wishFirst_21 : decode cX5_wishFirst 21 = .ok (.bipush 8, 2) := by decide +kernel
theorem dX5_wishFirst_23 : decode cX5_wishFirst 23 = .ok (.if_icmp .lt 4, 3) := by decide +kernel
theorem dX5_wishFirst_26 : decode cX5_wishFirst 26 = .ok (.return_, 1) := by decide +kernel
theorem dX5_wishFirst_27 : decode cX5_wishFirst 27 = .ok (.iload_n 3, 1) := by decide +kernel
theorem dX5_wishFirst_28 : decode cX5_wishFirst 28 = .ok (.istore 4, 2) := by decide +kernel
theorem dX5_wishFirst_30 : decode cX5_wishFirst 30 = .ok (.iload 4, 2) := by decide +kernel
theorem dX5_wishFirst_32 : decode cX5_wishFirst 32 = .ok (.ifCond .le 34, 3) := by decide +kernel
theorem dX5_wishFirst_35 : decode cX5_wishFirst 35 = .ok (.iload_n 1, 1) := by decide +kernel
theorem dX5_wishFirst_36 : decode cX5_wishFirst 36 = .ok (.bipush 8, 2) := by decide +kernel
theorem dX5_wishFirst_38 : decode cX5_wishFirst 38 = .ok (.imul, 1) := by decide +kernel
theorem dX5_wishFirst_39 : decode cX5_wishFirst 39 = .ok (.iload 4, 2) := by decide +kernel
theorem dX5_wishFirst_41 : decode cX5_wishFirst 41 = .ok (.iadd, 1) := by decide +kernel
theorem dX5_wishFirst_42 : decode cX5_wishFirst 42 = .ok (.istore 5, 2) := by decide +kernel
theorem dX5_wishFirst_44 : decode cX5_wishFirst 44 = .ok (.aload_n 0, 1) := by decide +kernel
theorem dX5_wishFirst_45 : decode cX5_wishFirst 45 = .ok (.getfield 59, 3) := by decide +kernel
theorem dX5_wishFirst_48 : decode cX5_wishFirst 48 = .ok (.iload 5, 2) := by decide +kernel
theorem dX5_wishFirst_50 : decode cX5_wishFirst 50 = .ok (.aload_n 0, 1) := by decide +kernel
theorem dX5_wishFirst_51 : decode cX5_wishFirst 51 = .ok (.getfield 59, 3) := by decide +kernel
theorem dX5_wishFirst_54 : decode cX5_wishFirst 54 = .ok (.iload 5, 2) := by decide +kernel
theorem dX5_wishFirst_56 : decode cX5_wishFirst 56 = .ok (.iconst 1, 1) := by decide +kernel
theorem dX5_wishFirst_57 : decode cX5_wishFirst 57 = .ok (.isub, 1) := by decide +kernel
theorem dX5_wishFirst_58 : decode cX5_wishFirst 58 = .ok (.iaload, 1) := by decide +kernel
theorem dX5_wishFirst_59 : decode cX5_wishFirst 59 = .ok (.iastore, 1) := by decide +kernel
theorem dX5_wishFirst_60 : decode cX5_wishFirst 60 = .ok (.iinc 4 (-1), 3) := by decide +kernel
theorem dX5_wishFirst_63 : decode cX5_wishFirst 63 = .ok (.goto (-33), 3) := by decide +kernel
theorem dX5_wishFirst_66 : decode cX5_wishFirst 66 = .ok (.aload_n 0, 1) := by decide +kernel
theorem dX5_wishFirst_67 : decode cX5_wishFirst 67 = .ok (.getfield 59, 3) := by decide +kernel
theorem dX5_wishFirst_70 : decode cX5_wishFirst 70 = .ok (.iload_n 1, 1) := by decide +kernel
theorem dX5_wishFirst_71 : decode cX5_wishFirst 71 = .ok (.bipush 8, 2) := by decide +kernel
theorem dX5_wishFirst_73 : decode cX5_wishFirst 73 = .ok (.imul, 1) := by decide +kernel
theorem dX5_wishFirst_74 : decode cX5_wishFirst 74 = .ok (.iload_n 2, 1) := by decide +kernel
theorem dX5_wishFirst_75 : decode cX5_wishFirst 75 = .ok (.iastore, 1) := by decide +kernel
theorem dX5_wishFirst_76 : decode cX5_wishFirst 76 = .ok (.aload_n 0, 1) := by decide +kernel
theorem dX5_wishFirst_77 : decode cX5_wishFirst 77 = .ok (.getfield 56, 3) := by decide +kernel
theorem dX5_wishFirst_80 : decode cX5_wishFirst 80 = .ok (.iload_n 1, 1) := by decide +kernel
theorem dX5_wishFirst_81 : decode cX5_wishFirst 81 = .ok (.iload_n 3, 1) := by decide +kernel
theorem dX5_wishFirst_82 : decode cX5_wishFirst 82 = .ok (.iconst 1, 1) := by decide +kernel
theorem dX5_wishFirst_83 : decode cX5_wishFirst 83 = .ok (.iadd, 1) := by decide +kernel
theorem dX5_wishFirst_84 : decode cX5_wishFirst 84 = .ok (.iastore, 1) := by decide +kernel
theorem dX5_wishFirst_85 : decode cX5_wishFirst 85 = .ok (.return_, 1) := by decide +kernel
theorem dX5_price_0 : decode cX5_price 0 = .ok (.aload_n 0, 1) := by decide +kernel
theorem dX5_price_1 : decode cX5_price 1 = .ok (.iload_n 1, 1) := by decide +kernel
theorem dX5_price_2 : decode cX5_price 2 = .ok (.invokevirtual 72, 3) := by decide +kernel
theorem dX5_price_5 : decode cX5_price 5 = .ok (.ifCond .eq 10, 3) := by decide +kernel
theorem dX5_price_8 : decode cX5_price 8 = .ok (.aload_n 0, 1) := by decide +kernel
theorem dX5_price_9 : decode cX5_price 9 = .ok (.getfield 65, 3) := by decide +kernel
theorem dX5_price_12 : decode cX5_price 12 = .ok (.iload_n 1, 1) := by decide +kernel
theorem dX5_price_13 : decode cX5_price 13 = .ok (.iload_n 2, 1) := by decide +kernel
theorem dX5_price_14 : decode cX5_price 14 = .ok (.iastore, 1) := by decide +kernel
theorem dX5_price_15 : decode cX5_price 15 = .ok (.return_, 1) := by decide +kernel
theorem dX5_receive_0 : decode cX5_receive 0 = .ok (.aload_n 0, 1) := by decide +kernel
theorem dX5_receive_1 : decode cX5_receive 1 = .ok (.iload_n 1, 1) := by decide +kernel
theorem dX5_receive_2 : decode cX5_receive 2 = .ok (.invokevirtual 68, 3) := by decide +kernel
theorem dX5_receive_5 : decode cX5_receive 5 = .ok (.ifCond .eq 23, 3) := by decide +kernel
theorem dX5_receive_8 : decode cX5_receive 8 = .ok (.aload_n 0, 1) := by decide +kernel
theorem dX5_receive_9 : decode cX5_receive 9 = .ok (.getfield 43, 3) := by decide +kernel
theorem dX5_receive_12 : decode cX5_receive 12 = .ok (.iload_n 1, 1) := by decide +kernel
theorem dX5_receive_13 : decode cX5_receive 13 = .ok (.dup2, 1) := by decide +kernel
theorem dX5_receive_14 : decode cX5_receive 14 = .ok (.iaload, 1) := by decide +kernel
theorem dX5_receive_15 : decode cX5_receive 15 = .ok (.iload_n 2, 1) := by decide +kernel
theorem dX5_receive_16 : decode cX5_receive 16 = .ok (.iadd, 1) := by decide +kernel
theorem dX5_receive_17 : decode cX5_receive 17 = .ok (.iastore, 1) := by decide +kernel
theorem dX5_receive_18 : decode cX5_receive 18 = .ok (.aload_n 0, 1) := by decide +kernel
theorem dX5_receive_19 : decode cX5_receive 19 = .ok (.dup, 1) := by decide +kernel
theorem dX5_receive_20 : decode cX5_receive 20 = .ok (.getfield 36, 3) := by decide +kernel
theorem dX5_receive_23 : decode cX5_receive 23 = .ok (.iload_n 2, 1) := by decide +kernel
theorem dX5_receive_24 : decode cX5_receive 24 = .ok (.iadd, 1) := by decide +kernel
theorem dX5_receive_25 : decode cX5_receive 25 = .ok (.putfield 36, 3) := by decide +kernel
theorem dX5_receive_28 : decode cX5_receive 28 = .ok (.return_, 1) := by decide +kernel
theorem dX5_mayPass_0 : decode cX5_mayPass 0 = .ok (.iload_n 1, 1) := by decide +kernel
theorem dX5_mayPass_1 : decode cX5_mayPass 1 = .ok (.sipush 9999, 3) := by decide +kernel
theorem dX5_mayPass_4 : decode cX5_mayPass 4 = .ok (.aload_n 0, 1) := by decide +kernel
theorem dX5_mayPass_5 : decode cX5_mayPass 5 = .ok (.getfield 18, 3) := by decide +kernel
theorem dX5_mayPass_8 : decode cX5_mayPass 8 = .ok (.isub, 1) := by decide +kernel
theorem dX5_mayPass_9 : decode cX5_mayPass 9 = .ok (.if_icmp .gt 7, 3) := by decide +kernel
theorem dX5_mayPass_12 : decode cX5_mayPass 12 = .ok (.iconst 1, 1) := by decide +kernel
theorem dX5_mayPass_13 : decode cX5_mayPass 13 = .ok (.goto 4, 3) := by decide +kernel
theorem dX5_mayPass_16 : decode cX5_mayPass 16 = .ok (.iconst 0, 1) := by decide +kernel
theorem dX5_mayPass_17 : decode cX5_mayPass 17 = .ok (.ireturn, 1) := by decide +kernel
theorem dX5_pass_0 : decode cX5_pass 0 = .ok (.iconst 0, 1) := by decide +kernel
theorem dX5_pass_1 : decode cX5_pass 1 = .ok (.istore_n 2, 1) := by decide +kernel
theorem dX5_pass_2 : decode cX5_pass 2 = .ok (.iload_n 2, 1) := by decide +kernel
theorem dX5_pass_3 : decode cX5_pass 3 = .ok (.iload_n 1, 1) := by decide +kernel
theorem dX5_pass_4 : decode cX5_pass 4 = .ok (.if_icmp .ge 67, 3) := by decide +kernel
theorem dX5_pass_7 : decode cX5_pass 7 = .ok (.aload_n 0, 1) := by decide +kernel
theorem dX5_pass_8 : decode cX5_pass 8 = .ok (.dup, 1) := by decide +kernel
theorem dX5_pass_9 : decode cX5_pass 9 = .ok (.getfield 18, 3) := by decide +kernel
theorem dX5_pass_12 : decode cX5_pass 12 = .ok (.iconst 1, 1) := by decide +kernel
theorem dX5_pass_13 : decode cX5_pass 13 = .ok (.iadd, 1) := by decide +kernel
theorem dX5_pass_14 : decode cX5_pass 14 = .ok (.putfield 18, 3) := by decide +kernel
theorem dX5_pass_17 : decode cX5_pass 17 = .ok (.iconst 0, 1) := by decide +kernel
theorem dX5_pass_18 : decode cX5_pass 18 = .ok (.istore_n 3, 1) := by decide +kernel
theorem dX5_pass_19 : decode cX5_pass 19 = .ok (.iload_n 3, 1) := by decide +kernel
theorem dX5_pass_20 : decode cX5_pass 20 = .ok (.aload_n 0, 1) := by decide +kernel
theorem dX5_pass_21 : decode cX5_pass 21 = .ok (.getfield 9, 3) := by decide +kernel
theorem dX5_pass_24 : decode cX5_pass 24 = .ok (.if_icmp .ge 20, 3) := by decide +kernel
theorem dX5_pass_27 : decode cX5_pass 27 = .ok (.aload_n 0, 1) := by decide +kernel
theorem dX5_pass_28 : decode cX5_pass 28 = .ok (.iload_n 3, 1) := by decide +kernel
theorem dX5_pass_29 : decode cX5_pass 29 = .ok (.aload_n 0, 1) := by decide +kernel
theorem dX5_pass_30 : decode cX5_pass 30 = .ok (.getfield 47, 3) := by decide +kernel
theorem dX5_pass_33 : decode cX5_pass 33 = .ok (.iload_n 3, 1) := by decide +kernel
theorem dX5_pass_34 : decode cX5_pass 34 = .ok (.iaload, 1) := by decide +kernel
theorem dX5_pass_35 : decode cX5_pass 35 = .ok (.invokevirtual 108, 3) := by decide +kernel
theorem dX5_pass_38 : decode cX5_pass 38 = .ok (.iinc 3 1, 3) := by decide +kernel
theorem dX5_pass_41 : decode cX5_pass 41 = .ok (.goto (-22), 3) := by decide +kernel
theorem dX5_pass_44 : decode cX5_pass 44 = .ok (.iconst 0, 1) := by decide +kernel
theorem dX5_pass_45 : decode cX5_pass 45 = .ok (.istore_n 3, 1) := by decide +kernel
theorem dX5_pass_46 : decode cX5_pass 46 = .ok (.iload_n 3, 1) := by decide +kernel
theorem dX5_pass_47 : decode cX5_pass 47 = .ok (.aload_n 0, 1) := by decide +kernel
theorem dX5_pass_48 : decode cX5_pass 48 = .ok (.getfield 9, 3) := by decide +kernel
theorem dX5_pass_51 : decode cX5_pass 51 = .ok (.if_icmp .ge 14, 3) := by decide +kernel
theorem dX5_pass_54 : decode cX5_pass 54 = .ok (.aload_n 0, 1) := by decide +kernel
theorem dX5_pass_55 : decode cX5_pass 55 = .ok (.iload_n 3, 1) := by decide +kernel
theorem dX5_pass_56 : decode cX5_pass 56 = .ok (.invokevirtual 111, 3) := by decide +kernel
theorem dX5_pass_59 : decode cX5_pass 59 = .ok (.iinc 3 1, 3) := by decide +kernel
theorem dX5_pass_62 : decode cX5_pass 62 = .ok (.goto (-16), 3) := by decide +kernel
theorem dX5_pass_65 : decode cX5_pass 65 = .ok (.iinc 2 1, 3) := by decide +kernel
theorem dX5_pass_68 : decode cX5_pass 68 = .ok (.goto (-66), 3) := by decide +kernel
theorem dX5_pass_71 : decode cX5_pass 71 = .ok (.return_, 1) := by decide +kernel
theorem dX5_chargeOrEvict_0 : decode cX5_chargeOrEvict 0 = .ok (.aload_n 0, 1) := by decide +kernel
theorem dX5_chargeOrEvict_1 : decode cX5_chargeOrEvict 1 = .ok (.iload_n 1, 1) := by decide +kernel
theorem dX5_chargeOrEvict_2 : decode cX5_chargeOrEvict 2 = .ok (.invokevirtual 92, 3) := by decide +kernel
theorem dX5_chargeOrEvict_5 : decode cX5_chargeOrEvict 5 = .ok (.istore_n 2, 1) := by decide +kernel
theorem dX5_chargeOrEvict_6 : decode cX5_chargeOrEvict 6 = .ok (.aload_n 0, 1) := by decide +kernel
