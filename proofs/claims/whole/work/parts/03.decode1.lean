theorem dX1_init_0 : decode cX1_init 0 = .ok (.aload_n 0, 1) := by decide +kernel
theorem dX1_init_1 : decode cX1_init 1 = .ok (.invokespecial 3, 3) := by decide +kernel
theorem dX1_init_4 : decode cX1_init 4 = .ok (.aload_n 0, 1) := by decide +kernel
theorem dX1_init_5 : decode cX1_init 5 = .ok (.bipush 8, 2) := by decide +kernel
theorem dX1_init_7 : decode cX1_init 7 = .ok (.newarray .int, 2) := by decide +kernel
theorem dX1_init_9 : decode cX1_init 9 = .ok (.putfield 9, 3) := by decide +kernel
theorem dX1_init_12 : decode cX1_init 12 = .ok (.aload_n 0, 1) := by decide +kernel
theorem dX1_init_13 : decode cX1_init 13 = .ok (.bipush 8, 2) := by decide +kernel
theorem dX1_init_15 : decode cX1_init 15 = .ok (.newarray .boolean, 2) := by decide +kernel
theorem dX1_init_17 : decode cX1_init 17 = .ok (.putfield 15, 3) := by decide +kernel
theorem dX1_init_20 : decode cX1_init 20 = .ok (.aload_n 0, 1) := by decide +kernel
theorem dX1_init_21 : decode cX1_init 21 = .ok (.bipush 8, 2) := by decide +kernel
theorem dX1_init_23 : decode cX1_init 23 = .ok (.newarray .boolean, 2) := by decide +kernel
theorem dX1_init_25 : decode cX1_init 25 = .ok (.putfield 19, 3) := by decide +kernel
theorem dX1_init_28 : decode cX1_init 28 = .ok (.aload_n 0, 1) := by decide +kernel
theorem dX1_init_29 : decode cX1_init 29 = .ok (.bipush 8, 2) := by decide +kernel
theorem dX1_init_31 : decode cX1_init 31 = .ok (.newarray .int, 2) := by decide +kernel
theorem dX1_init_33 : decode cX1_init 33 = .ok (.putfield 22, 3) := by decide +kernel
theorem dX1_init_36 : decode cX1_init 36 = .ok (.aload_n 0, 1) := by decide +kernel
theorem dX1_init_37 : decode cX1_init 37 = .ok (.iconst 0, 1) := by decide +kernel
theorem dX1_init_38 : decode cX1_init 38 = .ok (.putfield 25, 3) := by decide +kernel
theorem dX1_init_41 : decode cX1_init 41 = .ok (.return_, 1) := by decide +kernel
theorem dX1_decide_0 : decode cX1_decide 0 = .ok (.aload_n 0, 1) := by decide +kernel
theorem dX1_decide_1 : decode cX1_decide 1 = .ok (.iconst 0, 1) := by decide +kernel
theorem dX1_decide_2 : decode cX1_decide 2 = .ok (.putfield 25, 3) := by decide +kernel
theorem dX1_decide_5 : decode cX1_decide 5 = .ok (.iconst 0, 1) := by decide +kernel
theorem dX1_decide_6 : decode cX1_decide 6 = .ok (.istore_n 2, 1) := by decide +kernel
theorem dX1_decide_7 : decode cX1_decide 7 = .ok (.iload_n 2, 1) := by decide +kernel
theorem dX1_decide_8 : decode cX1_decide 8 = .ok (.bipush 8, 2) := by decide +kernel
theorem dX1_decide_10 : decode cX1_decide 10 = .ok (.if_icmp .ge 23, 3) := by decide +kernel
theorem dX1_decide_13 : decode cX1_decide 13 = .ok (.aload_n 0, 1) := by decide +kernel
theorem dX1_decide_14 : decode cX1_decide 14 = .ok (.getfield 9, 3) := by decide +kernel
theorem dX1_decide_17 : decode cX1_decide 17 = .ok (.iload_n 2, 1) := by decide +kernel
theorem dX1_decide_18 : decode cX1_decide 18 = .ok (.iconst (-1), 1) := by decide +kernel
theorem dX1_decide_19 : decode cX1_decide 19 = .ok (.iastore, 1) := by decide +kernel
theorem dX1_decide_20 : decode cX1_decide 20 = .ok (.aload_n 0, 1) := by decide +kernel
theorem dX1_decide_21 : decode cX1_decide 21 = .ok (.getfield 15, 3) := by decide +kernel
theorem dX1_decide_24 : decode cX1_decide 24 = .ok (.iload_n 2, 1) := by decide +kernel
theorem dX1_decide_25 : decode cX1_decide 25 = .ok (.iconst 0, 1) := by decide +kernel
theorem dX1_decide_26 : decode cX1_decide 26 = .ok (.bastore, 1) := by decide +kernel
theorem dX1_decide_27 : decode cX1_decide 27 = .ok (.iinc 2 1, 3) := by decide +kernel
theorem dX1_decide_30 : decode cX1_decide 30 = .ok (.goto (-23), 3) := by decide +kernel
theorem dX1_decide_33 : decode cX1_decide 33 = .ok (.iconst 0, 1) := by decide +kernel
theorem dX1_decide_34 : decode cX1_decide 34 = .ok (.istore_n 2, 1) := by decide +kernel
theorem dX1_decide_35 : decode cX1_decide 35 = .ok (.iload_n 2, 1) := by decide +kernel
theorem dX1_decide_36 : decode cX1_decide 36 = .ok (.bipush 8, 2) := by decide +kernel
theorem dX1_decide_38 : decode cX1_decide 38 = .ok (.if_icmp .ge 16, 3) := by decide +kernel
theorem dX1_decide_41 : decode cX1_decide 41 = .ok (.aload_n 0, 1) := by decide +kernel
theorem dX1_decide_42 : decode cX1_decide 42 = .ok (.getfield 19, 3) := by decide +kernel
theorem dX1_decide_45 : decode cX1_decide 45 = .ok (.iload_n 2, 1) := by decide +kernel
theorem dX1_decide_46 : decode cX1_decide 46 = .ok (.iconst 0, 1) := by decide +kernel
theorem dX1_decide_47 : decode cX1_decide 47 = .ok (.bastore, 1) := by decide +kernel
theorem dX1_decide_48 : decode cX1_decide 48 = .ok (.iinc 2 1, 3) := by decide +kernel
theorem dX1_decide_51 : decode cX1_decide 51 = .ok (.goto (-16), 3) := by decide +kernel
theorem dX1_decide_54 : decode cX1_decide 54 = .ok (.iconst 0, 1) := by decide +kernel
theorem dX1_decide_55 : decode cX1_decide 55 = .ok (.istore_n 2, 1) := by decide +kernel
theorem dX1_decide_56 : decode cX1_decide 56 = .ok (.iload_n 2, 1) := by decide +kernel
theorem dX1_decide_57 : decode cX1_decide 57 = .ok (.bipush 16, 2) := by decide +kernel
theorem dX1_decide_59 : decode cX1_decide 59 = .ok (.if_icmp .ge 48, 3) := by decide +kernel
theorem dX1_decide_62 : decode cX1_decide 62 = .ok (.aload_n 0, 1) := by decide +kernel
theorem dX1_decide_63 : decode cX1_decide 63 = .ok (.getfield 25, 3) := by decide +kernel
theorem dX1_decide_66 : decode cX1_decide 66 = .ok (.ifCond .ne 12, 3) := by decide +kernel
theorem dX1_decide_69 : decode cX1_decide 69 = .ok (.aload_n 0, 1) := by decide +kernel
theorem dX1_decide_70 : decode cX1_decide 70 = .ok (.aload_n 0, 1) := by decide +kernel
theorem dX1_decide_71 : decode cX1_decide 71 = .ok (.aload_n 1, 1) := by decide +kernel
theorem dX1_decide_72 : decode cX1_decide 72 = .ok (.invokevirtual 29, 3) := by decide +kernel
theorem dX1_decide_75 : decode cX1_decide 75 = .ok (.invokevirtual 33, 3) := by decide +kernel
theorem dX1_decide_78 : decode cX1_decide 78 = .ok (.aload_n 0, 1) := by decide +kernel
theorem dX1_decide_79 : decode cX1_decide 79 = .ok (.getfield 25, 3) := by decide +kernel
theorem dX1_decide_82 : decode cX1_decide 82 = .ok (.ifCond .le 19, 3) := by decide +kernel
theorem dX1_decide_85 : decode cX1_decide 85 = .ok (.aload_n 0, 1) := by decide +kernel
theorem dX1_decide_86 : decode cX1_decide 86 = .ok (.aload_n 1, 1) := by decide +kernel
theorem dX1_decide_87 : decode cX1_decide 87 = .ok (.aload_n 0, 1) := by decide +kernel
theorem dX1_decide_88 : decode cX1_decide 88 = .ok (.getfield 22, 3) := by decide +kernel
theorem dX1_decide_91 : decode cX1_decide 91 = .ok (.aload_n 0, 1) := by decide +kernel
theorem dX1_decide_92 : decode cX1_decide 92 = .ok (.getfield 25, 3) := by decide +kernel
theorem dX1_decide_95 : decode cX1_decide 95 = .ok (.iconst 1, 1) := by decide +kernel
theorem dX1_decide_96 : decode cX1_decide 96 = .ok (.isub, 1) := by decide +kernel
theorem dX1_decide_97 : decode cX1_decide 97 = .ok (.iaload, 1) := by decide +kernel
theorem dX1_decide_98 : decode cX1_decide 98 = .ok (.invokevirtual 37, 3) := by decide +kernel
theorem dX1_decide_101 : decode cX1_decide 101 = .ok (.iinc 2 1, 3) := by decide +kernel
theorem dX1_decide_104 : decode cX1_decide 104 = .ok (.goto (-48), 3) := by decide +kernel
theorem dX1_decide_107 : decode cX1_decide 107 = .ok (.return_, 1) := by decide +kernel
theorem dX1_nextInTurn_0 : decode cX1_nextInTurn 0 = .ok (.iconst (-1), 1) := by decide +kernel
theorem dX1_nextInTurn_1 : decode cX1_nextInTurn 1 = .ok (.istore_n 2, 1) := by decide +kernel
theorem dX1_nextInTurn_2 : decode cX1_nextInTurn 2 = .ok (.iconst 0, 1) := by decide +kernel
theorem dX1_nextInTurn_3 : decode cX1_nextInTurn 3 = .ok (.istore_n 3, 1) := by decide +kernel
theorem dX1_nextInTurn_4 : decode cX1_nextInTurn 4 = .ok (.iload_n 3, 1) := by decide +kernel
theorem dX1_nextInTurn_5 : decode cX1_nextInTurn 5 = .ok (.aload_n 1, 1) := by decide +kernel
theorem dX1_nextInTurn_6 : decode cX1_nextInTurn 6 = .ok (.getfield 41, 3) := by decide +kernel
theorem dX1_nextInTurn_9 : decode cX1_nextInTurn 9 = .ok (.if_icmp .ge 38, 3) := by decide +kernel
theorem dX1_nextInTurn_12 : decode cX1_nextInTurn 12 = .ok (.aload_n 0, 1) := by decide +kernel
theorem dX1_nextInTurn_13 : decode cX1_nextInTurn 13 = .ok (.getfield 15, 3) := by decide +kernel
theorem dX1_nextInTurn_16 : decode cX1_nextInTurn 16 = .ok (.iload_n 3, 1) := by decide +kernel
theorem dX1_nextInTurn_17 : decode cX1_nextInTurn 17 = .ok (.baload, 1) := by decide +kernel
theorem dX1_nextInTurn_18 : decode cX1_nextInTurn 18 = .ok (.ifCond .ne 23, 3) := by decide +kernel
theorem dX1_nextInTurn_21 : decode cX1_nextInTurn 21 = .ok (.iload_n 2, 1) := by decide +kernel
theorem dX1_nextInTurn_22 : decode cX1_nextInTurn 22 = .ok (.iconst (-1), 1) := by decide +kernel
theorem dX1_nextInTurn_23 : decode cX1_nextInTurn 23 = .ok (.if_icmp .eq 16, 3) := by decide +kernel
theorem dX1_nextInTurn_26 : decode cX1_nextInTurn 26 = .ok (.aload_n 1, 1) := by decide +kernel
theorem dX1_nextInTurn_27 : decode cX1_nextInTurn 27 = .ok (.iload_n 3, 1) := by decide +kernel
theorem dX1_nextInTurn_28 : decode cX1_nextInTurn 28 = .ok (.invokevirtual 46, 3) := by decide +kernel
theorem dX1_nextInTurn_31 : decode cX1_nextInTurn 31 = .ok (.aload_n 1, 1) := by decide +kernel
theorem dX1_nextInTurn_32 : decode cX1_nextInTurn 32 = .ok (.iload_n 2, 1) := by decide +kernel
theorem dX1_nextInTurn_33 : decode cX1_nextInTurn 33 = .ok (.invokevirtual 46, 3) := by decide +kernel
theorem dX1_nextInTurn_36 : decode cX1_nextInTurn 36 = .ok (.if_icmp .ge 5, 3) := by decide +kernel
theorem dX1_nextInTurn_39 : decode cX1_nextInTurn 39 = .ok (.iload_n 3, 1) := by decide +kernel
theorem dX1_nextInTurn_40 : decode cX1_nextInTurn 40 = .ok (.istore_n 2, 1) := by decide +kernel
theorem dX1_nextInTurn_41 : decode cX1_nextInTurn 41 = .ok (.iinc 3 1, 3) := by decide +kernel
theorem dX1_nextInTurn_44 : decode cX1_nextInTurn 44 = .ok (.goto (-40), 3) := by decide +kernel
theorem dX1_nextInTurn_47 : decode cX1_nextInTurn 47 = .ok (.iload_n 2, 1) := by decide +kernel
theorem dX1_nextInTurn_48 : decode cX1_nextInTurn 48 = .ok (.ireturn, 1) := by decide +kernel
theorem dX1_append_0 : decode cX1_append 0 = .ok (.iload_n 1, 1) := by decide +kernel
theorem dX1_append_1 : decode cX1_append 1 = .ok (.iconst (-1), 1) := by decide +kernel
theorem dX1_append_2 : decode cX1_append 2 = .ok (.if_icmp .eq 32, 3) := by decide +kernel
theorem dX1_append_5 : decode cX1_append 5 = .ok (.aload_n 0, 1) := by decide +kernel
theorem dX1_append_6 : decode cX1_append 6 = .ok (.getfield 25, 3) := by decide +kernel
theorem dX1_append_9 : decode cX1_append 9 = .ok (.bipush 8, 2) := by decide +kernel
theorem dX1_append_11 : decode cX1_append 11 = .ok (.if_icmp .ge 23, 3) := by decide +kernel
theorem dX1_append_14 : decode cX1_append 14 = .ok (.aload_n 0, 1) := by decide +kernel
theorem dX1_append_15 : decode cX1_append 15 = .ok (.getfield 22, 3) := by decide +kernel
theorem dX1_append_18 : decode cX1_append 18 = .ok (.aload_n 0, 1) := by decide +kernel
theorem dX1_append_19 : decode cX1_append 19 = .ok (.getfield 25, 3) := by decide +kernel
theorem dX1_append_22 : decode cX1_append 22 = .ok (.iload_n 1, 1) := by decide +kernel
theorem dX1_append_23 : decode cX1_append 23 = .ok (.iastore, 1) := by decide +kernel
theorem dX1_append_24 : decode cX1_append 24 = .ok (.aload_n 0, 1) := by decide +kernel
theorem dX1_append_25 : decode cX1_append 25 = .ok (.dup, 1) := by decide +kernel
theorem dX1_append_26 : decode cX1_append 26 = .ok (.getfield 25, 3) := by decide +kernel
theorem dX1_append_29 : decode cX1_append 29 = .ok (.iconst 1, 1) := by decide +kernel
theorem dX1_append_30 : decode cX1_append 30 = .ok (.iadd, 1) := by decide +kernel
theorem dX1_append_31 : decode cX1_append 31 = .ok (.putfield 25, 3) := by decide +kernel
theorem dX1_append_34 : decode cX1_append 34 = .ok (.return_, 1) := by decide +kernel
theorem dX1_serve_0 : decode cX1_serve 0 = .ok (.aload_n 0, 1) := by decide +kernel
theorem dX1_serve_1 : decode cX1_serve 1 = .ok (.aload_n 1, 1) := by decide +kernel
theorem dX1_serve_2 : decode cX1_serve 2 = .ok (.iload_n 2, 1) := by decide +kernel
theorem dX1_serve_3 : decode cX1_serve 3 = .ok (.invokevirtual 50, 3) := by decide +kernel
theorem dX1_serve_6 : decode cX1_serve 6 = .ok (.istore_n 3, 1) := by decide +kernel
theorem dX1_serve_7 : decode cX1_serve 7 = .ok (.aload_n 0, 1) := by decide +kernel
theorem dX1_serve_8 : decode cX1_serve 8 = .ok (.getfield 9, 3) := by decide +kernel
theorem dX1_serve_11 : decode cX1_serve 11 = .ok (.iload_n 2, 1) := by decide +kernel
theorem dX1_serve_12 : decode cX1_serve 12 = .ok (.iload_n 3, 1) := by decide +kernel
theorem dX1_serve_13 : decode cX1_serve 13 = .ok (.iastore, 1) := by decide +kernel
theorem dX1_serve_14 : decode cX1_serve 14 = .ok (.aload_n 1, 1) := by decide +kernel
theorem dX1_serve_15 : decode cX1_serve 15 = .ok (.iload_n 3, 1) := by decide +kernel
theorem dX1_serve_16 : decode cX1_serve 16 = .ok (.invokevirtual 54, 3) := by decide +kernel
theorem dX1_serve_19 : decode cX1_serve 19 = .ok (.istore 4, 2) := by decide +kernel
theorem dX1_serve_21 : decode cX1_serve 21 = .ok (.iload 4, 2) := by decide +kernel
theorem dX1_serve_23 : decode cX1_serve 23 = .ok (.iconst (-1), 1) := by decide +kernel
theorem dX1_serve_24 : decode cX1_serve 24 = .ok (.if_icmp .eq 19, 3) := by decide +kernel
theorem dX1_serve_27 : decode cX1_serve 27 = .ok (.iload 4, 2) := by decide +kernel
theorem dX1_serve_29 : decode cX1_serve 29 = .ok (.iload_n 2, 1) := by decide +kernel
theorem dX1_serve_30 : decode cX1_serve 30 = .ok (.if_icmp .eq 13, 3) := by decide +kernel
theorem dX1_serve_33 : decode cX1_serve 33 = .ok (.aload_n 0, 1) := by decide +kernel
theorem dX1_serve_34 : decode cX1_serve 34 = .ok (.getfield 15, 3) := by decide +kernel
theorem dX1_serve_37 : decode cX1_serve 37 = .ok (.iload 4, 2) := by decide +kernel
theorem dX1_serve_39 : decode cX1_serve 39 = .ok (.baload, 1) := by decide +kernel
theorem dX1_serve_40 : decode cX1_serve 40 = .ok (.ifCond .eq 14, 3) := by decide +kernel
theorem dX1_serve_43 : decode cX1_serve 43 = .ok (.aload_n 0, 1) := by decide +kernel
theorem dX1_serve_44 : decode cX1_serve 44 = .ok (.aload_n 0, 1) := by decide +kernel
theorem dX1_serve_45 : decode cX1_serve 45 = .ok (.getfield 25, 3) := by decide +kernel
theorem dX1_serve_48 : decode cX1_serve 48 = .ok (.iconst 1, 1) := by decide +kernel
theorem dX1_serve_49 : decode cX1_serve 49 = .ok (.isub, 1) := by decide +kernel
theorem dX1_serve_50 : decode cX1_serve 50 = .ok (.invokevirtual 57, 3) := by decide +kernel
theorem dX1_serve_53 : decode cX1_serve 53 = .ok (.return_, 1) := by decide +kernel
theorem dX1_serve_54 : decode cX1_serve 54 = .ok (.aload_n 0, 1) := by decide +kernel
theorem dX1_serve_55 : decode cX1_serve 55 = .ok (.iload 4, 2) := by decide +kernel
theorem dX1_serve_57 : decode cX1_serve 57 = .ok (.invokevirtual 60, 3) := by decide +kernel
theorem dX1_serve_60 : decode cX1_serve 60 = .ok (.istore 5, 2) := by decide +kernel
theorem dX1_serve_62 : decode cX1_serve 62 = .ok (.iload 5, 2) := by decide +kernel
theorem dX1_serve_64 : decode cX1_serve 64 = .ok (.iconst (-1), 1) := by decide +kernel
theorem dX1_serve_65 : decode cX1_serve 65 = .ok (.if_icmp .ne 12, 3) := by decide +kernel
theorem dX1_serve_68 : decode cX1_serve 68 = .ok (.aload_n 0, 1) := by decide +kernel
theorem dX1_serve_69 : decode cX1_serve 69 = .ok (.iload 4, 2) := by decide +kernel
theorem dX1_serve_71 : decode cX1_serve 71 = .ok (.invokevirtual 33, 3) := by decide +kernel
theorem dX1_serve_74 : decode cX1_serve 74 = .ok (.goto 9, 3) := by decide +kernel
theorem dX1_serve_77 : decode cX1_serve 77 = .ok (.aload_n 0, 1) := by decide +kernel
theorem dX1_serve_78 : decode cX1_serve 78 = .ok (.iload 5, 2) := by decide +kernel
theorem dX1_serve_80 : decode cX1_serve 80 = .ok (.invokevirtual 57, 3) := by decide +kernel
theorem dX1_serve_83 : decode cX1_serve 83 = .ok (.return_, 1) := by decide +kernel
theorem dX1_firstAvailable_0 : decode cX1_firstAvailable 0 = .ok (.iconst 0, 1) := by decide +kernel
theorem dX1_firstAvailable_1 : decode cX1_firstAvailable 1 = .ok (.istore_n 3, 1) := by decide +kernel
theorem dX1_firstAvailable_2 : decode cX1_firstAvailable 2 = .ok (.iload_n 3, 1) := by decide +kernel
theorem dX1_firstAvailable_3 : decode cX1_firstAvailable 3 = .ok (.aload_n 1, 1) := by decide +kernel
theorem dX1_firstAvailable_4 : decode cX1_firstAvailable 4 = .ok (.iload_n 2, 1) := by decide +kernel
theorem dX1_firstAvailable_5 : decode cX1_firstAvailable 5 = .ok (.invokevirtual 63, 3) := by decide +kernel
theorem dX1_firstAvailable_8 : decode cX1_firstAvailable 8 = .ok (.if_icmp .ge 36, 3) := by decide +kernel
theorem dX1_firstAvailable_11 : decode cX1_firstAvailable 11 = .ok (.aload_n 1, 1) := by decide +kernel
theorem dX1_firstAvailable_12 : decode cX1_firstAvailable 12 = .ok (.iload_n 2, 1) := by decide +kernel
theorem dX1_firstAvailable_13 : decode cX1_firstAvailable 13 = .ok (.iload_n 3, 1) := by decide +kernel
theorem dX1_firstAvailable_14 : decode cX1_firstAvailable 14 = .ok (.invokevirtual 66, 3) := by decide +kernel
theorem dX1_firstAvailable_17 : decode cX1_firstAvailable 17 = .ok (.istore 4, 2) := by decide +kernel
theorem dX1_firstAvailable_19 : decode cX1_firstAvailable 19 = .ok (.iload 4, 2) := by decide +kernel
theorem dX1_firstAvailable_21 : decode cX1_firstAvailable 21 = .ok (.iconst (-1), 1) := by decide +kernel
theorem dX1_firstAvailable_22 : decode cX1_firstAvailable 22 = .ok (.if_icmp .eq 16, 3) := by decide +kernel
theorem dX1_firstAvailable_25 : decode cX1_firstAvailable 25 = .ok (.aload_n 0, 1) := by decide +kernel
theorem dX1_firstAvailable_26 : decode cX1_firstAvailable 26 = .ok (.getfield 19, 3) := by decide +kernel
theorem dX1_firstAvailable_29 : decode cX1_firstAvailable 29 = .ok (.iload 4, 2) := by decide +kernel
theorem dX1_firstAvailable_31 : decode cX1_firstAvailable 31 = .ok (.baload, 1) := by decide +kernel
theorem dX1_firstAvailable_32 : decode cX1_firstAvailable 32 = .ok (.ifCond .ne 6, 3) := by decide +kernel
theorem dX1_firstAvailable_35 : decode cX1_firstAvailable 35 = .ok (.iload 4, 2) := by decide +kernel
theorem dX1_firstAvailable_37 : decode cX1_firstAvailable 37 = .ok (.ireturn, 1) := by decide +kernel
theorem dX1_firstAvailable_38 : decode cX1_firstAvailable 38 = .ok (.iinc 3 1, 3) := by decide +kernel
theorem dX1_firstAvailable_41 : decode cX1_firstAvailable 41 = .ok (.goto (-39), 3) := by decide +kernel
theorem dX1_firstAvailable_44 : decode cX1_firstAvailable 44 = .ok (.iconst (-1), 1) := by decide +kernel
theorem dX1_firstAvailable_45 : decode cX1_firstAvailable 45 = .ok (.ireturn, 1) := by decide +kernel
theorem dX1_placeInChain_0 : decode cX1_placeInChain 0 = .ok (.iconst 0, 1) := by decide +kernel
theorem dX1_placeInChain_1 : decode cX1_placeInChain 1 = .ok (.istore_n 2, 1) := by decide +kernel
theorem dX1_placeInChain_2 : decode cX1_placeInChain 2 = .ok (.iload_n 2, 1) := by decide +kernel
theorem dX1_placeInChain_3 : decode cX1_placeInChain 3 = .ok (.aload_n 0, 1) := by decide +kernel
theorem dX1_placeInChain_4 : decode cX1_placeInChain 4 = .ok (.getfield 25, 3) := by decide +kernel
theorem dX1_placeInChain_7 : decode cX1_placeInChain 7 = .ok (.if_icmp .ge 21, 3) := by decide +kernel
theorem dX1_placeInChain_10 : decode cX1_placeInChain 10 = .ok (.aload_n 0, 1) := by decide +kernel
theorem dX1_placeInChain_11 : decode cX1_placeInChain 11 = .ok (.getfield 22, 3) := by decide +kernel
theorem dX1_placeInChain_14 : decode cX1_placeInChain 14 = .ok (.iload_n 2, 1) := by decide +kernel
theorem dX1_placeInChain_15 : decode cX1_placeInChain 15 = .ok (.iaload, 1) := by decide +kernel
theorem dX1_placeInChain_16 : decode cX1_placeInChain 16 = .ok (.iload_n 1, 1) := by decide +kernel
theorem dX1_placeInChain_17 : decode cX1_placeInChain 17 = .ok (.if_icmp .ne 5, 3) := by decide +kernel
theorem dX1_placeInChain_20 : decode cX1_placeInChain 20 = .ok (.iload_n 2, 1) := by decide +kernel
theorem dX1_placeInChain_21 : decode cX1_placeInChain 21 = .ok (.ireturn, 1) := by decide +kernel
theorem dX1_placeInChain_22 : decode cX1_placeInChain 22 = .ok (.iinc 2 1, 3) := by decide +kernel
theorem dX1_placeInChain_25 : decode cX1_placeInChain 25 = .ok (.goto (-23), 3) := by decide +kernel
theorem dX1_placeInChain_28 : decode cX1_placeInChain 28 = .ok (.iconst (-1), 1) := by decide +kernel
theorem dX1_placeInChain_29 : decode cX1_placeInChain 29 = .ok (.ireturn, 1) := by decide +kernel
theorem dX1_finishFrom_0 : decode cX1_finishFrom 0 = .ok (.iload_n 1, 1) := by decide +kernel
theorem dX1_finishFrom_1 : decode cX1_finishFrom 1 = .ok (.istore_n 2, 1) := by decide +kernel
theorem dX1_finishFrom_2 : decode cX1_finishFrom 2 = .ok (.iload_n 2, 1) := by decide +kernel
theorem dX1_finishFrom_3 : decode cX1_finishFrom 3 = .ok (.ifCond .lt 53, 3) := by decide +kernel
theorem dX1_finishFrom_6 : decode cX1_finishFrom 6 = .ok (.iload_n 2, 1) := by decide +kernel
theorem dX1_finishFrom_7 : decode cX1_finishFrom 7 = .ok (.aload_n 0, 1) := by decide +kernel
theorem dX1_finishFrom_8 : decode cX1_finishFrom 8 = .ok (.getfield 25, 3) := by decide +kernel
theorem dX1_finishFrom_11 : decode cX1_finishFrom 11 = .ok (.if_icmp .ge 45, 3) := by decide +kernel
theorem dX1_finishFrom_14 : decode cX1_finishFrom 14 = .ok (.aload_n 0, 1) := by decide +kernel
theorem dX1_finishFrom_15 : decode cX1_finishFrom 15 = .ok (.getfield 22, 3) := by decide +kernel
theorem dX1_finishFrom_18 : decode cX1_finishFrom 18 = .ok (.iload_n 2, 1) := by decide +kernel
theorem dX1_finishFrom_19 : decode cX1_finishFrom 19 = .ok (.iaload, 1) := by decide +kernel
theorem dX1_finishFrom_20 : decode cX1_finishFrom 20 = .ok (.istore_n 3, 1) := by decide +kernel
theorem dX1_finishFrom_21 : decode cX1_finishFrom 21 = .ok (.aload_n 0, 1) := by decide +kernel
theorem dX1_finishFrom_22 : decode cX1_finishFrom 22 = .ok (.getfield 15, 3) := by decide +kernel
theorem dX1_finishFrom_25 : decode cX1_finishFrom 25 = .ok (.iload_n 3, 1) := by decide +kernel
theorem dX1_finishFrom_26 : decode cX1_finishFrom 26 = .ok (.iconst 1, 1) := by decide +kernel
theorem dX1_finishFrom_27 : decode cX1_finishFrom 27 = .ok (.bastore, 1) := by decide +kernel
theorem dX1_finishFrom_28 : decode cX1_finishFrom 28 = .ok (.aload_n 0, 1) := by decide +kernel
theorem dX1_finishFrom_29 : decode cX1_finishFrom 29 = .ok (.getfield 9, 3) := by decide +kernel
theorem dX1_finishFrom_32 : decode cX1_finishFrom 32 = .ok (.iload_n 3, 1) := by decide +kernel
theorem dX1_finishFrom_33 : decode cX1_finishFrom 33 = .ok (.iaload, 1) := by decide +kernel
theorem dX1_finishFrom_34 : decode cX1_finishFrom 34 = .ok (.istore 4, 2) := by decide +kernel
theorem dX1_finishFrom_36 : decode cX1_finishFrom 36 = .ok (.iload 4, 2) := by decide +kernel
theorem dX1_finishFrom_38 : decode cX1_finishFrom 38 = .ok (.iconst (-1), 1) := by decide +kernel
theorem dX1_finishFrom_39 : decode cX1_finishFrom 39 = .ok (.if_icmp .eq 11, 3) := by decide +kernel
theorem dX1_finishFrom_42 : decode cX1_finishFrom 42 = .ok (.aload_n 0, 1) := by decide +kernel
theorem dX1_finishFrom_43 : decode cX1_finishFrom 43 = .ok (.getfield 19, 3) := by decide +kernel
theorem dX1_finishFrom_46 : decode cX1_finishFrom 46 = .ok (.iload 4, 2) := by decide +kernel
theorem dX1_finishFrom_48 : decode cX1_finishFrom 48 = .ok (.iconst 1, 1) := by decide +kernel
theorem dX1_finishFrom_49 : decode cX1_finishFrom 49 = .ok (.bastore, 1) := by decide +kernel
theorem dX1_finishFrom_50 : decode cX1_finishFrom 50 = .ok (.iinc 2 1, 3) := by decide +kernel
theorem dX1_finishFrom_53 : decode cX1_finishFrom 53 = .ok (.goto (-51), 3) := by decide +kernel
theorem dX1_finishFrom_56 : decode cX1_finishFrom 56 = .ok (.aload_n 0, 1) := by decide +kernel
theorem dX1_finishFrom_57 : decode cX1_finishFrom 57 = .ok (.iload_n 1, 1) := by decide +kernel
theorem dX1_finishFrom_58 : decode cX1_finishFrom 58 = .ok (.putfield 25, 3) := by decide +kernel
theorem dX1_finishFrom_61 : decode cX1_finishFrom 61 = .ok (.return_, 1) := by decide +kernel
theorem dX1_givenTo_0 : decode cX1_givenTo 0 = .ok (.iload_n 1, 1) := by decide +kernel
theorem dX1_givenTo_1 : decode cX1_givenTo 1 = .ok (.ifCond .lt 9, 3) := by decide +kernel
theorem dX1_givenTo_4 : decode cX1_givenTo 4 = .ok (.iload_n 1, 1) := by decide +kernel
theorem dX1_givenTo_5 : decode cX1_givenTo 5 = .ok (.bipush 8, 2) := by decide +kernel
theorem dX1_givenTo_7 : decode cX1_givenTo 7 = .ok (.if_icmp .lt 7, 3) := by decide +kernel
theorem dX1_givenTo_10 : decode cX1_givenTo 10 = .ok (.iconst (-1), 1) := by decide +kernel
theorem dX1_givenTo_11 : decode cX1_givenTo 11 = .ok (.goto 9, 3) := by decide +kernel
theorem dX1_givenTo_14 : decode cX1_givenTo 14 = .ok (.aload_n 0, 1) := by decide +kernel
theorem dX1_givenTo_15 : decode cX1_givenTo 15 = .ok (.getfield 9, 3) := by decide +kernel
theorem dX1_givenTo_18 : decode cX1_givenTo 18 = .ok (.iload_n 1, 1) := by decide +kernel
theorem dX1_givenTo_19 : decode cX1_givenTo 19 = .ok (.iaload, 1) := by decide +kernel
theorem dX1_givenTo_20 : decode cX1_givenTo 20 = .ok (.ireturn, 1) := by decide +kernel
theorem dX1_applyTo_0 : decode cX1_applyTo 0 = .ok (.iconst 0, 1) := by decide +kernel
theorem dX1_applyTo_1 : decode cX1_applyTo 1 = .ok (.istore_n 2, 1) := by decide +kernel
theorem dX1_applyTo_2 : decode cX1_applyTo 2 = .ok (.iconst 0, 1) := by decide +kernel
theorem dX1_applyTo_3 : decode cX1_applyTo 3 = .ok (.istore_n 3, 1) := by decide +kernel
theorem dX1_applyTo_4 : decode cX1_applyTo 4 = .ok (.iload_n 3, 1) := by decide +kernel
theorem dX1_applyTo_5 : decode cX1_applyTo 5 = .ok (.aload_n 1, 1) := by decide +kernel
theorem dX1_applyTo_6 : decode cX1_applyTo 6 = .ok (.getfield 41, 3) := by decide +kernel
theorem dX1_applyTo_9 : decode cX1_applyTo 9 = .ok (.if_icmp .ge 45, 3) := by decide +kernel
theorem dX1_applyTo_12 : decode cX1_applyTo 12 = .ok (.aload_n 0, 1) := by decide +kernel
theorem dX1_applyTo_13 : decode cX1_applyTo 13 = .ok (.iload_n 3, 1) := by decide +kernel
theorem dX1_applyTo_14 : decode cX1_applyTo 14 = .ok (.invokevirtual 70, 3) := by decide +kernel
theorem dX1_applyTo_17 : decode cX1_applyTo 17 = .ok (.istore 4, 2) := by decide +kernel
theorem dX1_applyTo_19 : decode cX1_applyTo 19 = .ok (.iload 4, 2) := by decide +kernel
theorem dX1_applyTo_21 : decode cX1_applyTo 21 = .ok (.aload_n 1, 1) := by decide +kernel
theorem dX1_applyTo_22 : decode cX1_applyTo 22 = .ok (.iload_n 3, 1) := by decide +kernel
theorem dX1_applyTo_23 : decode cX1_applyTo 23 = .ok (.invokevirtual 73, 3) := by decide +kernel
theorem dX1_applyTo_26 : decode cX1_applyTo 26 = .ok (.if_icmp .eq 22, 3) := by decide +kernel
theorem dX1_applyTo_29 : decode cX1_applyTo 29 = .ok (.iinc 2 1, 3) := by decide +kernel
theorem dX1_applyTo_32 : decode cX1_applyTo 32 = .ok (.iload 4, 2) := by decide +kernel
theorem dX1_applyTo_34 : decode cX1_applyTo 34 = .ok (.iconst (-1), 1) := by decide +kernel
theorem dX1_applyTo_35 : decode cX1_applyTo 35 = .ok (.if_icmp .eq 13, 3) := by decide +kernel
theorem dX1_applyTo_38 : decode cX1_applyTo 38 = .ok (.aload_n 1, 1) := by decide +kernel
theorem dX1_applyTo_39 : decode cX1_applyTo 39 = .ok (.dup, 1) := by decide +kernel
theorem dX1_applyTo_40 : decode cX1_applyTo 40 = .ok (.getfield 76, 3) := by decide +kernel
theorem dX1_applyTo_43 : decode cX1_applyTo 43 = .ok (.iconst 1, 1) := by decide +kernel
theorem dX1_applyTo_44 : decode cX1_applyTo 44 = .ok (.iadd, 1) := by decide +kernel
theorem dX1_applyTo_45 : decode cX1_applyTo 45 = .ok (.putfield 76, 3) := by decide +kernel
theorem dX1_applyTo_48 : decode cX1_applyTo 48 = .ok (.iinc 3 1, 3) := by decide +kernel
theorem dX1_applyTo_51 : decode cX1_applyTo 51 = .ok (.goto (-47), 3) := by decide +kernel
theorem dX1_applyTo_54 : decode cX1_applyTo 54 = .ok (.iconst 0, 1) := by decide +kernel
theorem dX1_applyTo_55 : decode cX1_applyTo 55 = .ok (.istore_n 3, 1) := by decide +kernel
theorem dX1_applyTo_56 : decode cX1_applyTo 56 = .ok (.iload_n 3, 1) := by decide +kernel
theorem dX1_applyTo_57 : decode cX1_applyTo 57 = .ok (.aload_n 1, 1) := by decide +kernel
theorem dX1_applyTo_58 : decode cX1_applyTo 58 = .ok (.getfield 41, 3) := by decide +kernel
theorem dX1_applyTo_61 : decode cX1_applyTo 61 = .ok (.if_icmp .ge 19, 3) := by decide +kernel
theorem dX1_applyTo_64 : decode cX1_applyTo 64 = .ok (.aload_n 1, 1) := by decide +kernel
theorem dX1_applyTo_65 : decode cX1_applyTo 65 = .ok (.iload_n 3, 1) := by decide +kernel
theorem dX1_applyTo_66 : decode cX1_applyTo 66 = .ok (.aload_n 0, 1) := by decide +kernel
theorem dX1_applyTo_67 : decode cX1_applyTo 67 = .ok (.iload_n 3, 1) := by decide +kernel
theorem dX1_applyTo_68 : decode cX1_applyTo 68 = .ok (.invokevirtual 70, 3) := by decide +kernel
theorem dX1_applyTo_71 : decode cX1_applyTo 71 = .ok (.invokevirtual 79, 3) := by decide +kernel
theorem dX1_applyTo_74 : decode cX1_applyTo 74 = .ok (.iinc 3 1, 3) := by decide +kernel
theorem dX1_applyTo_77 : decode cX1_applyTo 77 = .ok (.goto (-21), 3) := by decide +kernel
theorem dX1_applyTo_80 : decode cX1_applyTo 80 = .ok (.iload_n 2, 1) := by decide +kernel
theorem dX1_applyTo_81 : decode cX1_applyTo 81 = .ok (.ireturn, 1) := by decide +kernel
theorem dX2_init_0 : decode cX2_init 0 = .ok (.aload_n 0, 1) := by decide +kernel
theorem dX2_init_1 : decode cX2_init 1 = .ok (.invokespecial 3, 3) := by decide +kernel
theorem dX2_init_4 : decode cX2_init 4 = .ok (.aload_n 0, 1) := by decide +kernel
theorem dX2_init_5 : decode cX2_init 5 = .ok (.sipush 700, 3) := by decide +kernel
theorem dX2_init_8 : decode cX2_init 8 = .ok (.newarray .int, 2) := by decide +kernel
theorem dX2_init_10 : decode cX2_init 10 = .ok (.putfield 9, 3) := by decide +kernel
theorem dX2_init_13 : decode cX2_init 13 = .ok (.aload_n 0, 1) := by decide +kernel
theorem dX2_init_14 : decode cX2_init 14 = .ok (.iconst 0, 1) := by decide +kernel
theorem dX2_init_15 : decode cX2_init 15 = .ok (.putfield 15, 3) := by decide +kernel
theorem dX2_init_18 : decode cX2_init 18 = .ok (.return_, 1) := by decide +kernel
theorem dX2_byteAt_0 : decode cX2_byteAt 0 = .ok (.iload_n 1, 1) := by decide +kernel
theorem dX2_byteAt_1 : decode cX2_byteAt 1 = .ok (.ifCond .lt 11, 3) := by decide +kernel
theorem dX2_byteAt_4 : decode cX2_byteAt 4 = .ok (.iload_n 1, 1) := by decide +kernel
theorem dX2_byteAt_5 : decode cX2_byteAt 5 = .ok (.aload_n 0, 1) := by decide +kernel
theorem dX2_byteAt_6 : decode cX2_byteAt 6 = .ok (.getfield 15, 3) := by decide +kernel
theorem dX2_byteAt_9 : decode cX2_byteAt 9 = .ok (.if_icmp .lt 7, 3) := by decide +kernel
theorem dX2_byteAt_12 : decode cX2_byteAt 12 = .ok (.iconst (-1), 1) := by decide +kernel
theorem dX2_byteAt_13 : decode cX2_byteAt 13 = .ok (.goto 9, 3) := by decide +kernel
theorem dX2_byteAt_16 : decode cX2_byteAt 16 = .ok (.aload_n 0, 1) := by decide +kernel
theorem dX2_byteAt_17 : decode cX2_byteAt 17 = .ok (.getfield 9, 3) := by decide +kernel
theorem dX2_byteAt_20 : decode cX2_byteAt 20 = .ok (.iload_n 1, 1) := by decide +kernel
theorem dX2_byteAt_21 : decode cX2_byteAt 21 = .ok (.iaload, 1) := by decide +kernel
theorem dX2_byteAt_22 : decode cX2_byteAt 22 = .ok (.ireturn, 1) := by decide +kernel
theorem dX2_add_0 : decode cX2_add 0 = .ok (.aload_n 0, 1) := by decide +kernel
theorem dX2_add_1 : decode cX2_add 1 = .ok (.getfield 15, 3) := by decide +kernel
theorem dX2_add_4 : decode cX2_add 4 = .ok (.sipush 700, 3) := by decide +kernel
theorem dX2_add_7 : decode cX2_add 7 = .ok (.if_icmp .ge 23, 3) := by decide +kernel
theorem dX2_add_10 : decode cX2_add 10 = .ok (.aload_n 0, 1) := by decide +kernel
theorem dX2_add_11 : decode cX2_add 11 = .ok (.getfield 9, 3) := by decide +kernel
theorem dX2_add_14 : decode cX2_add 14 = .ok (.aload_n 0, 1) := by decide +kernel
theorem dX2_add_15 : decode cX2_add 15 = .ok (.getfield 15, 3) := by decide +kernel
theorem dX2_add_18 : decode cX2_add 18 = .ok (.iload_n 1, 1) := by decide +kernel
theorem dX2_add_19 : decode cX2_add 19 = .ok (.iastore, 1) := by decide +kernel
theorem dX2_add_20 : decode cX2_add 20 = .ok (.aload_n 0, 1) := by decide +kernel
theorem dX2_add_21 : decode cX2_add 21 = .ok (.dup, 1) := by decide +kernel
theorem dX2_add_22 : decode cX2_add 22 = .ok (.getfield 15, 3) := by decide +kernel
theorem dX2_add_25 : decode cX2_add 25 = .ok (.iconst 1, 1) := by decide +kernel
theorem dX2_add_26 : decode cX2_add 26 = .ok (.iadd, 1) := by decide +kernel
theorem dX2_add_27 : decode cX2_add 27 = .ok (.putfield 15, 3) := by decide +kernel
theorem dX2_add_30 : decode cX2_add 30 = .ok (.return_, 1) := by decide +kernel
theorem dX2_addWord_0 : decode cX2_addWord 0 = .ok (.bipush 24, 2) := by decide +kernel
theorem dX2_addWord_2 : decode cX2_addWord 2 = .ok (.istore_n 2, 1) := by decide +kernel
theorem dX2_addWord_3 : decode cX2_addWord 3 = .ok (.iload_n 2, 1) := by decide +kernel
theorem dX2_addWord_4 : decode cX2_addWord 4 = .ok (.ifCond .lt 20, 3) := by decide +kernel
theorem dX2_addWord_7 : decode cX2_addWord 7 = .ok (.aload_n 0, 1) := by decide +kernel
theorem dX2_addWord_8 : decode cX2_addWord 8 = .ok (.iload_n 1, 1) := by decide +kernel
theorem dX2_addWord_9 : decode cX2_addWord 9 = .ok (.iload_n 2, 1) := by decide +kernel
theorem dX2_addWord_10 : decode cX2_addWord 10 = .ok (.iushr, 1) := by decide +kernel
theorem dX2_addWord_11 : decode cX2_addWord 11 = .ok (.sipush 255, 3) := by decide +kernel
theorem dX2_addWord_14 : decode cX2_addWord 14 = .ok (.iand, 1) := by decide +kernel
theorem dX2_addWord_15 : decode cX2_addWord 15 = .ok (.invokevirtual 19, 3) := by decide +kernel
theorem dX2_addWord_18 : decode cX2_addWord 18 = .ok (.iinc 2 (-8), 3) := by decide +kernel
theorem dX2_addWord_21 : decode cX2_addWord 21 = .ok (.goto (-18), 3) := by decide +kernel
theorem dX2_addWord_24 : decode cX2_addWord 24 = .ok (.return_, 1) := by decide +kernel
theorem dX2_addName_0 : decode cX2_addName 0 = .ok (.lload_n 1, 1) := by decide +kernel
theorem dX2_addName_1 : decode cX2_addName 1 = .ok (.invokestatic 23, 3) := by decide +kernel
theorem dX2_addName_4 : decode cX2_addName 4 = .ok (.istore_n 3, 1) := by decide +kernel
theorem dX2_addName_5 : decode cX2_addName 5 = .ok (.iconst 0, 1) := by decide +kernel
theorem dX2_addName_6 : decode cX2_addName 6 = .ok (.istore 4, 2) := by decide +kernel
theorem dX2_addName_8 : decode cX2_addName 8 = .ok (.iload 4, 2) := by decide +kernel
theorem dX2_addName_10 : decode cX2_addName 10 = .ok (.iload_n 3, 1) := by decide +kernel
theorem dX2_addName_11 : decode cX2_addName 11 = .ok (.if_icmp .ge 19, 3) := by decide +kernel
theorem dX2_addName_14 : decode cX2_addName 14 = .ok (.aload_n 0, 1) := by decide +kernel
theorem dX2_addName_15 : decode cX2_addName 15 = .ok (.lload_n 1, 1) := by decide +kernel
theorem dX2_addName_16 : decode cX2_addName 16 = .ok (.iload 4, 2) := by decide +kernel
theorem dX2_addName_18 : decode cX2_addName 18 = .ok (.invokestatic 27, 3) := by decide +kernel
theorem dX2_addName_21 : decode cX2_addName 21 = .ok (.invokevirtual 19, 3) := by decide +kernel
theorem dX2_addName_24 : decode cX2_addName 24 = .ok (.iinc 4 1, 3) := by decide +kernel
theorem dX2_addName_27 : decode cX2_addName 27 = .ok (.goto (-19), 3) := by decide +kernel
theorem dX2_addName_30 : decode cX2_addName 30 = .ok (.return_, 1) := by decide +kernel
theorem dX2_cut_0 : decode cX2_cut 0 = .ok (.iload_n 1, 1) := by decide +kernel
theorem dX2_cut_1 : decode cX2_cut 1 = .ok (.ifCond .lt 16, 3) := by decide +kernel
theorem dX2_cut_4 : decode cX2_cut 4 = .ok (.iload_n 1, 1) := by decide +kernel
theorem dX2_cut_5 : decode cX2_cut 5 = .ok (.aload_n 0, 1) := by decide +kernel
theorem dX2_cut_6 : decode cX2_cut 6 = .ok (.getfield 15, 3) := by decide +kernel
theorem dX2_cut_9 : decode cX2_cut 9 = .ok (.if_icmp .ge 8, 3) := by decide +kernel
theorem dX2_cut_12 : decode cX2_cut 12 = .ok (.aload_n 0, 1) := by decide +kernel
theorem dX2_cut_13 : decode cX2_cut 13 = .ok (.iload_n 1, 1) := by decide +kernel
theorem dX2_cut_14 : decode cX2_cut 14 = .ok (.putfield 15, 3) := by decide +kernel
theorem dX2_cut_17 : decode cX2_cut 17 = .ok (.return_, 1) := by decide +kernel
theorem dX3_wantsStallOf_0 : decode cX3_wantsStallOf 0 = .ok (.aload_n 0, 1) := by decide +kernel
theorem dX3_wantsStallOf_1 : decode cX3_wantsStallOf 1 = .ok (.iload_n 2, 1) := by decide +kernel
theorem dX3_wantsStallOf_2 : decode cX3_wantsStallOf 2 = .ok (.invokevirtual 9, 3) := by decide +kernel
theorem dX3_wantsStallOf_5 : decode cX3_wantsStallOf 5 = .ok (.istore_n 3, 1) := by decide +kernel
theorem dX3_wantsStallOf_6 : decode cX3_wantsStallOf 6 = .ok (.iload_n 3, 1) := by decide +kernel
theorem dX3_wantsStallOf_7 : decode cX3_wantsStallOf 7 = .ok (.iconst (-1), 1) := by decide +kernel
theorem dX3_wantsStallOf_8 : decode cX3_wantsStallOf 8 = .ok (.if_icmp .eq 21, 3) := by decide +kernel
theorem dX3_wantsStallOf_11 : decode cX3_wantsStallOf 11 = .ok (.aload_n 0, 1) := by decide +kernel
theorem dX3_wantsStallOf_12 : decode cX3_wantsStallOf 12 = .ok (.iload_n 1, 1) := by decide +kernel
theorem dX3_wantsStallOf_13 : decode cX3_wantsStallOf 13 = .ok (.iload_n 3, 1) := by decide +kernel
theorem dX3_wantsStallOf_14 : decode cX3_wantsStallOf 14 = .ok (.aload_n 0, 1) := by decide +kernel
theorem dX3_wantsStallOf_15 : decode cX3_wantsStallOf 15 = .ok (.iload_n 1, 1) := by decide +kernel
theorem dX3_wantsStallOf_16 : decode cX3_wantsStallOf 16 = .ok (.invokevirtual 9, 3) := by decide +kernel
theorem dX3_wantsStallOf_19 : decode cX3_wantsStallOf 19 = .ok (.invokevirtual 15, 3) := by decide +kernel
theorem dX3_wantsStallOf_22 : decode cX3_wantsStallOf 22 = .ok (.ifCond .eq 7, 3) := by decide +kernel
theorem dX3_wantsStallOf_25 : decode cX3_wantsStallOf 25 = .ok (.iconst 1, 1) := by decide +kernel
theorem dX3_wantsStallOf_26 : decode cX3_wantsStallOf 26 = .ok (.goto 4, 3) := by decide +kernel
theorem dX3_wantsStallOf_29 : decode cX3_wantsStallOf 29 = .ok (.iconst 0, 1) := by decide +kernel
theorem dX3_wantsStallOf_30 : decode cX3_wantsStallOf 30 = .ok (.ireturn, 1) := by decide +kernel
theorem dX3_bothGain_0 : decode cX3_bothGain 0 = .ok (.aload_n 0, 1) := by decide +kernel
theorem dX3_bothGain_1 : decode cX3_bothGain 1 = .ok (.iload_n 1, 1) := by decide +kernel
theorem dX3_bothGain_2 : decode cX3_bothGain 2 = .ok (.invokevirtual 9, 3) := by decide +kernel
theorem dX3_bothGain_5 : decode cX3_bothGain 5 = .ok (.iconst (-1), 1) := by decide +kernel
theorem dX3_bothGain_6 : decode cX3_bothGain 6 = .ok (.if_icmp .eq 25, 3) := by decide +kernel
theorem dX3_bothGain_9 : decode cX3_bothGain 9 = .ok (.aload_n 0, 1) := by decide +kernel
theorem dX3_bothGain_10 : decode cX3_bothGain 10 = .ok (.iload_n 1, 1) := by decide +kernel
theorem dX3_bothGain_11 : decode cX3_bothGain 11 = .ok (.iload_n 2, 1) := by decide +kernel
theorem dX3_bothGain_12 : decode cX3_bothGain 12 = .ok (.invokestatic 19, 3) := by decide +kernel
theorem dX3_bothGain_15 : decode cX3_bothGain 15 = .ok (.ifCond .eq 16, 3) := by decide +kernel
theorem dX3_bothGain_18 : decode cX3_bothGain 18 = .ok (.aload_n 0, 1) := by decide +kernel
theorem dX3_bothGain_19 : decode cX3_bothGain 19 = .ok (.iload_n 2, 1) := by decide +kernel
theorem dX3_bothGain_20 : decode cX3_bothGain 20 = .ok (.iload_n 1, 1) := by decide +kernel
theorem dX3_bothGain_21 : decode cX3_bothGain 21 = .ok (.invokestatic 19, 3) := by decide +kernel
theorem dX3_bothGain_24 : decode cX3_bothGain 24 = .ok (.ifCond .eq 7, 3) := by decide +kernel
theorem dX3_bothGain_27 : decode cX3_bothGain 27 = .ok (.iconst 1, 1) := by decide +kernel
theorem dX3_bothGain_28 : decode cX3_bothGain 28 = .ok (.goto 4, 3) := by decide +kernel
theorem dX3_bothGain_31 : decode cX3_bothGain 31 = .ok (.iconst 0, 1) := by decide +kernel
theorem dX3_bothGain_32 : decode cX3_bothGain 32 = .ok (.ireturn, 1) := by decide +kernel
theorem dX3_gainingPairs_0 : decode cX3_gainingPairs 0 = .ok (.iconst 0, 1) := by decide +kernel
theorem dX3_gainingPairs_1 : decode cX3_gainingPairs 1 = .ok (.istore_n 1, 1) := by decide +kernel
theorem dX3_gainingPairs_2 : decode cX3_gainingPairs 2 = .ok (.iconst 0, 1) := by decide +kernel
theorem dX3_gainingPairs_3 : decode cX3_gainingPairs 3 = .ok (.istore_n 2, 1) := by decide +kernel
theorem dX3_gainingPairs_4 : decode cX3_gainingPairs 4 = .ok (.iload_n 2, 1) := by decide +kernel
theorem dX3_gainingPairs_5 : decode cX3_gainingPairs 5 = .ok (.aload_n 0, 1) := by decide +kernel
theorem dX3_gainingPairs_6 : decode cX3_gainingPairs 6 = .ok (.getfield 25, 3) := by decide +kernel
theorem dX3_gainingPairs_9 : decode cX3_gainingPairs 9 = .ok (.if_icmp .ge 34, 3) := by decide +kernel
theorem dX3_gainingPairs_12 : decode cX3_gainingPairs 12 = .ok (.iconst 0, 1) := by decide +kernel
theorem dX3_gainingPairs_13 : decode cX3_gainingPairs 13 = .ok (.istore_n 3, 1) := by decide +kernel
theorem dX3_gainingPairs_14 : decode cX3_gainingPairs 14 = .ok (.iload_n 3, 1) := by decide +kernel
theorem dX3_gainingPairs_15 : decode cX3_gainingPairs 15 = .ok (.iload_n 2, 1) := by decide +kernel
theorem dX3_gainingPairs_16 : decode cX3_gainingPairs 16 = .ok (.if_icmp .ge 21, 3) := by decide +kernel
theorem dX3_gainingPairs_19 : decode cX3_gainingPairs 19 = .ok (.aload_n 0, 1) := by decide +kernel
theorem dX3_gainingPairs_20 : decode cX3_gainingPairs 20 = .ok (.iload_n 2, 1) := by decide +kernel
theorem dX3_gainingPairs_21 : decode cX3_gainingPairs 21 = .ok (.iload_n 3, 1) := by decide +kernel
theorem dX3_gainingPairs_22 : decode cX3_gainingPairs 22 = .ok (.invokestatic 29, 3) := by decide +kernel
theorem dX3_gainingPairs_25 : decode cX3_gainingPairs 25 = .ok (.ifCond .eq 6, 3) := by decide +kernel
theorem dX3_gainingPairs_28 : decode cX3_gainingPairs 28 = .ok (.iinc 1 1, 3) := by decide +kernel
theorem dX3_gainingPairs_31 : decode cX3_gainingPairs 31 = .ok (.iinc 3 1, 3) := by decide +kernel
theorem dX3_gainingPairs_34 : decode cX3_gainingPairs 34 = .ok (.goto (-20), 3) := by decide +kernel
theorem dX3_gainingPairs_37 : decode cX3_gainingPairs 37 = .ok (.iinc 2 1, 3) := by decide +kernel
theorem dX3_gainingPairs_40 : decode cX3_gainingPairs 40 = .ok (.goto (-36), 3) := by decide +kernel
theorem dX3_gainingPairs_43 : decode cX3_gainingPairs 43 = .ok (.iload_n 1, 1) := by decide +kernel
theorem dX3_gainingPairs_44 : decode cX3_gainingPairs 44 = .ok (.ireturn, 1) := by decide +kernel
theorem dX3_shortestCycle_0 : decode cX3_shortestCycle 0 = .ok (.aload_n 0, 1) := by decide +kernel
theorem dX3_shortestCycle_1 : decode cX3_shortestCycle 1 = .ok (.iload_n 1, 1) := by decide +kernel
theorem dX3_shortestCycle_2 : decode cX3_shortestCycle 2 = .ok (.invokevirtual 9, 3) := by decide +kernel
theorem dX3_shortestCycle_5 : decode cX3_shortestCycle 5 = .ok (.iconst (-1), 1) := by decide +kernel
theorem dX3_shortestCycle_6 : decode cX3_shortestCycle 6 = .ok (.if_icmp .ne 5, 3) := by decide +kernel
theorem dX3_shortestCycle_9 : decode cX3_shortestCycle 9 = .ok (.iconst (-1), 1) := by decide +kernel
theorem dX3_shortestCycle_10 : decode cX3_shortestCycle 10 = .ok (.ireturn, 1) := by decide +kernel
theorem dX3_shortestCycle_11 : decode cX3_shortestCycle 11 = .ok (.iconst 1, 1) := by decide +kernel
theorem dX3_shortestCycle_12 : decode cX3_shortestCycle 12 = .ok (.iload_n 1, 1) := by decide +kernel
theorem dX3_shortestCycle_13 : decode cX3_shortestCycle 13 = .ok (.ishl, 1) := by decide +kernel
theorem dX3_shortestCycle_14 : decode cX3_shortestCycle 14 = .ok (.istore_n 2, 1) := by decide +kernel
theorem dX3_shortestCycle_15 : decode cX3_shortestCycle 15 = .ok (.iconst 1, 1) := by decide +kernel
theorem dX3_shortestCycle_16 : decode cX3_shortestCycle 16 = .ok (.istore_n 3, 1) := by decide +kernel
theorem dX3_shortestCycle_17 : decode cX3_shortestCycle 17 = .ok (.iload_n 3, 1) := by decide +kernel
theorem dX3_shortestCycle_18 : decode cX3_shortestCycle 18 = .ok (.aload_n 0, 1) := by decide +kernel
theorem dX3_shortestCycle_19 : decode cX3_shortestCycle 19 = .ok (.getfield 25, 3) := by decide +kernel
theorem dX3_shortestCycle_22 : decode cX3_shortestCycle 22 = .ok (.if_icmp .gt 25, 3) := by decide +kernel
theorem dX3_shortestCycle_25 : decode cX3_shortestCycle 25 = .ok (.aload_n 0, 1) := by decide +kernel
theorem dX3_shortestCycle_26 : decode cX3_shortestCycle 26 = .ok (.iload_n 2, 1) := by decide +kernel
theorem dX3_shortestCycle_27 : decode cX3_shortestCycle 27 = .ok (.invokestatic 32, 3) := by decide +kernel
theorem dX3_shortestCycle_30 : decode cX3_shortestCycle 30 = .ok (.istore_n 2, 1) := by decide +kernel
theorem dX3_shortestCycle_31 : decode cX3_shortestCycle 31 = .ok (.iload_n 2, 1) := by decide +kernel
theorem dX3_shortestCycle_32 : decode cX3_shortestCycle 32 = .ok (.iconst 1, 1) := by decide +kernel
theorem dX3_shortestCycle_33 : decode cX3_shortestCycle 33 = .ok (.iload_n 1, 1) := by decide +kernel
theorem dX3_shortestCycle_34 : decode cX3_shortestCycle 34 = .ok (.ishl, 1) := by decide +kernel
theorem dX3_shortestCycle_35 : decode cX3_shortestCycle 35 = .ok (.iand, 1) := by decide +kernel
theorem dX3_shortestCycle_36 : decode cX3_shortestCycle 36 = .ok (.ifCond .eq 5, 3) := by decide +kernel
theorem dX3_shortestCycle_39 : decode cX3_shortestCycle 39 = .ok (.iload_n 3, 1) := by decide +kernel
theorem dX3_shortestCycle_40 : decode cX3_shortestCycle 40 = .ok (.ireturn, 1) := by decide +kernel
theorem dX3_shortestCycle_41 : decode cX3_shortestCycle 41 = .ok (.iinc 3 1, 3) := by decide +kernel
theorem dX3_shortestCycle_44 : decode cX3_shortestCycle 44 = .ok (.goto (-27), 3) := by decide +kernel
theorem dX3_shortestCycle_47 : decode cX3_shortestCycle 47 = .ok (.iconst (-1), 1) := by decide +kernel
theorem dX3_shortestCycle_48 : decode cX3_shortestCycle 48 = .ok (.ireturn, 1) := by decide +kernel
theorem dX3_wantedByAny_0 : decode cX3_wantedByAny 0 = .ok (.iconst 0, 1) := by decide +kernel
theorem dX3_wantedByAny_1 : decode cX3_wantedByAny 1 = .ok (.istore_n 2, 1) := by decide +kernel
theorem dX3_wantedByAny_2 : decode cX3_wantedByAny 2 = .ok (.iconst 0, 1) := by decide +kernel
theorem dX3_wantedByAny_3 : decode cX3_wantedByAny 3 = .ok (.istore_n 3, 1) := by decide +kernel
theorem dX3_wantedByAny_4 : decode cX3_wantedByAny 4 = .ok (.iload_n 3, 1) := by decide +kernel
theorem dX3_wantedByAny_5 : decode cX3_wantedByAny 5 = .ok (.aload_n 0, 1) := by decide +kernel
theorem dX3_wantedByAny_6 : decode cX3_wantedByAny 6 = .ok (.getfield 25, 3) := by decide +kernel
theorem dX3_wantedByAny_9 : decode cX3_wantedByAny 9 = .ok (.if_icmp .ge 52, 3) := by decide +kernel
theorem dX3_wantedByAny_12 : decode cX3_wantedByAny 12 = .ok (.iconst 0, 1) := by decide +kernel
theorem dX3_wantedByAny_13 : decode cX3_wantedByAny 13 = .ok (.istore 4, 2) := by decide +kernel
theorem dX3_wantedByAny_15 : decode cX3_wantedByAny 15 = .ok (.iload 4, 2) := by decide +kernel
theorem dX3_wantedByAny_17 : decode cX3_wantedByAny 17 = .ok (.aload_n 0, 1) := by decide +kernel
theorem dX3_wantedByAny_18 : decode cX3_wantedByAny 18 = .ok (.getfield 25, 3) := by decide +kernel
theorem dX3_wantedByAny_21 : decode cX3_wantedByAny 21 = .ok (.if_icmp .ge 34, 3) := by decide +kernel
theorem dX3_wantedByAny_24 : decode cX3_wantedByAny 24 = .ok (.iload_n 1, 1) := by decide +kernel
theorem dX3_wantedByAny_25 : decode cX3_wantedByAny 25 = .ok (.iconst 1, 1) := by decide +kernel
theorem dX3_wantedByAny_26 : decode cX3_wantedByAny 26 = .ok (.iload_n 3, 1) := by decide +kernel
theorem dX3_wantedByAny_27 : decode cX3_wantedByAny 27 = .ok (.ishl, 1) := by decide +kernel
theorem dX3_wantedByAny_28 : decode cX3_wantedByAny 28 = .ok (.iand, 1) := by decide +kernel
theorem dX3_wantedByAny_29 : decode cX3_wantedByAny 29 = .ok (.ifCond .eq 20, 3) := by decide +kernel
theorem dX3_wantedByAny_32 : decode cX3_wantedByAny 32 = .ok (.aload_n 0, 1) := by decide +kernel
theorem dX3_wantedByAny_33 : decode cX3_wantedByAny 33 = .ok (.iload_n 3, 1) := by decide +kernel
theorem dX3_wantedByAny_34 : decode cX3_wantedByAny 34 = .ok (.iload 4, 2) := by decide +kernel
theorem dX3_wantedByAny_36 : decode cX3_wantedByAny 36 = .ok (.invokestatic 19, 3) := by decide +kernel
theorem dX3_wantedByAny_39 : decode cX3_wantedByAny 39 = .ok (.ifCond .eq 10, 3) := by decide +kernel
theorem dX3_wantedByAny_42 : decode cX3_wantedByAny 42 = .ok (.iload_n 2, 1) := by decide +kernel
theorem dX3_wantedByAny_43 : decode cX3_wantedByAny 43 = .ok (.iconst 1, 1) := by decide +kernel
theorem dX3_wantedByAny_44 : decode cX3_wantedByAny 44 = .ok (.iload 4, 2) := by decide +kernel
theorem dX3_wantedByAny_46 : decode cX3_wantedByAny 46 = .ok (.ishl, 1) := by decide +kernel
theorem dX3_wantedByAny_47 : decode cX3_wantedByAny 47 = .ok (.ior, 1) := by decide +kernel
theorem dX3_wantedByAny_48 : decode cX3_wantedByAny 48 = .ok (.istore_n 2, 1) := by decide +kernel
theorem dX3_wantedByAny_49 : decode cX3_wantedByAny 49 = .ok (.iinc 4 1, 3) := by decide +kernel
theorem dX3_wantedByAny_52 : decode cX3_wantedByAny 52 = .ok (.goto (-37), 3) := by decide +kernel
theorem dX3_wantedByAny_55 : decode cX3_wantedByAny 55 = .ok (.iinc 3 1, 3) := by decide +kernel
theorem dX3_wantedByAny_58 : decode cX3_wantedByAny 58 = .ok (.goto (-54), 3) := by decide +kernel
theorem dX3_wantedByAny_61 : decode cX3_wantedByAny 61 = .ok (.iload_n 2, 1) := by decide +kernel
theorem dX3_wantedByAny_62 : decode cX3_wantedByAny 62 = .ok (.ireturn, 1) := by decide +kernel
theorem dX3_bestFreeStall_0 : decode cX3_bestFreeStall 0 = .ok (.aload_n 0, 1) := by decide +kernel
theorem dX3_bestFreeStall_1 : decode cX3_bestFreeStall 1 = .ok (.iload_n 1, 1) := by decide +kernel
theorem dX3_bestFreeStall_2 : decode cX3_bestFreeStall 2 = .ok (.invokevirtual 9, 3) := by decide +kernel
theorem dX3_bestFreeStall_5 : decode cX3_bestFreeStall 5 = .ok (.istore_n 2, 1) := by decide +kernel
theorem dX3_bestFreeStall_6 : decode cX3_bestFreeStall 6 = .ok (.iconst 0, 1) := by decide +kernel
theorem dX3_bestFreeStall_7 : decode cX3_bestFreeStall 7 = .ok (.istore_n 3, 1) := by decide +kernel
theorem dX3_bestFreeStall_8 : decode cX3_bestFreeStall 8 = .ok (.iload_n 3, 1) := by decide +kernel
theorem dX3_bestFreeStall_9 : decode cX3_bestFreeStall 9 = .ok (.aload_n 0, 1) := by decide +kernel
theorem dX3_bestFreeStall_10 : decode cX3_bestFreeStall 10 = .ok (.iload_n 1, 1) := by decide +kernel
theorem dX3_bestFreeStall_11 : decode cX3_bestFreeStall 11 = .ok (.invokevirtual 36, 3) := by decide +kernel
theorem dX3_bestFreeStall_14 : decode cX3_bestFreeStall 14 = .ok (.if_icmp .ge 38, 3) := by decide +kernel
theorem dX3_bestFreeStall_17 : decode cX3_bestFreeStall 17 = .ok (.aload_n 0, 1) := by decide +kernel
theorem dX3_bestFreeStall_18 : decode cX3_bestFreeStall 18 = .ok (.iload_n 1, 1) := by decide +kernel
theorem dX3_bestFreeStall_19 : decode cX3_bestFreeStall 19 = .ok (.iload_n 3, 1) := by decide +kernel
theorem dX3_bestFreeStall_20 : decode cX3_bestFreeStall 20 = .ok (.invokevirtual 39, 3) := by decide +kernel
theorem dX3_bestFreeStall_23 : decode cX3_bestFreeStall 23 = .ok (.istore 4, 2) := by decide +kernel
theorem dX3_bestFreeStall_25 : decode cX3_bestFreeStall 25 = .ok (.iload 4, 2) := by decide +kernel
theorem dX3_bestFreeStall_27 : decode cX3_bestFreeStall 27 = .ok (.iload_n 2, 1) := by decide +kernel
theorem dX3_bestFreeStall_28 : decode cX3_bestFreeStall 28 = .ok (.if_icmp .ne 5, 3) := by decide +kernel
theorem dX3_bestFreeStall_31 : decode cX3_bestFreeStall 31 = .ok (.iconst (-1), 1) := by decide +kernel
theorem dX3_bestFreeStall_32 : decode cX3_bestFreeStall 32 = .ok (.ireturn, 1) := by decide +kernel
theorem dX3_bestFreeStall_33 : decode cX3_bestFreeStall 33 = .ok (.aload_n 0, 1) := by decide +kernel
theorem dX3_bestFreeStall_34 : decode cX3_bestFreeStall 34 = .ok (.iload 4, 2) := by decide +kernel
theorem dX3_bestFreeStall_36 : decode cX3_bestFreeStall 36 = .ok (.invokevirtual 43, 3) := by decide +kernel
theorem dX3_bestFreeStall_39 : decode cX3_bestFreeStall 39 = .ok (.iconst (-1), 1) := by decide +kernel
theorem dX3_bestFreeStall_40 : decode cX3_bestFreeStall 40 = .ok (.if_icmp .ne 6, 3) := by decide +kernel
theorem dX3_bestFreeStall_43 : decode cX3_bestFreeStall 43 = .ok (.iload 4, 2) := by decide +kernel
theorem dX3_bestFreeStall_45 : decode cX3_bestFreeStall 45 = .ok (.ireturn, 1) := by decide +kernel
theorem dX3_bestFreeStall_46 : decode cX3_bestFreeStall 46 = .ok (.iinc 3 1, 3) := by decide +kernel
theorem dX3_bestFreeStall_49 : decode cX3_bestFreeStall 49 = .ok (.goto (-41), 3) := by decide +kernel
theorem dX3_bestFreeStall_52 : decode cX3_bestFreeStall 52 = .ok (.iconst (-1), 1) := by decide +kernel
theorem dX3_bestFreeStall_53 : decode cX3_bestFreeStall 53 = .ok (.ireturn, 1) := by decide +kernel
theorem dX3_canImprove_0 : decode cX3_canImprove 0 = .ok (.iconst 0, 1) := by decide +kernel
theorem dX3_canImprove_1 : decode cX3_canImprove 1 = .ok (.istore_n 1, 1) := by decide +kernel
theorem dX3_canImprove_2 : decode cX3_canImprove 2 = .ok (.iload_n 1, 1) := by decide +kernel
theorem dX3_canImprove_3 : decode cX3_canImprove 3 = .ok (.aload_n 0, 1) := by decide +kernel
theorem dX3_canImprove_4 : decode cX3_canImprove 4 = .ok (.getfield 25, 3) := by decide +kernel
theorem dX3_canImprove_7 : decode cX3_canImprove 7 = .ok (.if_icmp .ge 45, 3) := by decide +kernel
theorem dX3_canImprove_10 : decode cX3_canImprove 10 = .ok (.aload_n 0, 1) := by decide +kernel
theorem dX3_canImprove_11 : decode cX3_canImprove 11 = .ok (.iload_n 1, 1) := by decide +kernel
theorem dX3_canImprove_12 : decode cX3_canImprove 12 = .ok (.iconst (-1), 1) := by decide +kernel
theorem dX3_canImprove_13 : decode cX3_canImprove 13 = .ok (.aload_n 0, 1) := by decide +kernel
theorem dX3_canImprove_14 : decode cX3_canImprove 14 = .ok (.iload_n 1, 1) := by decide +kernel
theorem dX3_canImprove_15 : decode cX3_canImprove 15 = .ok (.invokevirtual 9, 3) := by decide +kernel
theorem dX3_canImprove_18 : decode cX3_canImprove 18 = .ok (.invokevirtual 15, 3) := by decide +kernel
theorem dX3_canImprove_21 : decode cX3_canImprove 21 = .ok (.istore_n 2, 1) := by decide +kernel
theorem dX3_canImprove_22 : decode cX3_canImprove 22 = .ok (.iload_n 2, 1) := by decide +kernel
theorem dX3_canImprove_23 : decode cX3_canImprove 23 = .ok (.ifCond .ne 21, 3) := by decide +kernel
theorem dX3_canImprove_26 : decode cX3_canImprove 26 = .ok (.aload_n 0, 1) := by decide +kernel
theorem dX3_canImprove_27 : decode cX3_canImprove 27 = .ok (.iload_n 1, 1) := by decide +kernel
theorem dX3_canImprove_28 : decode cX3_canImprove 28 = .ok (.invokestatic 46, 3) := by decide +kernel
theorem dX3_canImprove_31 : decode cX3_canImprove 31 = .ok (.iconst (-1), 1) := by decide +kernel
theorem dX3_canImprove_32 : decode cX3_canImprove 32 = .ok (.if_icmp .ne 12, 3) := by decide +kernel
theorem dX3_canImprove_35 : decode cX3_canImprove 35 = .ok (.aload_n 0, 1) := by decide +kernel
theorem dX3_canImprove_36 : decode cX3_canImprove 36 = .ok (.iload_n 1, 1) := by decide +kernel
theorem dX3_canImprove_37 : decode cX3_canImprove 37 = .ok (.invokestatic 49, 3) := by decide +kernel
theorem dX3_canImprove_40 : decode cX3_canImprove 40 = .ok (.iconst (-1), 1) := by decide +kernel
theorem dX3_canImprove_41 : decode cX3_canImprove 41 = .ok (.if_icmp .eq 5, 3) := by decide +kernel
theorem dX3_canImprove_44 : decode cX3_canImprove 44 = .ok (.iconst 1, 1) := by decide +kernel
theorem dX3_canImprove_45 : decode cX3_canImprove 45 = .ok (.ireturn, 1) := by decide +kernel
theorem dX3_canImprove_46 : decode cX3_canImprove 46 = .ok (.iinc 1 1, 3) := by decide +kernel
theorem dX3_canImprove_49 : decode cX3_canImprove 49 = .ok (.goto (-47), 3) := by decide +kernel
theorem dX3_canImprove_52 : decode cX3_canImprove 52 = .ok (.iconst 0, 1) := by decide +kernel
theorem dX3_canImprove_53 : decode cX3_canImprove 53 = .ok (.ireturn, 1) := by decide +kernel
theorem dX4_init_0 : decode cX4_init 0 = .ok (.aload_n 0, 1) := by decide +kernel
theorem dX4_init_1 : decode cX4_init 1 = .ok (.invokespecial 3, 3) := by decide +kernel
theorem dX4_init_4 : decode cX4_init 4 = .ok (.aload_n 0, 1) := by decide +kernel
theorem dX4_init_5 : decode cX4_init 5 = .ok (.bipush 8, 2) := by decide +kernel
theorem dX4_init_7 : decode cX4_init 7 = .ok (.anewarray 9, 3) := by decide +kernel
theorem dX4_init_10 : decode cX4_init 10 = .ok (.putfield 11, 3) := by decide +kernel
theorem dX4_init_13 : decode cX4_init 13 = .ok (.aload_n 0, 1) := by decide +kernel
theorem dX4_init_14 : decode cX4_init 14 = .ok (.iconst 0, 1) := by decide +kernel
theorem dX4_init_15 : decode cX4_init 15 = .ok (.putfield 17, 3) := by decide +kernel
theorem dX4_init_18 : decode cX4_init 18 = .ok (.aload_n 0, 1) := by decide +kernel
theorem dX4_init_19 : decode cX4_init 19 = .ok (.iconst 0, 1) := by decide +kernel
theorem dX4_init_20 : decode cX4_init 20 = .ok (.putfield 21, 3) := by decide +kernel
theorem dX4_init_23 : decode cX4_init 23 = .ok (.iconst 0, 1) := by decide +kernel
theorem dX4_init_24 : decode cX4_init 24 = .ok (.istore_n 1, 1) := by decide +kernel
theorem dX4_init_25 : decode cX4_init 25 = .ok (.iload_n 1, 1) := by decide +kernel
theorem dX4_init_26 : decode cX4_init 26 = .ok (.bipush 8, 2) := by decide +kernel
theorem dX4_init_28 : decode cX4_init 28 = .ok (.if_icmp .ge 22, 3) := by decide +kernel
theorem dX4_init_31 : decode cX4_init 31 = .ok (.aload_n 0, 1) := by decide +kernel
theorem dX4_init_32 : decode cX4_init 32 = .ok (.getfield 11, 3) := by decide +kernel
theorem dX4_init_35 : decode cX4_init 35 = .ok (.iload_n 1, 1) := by decide +kernel
theorem dX4_init_36 : decode cX4_init 36 = .ok (.new 9, 3) := by decide +kernel
theorem dX4_init_39 : decode cX4_init 39 = .ok (.dup, 1) := by decide +kernel
theorem dX4_init_40 : decode cX4_init 40 = .ok (.invokespecial 24, 3) := by decide +kernel
theorem dX4_init_43 : decode cX4_init 43 = .ok (.aastore, 1) := by decide +kernel
theorem dX4_init_44 : decode cX4_init 44 = .ok (.iinc 1 1, 3) := by decide +kernel
theorem dX4_init_47 : decode cX4_init 47 = .ok (.goto (-22), 3) := by decide +kernel
theorem dX4_init_50 : decode cX4_init 50 = .ok (.return_, 1) := by decide +kernel
theorem dX4_clear_0 : decode cX4_clear 0 = .ok (.aload_n 0, 1) := by decide +kernel
theorem dX4_clear_1 : decode cX4_clear 1 = .ok (.iconst 0, 1) := by decide +kernel
theorem dX4_clear_2 : decode cX4_clear 2 = .ok (.putfield 17, 3) := by decide +kernel
theorem dX4_clear_5 : decode cX4_clear 5 = .ok (.aload_n 0, 1) := by decide +kernel
theorem dX4_clear_6 : decode cX4_clear 6 = .ok (.iconst 0, 1) := by decide +kernel
theorem dX4_clear_7 : decode cX4_clear 7 = .ok (.putfield 21, 3) := by decide +kernel
theorem dX4_clear_10 : decode cX4_clear 10 = .ok (.return_, 1) := by decide +kernel
theorem dX4_record_0 : decode cX4_record 0 = .ok (.aload_n 1, 1) := by decide +kernel
theorem dX4_record_1 : decode cX4_record 1 = .ok (.aload_n 0, 1) := by decide +kernel
theorem dX4_record_2 : decode cX4_record 2 = .ok (.getfield 11, 3) := by decide +kernel
theorem dX4_record_5 : decode cX4_record 5 = .ok (.aload_n 0, 1) := by decide +kernel
theorem dX4_record_6 : decode cX4_record 6 = .ok (.aload_n 0, 1) := by decide +kernel
theorem dX4_record_7 : decode cX4_record 7 = .ok (.getfield 21, 3) := by decide +kernel
theorem dX4_record_10 : decode cX4_record 10 = .ok (.invokevirtual 25, 3) := by decide +kernel
theorem dX4_record_13 : decode cX4_record 13 = .ok (.aaload, 1) := by decide +kernel
theorem dX4_record_14 : decode cX4_record 14 = .ok (.invokestatic 29, 3) := by decide +kernel
theorem dX4_record_17 : decode cX4_record 17 = .ok (.aload_n 0, 1) := by decide +kernel
theorem dX4_record_18 : decode cX4_record 18 = .ok (.getfield 21, 3) := by decide +kernel
theorem dX4_record_21 : decode cX4_record 21 = .ok (.bipush 8, 2) := by decide +kernel
theorem dX4_record_23 : decode cX4_record 23 = .ok (.if_icmp .ge 16, 3) := by decide +kernel
theorem dX4_record_26 : decode cX4_record 26 = .ok (.aload_n 0, 1) := by decide +kernel
theorem dX4_record_27 : decode cX4_record 27 = .ok (.dup, 1) := by decide +kernel
theorem dX4_record_28 : decode cX4_record 28 = .ok (.getfield 21, 3) := by decide +kernel
theorem dX4_record_31 : decode cX4_record 31 = .ok (.iconst 1, 1) := by decide +kernel
theorem dX4_record_32 : decode cX4_record 32 = .ok (.iadd, 1) := by decide +kernel
theorem dX4_record_33 : decode cX4_record 33 = .ok (.putfield 21, 3) := by decide +kernel
theorem dX4_record_36 : decode cX4_record 36 = .ok (.goto 12, 3) := by decide +kernel
theorem dX4_record_39 : decode cX4_record 39 = .ok (.aload_n 0, 1) := by decide +kernel
theorem dX4_record_40 : decode cX4_record 40 = .ok (.aload_n 0, 1) := by decide +kernel
theorem dX4_record_41 : decode cX4_record 41 = .ok (.iconst 1, 1) := by decide +kernel
theorem dX4_record_42 : decode cX4_record 42 = .ok (.invokevirtual 25, 3) := by decide +kernel
theorem dX4_record_45 : decode cX4_record 45 = .ok (.putfield 17, 3) := by decide +kernel
theorem dX4_record_48 : decode cX4_record 48 = .ok (.return_, 1) := by decide +kernel
theorem dX4_takeBack_0 : decode cX4_takeBack 0 = .ok (.aload_n 0, 1) := by decide +kernel
theorem dX4_takeBack_1 : decode cX4_takeBack 1 = .ok (.getfield 21, 3) := by decide +kernel
theorem dX4_takeBack_4 : decode cX4_takeBack 4 = .ok (.ifCond .ne 5, 3) := by decide +kernel
theorem dX4_takeBack_7 : decode cX4_takeBack 7 = .ok (.iconst (-1), 1) := by decide +kernel
theorem dX4_takeBack_8 : decode cX4_takeBack 8 = .ok (.ireturn, 1) := by decide +kernel
theorem dX4_takeBack_9 : decode cX4_takeBack 9 = .ok (.aload_n 0, 1) := by decide +kernel
theorem dX4_takeBack_10 : decode cX4_takeBack 10 = .ok (.dup, 1) := by decide +kernel
theorem dX4_takeBack_11 : decode cX4_takeBack 11 = .ok (.getfield 21, 3) := by decide +kernel
theorem dX4_takeBack_14 : decode cX4_takeBack 14 = .ok (.iconst 1, 1) := by decide +kernel
theorem dX4_takeBack_15 : decode cX4_takeBack 15 = .ok (.isub, 1) := by decide +kernel
theorem dX4_takeBack_16 : decode cX4_takeBack 16 = .ok (.putfield 21, 3) := by decide +kernel
theorem dX4_takeBack_19 : decode cX4_takeBack 19 = .ok (.aload_n 0, 1) := by decide +kernel
theorem dX4_takeBack_20 : decode cX4_takeBack 20 = .ok (.getfield 11, 3) := by decide +kernel
theorem dX4_takeBack_23 : decode cX4_takeBack 23 = .ok (.aload_n 0, 1) := by decide +kernel
theorem dX4_takeBack_24 : decode cX4_takeBack 24 = .ok (.aload_n 0, 1) := by decide +kernel
theorem dX4_takeBack_25 : decode cX4_takeBack 25 = .ok (.getfield 21, 3) := by decide +kernel
theorem dX4_takeBack_28 : decode cX4_takeBack 28 = .ok (.invokevirtual 25, 3) := by decide +kernel
theorem dX4_takeBack_31 : decode cX4_takeBack 31 = .ok (.aaload, 1) := by decide +kernel
theorem dX4_takeBack_32 : decode cX4_takeBack 32 = .ok (.aload_n 1, 1) := by decide +kernel
theorem dX4_takeBack_33 : decode cX4_takeBack 33 = .ok (.invokestatic 29, 3) := by decide +kernel
theorem dX4_takeBack_36 : decode cX4_takeBack 36 = .ok (.aload_n 0, 1) := by decide +kernel
theorem dX4_takeBack_37 : decode cX4_takeBack 37 = .ok (.getfield 21, 3) := by decide +kernel
theorem dX4_takeBack_40 : decode cX4_takeBack 40 = .ok (.ireturn, 1) := by decide +kernel
theorem dX4_slotAfter_0 : decode cX4_slotAfter 0 = .ok (.aload_n 0, 1) := by decide +kernel
theorem dX4_slotAfter_1 : decode cX4_slotAfter 1 = .ok (.getfield 17, 3) := by decide +kernel
theorem dX4_slotAfter_4 : decode cX4_slotAfter 4 = .ok (.iload_n 1, 1) := by decide +kernel
theorem dX4_slotAfter_5 : decode cX4_slotAfter 5 = .ok (.iadd, 1) := by decide +kernel
theorem dX4_slotAfter_6 : decode cX4_slotAfter 6 = .ok (.bipush 8, 2) := by decide +kernel
theorem dX4_slotAfter_8 : decode cX4_slotAfter 8 = .ok (.irem, 1) := by decide +kernel
theorem dX4_slotAfter_9 : decode cX4_slotAfter 9 = .ok (.ireturn, 1) := by decide +kernel
theorem dX5_init_0 : decode cX5_init 0 = .ok (.aload_n 0, 1) := by decide +kernel
theorem dX5_init_1 : decode cX5_init 1 = .ok (.invokespecial 3, 3) := by decide +kernel
theorem dX5_init_4 : decode cX5_init 4 = .ok (.aload_n 0, 1) := by decide +kernel
theorem dX5_init_5 : decode cX5_init 5 = .ok (.iconst 0, 1) := by decide +kernel
theorem dX5_init_6 : decode cX5_init 6 = .ok (.putfield 9, 3) := by decide +kernel
theorem dX5_init_9 : decode cX5_init 9 = .ok (.aload_n 0, 1) := by decide +kernel
theorem dX5_init_10 : decode cX5_init 10 = .ok (.iconst 0, 1) := by decide +kernel
theorem dX5_init_11 : decode cX5_init 11 = .ok (.putfield 15, 3) := by decide +kernel
theorem dX5_init_14 : decode cX5_init 14 = .ok (.aload_n 0, 1) := by decide +kernel
theorem dX5_init_15 : decode cX5_init 15 = .ok (.iconst 0, 1) := by decide +kernel
theorem dX5_init_16 : decode cX5_init 16 = .ok (.putfield 18, 3) := by decide +kernel
theorem dX5_init_19 : decode cX5_init 19 = .ok (.aload_n 0, 1) := by decide +kernel
theorem dX5_init_20 : decode cX5_init 20 = .ok (.iconst 0, 1) := by decide +kernel
theorem dX5_init_21 : decode cX5_init 21 = .ok (.putfield 21, 3) := by decide +kernel
theorem dX5_init_24 : decode cX5_init 24 = .ok (.aload_n 0, 1) := by decide +kernel
theorem dX5_init_25 : decode cX5_init 25 = .ok (.iconst 0, 1) := by decide +kernel
theorem dX5_init_26 : decode cX5_init 26 = .ok (.putfield 24, 3) := by decide +kernel
theorem dX5_init_29 : decode cX5_init 29 = .ok (.aload_n 0, 1) := by decide +kernel
theorem dX5_init_30 : decode cX5_init 30 = .ok (.iconst 0, 1) := by decide +kernel
theorem dX5_init_31 : decode cX5_init 31 = .ok (.putfield 27, 3) := by decide +kernel
theorem dX5_init_34 : decode cX5_init 34 = .ok (.aload_n 0, 1) := by decide +kernel
theorem dX5_init_35 : decode cX5_init 35 = .ok (.iconst 0, 1) := by decide +kernel
theorem dX5_init_36 : decode cX5_init 36 = .ok (.putfield 30, 3) := by decide +kernel
theorem dX5_init_39 : decode cX5_init 39 = .ok (.aload_n 0, 1) := by decide +kernel
theorem dX5_init_40 : decode cX5_init 40 = .ok (.iconst 0, 1) := by decide +kernel
theorem dX5_init_41 : decode cX5_init 41 = .ok (.putfield 33, 3) := by decide +kernel
theorem dX5_init_44 : decode cX5_init 44 = .ok (.aload_n 0, 1) := by decide +kernel
theorem dX5_init_45 : decode cX5_init 45 = .ok (.iconst 0, 1) := by decide +kernel
theorem dX5_init_46 : decode cX5_init 46 = .ok (.putfield 36, 3) := by decide +kernel
theorem dX5_init_49 : decode cX5_init 49 = .ok (.aload_n 0, 1) := by decide +kernel
theorem dX5_init_50 : decode cX5_init 50 = .ok (.bipush 8, 2) := by decide +kernel
theorem dX5_init_52 : decode cX5_init 52 = .ok (.newarray .long, 2) := by decide +kernel
theorem dX5_init_54 : decode cX5_init 54 = .ok (.putfield 39, 3) := by decide +kernel
theorem dX5_init_57 : decode cX5_init 57 = .ok (.aload_n 0, 1) := by decide +kernel
theorem dX5_init_58 : decode cX5_init 58 = .ok (.bipush 8, 2) := by decide +kernel
theorem dX5_init_60 : decode cX5_init 60 = .ok (.newarray .int, 2) := by decide +kernel
theorem dX5_init_62 : decode cX5_init 62 = .ok (.putfield 43, 3) := by decide +kernel
theorem dX5_init_65 : decode cX5_init 65 = .ok (.aload_n 0, 1) := by decide +kernel
theorem dX5_init_66 : decode cX5_init 66 = .ok (.bipush 8, 2) := by decide +kernel
theorem dX5_init_68 : decode cX5_init 68 = .ok (.newarray .int, 2) := by decide +kernel
theorem dX5_init_70 : decode cX5_init 70 = .ok (.putfield 47, 3) := by decide +kernel
theorem dX5_init_73 : decode cX5_init 73 = .ok (.aload_n 0, 1) := by decide +kernel
theorem dX5_init_74 : decode cX5_init 74 = .ok (.bipush 8, 2) := by decide +kernel
theorem dX5_init_76 : decode cX5_init 76 = .ok (.newarray .int, 2) := by decide +kernel
theorem dX5_init_78 : decode cX5_init 78 = .ok (.putfield 50, 3) := by decide +kernel
theorem dX5_init_81 : decode cX5_init 81 = .ok (.aload_n 0, 1) := by decide +kernel
theorem dX5_init_82 : decode cX5_init 82 = .ok (.bipush 8, 2) := by decide +kernel
theorem dX5_init_84 : decode cX5_init 84 = .ok (.newarray .int, 2) := by decide +kernel
theorem dX5_init_86 : decode cX5_init 86 = .ok (.putfield 53, 3) := by decide +kernel
theorem dX5_init_89 : decode cX5_init 89 = .ok (.aload_n 0, 1) := by decide +kernel
theorem dX5_init_90 : decode cX5_init 90 = .ok (.bipush 8, 2) := by decide +kernel
theorem dX5_init_92 : decode cX5_init 92 = .ok (.newarray .int, 2) := by decide +kernel
theorem dX5_init_94 : decode cX5_init 94 = .ok (.putfield 56, 3) := by decide +kernel
theorem dX5_init_97 : decode cX5_init 97 = .ok (.aload_n 0, 1) := by decide +kernel
theorem dX5_init_98 : decode cX5_init 98 = .ok (.bipush 64, 2) := by decide +kernel
theorem dX5_init_100 : decode cX5_init 100 = .ok (.newarray .int, 2) := by decide +kernel
theorem dX5_init_102 : decode cX5_init 102 = .ok (.putfield 59, 3) := by decide +kernel
theorem dX5_init_105 : decode cX5_init 105 = .ok (.aload_n 0, 1) := by decide +kernel
theorem dX5_init_106 : decode cX5_init 106 = .ok (.bipush 8, 2) := by decide +kernel
theorem dX5_init_108 : decode cX5_init 108 = .ok (.newarray .long, 2) := by decide +kernel
theorem dX5_init_110 : decode cX5_init 110 = .ok (.putfield 62, 3) := by decide +kernel
theorem dX5_init_113 : decode cX5_init 113 = .ok (.aload_n 0, 1) := by decide +kernel
theorem dX5_init_114 : decode cX5_init 114 = .ok (.bipush 8, 2) := by decide +kernel
theorem dX5_init_116 : decode cX5_init 116 = .ok (.newarray .int, 2) := by decide +kernel
theorem dX5_init_118 : decode cX5_init 118 = .ok (.putfield 65, 3) := by decide +kernel
theorem dX5_init_121 : decode cX5_init 121 = .ok (.return_, 1) := by decide +kernel
theorem dX5_copy_0 : decode cX5_copy 0 = .ok (.aload_n 0, 1) := by decide +kernel
theorem dX5_copy_1 : decode cX5_copy 1 = .ok (.ifnull 7, 3) := by decide +kernel
theorem dX5_copy_4 : decode cX5_copy 4 = .ok (.aload_n 1, 1) := by decide +kernel
theorem dX5_copy_5 : decode cX5_copy 5 = .ok (.ifnonnull 4, 3) := by decide +kernel
theorem dX5_copy_8 : decode cX5_copy 8 = .ok (.return_, 1) := by decide +kernel
theorem dX5_copy_9 : decode cX5_copy 9 = .ok (.aload_n 1, 1) := by decide +kernel
theorem dX5_copy_10 : decode cX5_copy 10 = .ok (.aload_n 0, 1) := by decide +kernel
theorem dX5_copy_11 : decode cX5_copy 11 = .ok (.getfield 9, 3) := by decide +kernel
theorem dX5_copy_14 : decode cX5_copy 14 = .ok (.putfield 9, 3) := by decide +kernel
theorem dX5_copy_17 : decode cX5_copy 17 = .ok (.aload_n 1, 1) := by decide +kernel
theorem dX5_copy_18 : decode cX5_copy 18 = .ok (.aload_n 0, 1) := by decide +kernel
theorem dX5_copy_19 : decode cX5_copy 19 = .ok (.getfield 15, 3) := by decide +kernel
theorem dX5_copy_22 : decode cX5_copy 22 = .ok (.putfield 15, 3) := by decide +kernel
theorem dX5_copy_25 : decode cX5_copy 25 = .ok (.aload_n 1, 1) := by decide +kernel
theorem dX5_copy_26 : decode cX5_copy 26 = .ok (.aload_n 0, 1) := by decide +kernel
theorem dX5_copy_27 : decode cX5_copy 27 = .ok (.getfield 18, 3) := by decide +kernel
theorem dX5_copy_30 : decode cX5_copy 30 = .ok (.putfield 18, 3) := by decide +kernel
theorem dX5_copy_33 : decode cX5_copy 33 = .ok (.aload_n 1, 1) := by decide +kernel
theorem dX5_copy_34 : decode cX5_copy 34 = .ok (.aload_n 0, 1) := by decide +kernel
theorem dX5_copy_35 : decode cX5_copy 35 = .ok (.getfield 21, 3) := by decide +kernel
theorem dX5_copy_38 : decode cX5_copy 38 = .ok (.putfield 21, 3) := by decide +kernel
theorem dX5_copy_41 : decode cX5_copy 41 = .ok (.aload_n 1, 1) := by decide +kernel
theorem dX5_copy_42 : decode cX5_copy 42 = .ok (.aload_n 0, 1) := by decide +kernel
theorem dX5_copy_43 : decode cX5_copy 43 = .ok (.getfield 24, 3) := by decide +kernel
theorem dX5_copy_46 : decode cX5_copy 46 = .ok (.putfield 24, 3) := by decide +kernel
theorem dX5_copy_49 : decode cX5_copy 49 = .ok (.aload_n 1, 1) := by decide +kernel
theorem dX5_copy_50 : decode cX5_copy 50 = .ok (.aload_n 0, 1) := by decide +kernel
theorem dX5_copy_51 : decode cX5_copy 51 = .ok (.getfield 27, 3) := by decide +kernel
theorem dX5_copy_54 : decode cX5_copy 54 = .ok (.putfield 27, 3) := by decide +kernel
theorem dX5_copy_57 : decode cX5_copy 57 = .ok (.aload_n 1, 1) := by decide +kernel
theorem dX5_copy_58 : decode cX5_copy 58 = .ok (.aload_n 0, 1) := by decide +kernel
theorem dX5_copy_59 : decode cX5_copy 59 = .ok (.getfield 30, 3) := by decide +kernel
theorem dX5_copy_62 : decode cX5_copy 62 = .ok (.putfield 30, 3) := by decide +kernel
theorem dX5_copy_65 : decode cX5_copy 65 = .ok (.aload_n 1, 1) := by decide +kernel
theorem dX5_copy_66 : decode cX5_copy 66 = .ok (.aload_n 0, 1) := by decide +kernel
theorem dX5_copy_67 : decode cX5_copy 67 = .ok (.getfield 33, 3) := by decide +kernel
theorem dX5_copy_70 : decode cX5_copy 70 = .ok (.putfield 33, 3) := by decide +kernel
theorem dX5_copy_73 : decode cX5_copy 73 = .ok (.aload_n 1, 1) := by decide +kernel
theorem dX5_copy_74 : decode cX5_copy 74 = .ok (.aload_n 0, 1) := by decide +kernel
theorem dX5_copy_75 : decode cX5_copy 75 = .ok (.getfield 36, 3) := by decide +kernel
theorem dX5_copy_78 : decode cX5_copy 78 = .ok (.putfield 36, 3) := by decide +kernel
theorem dX5_copy_81 : decode cX5_copy 81 = .ok (.iconst 0, 1) := by decide +kernel
theorem dX5_copy_82 : decode cX5_copy 82 = .ok (.istore_n 2, 1) := by decide +kernel
theorem dX5_copy_83 : decode cX5_copy 83 = .ok (.iload_n 2, 1) := by decide +kernel
theorem dX5_copy_84 : decode cX5_copy 84 = .ok (.bipush 8, 2) := by decide +kernel
theorem dX5_copy_86 : decode cX5_copy 86 = .ok (.if_icmp .ge 81, 3) := by decide +kernel
theorem dX5_copy_89 : decode cX5_copy 89 = .ok (.aload_n 1, 1) := by decide +kernel
theorem dX5_copy_90 : decode cX5_copy 90 = .ok (.getfield 39, 3) := by decide +kernel
theorem dX5_copy_93 : decode cX5_copy 93 = .ok (.iload_n 2, 1) := by decide +kernel
theorem dX5_copy_94 : decode cX5_copy 94 = .ok (.aload_n 0, 1) := by decide +kernel
theorem dX5_copy_95 : decode cX5_copy 95 = .ok (.getfield 39, 3) := by decide +kernel
theorem dX5_copy_98 : decode cX5_copy 98 = .ok (.iload_n 2, 1) := by decide +kernel
theorem dX5_copy_99 : decode cX5_copy 99 = .ok (.laload, 1) := by decide +kernel
theorem dX5_copy_100 : decode cX5_copy 100 = .ok (.lastore, 1) := by decide +kernel
theorem dX5_copy_101 : decode cX5_copy 101 = .ok (.aload_n 1, 1) := by decide +kernel
theorem dX5_copy_102 : decode cX5_copy 102 = .ok (.getfield 43, 3) := by decide +kernel
theorem dX5_copy_105 : decode cX5_copy 105 = .ok (.iload_n 2, 1) := by decide +kernel
theorem dX5_copy_106 : decode cX5_copy 106 = .ok (.aload_n 0, 1) := by decide +kernel
theorem dX5_copy_107 : decode cX5_copy 107 = .ok (.getfield 43, 3) := by decide +kernel
theorem dX5_copy_110 : decode cX5_copy 110 = .ok (.iload_n 2, 1) := by decide +kernel
theorem dX5_copy_111 : decode cX5_copy 111 = .ok (.iaload, 1) := by decide +kernel
theorem dX5_copy_112 : decode cX5_copy 112 = .ok (.iastore, 1) := by decide +kernel
theorem dX5_copy_113 : decode cX5_copy 113 = .ok (.aload_n 1, 1) := by decide +kernel
theorem dX5_copy_114 : decode cX5_copy 114 = .ok (.getfield 47, 3) := by decide +kernel
theorem dX5_copy_117 : decode cX5_copy 117 = .ok (.iload_n 2, 1) := by decide +kernel
theorem dX5_copy_118 : decode cX5_copy 118 = .ok (.aload_n 0, 1) := by decide +kernel
theorem dX5_copy_119 : decode cX5_copy 119 = .ok (.getfield 47, 3) := by decide +kernel
theorem dX5_copy_122 : decode cX5_copy 122 = .ok (.iload_n 2, 1) := by decide +kernel
theorem dX5_copy_123 : decode cX5_copy 123 = .ok (.iaload, 1) := by decide +kernel
theorem dX5_copy_124 : decode cX5_copy 124 = .ok (.iastore, 1) := by decide +kernel
theorem dX5_copy_125 : decode cX5_copy 125 = .ok (.aload_n 1, 1) := by decide +kernel
theorem dX5_copy_126 : decode cX5_copy 126 = .ok (.getfield 50, 3) := by decide +kernel
theorem dX5_copy_129 : decode cX5_copy 129 = .ok (.iload_n 2, 1) := by decide +kernel
theorem dX5_copy_130 : decode cX5_copy 130 = .ok (.aload_n 0, 1) := by decide +kernel
theorem dX5_copy_131 : decode cX5_copy 131 = .ok (.getfield 50, 3) := by decide +kernel
theorem dX5_copy_134 : decode cX5_copy 134 = .ok (.iload_n 2, 1) := by decide +kernel
theorem dX5_copy_135 : decode cX5_copy 135 = .ok (.iaload, 1) := by decide +kernel
theorem dX5_copy_136 : decode cX5_copy 136 = .ok (.iastore, 1) := by decide +kernel
theorem dX5_copy_137 : decode cX5_copy 137 = .ok (.aload_n 1, 1) := by decide +kernel
theorem dX5_copy_138 : decode cX5_copy 138 = .ok (.getfield 53, 3) := by decide +kernel
theorem dX5_copy_141 : decode cX5_copy 141 = .ok (.iload_n 2, 1) := by decide +kernel
theorem dX5_copy_142 : decode cX5_copy 142 = .ok (.aload_n 0, 1) := by decide +kernel
theorem dX5_copy_143 : decode cX5_copy 143 = .ok (.getfield 53, 3) := by decide +kernel
theorem dX5_copy_146 : decode cX5_copy 146 = .ok (.iload_n 2, 1) := by decide +kernel
theorem dX5_copy_147 : decode cX5_copy 147 = .ok (.iaload, 1) := by decide +kernel
theorem dX5_copy_148 : decode cX5_copy 148 = .ok (.iastore, 1) := by decide +kernel
theorem dX5_copy_149 : decode cX5_copy 149 = .ok (.aload_n 1, 1) := by decide +kernel
theorem dX5_copy_150 : decode cX5_copy 150 = .ok (.getfield 56, 3) := by decide +kernel
theorem dX5_copy_153 : decode cX5_copy 153 = .ok (.iload_n 2, 1) := by decide +kernel
theorem dX5_copy_154 : decode cX5_copy 154 = .ok (.aload_n 0, 1) := by decide +kernel
theorem dX5_copy_155 : decode cX5_copy 155 = .ok (.getfield 56, 3) := by decide +kernel
theorem dX5_copy_158 : decode cX5_copy 158 = .ok (.iload_n 2, 1) := by decide +kernel
theorem dX5_copy_159 : decode cX5_copy 159 = .ok (.iaload, 1) := by decide +kernel
theorem dX5_copy_160 : decode cX5_copy 160 = .ok (.iastore, 1) := by decide +kernel
theorem dX5_copy_161 : decode cX5_copy 161 = .ok (.iinc 2 1, 3) := by decide +kernel
theorem dX5_copy_164 : decode cX5_copy 164 = .ok (.goto (-81), 3) := by decide +kernel
theorem dX5_copy_167 : decode cX5_copy 167 = .ok (.iconst 0, 1) := by decide +kernel
theorem dX5_copy_168 : decode cX5_copy 168 = .ok (.istore_n 2, 1) := by decide +kernel
theorem dX5_copy_169 : decode cX5_copy 169 = .ok (.iload_n 2, 1) := by decide +kernel
theorem dX5_copy_170 : decode cX5_copy 170 = .ok (.bipush 64, 2) := by decide +kernel
theorem dX5_copy_172 : decode cX5_copy 172 = .ok (.if_icmp .ge 21, 3) := by decide +kernel
theorem dX5_copy_175 : decode cX5_copy 175 = .ok (.aload_n 1, 1) := by decide +kernel
theorem dX5_copy_176 : decode cX5_copy 176 = .ok (.getfield 59, 3) := by decide +kernel
theorem dX5_copy_179 : decode cX5_copy 179 = .ok (.iload_n 2, 1) := by decide +kernel
theorem dX5_copy_180 : decode cX5_copy 180 = .ok (.aload_n 0, 1) := by decide +kernel
theorem dX5_copy_181 : decode cX5_copy 181 = .ok (.getfield 59, 3) := by decide +kernel
theorem dX5_copy_184 : decode cX5_copy 184 = .ok (.iload_n 2, 1) := by decide +kernel
theorem dX5_copy_185 : decode cX5_copy 185 = .ok (.iaload, 1) := by decide +kernel
theorem dX5_copy_186 : decode cX5_copy 186 = .ok (.iastore, 1) := by decide +kernel
theorem dX5_copy_187 : decode cX5_copy 187 = .ok (.iinc 2 1, 3) := by decide +kernel
theorem dX5_copy_190 : decode cX5_copy 190 = .ok (.goto (-21), 3) := by decide +kernel
theorem dX5_copy_193 : decode cX5_copy 193 = .ok (.iconst 0, 1) := by decide +kernel
theorem dX5_copy_194 : decode cX5_copy 194 = .ok (.istore_n 2, 1) := by decide +kernel
theorem dX5_copy_195 : decode cX5_copy 195 = .ok (.iload_n 2, 1) := by decide +kernel
theorem dX5_copy_196 : decode cX5_copy 196 = .ok (.bipush 8, 2) := by decide +kernel
theorem dX5_copy_198 : decode cX5_copy 198 = .ok (.if_icmp .ge 33, 3) := by decide +kernel
theorem dX5_copy_201 : decode cX5_copy 201 = .ok (.aload_n 1, 1) := by decide +kernel
theorem dX5_copy_202 : decode cX5_copy 202 = .ok (.getfield 62, 3) := by decide +kernel
theorem dX5_copy_205 : decode cX5_copy 205 = .ok (.iload_n 2, 1) := by decide +kernel
theorem dX5_copy_206 : decode cX5_copy 206 = .ok (.aload_n 0, 1) := by decide +kernel
theorem dX5_copy_207 : decode cX5_copy 207 = .ok (.getfield 62, 3) := by decide +kernel
theorem dX5_copy_210 : decode cX5_copy 210 = .ok (.iload_n 2, 1) := by decide +kernel
theorem dX5_copy_211 : decode cX5_copy 211 = .ok (.laload, 1) := by decide +kernel
theorem dX5_copy_212 : decode cX5_copy 212 = .ok (.lastore, 1) := by decide +kernel
theorem dX5_copy_213 : decode cX5_copy 213 = .ok (.aload_n 1, 1) := by decide +kernel
theorem dX5_copy_214 : decode cX5_copy 214 = .ok (.getfield 65, 3) := by decide +kernel
theorem dX5_copy_217 : decode cX5_copy 217 = .ok (.iload_n 2, 1) := by decide +kernel
theorem dX5_copy_218 : decode cX5_copy 218 = .ok (.aload_n 0, 1) := by decide +kernel
theorem dX5_copy_219 : decode cX5_copy 219 = .ok (.getfield 65, 3) := by decide +kernel
theorem dX5_copy_222 : decode cX5_copy 222 = .ok (.iload_n 2, 1) := by decide +kernel
theorem dX5_copy_223 : decode cX5_copy 223 = .ok (.iaload, 1) := by decide +kernel
theorem dX5_copy_224 : decode cX5_copy 224 = .ok (.iastore, 1) := by decide +kernel
theorem dX5_copy_225 : decode cX5_copy 225 = .ok (.iinc 2 1, 3) := by decide +kernel
theorem dX5_copy_228 : decode cX5_copy 228 = .ok (.goto (-33), 3) := by decide +kernel
theorem dX5_copy_231 : decode cX5_copy 231 = .ok (.return_, 1) := by decide +kernel
theorem dX5_clear_0 : decode cX5_clear 0 = .ok (.aload_n 0, 1) := by decide +kernel
theorem dX5_clear_1 : decode cX5_clear 1 = .ok (.iconst 0, 1) := by decide +kernel
theorem dX5_clear_2 : decode cX5_clear 2 = .ok (.putfield 9, 3) := by decide +kernel
theorem dX5_clear_5 : decode cX5_clear 5 = .ok (.aload_n 0, 1) := by decide +kernel
theorem dX5_clear_6 : decode cX5_clear 6 = .ok (.iconst 0, 1) := by decide +kernel
theorem dX5_clear_7 : decode cX5_clear 7 = .ok (.putfield 15, 3) := by decide +kernel
theorem dX5_clear_10 : decode cX5_clear 10 = .ok (.aload_n 0, 1) := by decide +kernel
theorem dX5_clear_11 : decode cX5_clear 11 = .ok (.iconst 0, 1) := by decide +kernel
theorem dX5_clear_12 : decode cX5_clear 12 = .ok (.putfield 18, 3) := by decide +kernel
theorem dX5_clear_15 : decode cX5_clear 15 = .ok (.aload_n 0, 1) := by decide +kernel
theorem dX5_clear_16 : decode cX5_clear 16 = .ok (.iconst 0, 1) := by decide +kernel
theorem dX5_clear_17 : decode cX5_clear 17 = .ok (.putfield 21, 3) := by decide +kernel
theorem dX5_clear_20 : decode cX5_clear 20 = .ok (.aload_n 0, 1) := by decide +kernel
theorem dX5_clear_21 : decode cX5_clear 21 = .ok (.iconst 0, 1) := by decide +kernel
theorem dX5_clear_22 : decode cX5_clear 22 = .ok (.putfield 24, 3) := by decide +kernel
theorem dX5_clear_25 : decode cX5_clear 25 = .ok (.aload_n 0, 1) := by decide +kernel
theorem dX5_clear_26 : decode cX5_clear 26 = .ok (.iconst 0, 1) := by decide +kernel
theorem dX5_clear_27 : decode cX5_clear 27 = .ok (.putfield 27, 3) := by decide +kernel
theorem dX5_clear_30 : decode cX5_clear 30 = .ok (.aload_n 0, 1) := by decide +kernel
theorem dX5_clear_31 : decode cX5_clear 31 = .ok (.iconst 0, 1) := by decide +kernel
theorem dX5_clear_32 : decode cX5_clear 32 = .ok (.putfield 30, 3) := by decide +kernel
theorem dX5_clear_35 : decode cX5_clear 35 = .ok (.aload_n 0, 1) := by decide +kernel
theorem dX5_clear_36 : decode cX5_clear 36 = .ok (.iconst 0, 1) := by decide +kernel
theorem dX5_clear_37 : decode cX5_clear 37 = .ok (.putfield 33, 3) := by decide +kernel
theorem dX5_clear_40 : decode cX5_clear 40 = .ok (.aload_n 0, 1) := by decide +kernel
theorem dX5_clear_41 : decode cX5_clear 41 = .ok (.iconst 0, 1) := by decide +kernel
theorem dX5_clear_42 : decode cX5_clear 42 = .ok (.putfield 36, 3) := by decide +kernel
theorem dX5_clear_45 : decode cX5_clear 45 = .ok (.return_, 1) := by decide +kernel
theorem dX5_addStall_0 : decode cX5_addStall 0 = .ok (.aload_n 0, 1) := by decide +kernel
theorem dX5_addStall_1 : decode cX5_addStall 1 = .ok (.getfield 15, 3) := by decide +kernel
theorem dX5_addStall_4 : decode cX5_addStall 4 = .ok (.bipush 8, 2) := by decide +kernel
theorem dX5_addStall_6 : decode cX5_addStall 6 = .ok (.if_icmp .ge 33, 3) := by decide +kernel
theorem dX5_addStall_9 : decode cX5_addStall 9 = .ok (.aload_n 0, 1) := by decide +kernel
theorem dX5_addStall_10 : decode cX5_addStall 10 = .ok (.getfield 62, 3) := by decide +kernel
theorem dX5_addStall_13 : decode cX5_addStall 13 = .ok (.aload_n 0, 1) := by decide +kernel
theorem dX5_addStall_14 : decode cX5_addStall 14 = .ok (.getfield 15, 3) := by decide +kernel
theorem dX5_addStall_17 : decode cX5_addStall 17 = .ok (.lload_n 1, 1) := by decide +kernel
theorem dX5_addStall_18 : decode cX5_addStall 18 = .ok (.lastore, 1) := by decide +kernel
theorem dX5_addStall_19 : decode cX5_addStall 19 = .ok (.aload_n 0, 1) := by decide +kernel
theorem dX5_addStall_20 : decode cX5_addStall 20 = .ok (.getfield 65, 3) := by decide +kernel
theorem dX5_addStall_23 : decode cX5_addStall 23 = .ok (.aload_n 0, 1) := by decide +kernel
theorem dX5_addStall_24 : decode cX5_addStall 24 = .ok (.getfield 15, 3) := by decide +kernel
theorem dX5_addStall_27 : decode cX5_addStall 27 = .ok (.iload_n 3, 1) := by decide +kernel
theorem dX5_addStall_28 : decode cX5_addStall 28 = .ok (.iastore, 1) := by decide +kernel
theorem dX5_addStall_29 : decode cX5_addStall 29 = .ok (.aload_n 0, 1) := by decide +kernel
theorem dX5_addStall_30 : decode cX5_addStall 30 = .ok (.dup, 1) := by decide +kernel
theorem dX5_addStall_31 : decode cX5_addStall 31 = .ok (.getfield 15, 3) := by decide +kernel
theorem dX5_addStall_34 : decode cX5_addStall 34 = .ok (.iconst 1, 1) := by decide +kernel
theorem dX5_addStall_35 : decode cX5_addStall 35 = .ok (.iadd, 1) := by decide +kernel
theorem dX5_addStall_36 : decode cX5_addStall 36 = .ok (.putfield 15, 3) := by decide +kernel
theorem dX5_addStall_39 : decode cX5_addStall 39 = .ok (.return_, 1) := by decide +kernel
theorem dX5_addSeller_0 : decode cX5_addSeller 0 = .ok (.aload_n 0, 1) := by decide +kernel
theorem dX5_addSeller_1 : decode cX5_addSeller 1 = .ok (.getfield 9, 3) := by decide +kernel
theorem dX5_addSeller_4 : decode cX5_addSeller 4 = .ok (.bipush 8, 2) := by decide +kernel
theorem dX5_addSeller_6 : decode cX5_addSeller 6 = .ok (.if_icmp .ge 87, 3) := by decide +kernel
theorem dX5_addSeller_9 : decode cX5_addSeller 9 = .ok (.aload_n 0, 1) := by decide +kernel
theorem dX5_addSeller_10 : decode cX5_addSeller 10 = .ok (.getfield 39, 3) := by decide +kernel
theorem dX5_addSeller_13 : decode cX5_addSeller 13 = .ok (.aload_n 0, 1) := by decide +kernel
theorem dX5_addSeller_14 : decode cX5_addSeller 14 = .ok (.getfield 9, 3) := by decide +kernel
theorem dX5_addSeller_17 : decode cX5_addSeller 17 = .ok (.lload_n 1, 1) := by decide +kernel
theorem dX5_addSeller_18 : decode cX5_addSeller 18 = .ok (.lastore, 1) := by decide +kernel
theorem dX5_addSeller_19 : decode cX5_addSeller 19 = .ok (.aload_n 0, 1) := by decide +kernel
theorem dX5_addSeller_20 : decode cX5_addSeller 20 = .ok (.getfield 43, 3) := by decide +kernel
theorem dX5_addSeller_23 : decode cX5_addSeller 23 = .ok (.aload_n 0, 1) := by decide +kernel
theorem dX5_addSeller_24 : decode cX5_addSeller 24 = .ok (.getfield 9, 3) := by decide +kernel
theorem dX5_addSeller_27 : decode cX5_addSeller 27 = .ok (.iload_n 3, 1) := by decide +kernel
theorem dX5_addSeller_28 : decode cX5_addSeller 28 = .ok (.iastore, 1) := by decide +kernel
theorem dX5_addSeller_29 : decode cX5_addSeller 29 = .ok (.aload_n 0, 1) := by decide +kernel
theorem dX5_addSeller_30 : decode cX5_addSeller 30 = .ok (.getfield 47, 3) := by decide +kernel
theorem dX5_addSeller_33 : decode cX5_addSeller 33 = .ok (.aload_n 0, 1) := by decide +kernel
theorem dX5_addSeller_34 : decode cX5_addSeller 34 = .ok (.getfield 9, 3) := by decide +kernel
theorem dX5_addSeller_37 : decode cX5_addSeller 37 = .ok (.iload 4, 2) := by decide +kernel
theorem dX5_addSeller_39 : decode cX5_addSeller 39 = .ok (.iastore, 1) := by decide +kernel
theorem dX5_addSeller_40 : decode cX5_addSeller 40 = .ok (.aload_n 0, 1) := by decide +kernel
theorem dX5_addSeller_41 : decode cX5_addSeller 41 = .ok (.getfield 50, 3) := by decide +kernel
theorem dX5_addSeller_44 : decode cX5_addSeller 44 = .ok (.aload_n 0, 1) := by decide +kernel
theorem dX5_addSeller_45 : decode cX5_addSeller 45 = .ok (.getfield 9, 3) := by decide +kernel
theorem dX5_addSeller_48 : decode cX5_addSeller 48 = .ok (.iconst (-1), 1) := by decide +kernel
theorem dX5_addSeller_49 : decode cX5_addSeller 49 = .ok (.iastore, 1) := by decide +kernel
theorem dX5_addSeller_50 : decode cX5_addSeller 50 = .ok (.aload_n 0, 1) := by decide +kernel
theorem dX5_addSeller_51 : decode cX5_addSeller 51 = .ok (.getfield 53, 3) := by decide +kernel
theorem dX5_addSeller_54 : decode cX5_addSeller 54 = .ok (.aload_n 0, 1) := by decide +kernel
theorem dX5_addSeller_55 : decode cX5_addSeller 55 = .ok (.getfield 9, 3) := by decide +kernel
theorem dX5_addSeller_58 : decode cX5_addSeller 58 = .ok (.aload_n 0, 1) := by decide +kernel
theorem dX5_addSeller_59 : decode cX5_addSeller 59 = .ok (.getfield 9, 3) := by decide +kernel
theorem dX5_addSeller_62 : decode cX5_addSeller 62 = .ok (.iastore, 1) := by decide +kernel
theorem dX5_addSeller_63 : decode cX5_addSeller 63 = .ok (.aload_n 0, 1) := by decide +kernel
theorem dX5_addSeller_64 : decode cX5_addSeller 64 = .ok (.getfield 56, 3) := by decide +kernel
theorem dX5_addSeller_67 : decode cX5_addSeller 67 = .ok (.aload_n 0, 1) := by decide +kernel
theorem dX5_addSeller_68 : decode cX5_addSeller 68 = .ok (.getfield 9, 3) := by decide +kernel
theorem dX5_addSeller_71 : decode cX5_addSeller 71 = .ok (.iconst 0, 1) := by decide +kernel
theorem dX5_addSeller_72 : decode cX5_addSeller 72 = .ok (.iastore, 1) := by decide +kernel
theorem dX5_addSeller_73 : decode cX5_addSeller 73 = .ok (.aload_n 0, 1) := by decide +kernel
theorem dX5_addSeller_74 : decode cX5_addSeller 74 = .ok (.dup, 1) := by decide +kernel
theorem dX5_addSeller_75 : decode cX5_addSeller 75 = .ok (.getfield 33, 3) := by decide +kernel
theorem dX5_addSeller_78 : decode cX5_addSeller 78 = .ok (.iload_n 3, 1) := by decide +kernel
theorem dX5_addSeller_79 : decode cX5_addSeller 79 = .ok (.iadd, 1) := by decide +kernel
theorem dX5_addSeller_80 : decode cX5_addSeller 80 = .ok (.putfield 33, 3) := by decide +kernel
theorem dX5_addSeller_83 : decode cX5_addSeller 83 = .ok (.aload_n 0, 1) := by decide +kernel
theorem dX5_addSeller_84 : decode cX5_addSeller 84 = .ok (.dup, 1) := by decide +kernel
theorem dX5_addSeller_85 : decode cX5_addSeller 85 = .ok (.getfield 9, 3) := by decide +kernel
theorem dX5_addSeller_88 : decode cX5_addSeller 88 = .ok (.iconst 1, 1) := by decide +kernel
theorem dX5_addSeller_89 : decode cX5_addSeller 89 = .ok (.iadd, 1) := by decide +kernel
theorem dX5_addSeller_90 : decode cX5_addSeller 90 = .ok (.putfield 9, 3) := by decide +kernel
theorem dX5_addSeller_93 : decode cX5_addSeller 93 = .ok (.return_, 1) := by decide +kernel
theorem dX5_hasSeller_0 : decode cX5_hasSeller 0 = .ok (.iload_n 1, 1) := by decide +kernel
theorem dX5_hasSeller_1 : decode cX5_hasSeller 1 = .ok (.ifCond .lt 15, 3) := by decide +kernel
theorem dX5_hasSeller_4 : decode cX5_hasSeller 4 = .ok (.iload_n 1, 1) := by decide +kernel
theorem dX5_hasSeller_5 : decode cX5_hasSeller 5 = .ok (.aload_n 0, 1) := by decide +kernel
theorem dX5_hasSeller_6 : decode cX5_hasSeller 6 = .ok (.getfield 9, 3) := by decide +kernel
theorem dX5_hasSeller_9 : decode cX5_hasSeller 9 = .ok (.if_icmp .ge 7, 3) := by decide +kernel
theorem dX5_hasSeller_12 : decode cX5_hasSeller 12 = .ok (.iconst 1, 1) := by decide +kernel
theorem dX5_hasSeller_13 : decode cX5_hasSeller 13 = .ok (.goto 4, 3) := by decide +kernel
theorem dX5_hasSeller_16 : decode cX5_hasSeller 16 = .ok (.iconst 0, 1) := by decide +kernel
theorem dX5_hasSeller_17 : decode cX5_hasSeller 17 = .ok (.ireturn, 1) := by decide +kernel
theorem dX5_hasStall_0 : decode cX5_hasStall 0 = .ok (.iload_n 1, 1) := by decide +kernel
theorem dX5_hasStall_1 : decode cX5_hasStall 1 = .ok (.ifCond .lt 15, 3) := by decide +kernel
theorem dX5_hasStall_4 : decode cX5_hasStall 4 = .ok (.iload_n 1, 1) := by decide +kernel
theorem dX5_hasStall_5 : decode cX5_hasStall 5 = .ok (.aload_n 0, 1) := by decide +kernel
theorem dX5_hasStall_6 : decode cX5_hasStall 6 = .ok (.getfield 15, 3) := by decide +kernel
theorem dX5_hasStall_9 : decode cX5_hasStall 9 = .ok (.if_icmp .ge 7, 3) := by decide +kernel
theorem dX5_hasStall_12 : decode cX5_hasStall 12 = .ok (.iconst 1, 1) := by decide +kernel
theorem dX5_hasStall_13 : decode cX5_hasStall 13 = .ok (.goto 4, 3) := by decide +kernel
theorem dX5_hasStall_16 : decode cX5_hasStall 16 = .ok (.iconst 0, 1) := by decide +kernel
theorem dX5_hasStall_17 : decode cX5_hasStall 17 = .ok (.ireturn, 1) := by decide +kernel
theorem dX5_coinsOf_0 : decode cX5_coinsOf 0 = .ok (.aload_n 0, 1) := by decide +kernel
theorem dX5_coinsOf_1 : decode cX5_coinsOf 1 = .ok (.iload_n 1, 1) := by decide +kernel
theorem dX5_coinsOf_2 : decode cX5_coinsOf 2 = .ok (.invokevirtual 68, 3) := by decide +kernel
theorem dX5_coinsOf_5 : decode cX5_coinsOf 5 = .ok (.ifCond .eq 12, 3) := by decide +kernel
theorem dX5_coinsOf_8 : decode cX5_coinsOf 8 = .ok (.aload_n 0, 1) := by decide +kernel
theorem dX5_coinsOf_9 : decode cX5_coinsOf 9 = .ok (.getfield 43, 3) := by decide +kernel
theorem dX5_coinsOf_12 : decode cX5_coinsOf 12 = .ok (.iload_n 1, 1) := by decide +kernel
theorem dX5_coinsOf_13 : decode cX5_coinsOf 13 = .ok (.iaload, 1) := by decide +kernel
theorem dX5_coinsOf_14 : decode cX5_coinsOf 14 = .ok (.goto 4, 3) := by decide +kernel
theorem dX5_coinsOf_17 : decode cX5_coinsOf 17 = .ok (.iconst 0, 1) := by decide +kernel
theorem dX5_coinsOf_18 : decode cX5_coinsOf 18 = .ok (.ireturn, 1) := by decide +kernel
theorem dX5_wageOf_0 : decode cX5_wageOf 0 = .ok (.aload_n 0, 1) := by decide +kernel
theorem dX5_wageOf_1 : decode cX5_wageOf 1 = .ok (.iload_n 1, 1) := by decide +kernel
theorem dX5_wageOf_2 : decode cX5_wageOf 2 = .ok (.invokevirtual 68, 3) := by decide +kernel
theorem dX5_wageOf_5 : decode cX5_wageOf 5 = .ok (.ifCond .eq 12, 3) := by decide +kernel
theorem dX5_wageOf_8 : decode cX5_wageOf 8 = .ok (.aload_n 0, 1) := by decide +kernel
theorem dX5_wageOf_9 : decode cX5_wageOf 9 = .ok (.getfield 47, 3) := by decide +kernel
theorem dX5_wageOf_12 : decode cX5_wageOf 12 = .ok (.iload_n 1, 1) := by decide +kernel
theorem dX5_wageOf_13 : decode cX5_wageOf 13 = .ok (.iaload, 1) := by decide +kernel
theorem dX5_wageOf_14 : decode cX5_wageOf 14 = .ok (.goto 4, 3) := by decide +kernel
theorem dX5_wageOf_17 : decode cX5_wageOf 17 = .ok (.iconst 0, 1) := by decide +kernel
theorem dX5_wageOf_18 : decode cX5_wageOf 18 = .ok (.ireturn, 1) := by decide +kernel
theorem dX5_heldBy_0 : decode cX5_heldBy 0 = .ok (.aload_n 0, 1) := by decide +kernel
theorem dX5_heldBy_1 : decode cX5_heldBy 1 = .ok (.iload_n 1, 1) := by decide +kernel
theorem dX5_heldBy_2 : decode cX5_heldBy 2 = .ok (.invokevirtual 68, 3) := by decide +kernel
theorem dX5_heldBy_5 : decode cX5_heldBy 5 = .ok (.ifCond .eq 12, 3) := by decide +kernel
theorem dX5_heldBy_8 : decode cX5_heldBy 8 = .ok (.aload_n 0, 1) := by decide +kernel
theorem dX5_heldBy_9 : decode cX5_heldBy 9 = .ok (.getfield 50, 3) := by decide +kernel
theorem dX5_heldBy_12 : decode cX5_heldBy 12 = .ok (.iload_n 1, 1) := by decide +kernel
theorem dX5_heldBy_13 : decode cX5_heldBy 13 = .ok (.iaload, 1) := by decide +kernel
theorem dX5_heldBy_14 : decode cX5_heldBy 14 = .ok (.goto 4, 3) := by decide +kernel
theorem dX5_heldBy_17 : decode cX5_heldBy 17 = .ok (.iconst (-1), 1) := by decide +kernel
theorem dX5_heldBy_18 : decode cX5_heldBy 18 = .ok (.ireturn, 1) := by decide +kernel
theorem dX5_turnOf_0 : decode cX5_turnOf 0 = .ok (.aload_n 0, 1) := by decide +kernel
theorem dX5_turnOf_1 : decode cX5_turnOf 1 = .ok (.iload_n 1, 1) := by decide +kernel
theorem dX5_turnOf_2 : decode cX5_turnOf 2 = .ok (.invokevirtual 68, 3) := by decide +kernel
theorem dX5_turnOf_5 : decode cX5_turnOf 5 = .ok (.ifCond .eq 12, 3) := by decide +kernel
theorem dX5_turnOf_8 : decode cX5_turnOf 8 = .ok (.aload_n 0, 1) := by decide +kernel
theorem dX5_turnOf_9 : decode cX5_turnOf 9 = .ok (.getfield 53, 3) := by decide +kernel
theorem dX5_turnOf_12 : decode cX5_turnOf 12 = .ok (.iload_n 1, 1) := by decide +kernel
theorem dX5_turnOf_13 : decode cX5_turnOf 13 = .ok (.iaload, 1) := by decide +kernel
theorem dX5_turnOf_14 : decode cX5_turnOf 14 = .ok (.goto 4, 3) := by decide +kernel
theorem dX5_turnOf_17 : decode cX5_turnOf 17 = .ok (.iconst (-1), 1) := by decide +kernel
theorem dX5_turnOf_18 : decode cX5_turnOf 18 = .ok (.ireturn, 1) := by decide +kernel
theorem dX5_wishesOf_0 : decode cX5_wishesOf 0 = .ok (.aload_n 0, 1) := by decide +kernel
theorem dX5_wishesOf_1 : decode cX5_wishesOf 1 = .ok (.iload_n 1, 1) := by decide +kernel
theorem dX5_wishesOf_2 : decode cX5_wishesOf 2 = .ok (.invokevirtual 68, 3) := by decide +kernel
theorem dX5_wishesOf_5 : decode cX5_wishesOf 5 = .ok (.ifCond .eq 12, 3) := by decide +kernel
theorem dX5_wishesOf_8 : decode cX5_wishesOf 8 = .ok (.aload_n 0, 1) := by decide +kernel
theorem dX5_wishesOf_9 : decode cX5_wishesOf 9 = .ok (.getfield 56, 3) := by decide +kernel
theorem dX5_wishesOf_12 : decode cX5_wishesOf 12 = .ok (.iload_n 1, 1) := by decide +kernel
theorem dX5_wishesOf_13 : decode cX5_wishesOf 13 = .ok (.iaload, 1) := by decide +kernel
theorem dX5_wishesOf_14 : decode cX5_wishesOf 14 = .ok (.goto 4, 3) := by decide +kernel
theorem dX5_wishesOf_17 : decode cX5_wishesOf 17 = .ok (.iconst 0, 1) := by decide +kernel
theorem dX5_wishesOf_18 : decode cX5_wishesOf 18 = .ok (.ireturn, 1) := by decide +kernel
theorem dX5_priceOf_0 : decode cX5_priceOf 0 = .ok (.aload_n 0, 1) := by decide +kernel
theorem dX5_priceOf_1 : decode cX5_priceOf 1 = .ok (.iload_n 1, 1) := by decide +kernel
theorem dX5_priceOf_2 : decode cX5_priceOf 2 = .ok (.invokevirtual 72, 3) := by decide +kernel
theorem dX5_priceOf_5 : decode cX5_priceOf 5 = .ok (.ifCond .eq 12, 3) := by decide +kernel
theorem dX5_priceOf_8 : decode cX5_priceOf 8 = .ok (.aload_n 0, 1) := by decide +kernel
theorem dX5_priceOf_9 : decode cX5_priceOf 9 = .ok (.getfield 65, 3) := by decide +kernel
theorem dX5_priceOf_12 : decode cX5_priceOf 12 = .ok (.iload_n 1, 1) := by decide +kernel
theorem dX5_priceOf_13 : decode cX5_priceOf 13 = .ok (.iaload, 1) := by decide +kernel
theorem dX5_priceOf_14 : decode cX5_priceOf 14 = .ok (.goto 4, 3) := by decide +kernel
theorem dX5_priceOf_17 : decode cX5_priceOf 17 = .ok (.iconst 0, 1) := by decide +kernel
theorem dX5_priceOf_18 : decode cX5_priceOf 18 = .ok (.ireturn, 1) := by decide +kernel
theorem dX5_nameOfSeller_0 : decode cX5_nameOfSeller 0 = .ok (.aload_n 0, 1) := by decide +kernel
theorem dX5_nameOfSeller_1 : decode cX5_nameOfSeller 1 = .ok (.iload_n 1, 1) := by decide +kernel
theorem dX5_nameOfSeller_2 : decode cX5_nameOfSeller 2 = .ok (.invokevirtual 68, 3) := by decide +kernel
theorem dX5_nameOfSeller_5 : decode cX5_nameOfSeller 5 = .ok (.ifCond .eq 12, 3) := by decide +kernel
theorem dX5_nameOfSeller_8 : decode cX5_nameOfSeller 8 = .ok (.aload_n 0, 1) := by decide +kernel
theorem dX5_nameOfSeller_9 : decode cX5_nameOfSeller 9 = .ok (.getfield 39, 3) := by decide +kernel
theorem dX5_nameOfSeller_12 : decode cX5_nameOfSeller 12 = .ok (.iload_n 1, 1) := by decide +kernel
theorem dX5_nameOfSeller_13 : decode cX5_nameOfSeller 13 = .ok (.laload, 1) := by decide +kernel
theorem dX5_nameOfSeller_14 : decode cX5_nameOfSeller 14 = .ok (.goto 4, 3) := by decide +kernel
theorem dX5_nameOfSeller_17 : decode cX5_nameOfSeller 17 = .ok (.lconst 0, 1) := by decide +kernel
theorem dX5_nameOfSeller_18 : decode cX5_nameOfSeller 18 = .ok (.lreturn, 1) := by decide +kernel
theorem dX5_nameOfStall_0 : decode cX5_nameOfStall 0 = .ok (.aload_n 0, 1) := by decide +kernel
theorem dX5_nameOfStall_1 : decode cX5_nameOfStall 1 = .ok (.iload_n 1, 1) := by decide +kernel
theorem dX5_nameOfStall_2 : decode cX5_nameOfStall 2 = .ok (.invokevirtual 72, 3) := by decide +kernel
theorem dX5_nameOfStall_5 : decode cX5_nameOfStall 5 = .ok (.ifCond .eq 12, 3) := by decide +kernel
theorem dX5_nameOfStall_8 : decode cX5_nameOfStall 8 = .ok (.aload_n 0, 1) := by decide +kernel
theorem dX5_nameOfStall_9 : decode cX5_nameOfStall 9 = .ok (.getfield 62, 3) := by decide +kernel
theorem dX5_nameOfStall_12 : decode cX5_nameOfStall 12 = .ok (.iload_n 1, 1) := by decide +kernel
theorem dX5_nameOfStall_13 : decode cX5_nameOfStall 13 = .ok (.laload, 1) := by decide +kernel
theorem dX5_nameOfStall_14 : decode cX5_nameOfStall 14 = .ok (.goto 4, 3) := by decide +kernel
theorem dX5_nameOfStall_17 : decode cX5_nameOfStall 17 = .ok (.lconst 0, 1) := by decide +kernel
theorem dX5_nameOfStall_18 : decode cX5_nameOfStall 18 = .ok (.lreturn, 1) := by decide +kernel
theorem dX5_sellerCalled_0 : decode cX5_sellerCalled 0 = .ok (.iconst 0, 1) := by decide +kernel
theorem dX5_sellerCalled_1 : decode cX5_sellerCalled 1 = .ok (.istore_n 3, 1) := by decide +kernel
theorem dX5_sellerCalled_2 : decode cX5_sellerCalled 2 = .ok (.iload_n 3, 1) := by decide +kernel
theorem dX5_sellerCalled_3 : decode cX5_sellerCalled 3 = .ok (.aload_n 0, 1) := by decide +kernel
theorem dX5_sellerCalled_4 : decode cX5_sellerCalled 4 = .ok (.getfield 9, 3) := by decide +kernel
theorem dX5_sellerCalled_7 : decode cX5_sellerCalled 7 = .ok (.if_icmp .ge 22, 3) := by decide +kernel
theorem dX5_sellerCalled_10 : decode cX5_sellerCalled 10 = .ok (.aload_n 0, 1) := by decide +kernel
theorem dX5_sellerCalled_11 : decode cX5_sellerCalled 11 = .ok (.getfield 39, 3) := by decide +kernel
theorem dX5_sellerCalled_14 : decode cX5_sellerCalled 14 = .ok (.iload_n 3, 1) := by decide +kernel
theorem dX5_sellerCalled_15 : decode cX5_sellerCalled 15 = .ok (.laload, 1) := by decide +kernel
theorem dX5_sellerCalled_16 : decode cX5_sellerCalled 16 = .ok (.lload_n 1, 1) := by decide +kernel
theorem dX5_sellerCalled_17 : decode cX5_sellerCalled 17 = .ok (.lcmp, 1) := by decide +kernel
theorem dX5_sellerCalled_18 : decode cX5_sellerCalled 18 = .ok (.ifCond .ne 5, 3) := by decide +kernel
theorem dX5_sellerCalled_21 : decode cX5_sellerCalled 21 = .ok (.iload_n 3, 1) := by decide +kernel
theorem dX5_sellerCalled_22 : decode cX5_sellerCalled 22 = .ok (.ireturn, 1) := by decide +kernel
theorem dX5_sellerCalled_23 : decode cX5_sellerCalled 23 = .ok (.iinc 3 1, 3) := by decide +kernel
theorem dX5_sellerCalled_26 : decode cX5_sellerCalled 26 = .ok (.goto (-24), 3) := by decide +kernel
theorem dX5_sellerCalled_29 : decode cX5_sellerCalled 29 = .ok (.iconst (-1), 1) := by decide +kernel
theorem dX5_sellerCalled_30 : decode cX5_sellerCalled 30 = .ok (.ireturn, 1) := by decide +kernel
theorem dX5_stallCalled_0 : decode cX5_stallCalled 0 = .ok (.iconst 0, 1) := by decide +kernel
theorem dX5_stallCalled_1 : decode cX5_stallCalled 1 = .ok (.istore_n 3, 1) := by decide +kernel
theorem dX5_stallCalled_2 : decode cX5_stallCalled 2 = .ok (.iload_n 3, 1) := by decide +kernel
theorem dX5_stallCalled_3 : decode cX5_stallCalled 3 = .ok (.aload_n 0, 1) := by decide +kernel
theorem dX5_stallCalled_4 : decode cX5_stallCalled 4 = .ok (.getfield 15, 3) := by decide +kernel
theorem dX5_stallCalled_7 : decode cX5_stallCalled 7 = .ok (.if_icmp .ge 22, 3) := by decide +kernel
theorem dX5_stallCalled_10 : decode cX5_stallCalled 10 = .ok (.aload_n 0, 1) := by decide +kernel
theorem dX5_stallCalled_11 : decode cX5_stallCalled 11 = .ok (.getfield 62, 3) := by decide +kernel
theorem dX5_stallCalled_14 : decode cX5_stallCalled 14 = .ok (.iload_n 3, 1) := by decide +kernel
theorem dX5_stallCalled_15 : decode cX5_stallCalled 15 = .ok (.laload, 1) := by decide +kernel
theorem dX5_stallCalled_16 : decode cX5_stallCalled 16 = .ok (.lload_n 1, 1) := by decide +kernel
theorem dX5_stallCalled_17 : decode cX5_stallCalled 17 = .ok (.lcmp, 1) := by decide +kernel
theorem dX5_stallCalled_18 : decode cX5_stallCalled 18 = .ok (.ifCond .ne 5, 3) := by decide +kernel
theorem dX5_stallCalled_21 : decode cX5_stallCalled 21 = .ok (.iload_n 3, 1) := by decide +kernel
theorem dX5_stallCalled_22 : decode cX5_stallCalled 22 = .ok (.ireturn, 1) := by decide +kernel
theorem dX5_stallCalled_23 : decode cX5_stallCalled 23 = .ok (.iinc 3 1, 3) := by decide +kernel
theorem dX5_stallCalled_26 : decode cX5_stallCalled 26 = .ok (.goto (-24), 3) := by decide +kernel
theorem dX5_stallCalled_29 : decode cX5_stallCalled 29 = .ok (.iconst (-1), 1) := by decide +kernel
theorem dX5_stallCalled_30 : decode cX5_stallCalled 30 = .ok (.ireturn, 1) := by decide +kernel
theorem dX5_holderOf_0 : decode cX5_holderOf 0 = .ok (.iload_n 1, 1) := by decide +kernel
theorem dX5_holderOf_1 : decode cX5_holderOf 1 = .ok (.iconst (-1), 1) := by decide +kernel
theorem dX5_holderOf_2 : decode cX5_holderOf 2 = .ok (.if_icmp .ne 5, 3) := by decide +kernel
theorem dX5_holderOf_5 : decode cX5_holderOf 5 = .ok (.iconst (-1), 1) := by decide +kernel
theorem dX5_holderOf_6 : decode cX5_holderOf 6 = .ok (.ireturn, 1) := by decide +kernel
theorem dX5_holderOf_7 : decode cX5_holderOf 7 = .ok (.iconst 0, 1) := by decide +kernel
theorem dX5_holderOf_8 : decode cX5_holderOf 8 = .ok (.istore_n 2, 1) := by decide +kernel
theorem dX5_holderOf_9 : decode cX5_holderOf 9 = .ok (.iload_n 2, 1) := by decide +kernel
theorem dX5_holderOf_10 : decode cX5_holderOf 10 = .ok (.aload_n 0, 1) := by decide +kernel
theorem dX5_holderOf_11 : decode cX5_holderOf 11 = .ok (.getfield 9, 3) := by decide +kernel
theorem dX5_holderOf_14 : decode cX5_holderOf 14 = .ok (.if_icmp .ge 21, 3) := by decide +kernel
theorem dX5_holderOf_17 : decode cX5_holderOf 17 = .ok (.aload_n 0, 1) := by decide +kernel
theorem dX5_holderOf_18 : decode cX5_holderOf 18 = .ok (.getfield 50, 3) := by decide +kernel
theorem dX5_holderOf_21 : decode cX5_holderOf 21 = .ok (.iload_n 2, 1) := by decide +kernel
theorem dX5_holderOf_22 : decode cX5_holderOf 22 = .ok (.iaload, 1) := by decide +kernel
theorem dX5_holderOf_23 : decode cX5_holderOf 23 = .ok (.iload_n 1, 1) := by decide +kernel
theorem dX5_holderOf_24 : decode cX5_holderOf 24 = .ok (.if_icmp .ne 5, 3) := by decide +kernel
theorem dX5_holderOf_27 : decode cX5_holderOf 27 = .ok (.iload_n 2, 1) := by decide +kernel
theorem dX5_holderOf_28 : decode cX5_holderOf 28 = .ok (.ireturn, 1) := by decide +kernel
theorem dX5_holderOf_29 : decode cX5_holderOf 29 = .ok (.iinc 2 1, 3) := by decide +kernel
theorem dX5_holderOf_32 : decode cX5_holderOf 32 = .ok (.goto (-23), 3) := by decide +kernel
theorem dX5_holderOf_35 : decode cX5_holderOf 35 = .ok (.iconst (-1), 1) := by decide +kernel
theorem dX5_holderOf_36 : decode cX5_holderOf 36 = .ok (.ireturn, 1) := by decide +kernel
theorem dX5_housedSellers_0 : decode cX5_housedSellers 0 = .ok (.iconst 0, 1) := by decide +kernel
theorem dX5_housedSellers_1 : decode cX5_housedSellers 1 = .ok (.istore_n 1, 1) := by decide +kernel
theorem dX5_housedSellers_2 : decode cX5_housedSellers 2 = .ok (.iconst 0, 1) := by decide +kernel
theorem dX5_housedSellers_3 : decode cX5_housedSellers 3 = .ok (.istore_n 2, 1) := by decide +kernel
theorem dX5_housedSellers_4 : decode cX5_housedSellers 4 = .ok (.iload_n 2, 1) := by decide +kernel
theorem dX5_housedSellers_5 : decode cX5_housedSellers 5 = .ok (.aload_n 0, 1) := by decide +kernel
theorem dX5_housedSellers_6 : decode cX5_housedSellers 6 = .ok (.getfield 9, 3) := by decide +kernel
theorem dX5_housedSellers_9 : decode cX5_housedSellers 9 = .ok (.if_icmp .ge 22, 3) := by decide +kernel
theorem dX5_housedSellers_12 : decode cX5_housedSellers 12 = .ok (.aload_n 0, 1) := by decide +kernel
theorem dX5_housedSellers_13 : decode cX5_housedSellers 13 = .ok (.getfield 50, 3) := by decide +kernel
theorem dX5_housedSellers_16 : decode cX5_housedSellers 16 = .ok (.iload_n 2, 1) := by decide +kernel
theorem dX5_housedSellers_17 : decode cX5_housedSellers 17 = .ok (.iaload, 1) := by decide +kernel
theorem dX5_housedSellers_18 : decode cX5_housedSellers 18 = .ok (.iconst (-1), 1) := by decide +kernel
theorem dX5_housedSellers_19 : decode cX5_housedSellers 19 = .ok (.if_icmp .eq 6, 3) := by decide +kernel
theorem dX5_housedSellers_22 : decode cX5_housedSellers 22 = .ok (.iinc 1 1, 3) := by decide +kernel
theorem dX5_housedSellers_25 : decode cX5_housedSellers 25 = .ok (.iinc 2 1, 3) := by decide +kernel
theorem dX5_housedSellers_28 : decode cX5_housedSellers 28 = .ok (.goto (-24), 3) := by decide +kernel
theorem dX5_housedSellers_31 : decode cX5_housedSellers 31 = .ok (.iload_n 1, 1) := by decide +kernel
theorem dX5_housedSellers_32 : decode cX5_housedSellers 32 = .ok (.ireturn, 1) := by decide +kernel
theorem dX5_wish_0 : decode cX5_wish 0 = .ok (.aload_n 0, 1) := by decide +kernel
theorem dX5_wish_1 : decode cX5_wish 1 = .ok (.iload_n 1, 1) := by decide +kernel
theorem dX5_wish_2 : decode cX5_wish 2 = .ok (.invokevirtual 68, 3) := by decide +kernel
theorem dX5_wish_5 : decode cX5_wish 5 = .ok (.ifCond .eq 17, 3) := by decide +kernel
theorem dX5_wish_8 : decode cX5_wish 8 = .ok (.iload_n 2, 1) := by decide +kernel
theorem dX5_wish_9 : decode cX5_wish 9 = .ok (.ifCond .lt 13, 3) := by decide +kernel
theorem dX5_wish_12 : decode cX5_wish 12 = .ok (.iload_n 2, 1) := by decide +kernel
theorem dX5_wish_13 : decode cX5_wish 13 = .ok (.aload_n 0, 1) := by decide +kernel
theorem dX5_wish_14 : decode cX5_wish 14 = .ok (.getfield 56, 3) := by decide +kernel
theorem dX5_wish_17 : decode cX5_wish 17 = .ok (.iload_n 1, 1) := by decide +kernel
theorem dX5_wish_18 : decode cX5_wish 18 = .ok (.iaload, 1) := by decide +kernel
theorem dX5_wish_19 : decode cX5_wish 19 = .ok (.if_icmp .lt 5, 3) := by decide +kernel
theorem dX5_wish_22 : decode cX5_wish 22 = .ok (.iconst (-1), 1) := by decide +kernel
theorem dX5_wish_23 : decode cX5_wish 23 = .ok (.ireturn, 1) := by decide +kernel
theorem dX5_wish_24 : decode cX5_wish 24 = .ok (.aload_n 0, 1) := by decide +kernel
theorem dX5_wish_25 : decode cX5_wish 25 = .ok (.getfield 59, 3) := by decide +kernel
theorem dX5_wish_28 : decode cX5_wish 28 = .ok (.iload_n 1, 1) := by decide +kernel
theorem dX5_wish_29 : decode cX5_wish 29 = .ok (.bipush 8, 2) := by decide +kernel
theorem dX5_wish_31 : decode cX5_wish 31 = .ok (.imul, 1) := by decide +kernel
theorem dX5_wish_32 : decode cX5_wish 32 = .ok (.iload_n 2, 1) := by decide +kernel
theorem dX5_wish_33 : decode cX5_wish 33 = .ok (.iadd, 1) := by decide +kernel
theorem dX5_wish_34 : decode cX5_wish 34 = .ok (.iaload, 1) := by decide +kernel
theorem dX5_wish_35 : decode cX5_wish 35 = .ok (.ireturn, 1) := by decide +kernel
theorem dX5_rankIn_0 : decode cX5_rankIn 0 = .ok (.iload_n 1, 1) := by decide +kernel
theorem dX5_rankIn_1 : decode cX5_rankIn 1 = .ok (.ifCond .lt 11, 3) := by decide +kernel
theorem dX5_rankIn_4 : decode cX5_rankIn 4 = .ok (.iload_n 1, 1) := by decide +kernel
theorem dX5_rankIn_5 : decode cX5_rankIn 5 = .ok (.aload_n 0, 1) := by decide +kernel
theorem dX5_rankIn_6 : decode cX5_rankIn 6 = .ok (.getfield 9, 3) := by decide +kernel
theorem dX5_rankIn_9 : decode cX5_rankIn 9 = .ok (.if_icmp .lt 5, 3) := by decide +kernel
theorem dX5_rankIn_12 : decode cX5_rankIn 12 = .ok (.iconst (-1), 1) := by decide +kernel
theorem dX5_rankIn_13 : decode cX5_rankIn 13 = .ok (.ireturn, 1) := by decide +kernel
theorem dX5_rankIn_14 : decode cX5_rankIn 14 = .ok (.iconst 0, 1) := by decide +kernel
theorem dX5_rankIn_15 : decode cX5_rankIn 15 = .ok (.istore_n 3, 1) := by decide +kernel
theorem dX5_rankIn_16 : decode cX5_rankIn 16 = .ok (.iload_n 3, 1) := by decide +kernel
theorem dX5_rankIn_17 : decode cX5_rankIn 17 = .ok (.aload_n 0, 1) := by decide +kernel
theorem dX5_rankIn_18 : decode cX5_rankIn 18 = .ok (.getfield 56, 3) := by decide +kernel
theorem dX5_rankIn_21 : decode cX5_rankIn 21 = .ok (.iload_n 1, 1) := by decide +kernel
theorem dX5_rankIn_22 : decode cX5_rankIn 22 = .ok (.iaload, 1) := by decide +kernel
theorem dX5_rankIn_23 : decode cX5_rankIn 23 = .ok (.if_icmp .ge 26, 3) := by decide +kernel
theorem dX5_rankIn_26 : decode cX5_rankIn 26 = .ok (.aload_n 0, 1) := by decide +kernel
theorem dX5_rankIn_27 : decode cX5_rankIn 27 = .ok (.getfield 59, 3) := by decide +kernel
theorem dX5_rankIn_30 : decode cX5_rankIn 30 = .ok (.iload_n 1, 1) := by decide +kernel
theorem dX5_rankIn_31 : decode cX5_rankIn 31 = .ok (.bipush 8, 2) := by decide +kernel
theorem dX5_rankIn_33 : decode cX5_rankIn 33 = .ok (.imul, 1) := by decide +kernel
theorem dX5_rankIn_34 : decode cX5_rankIn 34 = .ok (.iload_n 3, 1) := by decide +kernel
theorem dX5_rankIn_35 : decode cX5_rankIn 35 = .ok (.iadd, 1) := by decide +kernel
theorem dX5_rankIn_36 : decode cX5_rankIn 36 = .ok (.iaload, 1) := by decide +kernel
theorem dX5_rankIn_37 : decode cX5_rankIn 37 = .ok (.iload_n 2, 1) := by decide +kernel
theorem dX5_rankIn_38 : decode cX5_rankIn 38 = .ok (.if_icmp .ne 5, 3) := by decide +kernel
theorem dX5_rankIn_41 : decode cX5_rankIn 41 = .ok (.iload_n 3, 1) := by decide +kernel
theorem dX5_rankIn_42 : decode cX5_rankIn 42 = .ok (.ireturn, 1) := by decide +kernel
theorem dX5_rankIn_43 : decode cX5_rankIn 43 = .ok (.iinc 3 1, 3) := by decide +kernel
theorem dX5_rankIn_46 : decode cX5_rankIn 46 = .ok (.goto (-30), 3) := by decide +kernel
theorem dX5_rankIn_49 : decode cX5_rankIn 49 = .ok (.iconst (-1), 1) := by decide +kernel
theorem dX5_rankIn_50 : decode cX5_rankIn 50 = .ok (.ireturn, 1) := by decide +kernel
theorem dX5_ranksAbove_0 : decode cX5_ranksAbove 0 = .ok (.aload_n 0, 1) := by decide +kernel
theorem dX5_ranksAbove_1 : decode cX5_ranksAbove 1 = .ok (.iload_n 1, 1) := by decide +kernel
theorem dX5_ranksAbove_2 : decode cX5_ranksAbove 2 = .ok (.iload_n 2, 1) := by decide +kernel
theorem dX5_ranksAbove_3 : decode cX5_ranksAbove 3 = .ok (.invokevirtual 75, 3) := by decide +kernel
theorem dX5_ranksAbove_6 : decode cX5_ranksAbove 6 = .ok (.aload_n 0, 1) := by decide +kernel
theorem dX5_ranksAbove_7 : decode cX5_ranksAbove 7 = .ok (.iload_n 1, 1) := by decide +kernel
theorem dX5_ranksAbove_8 : decode cX5_ranksAbove 8 = .ok (.iload_n 3, 1) := by decide +kernel
theorem dX5_ranksAbove_9 : decode cX5_ranksAbove 9 = .ok (.invokevirtual 75, 3) := by decide +kernel
theorem dX5_ranksAbove_12 : decode cX5_ranksAbove 12 = .ok (.if_icmp .ge 7, 3) := by decide +kernel
theorem dX5_ranksAbove_15 : decode cX5_ranksAbove 15 = .ok (.iconst 1, 1) := by decide +kernel
theorem dX5_ranksAbove_16 : decode cX5_ranksAbove 16 = .ok (.goto 4, 3) := by decide +kernel
theorem dX5_ranksAbove_19 : decode cX5_ranksAbove 19 = .ok (.iconst 0, 1) := by decide +kernel
theorem dX5_ranksAbove_20 : decode cX5_ranksAbove 20 = .ok (.ireturn, 1) := by decide +kernel
theorem dX5_standing_0 : decode cX5_standing 0 = .ok (.iload_n 2, 1) := by decide +kernel
theorem dX5_standing_1 : decode cX5_standing 1 = .ok (.iconst (-1), 1) := by decide +kernel
theorem dX5_standing_2 : decode cX5_standing 2 = .ok (.if_icmp .ne 6, 3) := by decide +kernel
theorem dX5_standing_5 : decode cX5_standing 5 = .ok (.bipush 8, 2) := by decide +kernel
theorem dX5_standing_7 : decode cX5_standing 7 = .ok (.ireturn, 1) := by decide +kernel
theorem dX5_standing_8 : decode cX5_standing 8 = .ok (.aload_n 0, 1) := by decide +kernel
theorem dX5_standing_9 : decode cX5_standing 9 = .ok (.iload_n 1, 1) := by decide +kernel
theorem dX5_standing_10 : decode cX5_standing 10 = .ok (.iload_n 2, 1) := by decide +kernel
theorem dX5_standing_11 : decode cX5_standing 11 = .ok (.invokevirtual 79, 3) := by decide +kernel
theorem dX5_standing_14 : decode cX5_standing 14 = .ok (.istore_n 3, 1) := by decide +kernel
theorem dX5_standing_15 : decode cX5_standing 15 = .ok (.iload_n 3, 1) := by decide +kernel
theorem dX5_standing_16 : decode cX5_standing 16 = .ok (.iconst (-1), 1) := by decide +kernel
theorem dX5_standing_17 : decode cX5_standing 17 = .ok (.if_icmp .ne 8, 3) := by decide +kernel
theorem dX5_standing_20 : decode cX5_standing 20 = .ok (.bipush 9, 2) := by decide +kernel
theorem dX5_standing_22 : decode cX5_standing 22 = .ok (.goto 4, 3) := by decide +kernel
theorem dX5_standing_25 : decode cX5_standing 25 = .ok (.iload_n 3, 1) := by decide +kernel
theorem dX5_standing_26 : decode cX5_standing 26 = .ok (.ireturn, 1) := by decide +kernel
theorem dX5_mayMoveInto_0 : decode cX5_mayMoveInto 0 = .ok (.aload_n 0, 1) := by decide +kernel
theorem dX5_mayMoveInto_1 : decode cX5_mayMoveInto 1 = .ok (.iload_n 2, 1) := by decide +kernel
theorem dX5_mayMoveInto_2 : decode cX5_mayMoveInto 2 = .ok (.invokevirtual 82, 3) := by decide +kernel
theorem dX5_mayMoveInto_5 : decode cX5_mayMoveInto 5 = .ok (.iconst (-1), 1) := by decide +kernel
theorem dX5_mayMoveInto_6 : decode cX5_mayMoveInto 6 = .ok (.if_icmp .ne 20, 3) := by decide +kernel
theorem dX5_mayMoveInto_9 : decode cX5_mayMoveInto 9 = .ok (.aload_n 0, 1) := by decide +kernel
theorem dX5_mayMoveInto_10 : decode cX5_mayMoveInto 10 = .ok (.iload_n 2, 1) := by decide +kernel
theorem dX5_mayMoveInto_11 : decode cX5_mayMoveInto 11 = .ok (.invokevirtual 86, 3) := by decide +kernel
theorem dX5_mayMoveInto_14 : decode cX5_mayMoveInto 14 = .ok (.aload_n 0, 1) := by decide +kernel
theorem dX5_mayMoveInto_15 : decode cX5_mayMoveInto 15 = .ok (.iload_n 1, 1) := by decide +kernel
theorem dX5_mayMoveInto_16 : decode cX5_mayMoveInto 16 = .ok (.invokevirtual 89, 3) := by decide +kernel
theorem dX5_mayMoveInto_19 : decode cX5_mayMoveInto 19 = .ok (.if_icmp .gt 7, 3) := by decide +kernel
theorem dX5_mayMoveInto_22 : decode cX5_mayMoveInto 22 = .ok (.iconst 1, 1) := by decide +kernel
theorem dX5_mayMoveInto_23 : decode cX5_mayMoveInto 23 = .ok (.goto 4, 3) := by decide +kernel
theorem dX5_mayMoveInto_26 : decode cX5_mayMoveInto 26 = .ok (.iconst 0, 1) := by decide +kernel
theorem dX5_mayMoveInto_27 : decode cX5_mayMoveInto 27 = .ok (.ireturn, 1) := by decide +kernel
theorem dX5_seat_0 : decode cX5_seat 0 = .ok (.aload_n 0, 1) := by decide +kernel
theorem dX5_seat_1 : decode cX5_seat 1 = .ok (.iload_n 1, 1) := by decide +kernel
theorem dX5_seat_2 : decode cX5_seat 2 = .ok (.invokevirtual 68, 3) := by decide +kernel
theorem dX5_seat_5 : decode cX5_seat 5 = .ok (.ifCond .eq 10, 3) := by decide +kernel
theorem dX5_seat_8 : decode cX5_seat 8 = .ok (.aload_n 0, 1) := by decide +kernel
theorem dX5_seat_9 : decode cX5_seat 9 = .ok (.getfield 50, 3) := by decide +kernel
theorem dX5_seat_12 : decode cX5_seat 12 = .ok (.iload_n 1, 1) := by decide +kernel
theorem dX5_seat_13 : decode cX5_seat 13 = .ok (.iload_n 2, 1) := by decide +kernel
theorem dX5_seat_14 : decode cX5_seat 14 = .ok (.iastore, 1) := by decide +kernel
theorem dX5_seat_15 : decode cX5_seat 15 = .ok (.return_, 1) := by decide +kernel
theorem dX5_exchange_0 : decode cX5_exchange 0 = .ok (.aload_n 0, 1) := by decide +kernel
theorem dX5_exchange_1 : decode cX5_exchange 1 = .ok (.iload_n 1, 1) := by decide +kernel
theorem dX5_exchange_2 : decode cX5_exchange 2 = .ok (.invokevirtual 92, 3) := by decide +kernel
theorem dX5_exchange_5 : decode cX5_exchange 5 = .ok (.istore_n 3, 1) := by decide +kernel
theorem dX5_exchange_6 : decode cX5_exchange 6 = .ok (.aload_n 0, 1) := by decide +kernel
theorem dX5_exchange_7 : decode cX5_exchange 7 = .ok (.iload_n 1, 1) := by decide +kernel
theorem dX5_exchange_8 : decode cX5_exchange 8 = .ok (.aload_n 0, 1) := by decide +kernel
theorem dX5_exchange_9 : decode cX5_exchange 9 = .ok (.iload_n 2, 1) := by decide +kernel
theorem dX5_exchange_10 : decode cX5_exchange 10 = .ok (.invokevirtual 92, 3) := by decide +kernel
theorem dX5_exchange_13 : decode cX5_exchange 13 = .ok (.invokevirtual 95, 3) := by decide +kernel
theorem dX5_exchange_16 : decode cX5_exchange 16 = .ok (.aload_n 0, 1) := by decide +kernel
theorem dX5_exchange_17 : decode cX5_exchange 17 = .ok (.iload_n 2, 1) := by decide +kernel
theorem dX5_exchange_18 : decode cX5_exchange 18 = .ok (.iload_n 3, 1) := by decide +kernel
theorem dX5_exchange_19 : decode cX5_exchange 19 = .ok (.invokevirtual 95, 3) := by decide +kernel
theorem dX5_exchange_22 : decode cX5_exchange 22 = .ok (.aload_n 0, 1) := by decide +kernel
theorem dX5_exchange_23 : decode cX5_exchange 23 = .ok (.dup, 1) := by decide +kernel
theorem dX5_exchange_24 : decode cX5_exchange 24 = .ok (.getfield 27, 3) := by decide +kernel
theorem dX5_exchange_27 : decode cX5_exchange 27 = .ok (.iconst 1, 1) := by decide +kernel
theorem dX5_exchange_28 : decode cX5_exchange 28 = .ok (.iadd, 1) := by decide +kernel
theorem dX5_exchange_29 : decode cX5_exchange 29 = .ok (.putfield 27, 3) := by decide +kernel
theorem dX5_exchange_32 : decode cX5_exchange 32 = .ok (.return_, 1) := by decide +kernel
theorem dX5_moveTurn_0 : decode cX5_moveTurn 0 = .ok (.aload_n 0, 1) := by decide +kernel
theorem dX5_moveTurn_1 : decode cX5_moveTurn 1 = .ok (.iload_n 1, 1) := by decide +kernel
theorem dX5_moveTurn_2 : decode cX5_moveTurn 2 = .ok (.invokevirtual 99, 3) := by decide +kernel
theorem dX5_moveTurn_5 : decode cX5_moveTurn 5 = .ok (.istore_n 3, 1) := by decide +kernel
theorem dX5_moveTurn_6 : decode cX5_moveTurn 6 = .ok (.iconst 0, 1) := by decide +kernel
theorem dX5_moveTurn_7 : decode cX5_moveTurn 7 = .ok (.istore 4, 2) := by decide +kernel
theorem dX5_moveTurn_9 : decode cX5_moveTurn 9 = .ok (.iload 4, 2) := by decide +kernel
theorem dX5_moveTurn_11 : decode cX5_moveTurn 11 = .ok (.aload_n 0, 1) := by decide +kernel
theorem dX5_moveTurn_12 : decode cX5_moveTurn 12 = .ok (.getfield 9, 3) := by decide +kernel
theorem dX5_moveTurn_15 : decode cX5_moveTurn 15 = .ok (.if_icmp .ge 78, 3) := by decide +kernel
theorem dX5_moveTurn_18 : decode cX5_moveTurn 18 = .ok (.aload_n 0, 1) := by decide +kernel
theorem dX5_moveTurn_19 : decode cX5_moveTurn 19 = .ok (.getfield 53, 3) := by decide +kernel
theorem dX5_moveTurn_22 : decode cX5_moveTurn 22 = .ok (.iload 4, 2) := by decide +kernel
theorem dX5_moveTurn_24 : decode cX5_moveTurn 24 = .ok (.iaload, 1) := by decide +kernel
theorem dX5_moveTurn_25 : decode cX5_moveTurn 25 = .ok (.iload_n 3, 1) := by decide +kernel
theorem dX5_moveTurn_26 : decode cX5_moveTurn 26 = .ok (.if_icmp .le 28, 3) := by decide +kernel
theorem dX5_moveTurn_29 : decode cX5_moveTurn 29 = .ok (.aload_n 0, 1) := by decide +kernel
theorem dX5_moveTurn_30 : decode cX5_moveTurn 30 = .ok (.getfield 53, 3) := by decide +kernel
theorem dX5_moveTurn_33 : decode cX5_moveTurn 33 = .ok (.iload 4, 2) := by decide +kernel
theorem dX5_moveTurn_35 : decode cX5_moveTurn 35 = .ok (.iaload, 1) := by decide +kernel
theorem dX5_moveTurn_36 : decode cX5_moveTurn 36 = .ok (.iload_n 2, 1) := by decide +kernel
theorem dX5_moveTurn_37 : decode cX5_moveTurn 37 = .ok (.if_icmp .gt 17, 3) := by decide +kernel
theorem dX5_moveTurn_40 : decode cX5_moveTurn 40 = .ok (.aload_n 0, 1) := by decide +kernel
theorem dX5_moveTurn_41 : decode cX5_moveTurn 41 = .ok (.getfield 53, 3) := by decide +kernel
theorem dX5_moveTurn_44 : decode cX5_moveTurn 44 = .ok (.iload 4, 2) := by decide +kernel
theorem dX5_moveTurn_46 : decode cX5_moveTurn 46 = .ok (.dup2, 1) := by decide +kernel
theorem dX5_moveTurn_47 : decode cX5_moveTurn 47 = .ok (.iaload, 1) := by decide +kernel
theorem dX5_moveTurn_48 : decode cX5_moveTurn 48 = .ok (.iconst 1, 1) := by decide +kernel
theorem dX5_moveTurn_49 : decode cX5_moveTurn 49 = .ok (.isub, 1) := by decide +kernel
theorem dX5_moveTurn_50 : decode cX5_moveTurn 50 = .ok (.iastore, 1) := by decide +kernel
theorem dX5_moveTurn_51 : decode cX5_moveTurn 51 = .ok (.goto 36, 3) := by decide +kernel
theorem dX5_moveTurn_54 : decode cX5_moveTurn 54 = .ok (.aload_n 0, 1) := by decide +kernel
theorem dX5_moveTurn_55 : decode cX5_moveTurn 55 = .ok (.getfield 53, 3) := by decide +kernel
theorem dX5_moveTurn_58 : decode cX5_moveTurn 58 = .ok (.iload 4, 2) := by decide +kernel
theorem dX5_moveTurn_60 : decode cX5_moveTurn 60 = .ok (.iaload, 1) := by decide +kernel
theorem dX5_moveTurn_61 : decode cX5_moveTurn 61 = .ok (.iload_n 3, 1) := by decide +kernel
theorem dX5_moveTurn_62 : decode cX5_moveTurn 62 = .ok (.if_icmp .ge 25, 3) := by decide +kernel
theorem dX5_moveTurn_65 : decode cX5_moveTurn 65 = .ok (.aload_n 0, 1) := by decide +kernel
theorem dX5_moveTurn_66 : decode cX5_moveTurn 66 = .ok (.getfield 53, 3) := by decide +kernel
theorem dX5_moveTurn_69 : decode cX5_moveTurn 69 = .ok (.iload 4, 2) := by decide +kernel
theorem dX5_moveTurn_71 : decode cX5_moveTurn 71 = .ok (.iaload, 1) := by decide +kernel
theorem dX5_moveTurn_72 : decode cX5_moveTurn 72 = .ok (.iload_n 2, 1) := by decide +kernel
theorem dX5_moveTurn_73 : decode cX5_moveTurn 73 = .ok (.if_icmp .lt 14, 3) := by decide +kernel
theorem dX5_moveTurn_76 : decode cX5_moveTurn 76 = .ok (.aload_n 0, 1) := by decide +kernel
theorem dX5_moveTurn_77 : decode cX5_moveTurn 77 = .ok (.getfield 53, 3) := by decide +kernel
theorem dX5_moveTurn_80 : decode cX5_moveTurn 80 = .ok (.iload 4, 2) := by decide +kernel
theorem dX5_moveTurn_82 : decode cX5_moveTurn 82 = .ok (.dup2, 1) := by decide +kernel
theorem dX5_moveTurn_83 : decode cX5_moveTurn 83 = .ok (.iaload, 1) := by decide +kernel
theorem dX5_moveTurn_84 : decode cX5_moveTurn 84 = .ok (.iconst 1, 1) := by decide +kernel
theorem dX5_moveTurn_85 : decode cX5_moveTurn 85 = .ok (.iadd, 1) := by decide +kernel
theorem dX5_moveTurn_86 : decode cX5_moveTurn 86 = .ok (.iastore, 1) := by decide +kernel
theorem dX5_moveTurn_87 : decode cX5_moveTurn 87 = .ok (.iinc 4 1, 3) := by decide +kernel
theorem dX5_moveTurn_90 : decode cX5_moveTurn 90 = .ok (.goto (-81), 3) := by decide +kernel
theorem dX5_moveTurn_93 : decode cX5_moveTurn 93 = .ok (.aload_n 0, 1) := by decide +kernel
theorem dX5_moveTurn_94 : decode cX5_moveTurn 94 = .ok (.iload_n 1, 1) := by decide +kernel
theorem dX5_moveTurn_95 : decode cX5_moveTurn 95 = .ok (.invokevirtual 68, 3) := by decide +kernel
theorem dX5_moveTurn_98 : decode cX5_moveTurn 98 = .ok (.ifCond .eq 10, 3) := by decide +kernel
theorem dX5_moveTurn_101 : decode cX5_moveTurn 101 = .ok (.aload_n 0, 1) := by decide +kernel
theorem dX5_moveTurn_102 : decode cX5_moveTurn 102 = .ok (.getfield 53, 3) := by decide +kernel
theorem dX5_moveTurn_105 : decode cX5_moveTurn 105 = .ok (.iload_n 1, 1) := by decide +kernel
theorem dX5_moveTurn_106 : decode cX5_moveTurn 106 = .ok (.iload_n 2, 1) := by decide +kernel
theorem dX5_moveTurn_107 : decode cX5_moveTurn 107 = .ok (.iastore, 1) := by decide +kernel
theorem dX5_moveTurn_108 : decode cX5_moveTurn 108 = .ok (.return_, 1) := by decide +kernel
theorem dX5_wishLast_0 : decode cX5_wishLast 0 = .ok (.aload_n 0, 1) := by decide +kernel
theorem dX5_wishLast_1 : decode cX5_wishLast 1 = .ok (.iload_n 1, 1) := by decide +kernel
theorem dX5_wishLast_2 : decode cX5_wishLast 2 = .ok (.invokevirtual 102, 3) := by decide +kernel
theorem dX5_wishLast_5 : decode cX5_wishLast 5 = .ok (.istore_n 3, 1) := by decide +kernel
theorem dX5_wishLast_6 : decode cX5_wishLast 6 = .ok (.aload_n 0, 1) := by decide +kernel
theorem dX5_wishLast_7 : decode cX5_wishLast 7 = .ok (.iload_n 1, 1) := by decide +kernel
theorem dX5_wishLast_8 : decode cX5_wishLast 8 = .ok (.invokevirtual 68, 3) := by decide +kernel
theorem dX5_wishLast_11 : decode cX5_wishLast 11 = .ok (.ifCond .eq 30, 3) := by decide +kernel
theorem dX5_wishLast_14 : decode cX5_wishLast 14 = .ok (.iload_n 3, 1) := by decide +kernel
theorem dX5_wishLast_15 : decode cX5_wishLast 15 = .ok (.bipush 8, 2) := by decide +kernel
theorem dX5_wishLast_17 : decode cX5_wishLast 17 = .ok (.if_icmp .ge 24, 3) := by decide +kernel
theorem dX5_wishLast_20 : decode cX5_wishLast 20 = .ok (.aload_n 0, 1) := by decide +kernel
theorem dX5_wishLast_21 : decode cX5_wishLast 21 = .ok (.getfield 59, 3) := by decide +kernel
theorem dX5_wishLast_24 : decode cX5_wishLast 24 = .ok (.iload_n 1, 1) := by decide +kernel
theorem dX5_wishLast_25 : decode cX5_wishLast 25 = .ok (.bipush 8, 2) := by decide +kernel
theorem dX5_wishLast_27 : decode cX5_wishLast 27 = .ok (.imul, 1) := by decide +kernel
theorem dX5_wishLast_28 : decode cX5_wishLast 28 = .ok (.iload_n 3, 1) := by decide +kernel
theorem dX5_wishLast_29 : decode cX5_wishLast 29 = .ok (.iadd, 1) := by decide +kernel
theorem dX5_wishLast_30 : decode cX5_wishLast 30 = .ok (.iload_n 2, 1) := by decide +kernel
theorem dX5_wishLast_31 : decode cX5_wishLast 31 = .ok (.iastore, 1) := by decide +kernel
theorem dX5_wishLast_32 : decode cX5_wishLast 32 = .ok (.aload_n 0, 1) := by decide +kernel
theorem dX5_wishLast_33 : decode cX5_wishLast 33 = .ok (.getfield 56, 3) := by decide +kernel
theorem dX5_wishLast_36 : decode cX5_wishLast 36 = .ok (.iload_n 1, 1) := by decide +kernel
theorem dX5_wishLast_37 : decode cX5_wishLast 37 = .ok (.iload_n 3, 1) := by decide +kernel
theorem dX5_wishLast_38 : decode cX5_wishLast 38 = .ok (.iconst 1, 1) := by decide +kernel
theorem dX5_wishLast_39 : decode cX5_wishLast 39 = .ok (.iadd, 1) := by decide +kernel
theorem dX5_wishLast_40 : decode cX5_wishLast 40 = .ok (.iastore, 1) := by decide +kernel
theorem dX5_wishLast_41 : decode cX5_wishLast 41 = .ok (.return_, 1) := by decide +kernel
theorem dX5_dropWish_0 : decode cX5_dropWish 0 = .ok (.aload_n 0, 1) := by decide +kernel
theorem dX5_dropWish_1 : decode cX5_dropWish 1 = .ok (.iload_n 1, 1) := by decide +kernel
theorem dX5_dropWish_2 : decode cX5_dropWish 2 = .ok (.iload_n 2, 1) := by decide +kernel
theorem dX5_dropWish_3 : decode cX5_dropWish 3 = .ok (.invokevirtual 79, 3) := by decide +kernel
theorem dX5_dropWish_6 : decode cX5_dropWish 6 = .ok (.istore_n 3, 1) := by decide +kernel
theorem dX5_dropWish_7 : decode cX5_dropWish 7 = .ok (.aload_n 0, 1) := by decide +kernel
theorem dX5_dropWish_8 : decode cX5_dropWish 8 = .ok (.iload_n 1, 1) := by decide +kernel
theorem dX5_dropWish_9 : decode cX5_dropWish 9 = .ok (.invokevirtual 68, 3) := by decide +kernel
theorem dX5_dropWish_12 : decode cX5_dropWish 12 = .ok (.ifCond .eq 8, 3) := by decide +kernel
theorem dX5_dropWish_15 : decode cX5_dropWish 15 = .ok (.iload_n 3, 1) := by decide +kernel
theorem dX5_dropWish_16 : decode cX5_dropWish 16 = .ok (.iconst (-1), 1) := by decide +kernel
theorem dX5_dropWish_17 : decode cX5_dropWish 17 = .ok (.if_icmp .ne 4, 3) := by decide +kernel
theorem dX5_dropWish_20 : decode cX5_dropWish 20 = .ok (.return_, 1) := by decide +kernel
theorem dX5_dropWish_21 : decode cX5_dropWish 21 = .ok (.aload_n 0, 1) := by decide +kernel
theorem dX5_dropWish_22 : decode cX5_dropWish 22 = .ok (.getfield 56, 3) := by decide +kernel
theorem dX5_dropWish_25 : decode cX5_dropWish 25 = .ok (.iload_n 1, 1) := by decide +kernel
theorem dX5_dropWish_26 : decode cX5_dropWish 26 = .ok (.iaload, 1) := by decide +kernel
theorem dX5_dropWish_27 : decode cX5_dropWish 27 = .ok (.iconst 1, 1) := by decide +kernel
theorem dX5_dropWish_28 : decode cX5_dropWish 28 = .ok (.isub, 1) := by decide +kernel
theorem dX5_dropWish_29 : decode cX5_dropWish 29 = .ok (.istore 4, 2) := by decide +kernel
theorem dX5_dropWish_31 : decode cX5_dropWish 31 = .ok (.iload_n 3, 1) := by decide +kernel
theorem dX5_dropWish_32 : decode cX5_dropWish 32 = .ok (.istore 5, 2) := by decide +kernel
theorem dX5_dropWish_34 : decode cX5_dropWish 34 = .ok (.iload 5, 2) := by decide +kernel
theorem dX5_dropWish_36 : decode cX5_dropWish 36 = .ok (.iload 4, 2) := by decide +kernel
theorem dX5_dropWish_38 : decode cX5_dropWish 38 = .ok (.if_icmp .ge 34, 3) := by decide +kernel
theorem dX5_dropWish_41 : decode cX5_dropWish 41 = .ok (.iload_n 1, 1) := by decide +kernel
theorem dX5_dropWish_42 : decode cX5_dropWish 42 = .ok (.bipush 8, 2) := by decide +kernel
theorem dX5_dropWish_44 : decode cX5_dropWish 44 = .ok (.imul, 1) := by decide +kernel
theorem dX5_dropWish_45 : decode cX5_dropWish 45 = .ok (.iload 5, 2) := by decide +kernel
theorem dX5_dropWish_47 : decode cX5_dropWish 47 = .ok (.iadd, 1) := by decide +kernel
theorem dX5_dropWish_48 : decode cX5_dropWish 48 = .ok (.istore 6, 2) := by decide +kernel
theorem dX5_dropWish_50 : decode cX5_dropWish 50 = .ok (.aload_n 0, 1) := by decide +kernel
theorem dX5_dropWish_51 : decode cX5_dropWish 51 = .ok (.getfield 59, 3) := by decide +kernel
theorem dX5_dropWish_54 : decode cX5_dropWish 54 = .ok (.iload 6, 2) := by decide +kernel
theorem dX5_dropWish_56 : decode cX5_dropWish 56 = .ok (.aload_n 0, 1) := by decide +kernel
theorem dX5_dropWish_57 : decode cX5_dropWish 57 = .ok (.getfield 59, 3) := by decide +kernel
theorem dX5_dropWish_60 : decode cX5_dropWish 60 = .ok (.iload 6, 2) := by decide +kernel
theorem dX5_dropWish_62 : decode cX5_dropWish 62 = .ok (.iconst 1, 1) := by decide +kernel
theorem dX5_dropWish_63 : decode cX5_dropWish 63 = .ok (.iadd, 1) := by decide +kernel
theorem dX5_dropWish_64 : decode cX5_dropWish 64 = .ok (.iaload, 1) := by decide +kernel
theorem dX5_dropWish_65 : decode cX5_dropWish 65 = .ok (.iastore, 1) := by decide +kernel
theorem dX5_dropWish_66 : decode cX5_dropWish 66 = .ok (.iinc 5 1, 3) := by decide +kernel
theorem dX5_dropWish_69 : decode cX5_dropWish 69 = .ok (.goto (-35), 3) := by decide +kernel
theorem dX5_dropWish_72 : decode cX5_dropWish 72 = .ok (.aload_n 0, 1) := by decide +kernel
theorem dX5_dropWish_73 : decode cX5_dropWish 73 = .ok (.getfield 56, 3) := by decide +kernel
theorem dX5_dropWish_76 : decode cX5_dropWish 76 = .ok (.iload_n 1, 1) := by decide +kernel
theorem dX5_dropWish_77 : decode cX5_dropWish 77 = .ok (.iload 4, 2) := by decide +kernel
theorem dX5_dropWish_79 : decode cX5_dropWish 79 = .ok (.iastore, 1) := by decide +kernel
theorem dX5_dropWish_80 : decode cX5_dropWish 80 = .ok (.return_, 1) := by decide +kernel
theorem dX5_wishFirst_0 : decode cX5_wishFirst 0 = .ok (.aload_n 0, 1) := by decide +kernel
theorem dX5_wishFirst_1 : decode cX5_wishFirst 1 = .ok (.iload_n 1, 1) := by decide +kernel
theorem dX5_wishFirst_2 : decode cX5_wishFirst 2 = .ok (.iload_n 2, 1) := by decide +kernel
theorem dX5_wishFirst_3 : decode cX5_wishFirst 3 = .ok (.invokevirtual 105, 3) := by decide +kernel
theorem dX5_wishFirst_6 : decode cX5_wishFirst 6 = .ok (.aload_n 0, 1) := by decide +kernel
theorem dX5_wishFirst_7 : decode cX5_wishFirst 7 = .ok (.iload_n 1, 1) := by decide +kernel
theorem dX5_wishFirst_8 : decode cX5_wishFirst 8 = .ok (.invokevirtual 102, 3) := by decide +kernel
theorem dX5_wishFirst_11 : decode cX5_wishFirst 11 = .ok (.istore_n 3, 1) := by decide +kernel
theorem dX5_wishFirst_12 : decode cX5_wishFirst 12 = .ok (.aload_n 0, 1) := by decide +kernel
theorem dX5_wishFirst_13 : decode cX5_wishFirst 13 = .ok (.iload_n 1, 1) := by decide +kernel
theorem dX5_wishFirst_14 : decode cX5_wishFirst 14 = .ok (.invokevirtual 68, 3) := by decide +kernel
theorem dX5_wishFirst_17 : decode cX5_wishFirst 17 = .ok (.ifCond .eq 9, 3) := by decide +kernel
theorem dX5_wishFirst_20 : decode cX5_wishFirst 20 = .ok (.iload_n 3, 1) := by decide +kernel
theorem dX5_wishFirst_21 : decode cX5_wishFirst 21 = .ok (.bipush 8, 2) := by decide +kernel
theorem dX5_wishFirst_23 : decode cX5_wishFirst 23 = .ok (.if_icmp .lt 4, 3) := by decide +kernel
theorem dX5_wishFirst_26 : decode cX5_wishFirst 26 = .ok (.return_, 1) := by decide +kernel
theorem dX5_wishFirst_27 : decode cX5_wishFirst 27 = .ok (.iload_n 3, 1) := by decide +kernel
theorem dX5_wishFirst_28 : decode cX5_wishFirst 28 = .ok (.istore 4, 2) := by decide +kernel
theorem dX5_wishFirst_30 : decode cX5_wishFirst 30 = .ok (.iload 4, 2) := by decide +kernel
theorem dX5_wishFirst_32 : decode cX5_wishFirst 32 = .ok (.ifCond .le 34, 3) := by decide +kernel
theorem dX5_wishFirst_35 : decode cX5_wishFirst 35 = .ok (.iload_n 1, 1) := by decide +kernel
theorem dX5_wishFirst_36 : decode cX5_wishFirst 36 = .ok (.bipush 8, 2) := by decide +kernel
theorem dX5_wishFirst_38 : decode cX5_wishFirst 38 = .ok (.imul, 1) := by decide +kernel
theorem dX5_wishFirst_39 : decode cX5_wishFirst 39 = .ok (.iload 4, 2) := by decide +kernel
theorem dX5_wishFirst_41 : decode cX5_wishFirst 41 = .ok (.iadd, 1) := by decide +kernel
theorem dX5_wishFirst_42 : decode cX5_wishFirst 42 = .ok (.istore 5, 2) := by decide +kernel
theorem dX5_wishFirst_44 : decode cX5_wishFirst 44 = .ok (.aload_n 0, 1) := by decide +kernel
theorem dX5_wishFirst_45 : decode cX5_wishFirst 45 = .ok (.getfield 59, 3) := by decide +kernel
theorem dX5_wishFirst_48 : decode cX5_wishFirst 48 = .ok (.iload 5, 2) := by decide +kernel
theorem dX5_wishFirst_50 : decode cX5_wishFirst 50 = .ok (.aload_n 0, 1) := by decide +kernel
theorem dX5_wishFirst_51 : decode cX5_wishFirst 51 = .ok (.getfield 59, 3) := by decide +kernel
theorem dX5_wishFirst_54 : decode cX5_wishFirst 54 = .ok (.iload 5, 2) := by decide +kernel
theorem dX5_wishFirst_56 : decode cX5_wishFirst 56 = .ok (.iconst 1, 1) := by decide +kernel
theorem dX5_wishFirst_57 : decode cX5_wishFirst 57 = .ok (.isub, 1) := by decide +kernel
theorem dX5_wishFirst_58 : decode cX5_wishFirst 58 = .ok (.iaload, 1) := by decide +kernel
theorem dX5_wishFirst_59 : decode cX5_wishFirst 59 = .ok (.iastore, 1) := by decide +kernel
theorem dX5_wishFirst_60 : decode cX5_wishFirst 60 = .ok (.iinc 4 (-1), 3) := by decide +kernel
theorem dX5_wishFirst_63 : decode cX5_wishFirst 63 = .ok (.goto (-33), 3) := by decide +kernel
theorem dX5_wishFirst_66 : decode cX5_wishFirst 66 = .ok (.aload_n 0, 1) := by decide +kernel
theorem dX5_wishFirst_67 : decode cX5_wishFirst 67 = .ok (.getfield 59, 3) := by decide +kernel
theorem dX5_wishFirst_70 : decode cX5_wishFirst 70 = .ok (.iload_n 1, 1) := by decide +kernel
theorem dX5_wishFirst_71 : decode cX5_wishFirst 71 = .ok (.bipush 8, 2) := by decide +kernel
theorem dX5_wishFirst_73 : decode cX5_wishFirst 73 = .ok (.imul, 1) := by decide +kernel
theorem dX5_wishFirst_74 : decode cX5_wishFirst 74 = .ok (.iload_n 2, 1) := by decide +kernel
theorem dX5_wishFirst_75 : decode cX5_wishFirst 75 = .ok (.iastore, 1) := by decide +kernel
theorem dX5_wishFirst_76 : decode cX5_wishFirst 76 = .ok (.aload_n 0, 1) := by decide +kernel
theorem dX5_wishFirst_77 : decode cX5_wishFirst 77 = .ok (.getfield 56, 3) := by decide +kernel
theorem dX5_wishFirst_80 : decode cX5_wishFirst 80 = .ok (.iload_n 1, 1) := by decide +kernel
theorem dX5_wishFirst_81 : decode cX5_wishFirst 81 = .ok (.iload_n 3, 1) := by decide +kernel
theorem dX5_wishFirst_82 : decode cX5_wishFirst 82 = .ok (.iconst 1, 1) := by decide +kernel
theorem dX5_wishFirst_83 : decode cX5_wishFirst 83 = .ok (.iadd, 1) := by decide +kernel
theorem dX5_wishFirst_84 : decode cX5_wishFirst 84 = .ok (.iastore, 1) := by decide +kernel
theorem dX5_wishFirst_85 : decode cX5_wishFirst 85 = .ok (.return_, 1) := by decide +kernel
theorem dX5_price_0 : decode cX5_price 0 = .ok (.aload_n 0, 1) := by decide +kernel
theorem dX5_price_1 : decode cX5_price 1 = .ok (.iload_n 1, 1) := by decide +kernel
theorem dX5_price_2 : decode cX5_price 2 = .ok (.invokevirtual 72, 3) := by decide +kernel
theorem dX5_price_5 : decode cX5_price 5 = .ok (.ifCond .eq 10, 3) := by decide +kernel
theorem dX5_price_8 : decode cX5_price 8 = .ok (.aload_n 0, 1) := by decide +kernel
theorem dX5_price_9 : decode cX5_price 9 = .ok (.getfield 65, 3) := by decide +kernel
theorem dX5_price_12 : decode cX5_price 12 = .ok (.iload_n 1, 1) := by decide +kernel
theorem dX5_price_13 : decode cX5_price 13 = .ok (.iload_n 2, 1) := by decide +kernel
theorem dX5_price_14 : decode cX5_price 14 = .ok (.iastore, 1) := by decide +kernel
theorem dX5_price_15 : decode cX5_price 15 = .ok (.return_, 1) := by decide +kernel
theorem dX5_receive_0 : decode cX5_receive 0 = .ok (.aload_n 0, 1) := by decide +kernel
theorem dX5_receive_1 : decode cX5_receive 1 = .ok (.iload_n 1, 1) := by decide +kernel
theorem dX5_receive_2 : decode cX5_receive 2 = .ok (.invokevirtual 68, 3) := by decide +kernel
theorem dX5_receive_5 : decode cX5_receive 5 = .ok (.ifCond .eq 23, 3) := by decide +kernel
theorem dX5_receive_8 : decode cX5_receive 8 = .ok (.aload_n 0, 1) := by decide +kernel
theorem dX5_receive_9 : decode cX5_receive 9 = .ok (.getfield 43, 3) := by decide +kernel
theorem dX5_receive_12 : decode cX5_receive 12 = .ok (.iload_n 1, 1) := by decide +kernel
theorem dX5_receive_13 : decode cX5_receive 13 = .ok (.dup2, 1) := by decide +kernel
theorem dX5_receive_14 : decode cX5_receive 14 = .ok (.iaload, 1) := by decide +kernel
theorem dX5_receive_15 : decode cX5_receive 15 = .ok (.iload_n 2, 1) := by decide +kernel
theorem dX5_receive_16 : decode cX5_receive 16 = .ok (.iadd, 1) := by decide +kernel
theorem dX5_receive_17 : decode cX5_receive 17 = .ok (.iastore, 1) := by decide +kernel
theorem dX5_receive_18 : decode cX5_receive 18 = .ok (.aload_n 0, 1) := by decide +kernel
theorem dX5_receive_19 : decode cX5_receive 19 = .ok (.dup, 1) := by decide +kernel
theorem dX5_receive_20 : decode cX5_receive 20 = .ok (.getfield 36, 3) := by decide +kernel
theorem dX5_receive_23 : decode cX5_receive 23 = .ok (.iload_n 2, 1) := by decide +kernel
theorem dX5_receive_24 : decode cX5_receive 24 = .ok (.iadd, 1) := by decide +kernel
theorem dX5_receive_25 : decode cX5_receive 25 = .ok (.putfield 36, 3) := by decide +kernel
theorem dX5_receive_28 : decode cX5_receive 28 = .ok (.return_, 1) := by decide +kernel
theorem dX5_mayPass_0 : decode cX5_mayPass 0 = .ok (.iload_n 1, 1) := by decide +kernel
theorem dX5_mayPass_1 : decode cX5_mayPass 1 = .ok (.sipush 9999, 3) := by decide +kernel
theorem dX5_mayPass_4 : decode cX5_mayPass 4 = .ok (.aload_n 0, 1) := by decide +kernel
theorem dX5_mayPass_5 : decode cX5_mayPass 5 = .ok (.getfield 18, 3) := by decide +kernel
theorem dX5_mayPass_8 : decode cX5_mayPass 8 = .ok (.isub, 1) := by decide +kernel
theorem dX5_mayPass_9 : decode cX5_mayPass 9 = .ok (.if_icmp .gt 7, 3) := by decide +kernel
theorem dX5_mayPass_12 : decode cX5_mayPass 12 = .ok (.iconst 1, 1) := by decide +kernel
theorem dX5_mayPass_13 : decode cX5_mayPass 13 = .ok (.goto 4, 3) := by decide +kernel
theorem dX5_mayPass_16 : decode cX5_mayPass 16 = .ok (.iconst 0, 1) := by decide +kernel
theorem dX5_mayPass_17 : decode cX5_mayPass 17 = .ok (.ireturn, 1) := by decide +kernel
theorem dX5_pass_0 : decode cX5_pass 0 = .ok (.iconst 0, 1) := by decide +kernel
theorem dX5_pass_1 : decode cX5_pass 1 = .ok (.istore_n 2, 1) := by decide +kernel
theorem dX5_pass_2 : decode cX5_pass 2 = .ok (.iload_n 2, 1) := by decide +kernel
theorem dX5_pass_3 : decode cX5_pass 3 = .ok (.iload_n 1, 1) := by decide +kernel
theorem dX5_pass_4 : decode cX5_pass 4 = .ok (.if_icmp .ge 67, 3) := by decide +kernel
theorem dX5_pass_7 : decode cX5_pass 7 = .ok (.aload_n 0, 1) := by decide +kernel
theorem dX5_pass_8 : decode cX5_pass 8 = .ok (.dup, 1) := by decide +kernel
theorem dX5_pass_9 : decode cX5_pass 9 = .ok (.getfield 18, 3) := by decide +kernel
theorem dX5_pass_12 : decode cX5_pass 12 = .ok (.iconst 1, 1) := by decide +kernel
theorem dX5_pass_13 : decode cX5_pass 13 = .ok (.iadd, 1) := by decide +kernel
theorem dX5_pass_14 : decode cX5_pass 14 = .ok (.putfield 18, 3) := by decide +kernel
theorem dX5_pass_17 : decode cX5_pass 17 = .ok (.iconst 0, 1) := by decide +kernel
theorem dX5_pass_18 : decode cX5_pass 18 = .ok (.istore_n 3, 1) := by decide +kernel
theorem dX5_pass_19 : decode cX5_pass 19 = .ok (.iload_n 3, 1) := by decide +kernel
theorem dX5_pass_20 : decode cX5_pass 20 = .ok (.aload_n 0, 1) := by decide +kernel
theorem dX5_pass_21 : decode cX5_pass 21 = .ok (.getfield 9, 3) := by decide +kernel
theorem dX5_pass_24 : decode cX5_pass 24 = .ok (.if_icmp .ge 20, 3) := by decide +kernel
theorem dX5_pass_27 : decode cX5_pass 27 = .ok (.aload_n 0, 1) := by decide +kernel
theorem dX5_pass_28 : decode cX5_pass 28 = .ok (.iload_n 3, 1) := by decide +kernel
theorem dX5_pass_29 : decode cX5_pass 29 = .ok (.aload_n 0, 1) := by decide +kernel
theorem dX5_pass_30 : decode cX5_pass 30 = .ok (.getfield 47, 3) := by decide +kernel
theorem dX5_pass_33 : decode cX5_pass 33 = .ok (.iload_n 3, 1) := by decide +kernel
theorem dX5_pass_34 : decode cX5_pass 34 = .ok (.iaload, 1) := by decide +kernel
theorem dX5_pass_35 : decode cX5_pass 35 = .ok (.invokevirtual 108, 3) := by decide +kernel
theorem dX5_pass_38 : decode cX5_pass 38 = .ok (.iinc 3 1, 3) := by decide +kernel
theorem dX5_pass_41 : decode cX5_pass 41 = .ok (.goto (-22), 3) := by decide +kernel
theorem dX5_pass_44 : decode cX5_pass 44 = .ok (.iconst 0, 1) := by decide +kernel
theorem dX5_pass_45 : decode cX5_pass 45 = .ok (.istore_n 3, 1) := by decide +kernel
theorem dX5_pass_46 : decode cX5_pass 46 = .ok (.iload_n 3, 1) := by decide +kernel
theorem dX5_pass_47 : decode cX5_pass 47 = .ok (.aload_n 0, 1) := by decide +kernel
theorem dX5_pass_48 : decode cX5_pass 48 = .ok (.getfield 9, 3) := by decide +kernel
theorem dX5_pass_51 : decode cX5_pass 51 = .ok (.if_icmp .ge 14, 3) := by decide +kernel
theorem dX5_pass_54 : decode cX5_pass 54 = .ok (.aload_n 0, 1) := by decide +kernel
theorem dX5_pass_55 : decode cX5_pass 55 = .ok (.iload_n 3, 1) := by decide +kernel
theorem dX5_pass_56 : decode cX5_pass 56 = .ok (.invokevirtual 111, 3) := by decide +kernel
theorem dX5_pass_59 : decode cX5_pass 59 = .ok (.iinc 3 1, 3) := by decide +kernel
theorem dX5_pass_62 : decode cX5_pass 62 = .ok (.goto (-16), 3) := by decide +kernel
theorem dX5_pass_65 : decode cX5_pass 65 = .ok (.iinc 2 1, 3) := by decide +kernel
theorem dX5_pass_68 : decode cX5_pass 68 = .ok (.goto (-66), 3) := by decide +kernel
theorem dX5_pass_71 : decode cX5_pass 71 = .ok (.return_, 1) := by decide +kernel
theorem dX5_chargeOrEvict_0 : decode cX5_chargeOrEvict 0 = .ok (.aload_n 0, 1) := by decide +kernel
theorem dX5_chargeOrEvict_1 : decode cX5_chargeOrEvict 1 = .ok (.iload_n 1, 1) := by decide +kernel
theorem dX5_chargeOrEvict_2 : decode cX5_chargeOrEvict 2 = .ok (.invokevirtual 92, 3) := by decide +kernel
theorem dX5_chargeOrEvict_5 : decode cX5_chargeOrEvict 5 = .ok (.istore_n 2, 1) := by decide +kernel
theorem dX5_chargeOrEvict_6 : decode cX5_chargeOrEvict 6 = .ok (.aload_n 0, 1) := by decide +kernel
theorem dX5_chargeOrEvict_7 : decode cX5_chargeOrEvict 7 = .ok (.iload_n 1, 1) := by decide +kernel
theorem dX5_chargeOrEvict_8 : decode cX5_chargeOrEvict 8 = .ok (.invokevirtual 68, 3) := by decide +kernel
theorem dX5_chargeOrEvict_11 : decode cX5_chargeOrEvict 11 = .ok (.ifCond .eq 8, 3) := by decide +kernel
theorem dX5_chargeOrEvict_14 : decode cX5_chargeOrEvict 14 = .ok (.iload_n 2, 1) := by decide +kernel
theorem dX5_chargeOrEvict_15 : decode cX5_chargeOrEvict 15 = .ok (.iconst (-1), 1) := by decide +kernel
theorem dX5_chargeOrEvict_16 : decode cX5_chargeOrEvict 16 = .ok (.if_icmp .ne 4, 3) := by decide +kernel
theorem dX5_chargeOrEvict_19 : decode cX5_chargeOrEvict 19 = .ok (.return_, 1) := by decide +kernel
theorem dX5_chargeOrEvict_20 : decode cX5_chargeOrEvict 20 = .ok (.aload_n 0, 1) := by decide +kernel
theorem dX5_chargeOrEvict_21 : decode cX5_chargeOrEvict 21 = .ok (.iload_n 2, 1) := by decide +kernel
theorem dX5_chargeOrEvict_22 : decode cX5_chargeOrEvict 22 = .ok (.invokevirtual 86, 3) := by decide +kernel
theorem dX5_chargeOrEvict_25 : decode cX5_chargeOrEvict 25 = .ok (.istore_n 3, 1) := by decide +kernel
theorem dX5_chargeOrEvict_26 : decode cX5_chargeOrEvict 26 = .ok (.aload_n 0, 1) := by decide +kernel
theorem dX5_chargeOrEvict_27 : decode cX5_chargeOrEvict 27 = .ok (.getfield 43, 3) := by decide +kernel
theorem dX5_chargeOrEvict_30 : decode cX5_chargeOrEvict 30 = .ok (.iload_n 1, 1) := by decide +kernel
theorem dX5_chargeOrEvict_31 : decode cX5_chargeOrEvict 31 = .ok (.iaload, 1) := by decide +kernel
theorem dX5_chargeOrEvict_32 : decode cX5_chargeOrEvict 32 = .ok (.iload_n 3, 1) := by decide +kernel
theorem dX5_chargeOrEvict_33 : decode cX5_chargeOrEvict 33 = .ok (.if_icmp .lt 26, 3) := by decide +kernel
theorem dX5_chargeOrEvict_36 : decode cX5_chargeOrEvict 36 = .ok (.aload_n 0, 1) := by decide +kernel
theorem dX5_chargeOrEvict_37 : decode cX5_chargeOrEvict 37 = .ok (.getfield 43, 3) := by decide +kernel
theorem dX5_chargeOrEvict_40 : decode cX5_chargeOrEvict 40 = .ok (.iload_n 1, 1) := by decide +kernel
theorem dX5_chargeOrEvict_41 : decode cX5_chargeOrEvict 41 = .ok (.dup2, 1) := by decide +kernel
theorem dX5_chargeOrEvict_42 : decode cX5_chargeOrEvict 42 = .ok (.iaload, 1) := by decide +kernel
theorem dX5_chargeOrEvict_43 : decode cX5_chargeOrEvict 43 = .ok (.iload_n 3, 1) := by decide +kernel
theorem dX5_chargeOrEvict_44 : decode cX5_chargeOrEvict 44 = .ok (.isub, 1) := by decide +kernel
theorem dX5_chargeOrEvict_45 : decode cX5_chargeOrEvict 45 = .ok (.iastore, 1) := by decide +kernel
theorem dX5_chargeOrEvict_46 : decode cX5_chargeOrEvict 46 = .ok (.aload_n 0, 1) := by decide +kernel
theorem dX5_chargeOrEvict_47 : decode cX5_chargeOrEvict 47 = .ok (.dup, 1) := by decide +kernel
theorem dX5_chargeOrEvict_48 : decode cX5_chargeOrEvict 48 = .ok (.getfield 21, 3) := by decide +kernel
theorem dX5_chargeOrEvict_51 : decode cX5_chargeOrEvict 51 = .ok (.iload_n 3, 1) := by decide +kernel
theorem dX5_chargeOrEvict_52 : decode cX5_chargeOrEvict 52 = .ok (.iadd, 1) := by decide +kernel
theorem dX5_chargeOrEvict_53 : decode cX5_chargeOrEvict 53 = .ok (.putfield 21, 3) := by decide +kernel
theorem dX5_chargeOrEvict_56 : decode cX5_chargeOrEvict 56 = .ok (.goto 20, 3) := by decide +kernel
theorem dX5_chargeOrEvict_59 : decode cX5_chargeOrEvict 59 = .ok (.aload_n 0, 1) := by decide +kernel
theorem dX5_chargeOrEvict_60 : decode cX5_chargeOrEvict 60 = .ok (.getfield 50, 3) := by decide +kernel
theorem dX5_chargeOrEvict_63 : decode cX5_chargeOrEvict 63 = .ok (.iload_n 1, 1) := by decide +kernel
theorem dX5_chargeOrEvict_64 : decode cX5_chargeOrEvict 64 = .ok (.iconst (-1), 1) := by decide +kernel
theorem dX5_chargeOrEvict_65 : decode cX5_chargeOrEvict 65 = .ok (.iastore, 1) := by decide +kernel
theorem dX5_chargeOrEvict_66 : decode cX5_chargeOrEvict 66 = .ok (.aload_n 0, 1) := by decide +kernel
theorem dX5_chargeOrEvict_67 : decode cX5_chargeOrEvict 67 = .ok (.dup, 1) := by decide +kernel
theorem dX5_chargeOrEvict_68 : decode cX5_chargeOrEvict 68 = .ok (.getfield 24, 3) := by decide +kernel
theorem dX5_chargeOrEvict_71 : decode cX5_chargeOrEvict 71 = .ok (.iconst 1, 1) := by decide +kernel
theorem dX5_chargeOrEvict_72 : decode cX5_chargeOrEvict 72 = .ok (.iadd, 1) := by decide +kernel
theorem dX5_chargeOrEvict_73 : decode cX5_chargeOrEvict 73 = .ok (.putfield 24, 3) := by decide +kernel
theorem dX5_chargeOrEvict_76 : decode cX5_chargeOrEvict 76 = .ok (.return_, 1) := by decide +kernel
theorem dX6_init_0 : decode cX6_init 0 = .ok (.aload_n 0, 1) := by decide +kernel
theorem dX6_init_1 : decode cX6_init 1 = .ok (.invokespecial 3, 3) := by decide +kernel
theorem dX6_init_4 : decode cX6_init 4 = .ok (.aload_n 0, 1) := by decide +kernel
theorem dX6_init_5 : decode cX6_init 5 = .ok (.sipush 256, 3) := by decide +kernel
theorem dX6_init_8 : decode cX6_init 8 = .ok (.newarray .int, 2) := by decide +kernel
theorem dX6_init_10 : decode cX6_init 10 = .ok (.putfield 9, 3) := by decide +kernel
theorem dX6_init_13 : decode cX6_init 13 = .ok (.aload_n 0, 1) := by decide +kernel
theorem dX6_init_14 : decode cX6_init 14 = .ok (.iconst 0, 1) := by decide +kernel
theorem dX6_init_15 : decode cX6_init 15 = .ok (.putfield 15, 3) := by decide +kernel
theorem dX6_init_18 : decode cX6_init 18 = .ok (.aload_n 0, 1) := by decide +kernel
theorem dX6_init_19 : decode cX6_init 19 = .ok (.iconst 0, 1) := by decide +kernel
theorem dX6_init_20 : decode cX6_init 20 = .ok (.putfield 19, 3) := by decide +kernel
theorem dX6_init_23 : decode cX6_init 23 = .ok (.return_, 1) := by decide +kernel
theorem dX6_solve_0 : decode cX6_solve 0 = .ok (.iconst 1, 1) := by decide +kernel
theorem dX6_solve_1 : decode cX6_solve 1 = .ok (.istore_n 2, 1) := by decide +kernel
theorem dX6_solve_2 : decode cX6_solve 2 = .ok (.iload_n 2, 1) := by decide +kernel
theorem dX6_solve_3 : decode cX6_solve 3 = .ok (.sipush 256, 3) := by decide +kernel
theorem dX6_solve_6 : decode cX6_solve 6 = .ok (.if_icmp .ge 16, 3) := by decide +kernel
theorem dX6_solve_9 : decode cX6_solve 9 = .ok (.aload_n 0, 1) := by decide +kernel
theorem dX6_solve_10 : decode cX6_solve 10 = .ok (.getfield 9, 3) := by decide +kernel
theorem dX6_solve_13 : decode cX6_solve 13 = .ok (.iload_n 2, 1) := by decide +kernel
theorem dX6_solve_14 : decode cX6_solve 14 = .ok (.iconst (-1), 1) := by decide +kernel
theorem dX6_solve_15 : decode cX6_solve 15 = .ok (.iastore, 1) := by decide +kernel
theorem dX6_solve_16 : decode cX6_solve 16 = .ok (.iinc 2 1, 3) := by decide +kernel
theorem dX6_solve_19 : decode cX6_solve 19 = .ok (.goto (-17), 3) := by decide +kernel
theorem dX6_solve_22 : decode cX6_solve 22 = .ok (.aload_n 0, 1) := by decide +kernel
theorem dX6_solve_23 : decode cX6_solve 23 = .ok (.getfield 9, 3) := by decide +kernel
theorem dX6_solve_26 : decode cX6_solve 26 = .ok (.iconst 0, 1) := by decide +kernel
theorem dX6_solve_27 : decode cX6_solve 27 = .ok (.iconst 0, 1) := by decide +kernel
theorem dX6_solve_28 : decode cX6_solve 28 = .ok (.iastore, 1) := by decide +kernel
theorem dX6_solve_29 : decode cX6_solve 29 = .ok (.iconst 0, 1) := by decide +kernel
theorem dX6_solve_30 : decode cX6_solve 30 = .ok (.istore_n 2, 1) := by decide +kernel
theorem dX6_solve_31 : decode cX6_solve 31 = .ok (.iload_n 2, 1) := by decide +kernel
theorem dX6_solve_32 : decode cX6_solve 32 = .ok (.aload_n 1, 1) := by decide +kernel
theorem dX6_solve_33 : decode cX6_solve 33 = .ok (.getfield 22, 3) := by decide +kernel
theorem dX6_solve_36 : decode cX6_solve 36 = .ok (.if_icmp .ge 15, 3) := by decide +kernel
theorem dX6_solve_39 : decode cX6_solve 39 = .ok (.aload_n 0, 1) := by decide +kernel
theorem dX6_solve_40 : decode cX6_solve 40 = .ok (.aload_n 1, 1) := by decide +kernel
theorem dX6_solve_41 : decode cX6_solve 41 = .ok (.iload_n 2, 1) := by decide +kernel
theorem dX6_solve_42 : decode cX6_solve 42 = .ok (.invokevirtual 27, 3) := by decide +kernel
theorem dX6_solve_45 : decode cX6_solve 45 = .ok (.iinc 2 1, 3) := by decide +kernel
theorem dX6_solve_48 : decode cX6_solve 48 = .ok (.goto (-17), 3) := by decide +kernel
theorem dX6_solve_51 : decode cX6_solve 51 = .ok (.aload_n 0, 1) := by decide +kernel
theorem dX6_solve_52 : decode cX6_solve 52 = .ok (.iconst 0, 1) := by decide +kernel
theorem dX6_solve_53 : decode cX6_solve 53 = .ok (.putfield 15, 3) := by decide +kernel
theorem dX6_solve_56 : decode cX6_solve 56 = .ok (.aload_n 0, 1) := by decide +kernel
theorem dX6_solve_57 : decode cX6_solve 57 = .ok (.iconst 0, 1) := by decide +kernel
theorem dX6_solve_58 : decode cX6_solve 58 = .ok (.putfield 19, 3) := by decide +kernel
theorem dX6_solve_61 : decode cX6_solve 61 = .ok (.iconst 1, 1) := by decide +kernel
theorem dX6_solve_62 : decode cX6_solve 62 = .ok (.istore_n 2, 1) := by decide +kernel
theorem dX6_solve_63 : decode cX6_solve 63 = .ok (.iload_n 2, 1) := by decide +kernel
theorem dX6_solve_64 : decode cX6_solve 64 = .ok (.sipush 256, 3) := by decide +kernel
theorem dX6_solve_67 : decode cX6_solve 67 = .ok (.if_icmp .ge 23, 3) := by decide +kernel
theorem dX6_solve_70 : decode cX6_solve 70 = .ok (.aload_n 0, 1) := by decide +kernel
theorem dX6_solve_71 : decode cX6_solve 71 = .ok (.iload_n 2, 1) := by decide +kernel
theorem dX6_solve_72 : decode cX6_solve 72 = .ok (.invokestatic 31, 3) := by decide +kernel
theorem dX6_solve_75 : decode cX6_solve 75 = .ok (.aload_n 0, 1) := by decide +kernel
theorem dX6_solve_76 : decode cX6_solve 76 = .ok (.getfield 9, 3) := by decide +kernel
theorem dX6_solve_79 : decode cX6_solve 79 = .ok (.iload_n 2, 1) := by decide +kernel
theorem dX6_solve_80 : decode cX6_solve 80 = .ok (.iaload, 1) := by decide +kernel
theorem dX6_solve_81 : decode cX6_solve 81 = .ok (.invokevirtual 37, 3) := by decide +kernel
theorem dX6_solve_84 : decode cX6_solve 84 = .ok (.iinc 2 1, 3) := by decide +kernel
theorem dX6_solve_87 : decode cX6_solve 87 = .ok (.goto (-24), 3) := by decide +kernel
theorem dX6_solve_90 : decode cX6_solve 90 = .ok (.return_, 1) := by decide +kernel
theorem dX6_include_0 : decode cX6_include 0 = .ok (.sipush 255, 3) := by decide +kernel
theorem dX6_include_3 : decode cX6_include 3 = .ok (.istore_n 3, 1) := by decide +kernel
theorem dX6_include_4 : decode cX6_include 4 = .ok (.iload_n 3, 1) := by decide +kernel
theorem dX6_include_5 : decode cX6_include 5 = .ok (.ifCond .le 104, 3) := by decide +kernel
theorem dX6_include_8 : decode cX6_include 8 = .ok (.iconst 0, 1) := by decide +kernel
theorem dX6_include_9 : decode cX6_include 9 = .ok (.istore 4, 2) := by decide +kernel
theorem dX6_include_11 : decode cX6_include 11 = .ok (.iload 4, 2) := by decide +kernel
theorem dX6_include_13 : decode cX6_include 13 = .ok (.aload_n 1, 1) := by decide +kernel
theorem dX6_include_14 : decode cX6_include 14 = .ok (.iload_n 2, 1) := by decide +kernel
theorem dX6_include_15 : decode cX6_include 15 = .ok (.invokevirtual 41, 3) := by decide +kernel
theorem dX6_include_18 : decode cX6_include 18 = .ok (.if_icmp .ge 85, 3) := by decide +kernel
theorem dX6_include_21 : decode cX6_include 21 = .ok (.iconst 1, 1) := by decide +kernel
theorem dX6_include_22 : decode cX6_include 22 = .ok (.aload_n 1, 1) := by decide +kernel
theorem dX6_include_23 : decode cX6_include 23 = .ok (.iload_n 2, 1) := by decide +kernel
theorem dX6_include_24 : decode cX6_include 24 = .ok (.iload 4, 2) := by decide +kernel
theorem dX6_include_26 : decode cX6_include 26 = .ok (.invokevirtual 44, 3) := by decide +kernel
theorem dX6_include_29 : decode cX6_include 29 = .ok (.ishl, 1) := by decide +kernel
theorem dX6_include_30 : decode cX6_include 30 = .ok (.istore 5, 2) := by decide +kernel
theorem dX6_include_32 : decode cX6_include 32 = .ok (.iload_n 3, 1) := by decide +kernel
theorem dX6_include_33 : decode cX6_include 33 = .ok (.iload 5, 2) := by decide +kernel
theorem dX6_include_35 : decode cX6_include 35 = .ok (.iand, 1) := by decide +kernel
theorem dX6_include_36 : decode cX6_include 36 = .ok (.ifCond .eq 17, 3) := by decide +kernel
theorem dX6_include_39 : decode cX6_include 39 = .ok (.aload_n 0, 1) := by decide +kernel
theorem dX6_include_40 : decode cX6_include 40 = .ok (.getfield 9, 3) := by decide +kernel
theorem dX6_include_43 : decode cX6_include 43 = .ok (.iload_n 3, 1) := by decide +kernel
theorem dX6_include_44 : decode cX6_include 44 = .ok (.iload 5, 2) := by decide +kernel
theorem dX6_include_46 : decode cX6_include 46 = .ok (.iconst (-1), 1) := by decide +kernel
theorem dX6_include_47 : decode cX6_include 47 = .ok (.ixor, 1) := by decide +kernel
theorem dX6_include_48 : decode cX6_include 48 = .ok (.iand, 1) := by decide +kernel
theorem dX6_include_49 : decode cX6_include 49 = .ok (.iaload, 1) := by decide +kernel
theorem dX6_include_50 : decode cX6_include 50 = .ok (.goto 4, 3) := by decide +kernel
theorem dX6_include_53 : decode cX6_include 53 = .ok (.iconst (-1), 1) := by decide +kernel
theorem dX6_include_54 : decode cX6_include 54 = .ok (.istore 6, 2) := by decide +kernel
theorem dX6_include_56 : decode cX6_include 56 = .ok (.iload 6, 2) := by decide +kernel
theorem dX6_include_58 : decode cX6_include 58 = .ok (.iconst (-1), 1) := by decide +kernel
theorem dX6_include_59 : decode cX6_include 59 = .ok (.if_icmp .eq 38, 3) := by decide +kernel
theorem dX6_include_62 : decode cX6_include 62 = .ok (.aload_n 0, 1) := by decide +kernel
theorem dX6_include_63 : decode cX6_include 63 = .ok (.getfield 9, 3) := by decide +kernel
theorem dX6_include_66 : decode cX6_include 66 = .ok (.iload_n 3, 1) := by decide +kernel
theorem dX6_include_67 : decode cX6_include 67 = .ok (.iaload, 1) := by decide +kernel
theorem dX6_include_68 : decode cX6_include 68 = .ok (.iconst (-1), 1) := by decide +kernel
theorem dX6_include_69 : decode cX6_include 69 = .ok (.if_icmp .eq 17, 3) := by decide +kernel
theorem dX6_include_72 : decode cX6_include 72 = .ok (.iload 6, 2) := by decide +kernel
theorem dX6_include_74 : decode cX6_include 74 = .ok (.iload 4, 2) := by decide +kernel
theorem dX6_include_76 : decode cX6_include 76 = .ok (.iadd, 1) := by decide +kernel
theorem dX6_include_77 : decode cX6_include 77 = .ok (.aload_n 0, 1) := by decide +kernel
theorem dX6_include_78 : decode cX6_include 78 = .ok (.getfield 9, 3) := by decide +kernel
theorem dX6_include_81 : decode cX6_include 81 = .ok (.iload_n 3, 1) := by decide +kernel
theorem dX6_include_82 : decode cX6_include 82 = .ok (.iaload, 1) := by decide +kernel
theorem dX6_include_83 : decode cX6_include 83 = .ok (.if_icmp .ge 14, 3) := by decide +kernel
theorem dX6_include_86 : decode cX6_include 86 = .ok (.aload_n 0, 1) := by decide +kernel
theorem dX6_include_87 : decode cX6_include 87 = .ok (.getfield 9, 3) := by decide +kernel
theorem dX6_include_90 : decode cX6_include 90 = .ok (.iload_n 3, 1) := by decide +kernel
theorem dX6_include_91 : decode cX6_include 91 = .ok (.iload 6, 2) := by decide +kernel
theorem dX6_include_93 : decode cX6_include 93 = .ok (.iload 4, 2) := by decide +kernel
theorem dX6_include_95 : decode cX6_include 95 = .ok (.iadd, 1) := by decide +kernel
theorem dX6_include_96 : decode cX6_include 96 = .ok (.iastore, 1) := by decide +kernel
theorem dX6_include_97 : decode cX6_include 97 = .ok (.iinc 4 1, 3) := by decide +kernel
theorem dX6_include_100 : decode cX6_include 100 = .ok (.goto (-89), 3) := by decide +kernel
theorem dX6_include_103 : decode cX6_include 103 = .ok (.iinc 3 (-1), 3) := by decide +kernel
theorem dX6_include_106 : decode cX6_include 106 = .ok (.goto (-102), 3) := by decide +kernel
theorem dX6_include_109 : decode cX6_include 109 = .ok (.return_, 1) := by decide +kernel
theorem dX6_consider_0 : decode cX6_consider 0 = .ok (.iload_n 2, 1) := by decide +kernel
theorem dX6_consider_1 : decode cX6_consider 1 = .ok (.iconst (-1), 1) := by decide +kernel
theorem dX6_consider_2 : decode cX6_consider 2 = .ok (.if_icmp .eq 37, 3) := by decide +kernel
theorem dX6_consider_5 : decode cX6_consider 5 = .ok (.iload_n 1, 1) := by decide +kernel
theorem dX6_consider_6 : decode cX6_consider 6 = .ok (.aload_n 0, 1) := by decide +kernel
theorem dX6_consider_7 : decode cX6_consider 7 = .ok (.getfield 15, 3) := by decide +kernel
theorem dX6_consider_10 : decode cX6_consider 10 = .ok (.if_icmp .gt 19, 3) := by decide +kernel
theorem dX6_consider_13 : decode cX6_consider 13 = .ok (.iload_n 1, 1) := by decide +kernel
theorem dX6_consider_14 : decode cX6_consider 14 = .ok (.aload_n 0, 1) := by decide +kernel
theorem dX6_consider_15 : decode cX6_consider 15 = .ok (.getfield 15, 3) := by decide +kernel
theorem dX6_consider_18 : decode cX6_consider 18 = .ok (.if_icmp .ne 21, 3) := by decide +kernel
theorem dX6_consider_21 : decode cX6_consider 21 = .ok (.iload_n 2, 1) := by decide +kernel
theorem dX6_consider_22 : decode cX6_consider 22 = .ok (.aload_n 0, 1) := by decide +kernel
theorem dX6_consider_23 : decode cX6_consider 23 = .ok (.getfield 19, 3) := by decide +kernel
theorem dX6_consider_26 : decode cX6_consider 26 = .ok (.if_icmp .ge 13, 3) := by decide +kernel
theorem dX6_consider_29 : decode cX6_consider 29 = .ok (.aload_n 0, 1) := by decide +kernel
theorem dX6_consider_30 : decode cX6_consider 30 = .ok (.iload_n 1, 1) := by decide +kernel
theorem dX6_consider_31 : decode cX6_consider 31 = .ok (.putfield 15, 3) := by decide +kernel
theorem dX6_consider_34 : decode cX6_consider 34 = .ok (.aload_n 0, 1) := by decide +kernel
theorem dX6_consider_35 : decode cX6_consider 35 = .ok (.iload_n 2, 1) := by decide +kernel
theorem dX6_consider_36 : decode cX6_consider 36 = .ok (.putfield 19, 3) := by decide +kernel
theorem dX6_consider_39 : decode cX6_consider 39 = .ok (.return_, 1) := by decide +kernel
theorem dX7_init_0 : decode cX7_init 0 = .ok (.aload_n 0, 1) := by decide +kernel
theorem dX7_init_1 : decode cX7_init 1 = .ok (.invokespecial 3, 3) := by decide +kernel
theorem dX7_init_4 : decode cX7_init 4 = .ok (.aload_n 0, 1) := by decide +kernel
theorem dX7_init_5 : decode cX7_init 5 = .ok (.new 9, 3) := by decide +kernel
theorem dX7_init_8 : decode cX7_init 8 = .ok (.dup, 1) := by decide +kernel
theorem dX7_init_9 : decode cX7_init 9 = .ok (.invokespecial 11, 3) := by decide +kernel
theorem dX7_init_12 : decode cX7_init 12 = .ok (.putfield 12, 3) := by decide +kernel
theorem dX7_init_15 : decode cX7_init 15 = .ok (.aload_n 0, 1) := by decide +kernel
theorem dX7_init_16 : decode cX7_init 16 = .ok (.iconst 0, 1) := by decide +kernel
theorem dX7_init_17 : decode cX7_init 17 = .ok (.putfield 18, 3) := by decide +kernel
theorem dX7_init_20 : decode cX7_init 20 = .ok (.aload_n 0, 1) := by decide +kernel
theorem dX7_init_21 : decode cX7_init 21 = .ok (.iconst (-1), 1) := by decide +kernel
theorem dX7_init_22 : decode cX7_init 22 = .ok (.putfield 22, 3) := by decide +kernel
theorem dX7_init_25 : decode cX7_init 25 = .ok (.return_, 1) := by decide +kernel
theorem dX7_begin_0 : decode cX7_begin 0 = .ok (.aload_n 0, 1) := by decide +kernel
theorem dX7_begin_1 : decode cX7_begin 1 = .ok (.iconst 0, 1) := by decide +kernel
theorem dX7_begin_2 : decode cX7_begin 2 = .ok (.putfield 18, 3) := by decide +kernel
theorem dX7_begin_5 : decode cX7_begin 5 = .ok (.aload_n 0, 1) := by decide +kernel
theorem dX7_begin_6 : decode cX7_begin 6 = .ok (.iconst (-1), 1) := by decide +kernel
theorem dX7_begin_7 : decode cX7_begin 7 = .ok (.putfield 22, 3) := by decide +kernel
theorem dX7_begin_10 : decode cX7_begin 10 = .ok (.aload_n 0, 1) := by decide +kernel
theorem dX7_begin_11 : decode cX7_begin 11 = .ok (.getfield 12, 3) := by decide +kernel
theorem dX7_begin_14 : decode cX7_begin 14 = .ok (.invokevirtual 25, 3) := by decide +kernel
theorem dX7_begin_17 : decode cX7_begin 17 = .ok (.return_, 1) := by decide +kernel
theorem dX7_fail_0 : decode cX7_fail 0 = .ok (.aload_n 0, 1) := by decide +kernel
theorem dX7_fail_1 : decode cX7_fail 1 = .ok (.iload_n 1, 1) := by decide +kernel
theorem dX7_fail_2 : decode cX7_fail 2 = .ok (.putfield 18, 3) := by decide +kernel
theorem dX7_fail_5 : decode cX7_fail 5 = .ok (.aload_n 0, 1) := by decide +kernel
theorem dX7_fail_6 : decode cX7_fail 6 = .ok (.aload_n 0, 1) := by decide +kernel
theorem dX7_fail_7 : decode cX7_fail 7 = .ok (.getfield 12, 3) := by decide +kernel
theorem dX7_fail_10 : decode cX7_fail 10 = .ok (.getfield 28, 3) := by decide +kernel
theorem dX7_fail_13 : decode cX7_fail 13 = .ok (.putfield 22, 3) := by decide +kernel
theorem dX7_fail_16 : decode cX7_fail 16 = .ok (.iconst 0, 1) := by decide +kernel
theorem dX7_fail_17 : decode cX7_fail 17 = .ok (.ireturn, 1) := by decide +kernel
theorem dX7_takeWord_0 : decode cX7_takeWord 0 = .ok (.aload_n 0, 1) := by decide +kernel
theorem dX7_takeWord_1 : decode cX7_takeWord 1 = .ok (.getfield 12, 3) := by decide +kernel
theorem dX7_takeWord_4 : decode cX7_takeWord 4 = .ok (.aload_n 1, 1) := by decide +kernel
theorem dX7_takeWord_5 : decode cX7_takeWord 5 = .ok (.invokevirtual 31, 3) := by decide +kernel
theorem dX7_takeWord_8 : decode cX7_takeWord 8 = .ok (.ifCond .ne 9, 3) := by decide +kernel
theorem dX7_takeWord_11 : decode cX7_takeWord 11 = .ok (.aload_n 0, 1) := by decide +kernel
theorem dX7_takeWord_12 : decode cX7_takeWord 12 = .ok (.iconst 1, 1) := by decide +kernel
theorem dX7_takeWord_13 : decode cX7_takeWord 13 = .ok (.invokevirtual 35, 3) := by decide +kernel
theorem dX7_takeWord_16 : decode cX7_takeWord 16 = .ok (.ireturn, 1) := by decide +kernel
theorem dX7_takeWord_17 : decode cX7_takeWord 17 = .ok (.aload_n 0, 1) := by decide +kernel
theorem dX7_takeWord_18 : decode cX7_takeWord 18 = .ok (.getfield 12, 3) := by decide +kernel
theorem dX7_takeWord_21 : decode cX7_takeWord 21 = .ok (.invokevirtual 39, 3) := by decide +kernel
theorem dX7_takeWord_24 : decode cX7_takeWord 24 = .ok (.iconst 1, 1) := by decide +kernel
theorem dX7_takeWord_25 : decode cX7_takeWord 25 = .ok (.ireturn, 1) := by decide +kernel
theorem dX7_takeSemicolon_0 : decode cX7_takeSemicolon 0 = .ok (.aload_n 0, 1) := by decide +kernel
theorem dX7_takeSemicolon_1 : decode cX7_takeSemicolon 1 = .ok (.getfield 12, 3) := by decide +kernel
theorem dX7_takeSemicolon_4 : decode cX7_takeSemicolon 4 = .ok (.getfield 42, 3) := by decide +kernel
theorem dX7_takeSemicolon_7 : decode cX7_takeSemicolon 7 = .ok (.iconst 3, 1) := by decide +kernel
theorem dX7_takeSemicolon_8 : decode cX7_takeSemicolon 8 = .ok (.if_icmp .eq 9, 3) := by decide +kernel
theorem dX7_takeSemicolon_11 : decode cX7_takeSemicolon 11 = .ok (.aload_n 0, 1) := by decide +kernel
theorem dX7_takeSemicolon_12 : decode cX7_takeSemicolon 12 = .ok (.iconst 1, 1) := by decide +kernel
theorem dX7_takeSemicolon_13 : decode cX7_takeSemicolon 13 = .ok (.invokevirtual 35, 3) := by decide +kernel
theorem dX7_takeSemicolon_16 : decode cX7_takeSemicolon 16 = .ok (.ireturn, 1) := by decide +kernel
theorem dX7_takeSemicolon_17 : decode cX7_takeSemicolon 17 = .ok (.aload_n 0, 1) := by decide +kernel
theorem dX7_takeSemicolon_18 : decode cX7_takeSemicolon 18 = .ok (.getfield 12, 3) := by decide +kernel
theorem dX7_takeSemicolon_21 : decode cX7_takeSemicolon 21 = .ok (.invokevirtual 39, 3) := by decide +kernel
theorem dX7_takeSemicolon_24 : decode cX7_takeSemicolon 24 = .ok (.iconst 1, 1) := by decide +kernel
theorem dX7_takeSemicolon_25 : decode cX7_takeSemicolon 25 = .ok (.ireturn, 1) := by decide +kernel
theorem dX7_takeNumber_0 : decode cX7_takeNumber 0 = .ok (.aload_n 0, 1) := by decide +kernel
theorem dX7_takeNumber_1 : decode cX7_takeNumber 1 = .ok (.getfield 12, 3) := by decide +kernel
theorem dX7_takeNumber_4 : decode cX7_takeNumber 4 = .ok (.getfield 45, 3) := by decide +kernel
theorem dX7_takeNumber_7 : decode cX7_takeNumber 7 = .ok (.istore_n 3, 1) := by decide +kernel
theorem dX7_takeNumber_8 : decode cX7_takeNumber 8 = .ok (.aload_n 0, 1) := by decide +kernel
theorem dX7_takeNumber_9 : decode cX7_takeNumber 9 = .ok (.getfield 12, 3) := by decide +kernel
theorem dX7_takeNumber_12 : decode cX7_takeNumber 12 = .ok (.getfield 42, 3) := by decide +kernel
theorem dX7_takeNumber_15 : decode cX7_takeNumber 15 = .ok (.iconst 2, 1) := by decide +kernel
theorem dX7_takeNumber_16 : decode cX7_takeNumber 16 = .ok (.if_icmp .eq 11, 3) := by decide +kernel
theorem dX7_takeNumber_19 : decode cX7_takeNumber 19 = .ok (.aload_n 0, 1) := by decide +kernel
theorem dX7_takeNumber_20 : decode cX7_takeNumber 20 = .ok (.iconst 1, 1) := by decide +kernel
theorem dX7_takeNumber_21 : decode cX7_takeNumber 21 = .ok (.invokevirtual 35, 3) := by decide +kernel
theorem dX7_takeNumber_24 : decode cX7_takeNumber 24 = .ok (.pop, 1) := by decide +kernel
theorem dX7_takeNumber_25 : decode cX7_takeNumber 25 = .ok (.iconst (-1), 1) := by decide +kernel
theorem dX7_takeNumber_26 : decode cX7_takeNumber 26 = .ok (.ireturn, 1) := by decide +kernel
theorem dX7_takeNumber_27 : decode cX7_takeNumber 27 = .ok (.iload_n 3, 1) := by decide +kernel
theorem dX7_takeNumber_28 : decode cX7_takeNumber 28 = .ok (.iload_n 1, 1) := by decide +kernel
theorem dX7_takeNumber_29 : decode cX7_takeNumber 29 = .ok (.if_icmp .lt 8, 3) := by decide +kernel
theorem dX7_takeNumber_32 : decode cX7_takeNumber 32 = .ok (.iload_n 3, 1) := by decide +kernel
theorem dX7_takeNumber_33 : decode cX7_takeNumber 33 = .ok (.iload_n 2, 1) := by decide +kernel
theorem dX7_takeNumber_34 : decode cX7_takeNumber 34 = .ok (.if_icmp .le 11, 3) := by decide +kernel
theorem dX7_takeNumber_37 : decode cX7_takeNumber 37 = .ok (.aload_n 0, 1) := by decide +kernel
theorem dX7_takeNumber_38 : decode cX7_takeNumber 38 = .ok (.iconst 2, 1) := by decide +kernel
theorem dX7_takeNumber_39 : decode cX7_takeNumber 39 = .ok (.invokevirtual 35, 3) := by decide +kernel
theorem dX7_takeNumber_42 : decode cX7_takeNumber 42 = .ok (.pop, 1) := by decide +kernel
theorem dX7_takeNumber_43 : decode cX7_takeNumber 43 = .ok (.iconst (-1), 1) := by decide +kernel
theorem dX7_takeNumber_44 : decode cX7_takeNumber 44 = .ok (.ireturn, 1) := by decide +kernel
theorem dX7_takeNumber_45 : decode cX7_takeNumber 45 = .ok (.aload_n 0, 1) := by decide +kernel
theorem dX7_takeNumber_46 : decode cX7_takeNumber 46 = .ok (.getfield 12, 3) := by decide +kernel
theorem dX7_takeNumber_49 : decode cX7_takeNumber 49 = .ok (.invokevirtual 39, 3) := by decide +kernel
theorem dX7_takeNumber_52 : decode cX7_takeNumber 52 = .ok (.iload_n 3, 1) := by decide +kernel
theorem dX7_takeNumber_53 : decode cX7_takeNumber 53 = .ok (.ireturn, 1) := by decide +kernel
theorem dX7_takeSeller_0 : decode cX7_takeSeller 0 = .ok (.aload_n 0, 1) := by decide +kernel
theorem dX7_takeSeller_1 : decode cX7_takeSeller 1 = .ok (.getfield 12, 3) := by decide +kernel
theorem dX7_takeSeller_4 : decode cX7_takeSeller 4 = .ok (.getfield 42, 3) := by decide +kernel
theorem dX7_takeSeller_7 : decode cX7_takeSeller 7 = .ok (.iconst 1, 1) := by decide +kernel
theorem dX7_takeSeller_8 : decode cX7_takeSeller 8 = .ok (.if_icmp .eq 11, 3) := by decide +kernel
theorem dX7_takeSeller_11 : decode cX7_takeSeller 11 = .ok (.aload_n 0, 1) := by decide +kernel
theorem dX7_takeSeller_12 : decode cX7_takeSeller 12 = .ok (.iconst 1, 1) := by decide +kernel
theorem dX7_takeSeller_13 : decode cX7_takeSeller 13 = .ok (.invokevirtual 35, 3) := by decide +kernel
theorem dX7_takeSeller_16 : decode cX7_takeSeller 16 = .ok (.pop, 1) := by decide +kernel
theorem dX7_takeSeller_17 : decode cX7_takeSeller 17 = .ok (.iconst (-1), 1) := by decide +kernel
theorem dX7_takeSeller_18 : decode cX7_takeSeller 18 = .ok (.ireturn, 1) := by decide +kernel
theorem dX7_takeSeller_19 : decode cX7_takeSeller 19 = .ok (.aload_n 1, 1) := by decide +kernel
theorem dX7_takeSeller_20 : decode cX7_takeSeller 20 = .ok (.aload_n 0, 1) := by decide +kernel
theorem dX7_takeSeller_21 : decode cX7_takeSeller 21 = .ok (.getfield 12, 3) := by decide +kernel
theorem dX7_takeSeller_24 : decode cX7_takeSeller 24 = .ok (.getfield 48, 3) := by decide +kernel
theorem dX7_takeSeller_27 : decode cX7_takeSeller 27 = .ok (.invokevirtual 52, 3) := by decide +kernel
theorem dX7_takeSeller_30 : decode cX7_takeSeller 30 = .ok (.istore_n 2, 1) := by decide +kernel
theorem dX7_takeSeller_31 : decode cX7_takeSeller 31 = .ok (.iload_n 2, 1) := by decide +kernel
theorem dX7_takeSeller_32 : decode cX7_takeSeller 32 = .ok (.iconst (-1), 1) := by decide +kernel
theorem dX7_takeSeller_33 : decode cX7_takeSeller 33 = .ok (.if_icmp .ne 11, 3) := by decide +kernel
theorem dX7_takeSeller_36 : decode cX7_takeSeller 36 = .ok (.aload_n 0, 1) := by decide +kernel
theorem dX7_takeSeller_37 : decode cX7_takeSeller 37 = .ok (.iconst 3, 1) := by decide +kernel
theorem dX7_takeSeller_38 : decode cX7_takeSeller 38 = .ok (.invokevirtual 35, 3) := by decide +kernel
theorem dX7_takeSeller_41 : decode cX7_takeSeller 41 = .ok (.pop, 1) := by decide +kernel
theorem dX7_takeSeller_42 : decode cX7_takeSeller 42 = .ok (.iconst (-1), 1) := by decide +kernel
theorem dX7_takeSeller_43 : decode cX7_takeSeller 43 = .ok (.ireturn, 1) := by decide +kernel
theorem dX7_takeSeller_44 : decode cX7_takeSeller 44 = .ok (.aload_n 0, 1) := by decide +kernel
theorem dX7_takeSeller_45 : decode cX7_takeSeller 45 = .ok (.getfield 12, 3) := by decide +kernel
theorem dX7_takeSeller_48 : decode cX7_takeSeller 48 = .ok (.invokevirtual 39, 3) := by decide +kernel
theorem dX7_takeSeller_51 : decode cX7_takeSeller 51 = .ok (.iload_n 2, 1) := by decide +kernel
theorem dX7_takeSeller_52 : decode cX7_takeSeller 52 = .ok (.ireturn, 1) := by decide +kernel
theorem dX7_seeStall_0 : decode cX7_seeStall 0 = .ok (.aload_n 0, 1) := by decide +kernel
theorem dX7_seeStall_1 : decode cX7_seeStall 1 = .ok (.getfield 12, 3) := by decide +kernel
theorem dX7_seeStall_4 : decode cX7_seeStall 4 = .ok (.getfield 42, 3) := by decide +kernel
theorem dX7_seeStall_7 : decode cX7_seeStall 7 = .ok (.iconst 1, 1) := by decide +kernel
theorem dX7_seeStall_8 : decode cX7_seeStall 8 = .ok (.if_icmp .ne 15, 3) := by decide +kernel
theorem dX7_seeStall_11 : decode cX7_seeStall 11 = .ok (.aload_n 0, 1) := by decide +kernel
theorem dX7_seeStall_12 : decode cX7_seeStall 12 = .ok (.getfield 12, 3) := by decide +kernel
theorem dX7_seeStall_15 : decode cX7_seeStall 15 = .ok (.ldc 58, 2) := by decide +kernel
theorem dX7_seeStall_17 : decode cX7_seeStall 17 = .ok (.invokevirtual 31, 3) := by decide +kernel
theorem dX7_seeStall_20 : decode cX7_seeStall 20 = .ok (.ifCond .eq 11, 3) := by decide +kernel
theorem dX7_seeStall_23 : decode cX7_seeStall 23 = .ok (.aload_n 0, 1) := by decide +kernel
theorem dX7_seeStall_24 : decode cX7_seeStall 24 = .ok (.iconst 1, 1) := by decide +kernel
theorem dX7_seeStall_25 : decode cX7_seeStall 25 = .ok (.invokevirtual 35, 3) := by decide +kernel
theorem dX7_seeStall_28 : decode cX7_seeStall 28 = .ok (.pop, 1) := by decide +kernel
theorem dX7_seeStall_29 : decode cX7_seeStall 29 = .ok (.iconst (-1), 1) := by decide +kernel
theorem dX7_seeStall_30 : decode cX7_seeStall 30 = .ok (.ireturn, 1) := by decide +kernel
theorem dX7_seeStall_31 : decode cX7_seeStall 31 = .ok (.aload_n 1, 1) := by decide +kernel
theorem dX7_seeStall_32 : decode cX7_seeStall 32 = .ok (.aload_n 0, 1) := by decide +kernel
theorem dX7_seeStall_33 : decode cX7_seeStall 33 = .ok (.getfield 12, 3) := by decide +kernel
theorem dX7_seeStall_36 : decode cX7_seeStall 36 = .ok (.getfield 48, 3) := by decide +kernel
theorem dX7_seeStall_39 : decode cX7_seeStall 39 = .ok (.invokevirtual 60, 3) := by decide +kernel
theorem dX7_seeStall_42 : decode cX7_seeStall 42 = .ok (.istore_n 2, 1) := by decide +kernel
theorem dX7_seeStall_43 : decode cX7_seeStall 43 = .ok (.iload_n 2, 1) := by decide +kernel
theorem dX7_seeStall_44 : decode cX7_seeStall 44 = .ok (.iconst (-1), 1) := by decide +kernel
theorem dX7_seeStall_45 : decode cX7_seeStall 45 = .ok (.if_icmp .ne 9, 3) := by decide +kernel
theorem dX7_seeStall_48 : decode cX7_seeStall 48 = .ok (.aload_n 0, 1) := by decide +kernel
theorem dX7_seeStall_49 : decode cX7_seeStall 49 = .ok (.iconst 3, 1) := by decide +kernel
theorem dX7_seeStall_50 : decode cX7_seeStall 50 = .ok (.invokevirtual 35, 3) := by decide +kernel
theorem dX7_seeStall_53 : decode cX7_seeStall 53 = .ok (.pop, 1) := by decide +kernel
theorem dX7_seeStall_54 : decode cX7_seeStall 54 = .ok (.iload_n 2, 1) := by decide +kernel
theorem dX7_seeStall_55 : decode cX7_seeStall 55 = .ok (.ireturn, 1) := by decide +kernel
theorem dX7_takeStall_0 : decode cX7_takeStall 0 = .ok (.aload_n 0, 1) := by decide +kernel
theorem dX7_takeStall_1 : decode cX7_takeStall 1 = .ok (.aload_n 1, 1) := by decide +kernel
theorem dX7_takeStall_2 : decode cX7_takeStall 2 = .ok (.invokevirtual 63, 3) := by decide +kernel
theorem dX7_takeStall_5 : decode cX7_takeStall 5 = .ok (.istore_n 2, 1) := by decide +kernel
theorem dX7_takeStall_6 : decode cX7_takeStall 6 = .ok (.iload_n 2, 1) := by decide +kernel
theorem dX7_takeStall_7 : decode cX7_takeStall 7 = .ok (.iconst (-1), 1) := by decide +kernel
theorem dX7_takeStall_8 : decode cX7_takeStall 8 = .ok (.if_icmp .eq 10, 3) := by decide +kernel
theorem dX7_takeStall_11 : decode cX7_takeStall 11 = .ok (.aload_n 0, 1) := by decide +kernel
theorem dX7_takeStall_12 : decode cX7_takeStall 12 = .ok (.getfield 12, 3) := by decide +kernel
theorem dX7_takeStall_15 : decode cX7_takeStall 15 = .ok (.invokevirtual 39, 3) := by decide +kernel
theorem dX7_takeStall_18 : decode cX7_takeStall 18 = .ok (.iload_n 2, 1) := by decide +kernel
theorem dX7_takeStall_19 : decode cX7_takeStall 19 = .ok (.ireturn, 1) := by decide +kernel
theorem dX8_init_0 : decode cX8_init 0 = .ok (.aload_n 0, 1) := by decide +kernel
theorem dX8_init_1 : decode cX8_init 1 = .ok (.invokespecial 3, 3) := by decide +kernel
theorem dX8_init_4 : decode cX8_init 4 = .ok (.aload_n 0, 1) := by decide +kernel
theorem dX8_init_5 : decode cX8_init 5 = .ok (.bipush 20, 2) := by decide +kernel
theorem dX8_init_7 : decode cX8_init 7 = .ok (.anewarray 9, 3) := by decide +kernel
theorem dX8_init_10 : decode cX8_init 10 = .ok (.putfield 11, 3) := by decide +kernel
theorem dX8_init_13 : decode cX8_init 13 = .ok (.aload_n 0, 1) := by decide +kernel
theorem dX8_init_14 : decode cX8_init 14 = .ok (.bipush 20, 2) := by decide +kernel
theorem dX8_init_16 : decode cX8_init 16 = .ok (.newarray .int, 2) := by decide +kernel
theorem dX8_init_18 : decode cX8_init 18 = .ok (.putfield 17, 3) := by decide +kernel
theorem dX8_init_21 : decode cX8_init 21 = .ok (.aload_n 0, 1) := by decide +kernel
theorem dX8_init_22 : decode cX8_init 22 = .ok (.bipush 20, 2) := by decide +kernel
theorem dX8_init_24 : decode cX8_init 24 = .ok (.newarray .int, 2) := by decide +kernel
theorem dX8_init_26 : decode cX8_init 26 = .ok (.putfield 21, 3) := by decide +kernel
theorem dX8_init_29 : decode cX8_init 29 = .ok (.aload_n 0, 1) := by decide +kernel
theorem dX8_init_30 : decode cX8_init 30 = .ok (.iconst 0, 1) := by decide +kernel
theorem dX8_init_31 : decode cX8_init 31 = .ok (.putfield 24, 3) := by decide +kernel
theorem dX8_init_34 : decode cX8_init 34 = .ok (.return_, 1) := by decide +kernel
theorem dX8_read_0 : decode cX8_read 0 = .ok (.aload_n 0, 1) := by decide +kernel
theorem dX8_read_1 : decode cX8_read 1 = .ok (.iconst 0, 1) := by decide +kernel
theorem dX8_read_2 : decode cX8_read 2 = .ok (.putfield 24, 3) := by decide +kernel
theorem dX8_read_5 : decode cX8_read 5 = .ok (.aload_n 1, 1) := by decide +kernel
theorem dX8_read_6 : decode cX8_read 6 = .ok (.invokevirtual 28, 3) := by decide +kernel
theorem dX8_read_9 : decode cX8_read 9 = .ok (.aload_n 0, 1) := by decide +kernel
theorem dX8_read_10 : decode cX8_read 10 = .ok (.getfield 24, 3) := by decide +kernel
theorem dX8_read_13 : decode cX8_read 13 = .ok (.bipush 20, 2) := by decide +kernel
theorem dX8_read_15 : decode cX8_read 15 = .ok (.if_icmp .ge 37, 3) := by decide +kernel
theorem dX8_read_18 : decode cX8_read 18 = .ok (.aload_n 1, 1) := by decide +kernel
theorem dX8_read_19 : decode cX8_read 19 = .ok (.getfield 33, 3) := by decide +kernel
theorem dX8_read_22 : decode cX8_read 22 = .ok (.getfield 37, 3) := by decide +kernel
theorem dX8_read_25 : decode cX8_read 25 = .ok (.ifCond .eq 27, 3) := by decide +kernel
theorem dX8_read_28 : decode cX8_read 28 = .ok (.aload_n 0, 1) := by decide +kernel
theorem dX8_read_29 : decode cX8_read 29 = .ok (.aload_n 1, 1) := by decide +kernel
theorem dX8_read_30 : decode cX8_read 30 = .ok (.aload_n 2, 1) := by decide +kernel
theorem dX8_read_31 : decode cX8_read 31 = .ok (.invokevirtual 42, 3) := by decide +kernel
theorem dX8_read_34 : decode cX8_read 34 = .ok (.ifCond .ne 5, 3) := by decide +kernel
theorem dX8_read_37 : decode cX8_read 37 = .ok (.iconst 0, 1) := by decide +kernel
theorem dX8_read_38 : decode cX8_read 38 = .ok (.ireturn, 1) := by decide +kernel
theorem dX8_read_39 : decode cX8_read 39 = .ok (.aload_n 0, 1) := by decide +kernel
theorem dX8_read_40 : decode cX8_read 40 = .ok (.dup, 1) := by decide +kernel
theorem dX8_read_41 : decode cX8_read 41 = .ok (.getfield 24, 3) := by decide +kernel
theorem dX8_read_44 : decode cX8_read 44 = .ok (.iconst 1, 1) := by decide +kernel
theorem dX8_read_45 : decode cX8_read 45 = .ok (.iadd, 1) := by decide +kernel
theorem dX8_read_46 : decode cX8_read 46 = .ok (.putfield 24, 3) := by decide +kernel
theorem dX8_read_49 : decode cX8_read 49 = .ok (.goto (-40), 3) := by decide +kernel
theorem dX8_read_52 : decode cX8_read 52 = .ok (.aload_n 1, 1) := by decide +kernel
theorem dX8_read_53 : decode cX8_read 53 = .ok (.getfield 33, 3) := by decide +kernel
theorem dX8_read_56 : decode cX8_read 56 = .ok (.getfield 37, 3) := by decide +kernel
theorem dX8_read_59 : decode cX8_read 59 = .ok (.ifCond .ne 5, 3) := by decide +kernel
theorem dX8_read_62 : decode cX8_read 62 = .ok (.iconst 1, 1) := by decide +kernel
theorem dX8_read_63 : decode cX8_read 63 = .ok (.ireturn, 1) := by decide +kernel
theorem dX8_read_64 : decode cX8_read 64 = .ok (.aload_n 1, 1) := by decide +kernel
theorem dX8_read_65 : decode cX8_read 65 = .ok (.aload_n 1, 1) := by decide +kernel
theorem dX8_read_66 : decode cX8_read 66 = .ok (.getfield 33, 3) := by decide +kernel
theorem dX8_read_69 : decode cX8_read 69 = .ok (.invokestatic 46, 3) := by decide +kernel
theorem dX8_read_72 : decode cX8_read 72 = .ok (.ifnonnull 7, 3) := by decide +kernel
theorem dX8_read_75 : decode cX8_read 75 = .ok (.iconst 1, 1) := by decide +kernel
theorem dX8_read_76 : decode cX8_read 76 = .ok (.goto 4, 3) := by decide +kernel
theorem dX8_read_79 : decode cX8_read 79 = .ok (.iconst 5, 1) := by decide +kernel
theorem dX8_read_80 : decode cX8_read 80 = .ok (.invokevirtual 50, 3) := by decide +kernel
theorem dX8_read_83 : decode cX8_read 83 = .ok (.ireturn, 1) := by decide +kernel
theorem dX8_readCommand_0 : decode cX8_readCommand 0 = .ok (.aload_n 1, 1) := by decide +kernel
theorem dX8_readCommand_1 : decode cX8_readCommand 1 = .ok (.getfield 33, 3) := by decide +kernel
theorem dX8_readCommand_4 : decode cX8_readCommand 4 = .ok (.invokestatic 46, 3) := by decide +kernel
theorem dX8_readCommand_7 : decode cX8_readCommand 7 = .ok (.astore_n 3, 1) := by decide +kernel
theorem dX8_readCommand_8 : decode cX8_readCommand 8 = .ok (.aload_n 3, 1) := by decide +kernel
theorem dX8_readCommand_9 : decode cX8_readCommand 9 = .ok (.ifnull 12, 3) := by decide +kernel
theorem dX8_readCommand_12 : decode cX8_readCommand 12 = .ok (.aload_n 0, 1) := by decide +kernel
theorem dX8_readCommand_13 : decode cX8_readCommand 13 = .ok (.getfield 24, 3) := by decide +kernel
theorem dX8_readCommand_16 : decode cX8_readCommand 16 = .ok (.bipush 20, 2) := by decide +kernel
theorem dX8_readCommand_18 : decode cX8_readCommand 18 = .ok (.if_icmp .lt 9, 3) := by decide +kernel
theorem dX8_readCommand_21 : decode cX8_readCommand 21 = .ok (.aload_n 1, 1) := by decide +kernel
theorem dX8_readCommand_22 : decode cX8_readCommand 22 = .ok (.iconst 1, 1) := by decide +kernel
theorem dX8_readCommand_23 : decode cX8_readCommand 23 = .ok (.invokevirtual 50, 3) := by decide +kernel
theorem dX8_readCommand_26 : decode cX8_readCommand 26 = .ok (.ireturn, 1) := by decide +kernel
theorem dX8_readCommand_27 : decode cX8_readCommand 27 = .ok (.aload_n 1, 1) := by decide +kernel
theorem dX8_readCommand_28 : decode cX8_readCommand 28 = .ok (.getfield 33, 3) := by decide +kernel
theorem dX8_readCommand_31 : decode cX8_readCommand 31 = .ok (.invokevirtual 54, 3) := by decide +kernel
theorem dX8_readCommand_34 : decode cX8_readCommand 34 = .ok (.aload_n 1, 1) := by decide +kernel
theorem dX8_readCommand_35 : decode cX8_readCommand 35 = .ok (.aload_n 2, 1) := by decide +kernel
theorem dX8_readCommand_36 : decode cX8_readCommand 36 = .ok (.aload_n 3, 1) := by decide +kernel
theorem dX8_readCommand_37 : decode cX8_readCommand 37 = .ok (.getfield 57, 3) := by decide +kernel
theorem dX8_readCommand_40 : decode cX8_readCommand 40 = .ok (.invokestatic 60, 3) := by decide +kernel
theorem dX8_readCommand_43 : decode cX8_readCommand 43 = .ok (.istore 4, 2) := by decide +kernel
theorem dX8_readCommand_45 : decode cX8_readCommand 45 = .ok (.iload 4, 2) := by decide +kernel
theorem dX8_readCommand_47 : decode cX8_readCommand 47 = .ok (.iconst (-1), 1) := by decide +kernel
theorem dX8_readCommand_48 : decode cX8_readCommand 48 = .ok (.if_icmp .ne 5, 3) := by decide +kernel
theorem dX8_readCommand_51 : decode cX8_readCommand 51 = .ok (.iconst 0, 1) := by decide +kernel
theorem dX8_readCommand_52 : decode cX8_readCommand 52 = .ok (.ireturn, 1) := by decide +kernel
theorem dX8_readCommand_53 : decode cX8_readCommand 53 = .ok (.aload_n 1, 1) := by decide +kernel
theorem dX8_readCommand_54 : decode cX8_readCommand 54 = .ok (.aload_n 2, 1) := by decide +kernel
theorem dX8_readCommand_55 : decode cX8_readCommand 55 = .ok (.aload_n 3, 1) := by decide +kernel
theorem dX8_readCommand_56 : decode cX8_readCommand 56 = .ok (.getfield 64, 3) := by decide +kernel
theorem dX8_readCommand_59 : decode cX8_readCommand 59 = .ok (.invokestatic 60, 3) := by decide +kernel
theorem dX8_readCommand_62 : decode cX8_readCommand 62 = .ok (.istore 5, 2) := by decide +kernel
theorem dX8_readCommand_64 : decode cX8_readCommand 64 = .ok (.iload 5, 2) := by decide +kernel
theorem dX8_readCommand_66 : decode cX8_readCommand 66 = .ok (.iconst (-1), 1) := by decide +kernel
theorem dX8_readCommand_67 : decode cX8_readCommand 67 = .ok (.if_icmp .ne 5, 3) := by decide +kernel
theorem dX8_readCommand_70 : decode cX8_readCommand 70 = .ok (.iconst 0, 1) := by decide +kernel
theorem dX8_readCommand_71 : decode cX8_readCommand 71 = .ok (.ireturn, 1) := by decide +kernel
theorem dX8_readCommand_72 : decode cX8_readCommand 72 = .ok (.aload_n 0, 1) := by decide +kernel
theorem dX8_readCommand_73 : decode cX8_readCommand 73 = .ok (.getfield 11, 3) := by decide +kernel
theorem dX8_readCommand_76 : decode cX8_readCommand 76 = .ok (.aload_n 0, 1) := by decide +kernel
theorem dX8_readCommand_77 : decode cX8_readCommand 77 = .ok (.getfield 24, 3) := by decide +kernel
theorem dX8_readCommand_80 : decode cX8_readCommand 80 = .ok (.aload_n 3, 1) := by decide +kernel
theorem dX8_readCommand_81 : decode cX8_readCommand 81 = .ok (.aastore, 1) := by decide +kernel
theorem dX8_readCommand_82 : decode cX8_readCommand 82 = .ok (.aload_n 0, 1) := by decide +kernel
theorem dX8_readCommand_83 : decode cX8_readCommand 83 = .ok (.getfield 17, 3) := by decide +kernel
theorem dX8_readCommand_86 : decode cX8_readCommand 86 = .ok (.aload_n 0, 1) := by decide +kernel
theorem dX8_readCommand_87 : decode cX8_readCommand 87 = .ok (.getfield 24, 3) := by decide +kernel
theorem dX8_readCommand_90 : decode cX8_readCommand 90 = .ok (.iload 4, 2) := by decide +kernel
theorem dX8_readCommand_92 : decode cX8_readCommand 92 = .ok (.iastore, 1) := by decide +kernel
theorem dX8_readCommand_93 : decode cX8_readCommand 93 = .ok (.aload_n 0, 1) := by decide +kernel
theorem dX8_readCommand_94 : decode cX8_readCommand 94 = .ok (.getfield 21, 3) := by decide +kernel
theorem dX8_readCommand_97 : decode cX8_readCommand 97 = .ok (.aload_n 0, 1) := by decide +kernel
theorem dX8_readCommand_98 : decode cX8_readCommand 98 = .ok (.getfield 24, 3) := by decide +kernel
theorem dX8_readCommand_101 : decode cX8_readCommand 101 = .ok (.iload 5, 2) := by decide +kernel
theorem dX8_readCommand_103 : decode cX8_readCommand 103 = .ok (.iastore, 1) := by decide +kernel
theorem dX8_readCommand_104 : decode cX8_readCommand 104 = .ok (.aload_n 1, 1) := by decide +kernel
theorem dX8_readCommand_105 : decode cX8_readCommand 105 = .ok (.invokevirtual 67, 3) := by decide +kernel
theorem dX8_readCommand_108 : decode cX8_readCommand 108 = .ok (.ireturn, 1) := by decide +kernel
theorem dX8_verbAt_0 : decode cX8_verbAt 0 = .ok (.iconst 0, 1) := by decide +kernel
theorem dX8_verbAt_1 : decode cX8_verbAt 1 = .ok (.istore_n 1, 1) := by decide +kernel
theorem dX8_verbAt_2 : decode cX8_verbAt 2 = .ok (.iload_n 1, 1) := by decide +kernel
theorem dX8_verbAt_3 : decode cX8_verbAt 3 = .ok (.getstatic 71, 3) := by decide +kernel
theorem dX8_verbAt_6 : decode cX8_verbAt 6 = .ok (.arraylength, 1) := by decide +kernel
theorem dX8_verbAt_7 : decode cX8_verbAt 7 = .ok (.if_icmp .ge 32, 3) := by decide +kernel
theorem dX8_verbAt_10 : decode cX8_verbAt 10 = .ok (.getstatic 71, 3) := by decide +kernel
theorem dX8_verbAt_13 : decode cX8_verbAt 13 = .ok (.iload_n 1, 1) := by decide +kernel
theorem dX8_verbAt_14 : decode cX8_verbAt 14 = .ok (.aaload, 1) := by decide +kernel
theorem dX8_verbAt_15 : decode cX8_verbAt 15 = .ok (.astore_n 2, 1) := by decide +kernel
theorem dX8_verbAt_16 : decode cX8_verbAt 16 = .ok (.aload_n 2, 1) := by decide +kernel
theorem dX8_verbAt_17 : decode cX8_verbAt 17 = .ok (.ifnull 16, 3) := by decide +kernel
theorem dX8_verbAt_20 : decode cX8_verbAt 20 = .ok (.aload_n 0, 1) := by decide +kernel
theorem dX8_verbAt_21 : decode cX8_verbAt 21 = .ok (.aload_n 2, 1) := by decide +kernel
theorem dX8_verbAt_22 : decode cX8_verbAt 22 = .ok (.getfield 74, 3) := by decide +kernel
theorem dX8_verbAt_25 : decode cX8_verbAt 25 = .ok (.invokevirtual 78, 3) := by decide +kernel
theorem dX8_verbAt_28 : decode cX8_verbAt 28 = .ok (.ifCond .eq 5, 3) := by decide +kernel
theorem dX8_verbAt_31 : decode cX8_verbAt 31 = .ok (.aload_n 2, 1) := by decide +kernel
theorem dX8_verbAt_32 : decode cX8_verbAt 32 = .ok (.areturn, 1) := by decide +kernel
theorem dX8_verbAt_33 : decode cX8_verbAt 33 = .ok (.iinc 1 1, 3) := by decide +kernel
theorem dX8_verbAt_36 : decode cX8_verbAt 36 = .ok (.goto (-34), 3) := by decide +kernel
theorem dX8_verbAt_39 : decode cX8_verbAt 39 = .ok (.aconst_null, 1) := by decide +kernel
theorem dX8_verbAt_40 : decode cX8_verbAt 40 = .ok (.areturn, 1) := by decide +kernel
theorem dX8_takeOperand_0 : decode cX8_takeOperand 0 = .ok (.iload_n 2, 1) := by decide +kernel
theorem dX8_takeOperand_1 : decode cX8_takeOperand 1 = .ok (.tableswitch 72 1 5 #[35, 41, 47, 55, 64], 35) := by decide +kernel
theorem dX8_takeOperand_36 : decode cX8_takeOperand 36 = .ok (.aload_n 0, 1) := by decide +kernel
theorem dX8_takeOperand_37 : decode cX8_takeOperand 37 = .ok (.aload_n 1, 1) := by decide +kernel
theorem dX8_takeOperand_38 : decode cX8_takeOperand 38 = .ok (.invokevirtual 82, 3) := by decide +kernel
theorem dX8_takeOperand_41 : decode cX8_takeOperand 41 = .ok (.ireturn, 1) := by decide +kernel
theorem dX8_takeOperand_42 : decode cX8_takeOperand 42 = .ok (.aload_n 0, 1) := by decide +kernel
theorem dX8_takeOperand_43 : decode cX8_takeOperand 43 = .ok (.aload_n 1, 1) := by decide +kernel
theorem dX8_takeOperand_44 : decode cX8_takeOperand 44 = .ok (.invokevirtual 86, 3) := by decide +kernel
theorem dX8_takeOperand_47 : decode cX8_takeOperand 47 = .ok (.ireturn, 1) := by decide +kernel
theorem dX8_takeOperand_48 : decode cX8_takeOperand 48 = .ok (.aload_n 0, 1) := by decide +kernel
theorem dX8_takeOperand_49 : decode cX8_takeOperand 49 = .ok (.iconst 0, 1) := by decide +kernel
theorem dX8_takeOperand_50 : decode cX8_takeOperand 50 = .ok (.bipush 99, 2) := by decide +kernel
theorem dX8_takeOperand_52 : decode cX8_takeOperand 52 = .ok (.invokevirtual 89, 3) := by decide +kernel
theorem dX8_takeOperand_55 : decode cX8_takeOperand 55 = .ok (.ireturn, 1) := by decide +kernel
theorem dX8_takeOperand_56 : decode cX8_takeOperand 56 = .ok (.aload_n 0, 1) := by decide +kernel
theorem dX8_takeOperand_57 : decode cX8_takeOperand 57 = .ok (.iconst 1, 1) := by decide +kernel
theorem dX8_takeOperand_58 : decode cX8_takeOperand 58 = .ok (.sipush 999, 3) := by decide +kernel
theorem dX8_takeOperand_61 : decode cX8_takeOperand 61 = .ok (.invokevirtual 89, 3) := by decide +kernel
theorem dX8_takeOperand_64 : decode cX8_takeOperand 64 = .ok (.ireturn, 1) := by decide +kernel
theorem dX8_takeOperand_65 : decode cX8_takeOperand 65 = .ok (.aload_n 0, 1) := by decide +kernel
theorem dX8_takeOperand_66 : decode cX8_takeOperand 66 = .ok (.iconst 1, 1) := by decide +kernel
theorem dX8_takeOperand_67 : decode cX8_takeOperand 67 = .ok (.bipush 99, 2) := by decide +kernel
theorem dX8_takeOperand_69 : decode cX8_takeOperand 69 = .ok (.invokevirtual 89, 3) := by decide +kernel
theorem dX8_takeOperand_72 : decode cX8_takeOperand 72 = .ok (.ireturn, 1) := by decide +kernel
theorem dX8_takeOperand_73 : decode cX8_takeOperand 73 = .ok (.iconst 0, 1) := by decide +kernel
theorem dX8_takeOperand_74 : decode cX8_takeOperand 74 = .ok (.ireturn, 1) := by decide +kernel
theorem dX8_execute_0 : decode cX8_execute 0 = .ok (.iconst 0, 1) := by decide +kernel
theorem dX8_execute_1 : decode cX8_execute 1 = .ok (.istore_n 3, 1) := by decide +kernel
theorem dX8_execute_2 : decode cX8_execute 2 = .ok (.iload_n 3, 1) := by decide +kernel
theorem dX8_execute_3 : decode cX8_execute 3 = .ok (.aload_n 0, 1) := by decide +kernel
theorem dX8_execute_4 : decode cX8_execute 4 = .ok (.getfield 24, 3) := by decide +kernel
theorem dX8_execute_7 : decode cX8_execute 7 = .ok (.if_icmp .ge 70, 3) := by decide +kernel
theorem dX8_execute_10 : decode cX8_execute 10 = .ok (.iload_n 3, 1) := by decide +kernel
theorem dX8_execute_11 : decode cX8_execute 11 = .ok (.bipush 20, 2) := by decide +kernel
theorem dX8_execute_13 : decode cX8_execute 13 = .ok (.if_icmp .ge 64, 3) := by decide +kernel
theorem dX8_execute_16 : decode cX8_execute 16 = .ok (.aload_n 0, 1) := by decide +kernel
theorem dX8_execute_17 : decode cX8_execute 17 = .ok (.getfield 11, 3) := by decide +kernel
theorem dX8_execute_20 : decode cX8_execute 20 = .ok (.iload_n 3, 1) := by decide +kernel
theorem dX8_execute_21 : decode cX8_execute 21 = .ok (.aaload, 1) := by decide +kernel
theorem dX8_execute_22 : decode cX8_execute 22 = .ok (.astore 4, 2) := by decide +kernel
theorem dX8_execute_24 : decode cX8_execute 24 = .ok (.aload 4, 2) := by decide +kernel
theorem dX8_execute_26 : decode cX8_execute 26 = .ok (.ifnull 24, 3) := by decide +kernel
theorem dX8_execute_29 : decode cX8_execute 29 = .ok (.aload_n 1, 1) := by decide +kernel
theorem dX8_execute_30 : decode cX8_execute 30 = .ok (.aload 4, 2) := by decide +kernel
theorem dX8_execute_32 : decode cX8_execute 32 = .ok (.aload_n 0, 1) := by decide +kernel
theorem dX8_execute_33 : decode cX8_execute 33 = .ok (.getfield 17, 3) := by decide +kernel
theorem dX8_execute_36 : decode cX8_execute 36 = .ok (.iload_n 3, 1) := by decide +kernel
theorem dX8_execute_37 : decode cX8_execute 37 = .ok (.iaload, 1) := by decide +kernel
theorem dX8_execute_38 : decode cX8_execute 38 = .ok (.aload_n 0, 1) := by decide +kernel
theorem dX8_execute_39 : decode cX8_execute 39 = .ok (.getfield 21, 3) := by decide +kernel
theorem dX8_execute_42 : decode cX8_execute 42 = .ok (.iload_n 3, 1) := by decide +kernel
theorem dX8_execute_43 : decode cX8_execute 43 = .ok (.iaload, 1) := by decide +kernel
theorem dX8_execute_44 : decode cX8_execute 44 = .ok (.invokestatic 93, 3) := by decide +kernel
theorem dX8_execute_47 : decode cX8_execute 47 = .ok (.ifCond .ne 5, 3) := by decide +kernel
theorem dX8_execute_50 : decode cX8_execute 50 = .ok (.iload_n 3, 1) := by decide +kernel
theorem dX8_execute_51 : decode cX8_execute 51 = .ok (.ireturn, 1) := by decide +kernel
theorem dX8_execute_52 : decode cX8_execute 52 = .ok (.aload_n 1, 1) := by decide +kernel
theorem dX8_execute_53 : decode cX8_execute 53 = .ok (.aload_n 2, 1) := by decide +kernel
theorem dX8_execute_54 : decode cX8_execute 54 = .ok (.aload 4, 2) := by decide +kernel
theorem dX8_execute_56 : decode cX8_execute 56 = .ok (.aload_n 0, 1) := by decide +kernel
theorem dX8_execute_57 : decode cX8_execute 57 = .ok (.getfield 17, 3) := by decide +kernel
theorem dX8_execute_60 : decode cX8_execute 60 = .ok (.iload_n 3, 1) := by decide +kernel
theorem dX8_execute_61 : decode cX8_execute 61 = .ok (.iaload, 1) := by decide +kernel
theorem dX8_execute_62 : decode cX8_execute 62 = .ok (.aload_n 0, 1) := by decide +kernel
theorem dX8_execute_63 : decode cX8_execute 63 = .ok (.getfield 21, 3) := by decide +kernel
theorem dX8_execute_66 : decode cX8_execute 66 = .ok (.iload_n 3, 1) := by decide +kernel
theorem dX8_execute_67 : decode cX8_execute 67 = .ok (.iaload, 1) := by decide +kernel
theorem dX8_execute_68 : decode cX8_execute 68 = .ok (.invokestatic 97, 3) := by decide +kernel
theorem dX8_execute_71 : decode cX8_execute 71 = .ok (.iinc 3 1, 3) := by decide +kernel
theorem dX8_execute_74 : decode cX8_execute 74 = .ok (.goto (-72), 3) := by decide +kernel
theorem dX8_execute_77 : decode cX8_execute 77 = .ok (.aload_n 0, 1) := by decide +kernel
theorem dX8_execute_78 : decode cX8_execute 78 = .ok (.getfield 24, 3) := by decide +kernel
theorem dX8_execute_81 : decode cX8_execute 81 = .ok (.ireturn, 1) := by decide +kernel
theorem dX8_isPossible_0 : decode cX8_isPossible 0 = .ok (.getstatic 101, 3) := by decide +kernel
theorem dX8_isPossible_3 : decode cX8_isPossible 3 = .ok (.aload_n 1, 1) := by decide +kernel
theorem dX8_isPossible_4 : decode cX8_isPossible 4 = .ok (.invokevirtual 106, 3) := by decide +kernel
theorem dX8_isPossible_7 : decode cX8_isPossible 7 = .ok (.iaload, 1) := by decide +kernel
theorem dX8_isPossible_8 : decode cX8_isPossible 8 = .ok (.tableswitch 87 1 5 #[36, 43, 58, 65, 81], 36) := by decide +kernel
theorem dX8_isPossible_44 : decode cX8_isPossible 44 = .ok (.aload_n 0, 1) := by decide +kernel
theorem dX8_isPossible_45 : decode cX8_isPossible 45 = .ok (.iload_n 2, 1) := by decide +kernel
theorem dX8_isPossible_46 : decode cX8_isPossible 46 = .ok (.iload_n 3, 1) := by decide +kernel
theorem dX8_isPossible_47 : decode cX8_isPossible 47 = .ok (.invokevirtual 110, 3) := by decide +kernel
theorem dX8_isPossible_50 : decode cX8_isPossible 50 = .ok (.ireturn, 1) := by decide +kernel
theorem dX8_isPossible_51 : decode cX8_isPossible 51 = .ok (.aload_n 0, 1) := by decide +kernel
theorem dX8_isPossible_52 : decode cX8_isPossible 52 = .ok (.iload_n 2, 1) := by decide +kernel
theorem dX8_isPossible_53 : decode cX8_isPossible 53 = .ok (.invokevirtual 116, 3) := by decide +kernel
theorem dX8_isPossible_56 : decode cX8_isPossible 56 = .ok (.iconst (-1), 1) := by decide +kernel
theorem dX8_isPossible_57 : decode cX8_isPossible 57 = .ok (.if_icmp .eq 7, 3) := by decide +kernel
theorem dX8_isPossible_60 : decode cX8_isPossible 60 = .ok (.iconst 1, 1) := by decide +kernel
theorem dX8_isPossible_61 : decode cX8_isPossible 61 = .ok (.goto 4, 3) := by decide +kernel
theorem dX8_isPossible_64 : decode cX8_isPossible 64 = .ok (.iconst 0, 1) := by decide +kernel
theorem dX8_isPossible_65 : decode cX8_isPossible 65 = .ok (.ireturn, 1) := by decide +kernel
theorem dX8_isPossible_66 : decode cX8_isPossible 66 = .ok (.aload_n 0, 1) := by decide +kernel
theorem dX8_isPossible_67 : decode cX8_isPossible 67 = .ok (.iload_n 2, 1) := by decide +kernel
theorem dX8_isPossible_68 : decode cX8_isPossible 68 = .ok (.iload_n 3, 1) := by decide +kernel
theorem dX8_isPossible_69 : decode cX8_isPossible 69 = .ok (.invokestatic 120, 3) := by decide +kernel
theorem dX8_isPossible_72 : decode cX8_isPossible 72 = .ok (.ireturn, 1) := by decide +kernel
theorem dX8_isPossible_73 : decode cX8_isPossible 73 = .ok (.aload_n 0, 1) := by decide +kernel
theorem dX8_isPossible_74 : decode cX8_isPossible 74 = .ok (.iload_n 2, 1) := by decide +kernel
theorem dX8_isPossible_75 : decode cX8_isPossible 75 = .ok (.iload_n 3, 1) := by decide +kernel
theorem dX8_isPossible_76 : decode cX8_isPossible 76 = .ok (.invokevirtual 126, 3) := by decide +kernel
theorem dX8_isPossible_79 : decode cX8_isPossible 79 = .ok (.iconst (-1), 1) := by decide +kernel
theorem dX8_isPossible_80 : decode cX8_isPossible 80 = .ok (.if_icmp .eq 7, 3) := by decide +kernel
theorem dX8_isPossible_83 : decode cX8_isPossible 83 = .ok (.iconst 1, 1) := by decide +kernel
theorem dX8_isPossible_84 : decode cX8_isPossible 84 = .ok (.goto 4, 3) := by decide +kernel
theorem dX8_isPossible_87 : decode cX8_isPossible 87 = .ok (.iconst 0, 1) := by decide +kernel
theorem dX8_isPossible_88 : decode cX8_isPossible 88 = .ok (.ireturn, 1) := by decide +kernel
theorem dX8_isPossible_89 : decode cX8_isPossible 89 = .ok (.aload_n 0, 1) := by decide +kernel
theorem dX8_isPossible_90 : decode cX8_isPossible 90 = .ok (.iload_n 2, 1) := by decide +kernel
theorem dX8_isPossible_91 : decode cX8_isPossible 91 = .ok (.invokevirtual 129, 3) := by decide +kernel
theorem dX8_isPossible_94 : decode cX8_isPossible 94 = .ok (.ireturn, 1) := by decide +kernel
theorem dX8_isPossible_95 : decode cX8_isPossible 95 = .ok (.iconst 1, 1) := by decide +kernel
theorem dX8_isPossible_96 : decode cX8_isPossible 96 = .ok (.ireturn, 1) := by decide +kernel
theorem dX8_perform_0 : decode cX8_perform 0 = .ok (.getstatic 101, 3) := by decide +kernel
theorem dX8_perform_3 : decode cX8_perform 3 = .ok (.aload_n 2, 1) := by decide +kernel
theorem dX8_perform_4 : decode cX8_perform 4 = .ok (.invokevirtual 106, 3) := by decide +kernel
theorem dX8_perform_7 : decode cX8_perform 7 = .ok (.iaload, 1) := by decide +kernel
theorem dX8_perform_8 : decode cX8_perform 8 = .ok (.tableswitch 135 1 9 #[52, 62, 71, 105, 135, 81, 95, 115, 125], 52) := by decide +kernel
theorem dX8_perform_60 : decode cX8_perform 60 = .ok (.aload_n 0, 1) := by decide +kernel
theorem dX8_perform_61 : decode cX8_perform 61 = .ok (.iload_n 3, 1) := by decide +kernel
theorem dX8_perform_62 : decode cX8_perform 62 = .ok (.iload 4, 2) := by decide +kernel
theorem dX8_perform_64 : decode cX8_perform 64 = .ok (.invokevirtual 132, 3) := by decide +kernel
theorem dX8_perform_67 : decode cX8_perform 67 = .ok (.goto 81, 3) := by decide +kernel
theorem dX8_perform_70 : decode cX8_perform 70 = .ok (.aload_n 0, 1) := by decide +kernel
theorem dX8_perform_71 : decode cX8_perform 71 = .ok (.iload_n 3, 1) := by decide +kernel
theorem dX8_perform_72 : decode cX8_perform 72 = .ok (.iconst (-1), 1) := by decide +kernel
theorem dX8_perform_73 : decode cX8_perform 73 = .ok (.invokevirtual 132, 3) := by decide +kernel
theorem dX8_perform_76 : decode cX8_perform 76 = .ok (.goto 72, 3) := by decide +kernel
theorem dX8_perform_79 : decode cX8_perform 79 = .ok (.aload_n 0, 1) := by decide +kernel
theorem dX8_perform_80 : decode cX8_perform 80 = .ok (.iload_n 3, 1) := by decide +kernel
theorem dX8_perform_81 : decode cX8_perform 81 = .ok (.iload 4, 2) := by decide +kernel
theorem dX8_perform_83 : decode cX8_perform 83 = .ok (.invokevirtual 136, 3) := by decide +kernel
theorem dX8_perform_86 : decode cX8_perform 86 = .ok (.goto 62, 3) := by decide +kernel
theorem dX8_perform_89 : decode cX8_perform 89 = .ok (.aload_n 1, 1) := by decide +kernel
theorem dX8_perform_90 : decode cX8_perform 90 = .ok (.aload_n 0, 1) := by decide +kernel
theorem dX8_perform_91 : decode cX8_perform 91 = .ok (.invokevirtual 139, 3) := by decide +kernel
theorem dX8_perform_94 : decode cX8_perform 94 = .ok (.aload_n 1, 1) := by decide +kernel
theorem dX8_perform_95 : decode cX8_perform 95 = .ok (.aload_n 0, 1) := by decide +kernel
theorem dX8_perform_96 : decode cX8_perform 96 = .ok (.invokevirtual 145, 3) := by decide +kernel
theorem dX8_perform_99 : decode cX8_perform 99 = .ok (.pop, 1) := by decide +kernel
theorem dX8_perform_100 : decode cX8_perform 100 = .ok (.goto 48, 3) := by decide +kernel
theorem dX8_perform_103 : decode cX8_perform 103 = .ok (.aload_n 0, 1) := by decide +kernel
theorem dX8_perform_104 : decode cX8_perform 104 = .ok (.iload_n 3, 1) := by decide +kernel
theorem dX8_perform_105 : decode cX8_perform 105 = .ok (.iload 4, 2) := by decide +kernel
theorem dX8_perform_107 : decode cX8_perform 107 = .ok (.invokevirtual 148, 3) := by decide +kernel
theorem dX8_perform_110 : decode cX8_perform 110 = .ok (.goto 38, 3) := by decide +kernel
theorem dX8_perform_113 : decode cX8_perform 113 = .ok (.aload_n 0, 1) := by decide +kernel
theorem dX8_perform_114 : decode cX8_perform 114 = .ok (.iload_n 3, 1) := by decide +kernel
theorem dX8_perform_115 : decode cX8_perform 115 = .ok (.iload 4, 2) := by decide +kernel
theorem dX8_perform_117 : decode cX8_perform 117 = .ok (.invokevirtual 151, 3) := by decide +kernel
theorem dX8_perform_120 : decode cX8_perform 120 = .ok (.goto 28, 3) := by decide +kernel
theorem dX8_perform_123 : decode cX8_perform 123 = .ok (.aload_n 0, 1) := by decide +kernel
theorem dX8_perform_124 : decode cX8_perform 124 = .ok (.iload_n 3, 1) := by decide +kernel
theorem dX8_perform_125 : decode cX8_perform 125 = .ok (.iload 4, 2) := by decide +kernel
theorem dX8_perform_127 : decode cX8_perform 127 = .ok (.invokevirtual 154, 3) := by decide +kernel
theorem dX8_perform_130 : decode cX8_perform 130 = .ok (.goto 18, 3) := by decide +kernel
theorem dX8_perform_133 : decode cX8_perform 133 = .ok (.aload_n 0, 1) := by decide +kernel
theorem dX8_perform_134 : decode cX8_perform 134 = .ok (.iload_n 3, 1) := by decide +kernel
theorem dX8_perform_135 : decode cX8_perform 135 = .ok (.iload 4, 2) := by decide +kernel
theorem dX8_perform_137 : decode cX8_perform 137 = .ok (.invokevirtual 157, 3) := by decide +kernel
theorem dX8_perform_140 : decode cX8_perform 140 = .ok (.goto 8, 3) := by decide +kernel
theorem dX8_perform_143 : decode cX8_perform 143 = .ok (.aload_n 0, 1) := by decide +kernel
theorem dX8_perform_144 : decode cX8_perform 144 = .ok (.iload_n 3, 1) := by decide +kernel
theorem dX8_perform_145 : decode cX8_perform 145 = .ok (.invokevirtual 160, 3) := by decide +kernel
theorem dX8_perform_148 : decode cX8_perform 148 = .ok (.return_, 1) := by decide +kernel
theorem dX9_read_0 : decode cX9_read 0 = .ok (.aload_n 1, 1) := by decide +kernel
theorem dX9_read_1 : decode cX9_read 1 = .ok (.invokevirtual 9, 3) := by decide +kernel
theorem dX9_read_4 : decode cX9_read 4 = .ok (.aload_n 0, 1) := by decide +kernel
theorem dX9_read_5 : decode cX9_read 5 = .ok (.invokevirtual 14, 3) := by decide +kernel
theorem dX9_read_8 : decode cX9_read 8 = .ok (.aload_n 0, 1) := by decide +kernel
theorem dX9_read_9 : decode cX9_read 9 = .ok (.ldc 19, 2) := by decide +kernel
theorem dX9_read_11 : decode cX9_read 11 = .ok (.invokevirtual 21, 3) := by decide +kernel
theorem dX9_read_14 : decode cX9_read 14 = .ok (.ifCond .eq 30, 3) := by decide +kernel
theorem dX9_read_17 : decode cX9_read 17 = .ok (.aload_n 0, 1) := by decide +kernel
theorem dX9_read_18 : decode cX9_read 18 = .ok (.invokevirtual 25, 3) := by decide +kernel
theorem dX9_read_21 : decode cX9_read 21 = .ok (.ifCond .eq 23, 3) := by decide +kernel
theorem dX9_read_24 : decode cX9_read 24 = .ok (.aload_n 0, 1) := by decide +kernel
theorem dX9_read_25 : decode cX9_read 25 = .ok (.aload_n 1, 1) := by decide +kernel
theorem dX9_read_26 : decode cX9_read 26 = .ok (.invokestatic 29, 3) := by decide +kernel
theorem dX9_read_29 : decode cX9_read 29 = .ok (.ifCond .eq 15, 3) := by decide +kernel
theorem dX9_read_32 : decode cX9_read 32 = .ok (.aload_n 0, 1) := by decide +kernel
theorem dX9_read_33 : decode cX9_read 33 = .ok (.aload_n 1, 1) := by decide +kernel
theorem dX9_read_34 : decode cX9_read 34 = .ok (.invokestatic 35, 3) := by decide +kernel
theorem dX9_read_37 : decode cX9_read 37 = .ok (.ifCond .eq 7, 3) := by decide +kernel
theorem dX9_read_40 : decode cX9_read 40 = .ok (.iconst 1, 1) := by decide +kernel
theorem dX9_read_41 : decode cX9_read 41 = .ok (.goto 4, 3) := by decide +kernel
theorem dX9_read_44 : decode cX9_read 44 = .ok (.iconst 0, 1) := by decide +kernel
theorem dX9_read_45 : decode cX9_read 45 = .ok (.ireturn, 1) := by decide +kernel
theorem dX9_readStalls_0 : decode cX9_readStalls 0 = .ok (.iconst 0, 1) := by decide +kernel
theorem dX9_readStalls_1 : decode cX9_readStalls 1 = .ok (.istore_n 2, 1) := by decide +kernel
theorem dX9_readStalls_2 : decode cX9_readStalls 2 = .ok (.iload_n 2, 1) := by decide +kernel
theorem dX9_readStalls_3 : decode cX9_readStalls 3 = .ok (.bipush 8, 2) := by decide +kernel
theorem dX9_readStalls_5 : decode cX9_readStalls 5 = .ok (.if_icmp .ge 37, 3) := by decide +kernel
theorem dX9_readStalls_8 : decode cX9_readStalls 8 = .ok (.iload_n 2, 1) := by decide +kernel
theorem dX9_readStalls_9 : decode cX9_readStalls 9 = .ok (.ifCond .le 17, 3) := by decide +kernel
theorem dX9_readStalls_12 : decode cX9_readStalls 12 = .ok (.aload_n 0, 1) := by decide +kernel
theorem dX9_readStalls_13 : decode cX9_readStalls 13 = .ok (.getfield 38, 3) := by decide +kernel
theorem dX9_readStalls_16 : decode cX9_readStalls 16 = .ok (.ldc 42, 2) := by decide +kernel
theorem dX9_readStalls_18 : decode cX9_readStalls 18 = .ok (.invokevirtual 44, 3) := by decide +kernel
theorem dX9_readStalls_21 : decode cX9_readStalls 21 = .ok (.ifCond .ne 5, 3) := by decide +kernel
theorem dX9_readStalls_24 : decode cX9_readStalls 24 = .ok (.iconst 1, 1) := by decide +kernel
theorem dX9_readStalls_25 : decode cX9_readStalls 25 = .ok (.ireturn, 1) := by decide +kernel
theorem dX9_readStalls_26 : decode cX9_readStalls 26 = .ok (.aload_n 0, 1) := by decide +kernel
theorem dX9_readStalls_27 : decode cX9_readStalls 27 = .ok (.aload_n 1, 1) := by decide +kernel
theorem dX9_readStalls_28 : decode cX9_readStalls 28 = .ok (.invokestatic 49, 3) := by decide +kernel
theorem dX9_readStalls_31 : decode cX9_readStalls 31 = .ok (.ifCond .ne 5, 3) := by decide +kernel
theorem dX9_readStalls_34 : decode cX9_readStalls 34 = .ok (.iconst 0, 1) := by decide +kernel
theorem dX9_readStalls_35 : decode cX9_readStalls 35 = .ok (.ireturn, 1) := by decide +kernel
theorem dX9_readStalls_36 : decode cX9_readStalls 36 = .ok (.iinc 2 1, 3) := by decide +kernel
theorem dX9_readStalls_39 : decode cX9_readStalls 39 = .ok (.goto (-37), 3) := by decide +kernel
theorem dX9_readStalls_42 : decode cX9_readStalls 42 = .ok (.aload_n 0, 1) := by decide +kernel
theorem dX9_readStalls_43 : decode cX9_readStalls 43 = .ok (.getfield 38, 3) := by decide +kernel
theorem dX9_readStalls_46 : decode cX9_readStalls 46 = .ok (.ldc 42, 2) := by decide +kernel
theorem dX9_readStalls_48 : decode cX9_readStalls 48 = .ok (.invokevirtual 44, 3) := by decide +kernel
theorem dX9_readStalls_51 : decode cX9_readStalls 51 = .ok (.ifCond .eq 11, 3) := by decide +kernel
theorem dX9_readStalls_54 : decode cX9_readStalls 54 = .ok (.aload_n 0, 1) := by decide +kernel
theorem dX9_readStalls_55 : decode cX9_readStalls 55 = .ok (.iconst 5, 1) := by decide +kernel
theorem dX9_readStalls_56 : decode cX9_readStalls 56 = .ok (.invokevirtual 52, 3) := by decide +kernel
theorem dX9_readStalls_59 : decode cX9_readStalls 59 = .ok (.ifCond .eq 7, 3) := by decide +kernel
theorem dX9_readStalls_62 : decode cX9_readStalls 62 = .ok (.iconst 1, 1) := by decide +kernel
theorem dX9_readStalls_63 : decode cX9_readStalls 63 = .ok (.goto 4, 3) := by decide +kernel
theorem dX9_readStalls_66 : decode cX9_readStalls 66 = .ok (.iconst 0, 1) := by decide +kernel
theorem dX9_readStalls_67 : decode cX9_readStalls 67 = .ok (.ireturn, 1) := by decide +kernel
theorem dX9_readStall_0 : decode cX9_readStall 0 = .ok (.aload_n 0, 1) := by decide +kernel
theorem dX9_readStall_1 : decode cX9_readStall 1 = .ok (.ldc 42, 2) := by decide +kernel
theorem dX9_readStall_3 : decode cX9_readStall 3 = .ok (.invokevirtual 21, 3) := by decide +kernel
theorem dX9_readStall_6 : decode cX9_readStall 6 = .ok (.ifCond .ne 5, 3) := by decide +kernel
theorem dX9_readStall_9 : decode cX9_readStall 9 = .ok (.iconst 0, 1) := by decide +kernel
theorem dX9_readStall_10 : decode cX9_readStall 10 = .ok (.ireturn, 1) := by decide +kernel
theorem dX9_readStall_11 : decode cX9_readStall 11 = .ok (.aload_n 0, 1) := by decide +kernel
theorem dX9_readStall_12 : decode cX9_readStall 12 = .ok (.getfield 38, 3) := by decide +kernel
theorem dX9_readStall_15 : decode cX9_readStall 15 = .ok (.getfield 56, 3) := by decide +kernel
theorem dX9_readStall_18 : decode cX9_readStall 18 = .ok (.lstore_n 2, 1) := by decide +kernel
theorem dX9_readStall_19 : decode cX9_readStall 19 = .ok (.aload_n 0, 1) := by decide +kernel
theorem dX9_readStall_20 : decode cX9_readStall 20 = .ok (.getfield 38, 3) := by decide +kernel
theorem dX9_readStall_23 : decode cX9_readStall 23 = .ok (.ldc 60, 2) := by decide +kernel
theorem dX9_readStall_25 : decode cX9_readStall 25 = .ok (.invokevirtual 44, 3) := by decide +kernel
theorem dX9_readStall_28 : decode cX9_readStall 28 = .ok (.ifCond .ne 12, 3) := by decide +kernel
theorem dX9_readStall_31 : decode cX9_readStall 31 = .ok (.aload_n 1, 1) := by decide +kernel
theorem dX9_readStall_32 : decode cX9_readStall 32 = .ok (.lload_n 2, 1) := by decide +kernel
theorem dX9_readStall_33 : decode cX9_readStall 33 = .ok (.invokevirtual 62, 3) := by decide +kernel
theorem dX9_readStall_36 : decode cX9_readStall 36 = .ok (.iconst (-1), 1) := by decide +kernel
theorem dX9_readStall_37 : decode cX9_readStall 37 = .ok (.if_icmp .eq 7, 3) := by decide +kernel
theorem dX9_readStall_40 : decode cX9_readStall 40 = .ok (.iconst 1, 1) := by decide +kernel
theorem dX9_readStall_41 : decode cX9_readStall 41 = .ok (.goto 4, 3) := by decide +kernel
theorem dX9_readStall_44 : decode cX9_readStall 44 = .ok (.iconst 0, 1) := by decide +kernel
theorem dX9_readStall_45 : decode cX9_readStall 45 = .ok (.istore 4, 2) := by decide +kernel
theorem dX9_readStall_47 : decode cX9_readStall 47 = .ok (.aload_n 0, 1) := by decide +kernel
theorem dX9_readStall_48 : decode cX9_readStall 48 = .ok (.iload 4, 2) := by decide +kernel
theorem dX9_readStall_50 : decode cX9_readStall 50 = .ok (.invokestatic 66, 3) := by decide +kernel
theorem dX9_readStall_53 : decode cX9_readStall 53 = .ok (.ifCond .ne 5, 3) := by decide +kernel
theorem dX9_readStall_56 : decode cX9_readStall 56 = .ok (.iconst 0, 1) := by decide +kernel
theorem dX9_readStall_57 : decode cX9_readStall 57 = .ok (.ireturn, 1) := by decide +kernel
theorem dX9_readStall_58 : decode cX9_readStall 58 = .ok (.aload_n 0, 1) := by decide +kernel
theorem dX9_readStall_59 : decode cX9_readStall 59 = .ok (.iconst 0, 1) := by decide +kernel
theorem dX9_readStall_60 : decode cX9_readStall 60 = .ok (.bipush 99, 2) := by decide +kernel
theorem dX9_readStall_62 : decode cX9_readStall 62 = .ok (.invokevirtual 70, 3) := by decide +kernel
theorem dX9_readStall_65 : decode cX9_readStall 65 = .ok (.istore 5, 2) := by decide +kernel
theorem dX9_readStall_67 : decode cX9_readStall 67 = .ok (.iload 5, 2) := by decide +kernel
theorem dX9_readStall_69 : decode cX9_readStall 69 = .ok (.iconst (-1), 1) := by decide +kernel
theorem dX9_readStall_70 : decode cX9_readStall 70 = .ok (.if_icmp .ne 5, 3) := by decide +kernel
theorem dX9_readStall_73 : decode cX9_readStall 73 = .ok (.iconst 0, 1) := by decide +kernel
theorem dX9_readStall_74 : decode cX9_readStall 74 = .ok (.ireturn, 1) := by decide +kernel
theorem dX9_readStall_75 : decode cX9_readStall 75 = .ok (.aload_n 1, 1) := by decide +kernel
theorem dX9_readStall_76 : decode cX9_readStall 76 = .ok (.lload_n 2, 1) := by decide +kernel
theorem dX9_readStall_77 : decode cX9_readStall 77 = .ok (.iload 5, 2) := by decide +kernel
theorem dX9_readStall_79 : decode cX9_readStall 79 = .ok (.invokevirtual 74, 3) := by decide +kernel
theorem dX9_readStall_82 : decode cX9_readStall 82 = .ok (.aload_n 0, 1) := by decide +kernel
theorem dX9_readStall_83 : decode cX9_readStall 83 = .ok (.invokevirtual 25, 3) := by decide +kernel
theorem dX9_readStall_86 : decode cX9_readStall 86 = .ok (.ireturn, 1) := by decide +kernel
theorem dX9_takeNewName_0 : decode cX9_takeNewName 0 = .ok (.aload_n 0, 1) := by decide +kernel
theorem dX9_takeNewName_1 : decode cX9_takeNewName 1 = .ok (.getfield 38, 3) := by decide +kernel
theorem dX9_takeNewName_4 : decode cX9_takeNewName 4 = .ok (.getfield 78, 3) := by decide +kernel
theorem dX9_takeNewName_7 : decode cX9_takeNewName 7 = .ok (.iconst 1, 1) := by decide +kernel
theorem dX9_takeNewName_8 : decode cX9_takeNewName 8 = .ok (.if_icmp .eq 9, 3) := by decide +kernel
theorem dX9_takeNewName_11 : decode cX9_takeNewName 11 = .ok (.aload_n 0, 1) := by decide +kernel
theorem dX9_takeNewName_12 : decode cX9_takeNewName 12 = .ok (.iconst 1, 1) := by decide +kernel
theorem dX9_takeNewName_13 : decode cX9_takeNewName 13 = .ok (.invokevirtual 52, 3) := by decide +kernel
theorem dX9_takeNewName_16 : decode cX9_takeNewName 16 = .ok (.ireturn, 1) := by decide +kernel
theorem dX9_takeNewName_17 : decode cX9_takeNewName 17 = .ok (.iload_n 1, 1) := by decide +kernel
theorem dX9_takeNewName_18 : decode cX9_takeNewName 18 = .ok (.ifCond .ne 15, 3) := by decide +kernel
theorem dX9_takeNewName_21 : decode cX9_takeNewName 21 = .ok (.aload_n 0, 1) := by decide +kernel
theorem dX9_takeNewName_22 : decode cX9_takeNewName 22 = .ok (.getfield 38, 3) := by decide +kernel
theorem dX9_takeNewName_25 : decode cX9_takeNewName 25 = .ok (.getfield 56, 3) := by decide +kernel
theorem dX9_takeNewName_28 : decode cX9_takeNewName 28 = .ok (.lconst 0, 1) := by decide +kernel
theorem dX9_takeNewName_29 : decode cX9_takeNewName 29 = .ok (.lcmp, 1) := by decide +kernel
theorem dX9_takeNewName_30 : decode cX9_takeNewName 30 = .ok (.ifCond .ne 9, 3) := by decide +kernel
theorem dX9_takeNewName_33 : decode cX9_takeNewName 33 = .ok (.aload_n 0, 1) := by decide +kernel
theorem dX9_takeNewName_34 : decode cX9_takeNewName 34 = .ok (.iconst 3, 1) := by decide +kernel
theorem dX9_takeNewName_35 : decode cX9_takeNewName 35 = .ok (.invokevirtual 52, 3) := by decide +kernel
theorem dX9_takeNewName_38 : decode cX9_takeNewName 38 = .ok (.ireturn, 1) := by decide +kernel
theorem dX9_takeNewName_39 : decode cX9_takeNewName 39 = .ok (.aload_n 0, 1) := by decide +kernel
theorem dX9_takeNewName_40 : decode cX9_takeNewName 40 = .ok (.getfield 38, 3) := by decide +kernel
theorem dX9_takeNewName_43 : decode cX9_takeNewName 43 = .ok (.invokevirtual 82, 3) := by decide +kernel
theorem dX9_takeNewName_46 : decode cX9_takeNewName 46 = .ok (.iconst 1, 1) := by decide +kernel
theorem dX9_takeNewName_47 : decode cX9_takeNewName 47 = .ok (.ireturn, 1) := by decide +kernel
theorem dX9_readSellers_0 : decode cX9_readSellers 0 = .ok (.iconst 0, 1) := by decide +kernel
theorem dX9_readSellers_1 : decode cX9_readSellers 1 = .ok (.istore_n 2, 1) := by decide +kernel
theorem dX9_readSellers_2 : decode cX9_readSellers 2 = .ok (.iload_n 2, 1) := by decide +kernel
theorem dX9_readSellers_3 : decode cX9_readSellers 3 = .ok (.bipush 8, 2) := by decide +kernel
theorem dX9_readSellers_5 : decode cX9_readSellers 5 = .ok (.if_icmp .ge 35, 3) := by decide +kernel
theorem dX9_readSellers_8 : decode cX9_readSellers 8 = .ok (.iload_n 2, 1) := by decide +kernel
theorem dX9_readSellers_9 : decode cX9_readSellers 9 = .ok (.ifCond .le 15, 3) := by decide +kernel
theorem dX9_readSellers_12 : decode cX9_readSellers 12 = .ok (.aload_n 0, 1) := by decide +kernel
theorem dX9_readSellers_13 : decode cX9_readSellers 13 = .ok (.getfield 38, 3) := by decide +kernel
theorem dX9_readSellers_16 : decode cX9_readSellers 16 = .ok (.getfield 78, 3) := by decide +kernel
theorem dX9_readSellers_19 : decode cX9_readSellers 19 = .ok (.ifCond .ne 5, 3) := by decide +kernel
theorem dX9_readSellers_22 : decode cX9_readSellers 22 = .ok (.iconst 1, 1) := by decide +kernel
theorem dX9_readSellers_23 : decode cX9_readSellers 23 = .ok (.ireturn, 1) := by decide +kernel
theorem dX9_readSellers_24 : decode cX9_readSellers 24 = .ok (.aload_n 0, 1) := by decide +kernel
theorem dX9_readSellers_25 : decode cX9_readSellers 25 = .ok (.aload_n 1, 1) := by decide +kernel
theorem dX9_readSellers_26 : decode cX9_readSellers 26 = .ok (.invokestatic 85, 3) := by decide +kernel
theorem dX9_readSellers_29 : decode cX9_readSellers 29 = .ok (.ifCond .ne 5, 3) := by decide +kernel
theorem dX9_readSellers_32 : decode cX9_readSellers 32 = .ok (.iconst 0, 1) := by decide +kernel
theorem dX9_readSellers_33 : decode cX9_readSellers 33 = .ok (.ireturn, 1) := by decide +kernel
theorem dX9_readSellers_34 : decode cX9_readSellers 34 = .ok (.iinc 2 1, 3) := by decide +kernel
theorem dX9_readSellers_37 : decode cX9_readSellers 37 = .ok (.goto (-35), 3) := by decide +kernel
theorem dX9_readSellers_40 : decode cX9_readSellers 40 = .ok (.aload_n 0, 1) := by decide +kernel
theorem dX9_readSellers_41 : decode cX9_readSellers 41 = .ok (.getfield 38, 3) := by decide +kernel
theorem dX9_readSellers_44 : decode cX9_readSellers 44 = .ok (.getfield 78, 3) := by decide +kernel
theorem dX9_readSellers_47 : decode cX9_readSellers 47 = .ok (.ifCond .ne 5, 3) := by decide +kernel
theorem dX9_readSellers_50 : decode cX9_readSellers 50 = .ok (.iconst 1, 1) := by decide +kernel
theorem dX9_readSellers_51 : decode cX9_readSellers 51 = .ok (.ireturn, 1) := by decide +kernel
theorem dX9_readSellers_52 : decode cX9_readSellers 52 = .ok (.aload_n 0, 1) := by decide +kernel
theorem dX9_readSellers_53 : decode cX9_readSellers 53 = .ok (.aload_n 0, 1) := by decide +kernel
theorem dX9_readSellers_54 : decode cX9_readSellers 54 = .ok (.getfield 38, 3) := by decide +kernel
theorem dX9_readSellers_57 : decode cX9_readSellers 57 = .ok (.ldc 88, 2) := by decide +kernel
theorem dX9_readSellers_59 : decode cX9_readSellers 59 = .ok (.invokevirtual 44, 3) := by decide +kernel
theorem dX9_readSellers_62 : decode cX9_readSellers 62 = .ok (.ifCond .eq 7, 3) := by decide +kernel
theorem dX9_readSellers_65 : decode cX9_readSellers 65 = .ok (.iconst 5, 1) := by decide +kernel
theorem dX9_readSellers_66 : decode cX9_readSellers 66 = .ok (.goto 4, 3) := by decide +kernel
theorem dX9_readSellers_69 : decode cX9_readSellers 69 = .ok (.iconst 1, 1) := by decide +kernel
theorem dX9_readSellers_70 : decode cX9_readSellers 70 = .ok (.invokevirtual 52, 3) := by decide +kernel
theorem dX9_readSellers_73 : decode cX9_readSellers 73 = .ok (.ireturn, 1) := by decide +kernel
theorem dX9_readSeller_0 : decode cX9_readSeller 0 = .ok (.aload_n 0, 1) := by decide +kernel
theorem dX9_readSeller_1 : decode cX9_readSeller 1 = .ok (.ldc 88, 2) := by decide +kernel
theorem dX9_readSeller_3 : decode cX9_readSeller 3 = .ok (.invokevirtual 21, 3) := by decide +kernel
theorem dX9_readSeller_6 : decode cX9_readSeller 6 = .ok (.ifCond .ne 5, 3) := by decide +kernel
theorem dX9_readSeller_9 : decode cX9_readSeller 9 = .ok (.iconst 0, 1) := by decide +kernel
theorem dX9_readSeller_10 : decode cX9_readSeller 10 = .ok (.ireturn, 1) := by decide +kernel
theorem dX9_readSeller_11 : decode cX9_readSeller 11 = .ok (.aload_n 0, 1) := by decide +kernel
theorem dX9_readSeller_12 : decode cX9_readSeller 12 = .ok (.getfield 38, 3) := by decide +kernel
theorem dX9_readSeller_15 : decode cX9_readSeller 15 = .ok (.getfield 56, 3) := by decide +kernel
theorem dX9_readSeller_18 : decode cX9_readSeller 18 = .ok (.lstore_n 2, 1) := by decide +kernel
theorem dX9_readSeller_19 : decode cX9_readSeller 19 = .ok (.aload_n 0, 1) := by decide +kernel
theorem dX9_readSeller_20 : decode cX9_readSeller 20 = .ok (.aload_n 1, 1) := by decide +kernel
theorem dX9_readSeller_21 : decode cX9_readSeller 21 = .ok (.lload_n 2, 1) := by decide +kernel
theorem dX9_readSeller_22 : decode cX9_readSeller 22 = .ok (.invokevirtual 90, 3) := by decide +kernel
theorem dX9_readSeller_25 : decode cX9_readSeller 25 = .ok (.iconst (-1), 1) := by decide +kernel
theorem dX9_readSeller_26 : decode cX9_readSeller 26 = .ok (.if_icmp .eq 7, 3) := by decide +kernel
theorem dX9_readSeller_29 : decode cX9_readSeller 29 = .ok (.iconst 1, 1) := by decide +kernel
theorem dX9_readSeller_30 : decode cX9_readSeller 30 = .ok (.goto 4, 3) := by decide +kernel
theorem dX9_readSeller_33 : decode cX9_readSeller 33 = .ok (.iconst 0, 1) := by decide +kernel
theorem dX9_readSeller_34 : decode cX9_readSeller 34 = .ok (.invokestatic 66, 3) := by decide +kernel
theorem dX9_readSeller_37 : decode cX9_readSeller 37 = .ok (.ifCond .ne 5, 3) := by decide +kernel
theorem dX9_readSeller_40 : decode cX9_readSeller 40 = .ok (.iconst 0, 1) := by decide +kernel
theorem dX9_readSeller_41 : decode cX9_readSeller 41 = .ok (.ireturn, 1) := by decide +kernel
theorem dX9_readSeller_42 : decode cX9_readSeller 42 = .ok (.aload_n 0, 1) := by decide +kernel
theorem dX9_readSeller_43 : decode cX9_readSeller 43 = .ok (.iconst 0, 1) := by decide +kernel
theorem dX9_readSeller_44 : decode cX9_readSeller 44 = .ok (.sipush 9999, 3) := by decide +kernel
theorem dX9_readSeller_47 : decode cX9_readSeller 47 = .ok (.invokevirtual 70, 3) := by decide +kernel
theorem dX9_readSeller_50 : decode cX9_readSeller 50 = .ok (.istore 4, 2) := by decide +kernel
theorem dX9_readSeller_52 : decode cX9_readSeller 52 = .ok (.iload 4, 2) := by decide +kernel
theorem dX9_readSeller_54 : decode cX9_readSeller 54 = .ok (.iconst (-1), 1) := by decide +kernel
theorem dX9_readSeller_55 : decode cX9_readSeller 55 = .ok (.if_icmp .ne 5, 3) := by decide +kernel
theorem dX9_readSeller_58 : decode cX9_readSeller 58 = .ok (.iconst 0, 1) := by decide +kernel
theorem dX9_readSeller_59 : decode cX9_readSeller 59 = .ok (.ireturn, 1) := by decide +kernel
theorem dX9_readSeller_60 : decode cX9_readSeller 60 = .ok (.aload_n 0, 1) := by decide +kernel
theorem dX9_readSeller_61 : decode cX9_readSeller 61 = .ok (.iconst 0, 1) := by decide +kernel
theorem dX9_readSeller_62 : decode cX9_readSeller 62 = .ok (.bipush 99, 2) := by decide +kernel
theorem dX9_readSeller_64 : decode cX9_readSeller 64 = .ok (.invokevirtual 70, 3) := by decide +kernel
theorem dX9_readSeller_67 : decode cX9_readSeller 67 = .ok (.istore 5, 2) := by decide +kernel
theorem dX9_readSeller_69 : decode cX9_readSeller 69 = .ok (.iload 5, 2) := by decide +kernel
theorem dX9_readSeller_71 : decode cX9_readSeller 71 = .ok (.iconst (-1), 1) := by decide +kernel
theorem dX9_readSeller_72 : decode cX9_readSeller 72 = .ok (.if_icmp .ne 5, 3) := by decide +kernel
theorem dX9_readSeller_75 : decode cX9_readSeller 75 = .ok (.iconst 0, 1) := by decide +kernel
theorem dX9_readSeller_76 : decode cX9_readSeller 76 = .ok (.ireturn, 1) := by decide +kernel
theorem dX9_readSeller_77 : decode cX9_readSeller 77 = .ok (.aload_n 1, 1) := by decide +kernel
theorem dX9_readSeller_78 : decode cX9_readSeller 78 = .ok (.getfield 93, 3) := by decide +kernel
theorem dX9_readSeller_81 : decode cX9_readSeller 81 = .ok (.istore 6, 2) := by decide +kernel
theorem dX9_readSeller_83 : decode cX9_readSeller 83 = .ok (.aload_n 1, 1) := by decide +kernel
theorem dX9_readSeller_84 : decode cX9_readSeller 84 = .ok (.lload_n 2, 1) := by decide +kernel
theorem dX9_readSeller_85 : decode cX9_readSeller 85 = .ok (.iload 4, 2) := by decide +kernel
theorem dX9_readSeller_87 : decode cX9_readSeller 87 = .ok (.iload 5, 2) := by decide +kernel
theorem dX9_readSeller_89 : decode cX9_readSeller 89 = .ok (.invokevirtual 96, 3) := by decide +kernel
theorem dX9_readSeller_92 : decode cX9_readSeller 92 = .ok (.aload_n 0, 1) := by decide +kernel
theorem dX9_readSeller_93 : decode cX9_readSeller 93 = .ok (.aload_n 1, 1) := by decide +kernel
theorem dX9_readSeller_94 : decode cX9_readSeller 94 = .ok (.iload 6, 2) := by decide +kernel
theorem dX9_readSeller_96 : decode cX9_readSeller 96 = .ok (.invokestatic 100, 3) := by decide +kernel
theorem dX9_readSeller_99 : decode cX9_readSeller 99 = .ok (.ifCond .eq 24, 3) := by decide +kernel
theorem dX9_readSeller_102 : decode cX9_readSeller 102 = .ok (.aload_n 0, 1) := by decide +kernel
theorem dX9_readSeller_103 : decode cX9_readSeller 103 = .ok (.aload_n 1, 1) := by decide +kernel
theorem dX9_readSeller_104 : decode cX9_readSeller 104 = .ok (.iload 6, 2) := by decide +kernel
theorem dX9_readSeller_106 : decode cX9_readSeller 106 = .ok (.invokestatic 104, 3) := by decide +kernel
theorem dX9_readSeller_109 : decode cX9_readSeller 109 = .ok (.ifCond .eq 14, 3) := by decide +kernel
theorem dX9_readSeller_112 : decode cX9_readSeller 112 = .ok (.aload_n 0, 1) := by decide +kernel
theorem dX9_readSeller_113 : decode cX9_readSeller 113 = .ok (.invokevirtual 25, 3) := by decide +kernel
theorem dX9_readSeller_116 : decode cX9_readSeller 116 = .ok (.ifCond .eq 7, 3) := by decide +kernel
theorem dX9_readSeller_119 : decode cX9_readSeller 119 = .ok (.iconst 1, 1) := by decide +kernel
theorem dX9_readSeller_120 : decode cX9_readSeller 120 = .ok (.goto 4, 3) := by decide +kernel
theorem dX9_readSeller_123 : decode cX9_readSeller 123 = .ok (.iconst 0, 1) := by decide +kernel
theorem dX9_readSeller_124 : decode cX9_readSeller 124 = .ok (.ireturn, 1) := by decide +kernel
theorem dX9_readWishes_0 : decode cX9_readWishes 0 = .ok (.iconst 0, 1) := by decide +kernel
theorem dX9_readWishes_1 : decode cX9_readWishes 1 = .ok (.istore_n 3, 1) := by decide +kernel
theorem dX9_readWishes_2 : decode cX9_readWishes 2 = .ok (.iload_n 3, 1) := by decide +kernel
theorem dX9_readWishes_3 : decode cX9_readWishes 3 = .ok (.bipush 8, 2) := by decide +kernel
theorem dX9_readWishes_5 : decode cX9_readWishes 5 = .ok (.if_icmp .gt 80, 3) := by decide +kernel
theorem dX9_readWishes_8 : decode cX9_readWishes 8 = .ok (.aload_n 0, 1) := by decide +kernel
theorem dX9_readWishes_9 : decode cX9_readWishes 9 = .ok (.getfield 38, 3) := by decide +kernel
theorem dX9_readWishes_12 : decode cX9_readWishes 12 = .ok (.getfield 78, 3) := by decide +kernel
theorem dX9_readWishes_15 : decode cX9_readWishes 15 = .ok (.iconst 1, 1) := by decide +kernel
theorem dX9_readWishes_16 : decode cX9_readWishes 16 = .ok (.if_icmp .ne 15, 3) := by decide +kernel
theorem dX9_readWishes_19 : decode cX9_readWishes 19 = .ok (.aload_n 0, 1) := by decide +kernel
theorem dX9_readWishes_20 : decode cX9_readWishes 20 = .ok (.getfield 38, 3) := by decide +kernel
theorem dX9_readWishes_23 : decode cX9_readWishes 23 = .ok (.ldc 60, 2) := by decide +kernel
theorem dX9_readWishes_25 : decode cX9_readWishes 25 = .ok (.invokevirtual 44, 3) := by decide +kernel
theorem dX9_readWishes_28 : decode cX9_readWishes 28 = .ok (.ifCond .eq 5, 3) := by decide +kernel
theorem dX9_readWishes_31 : decode cX9_readWishes 31 = .ok (.iconst 1, 1) := by decide +kernel
theorem dX9_readWishes_32 : decode cX9_readWishes 32 = .ok (.ireturn, 1) := by decide +kernel
theorem dX9_readWishes_33 : decode cX9_readWishes 33 = .ok (.aload_n 0, 1) := by decide +kernel
theorem dX9_readWishes_34 : decode cX9_readWishes 34 = .ok (.aload_n 1, 1) := by decide +kernel
theorem dX9_readWishes_35 : decode cX9_readWishes 35 = .ok (.invokevirtual 107, 3) := by decide +kernel
theorem dX9_readWishes_38 : decode cX9_readWishes 38 = .ok (.istore 4, 2) := by decide +kernel
theorem dX9_readWishes_40 : decode cX9_readWishes 40 = .ok (.iload 4, 2) := by decide +kernel
theorem dX9_readWishes_42 : decode cX9_readWishes 42 = .ok (.iconst (-1), 1) := by decide +kernel
theorem dX9_readWishes_43 : decode cX9_readWishes 43 = .ok (.if_icmp .ne 5, 3) := by decide +kernel
theorem dX9_readWishes_46 : decode cX9_readWishes 46 = .ok (.iconst 0, 1) := by decide +kernel
theorem dX9_readWishes_47 : decode cX9_readWishes 47 = .ok (.ireturn, 1) := by decide +kernel
theorem dX9_readWishes_48 : decode cX9_readWishes 48 = .ok (.aload_n 1, 1) := by decide +kernel
theorem dX9_readWishes_49 : decode cX9_readWishes 49 = .ok (.iload_n 2, 1) := by decide +kernel
theorem dX9_readWishes_50 : decode cX9_readWishes 50 = .ok (.iload 4, 2) := by decide +kernel
theorem dX9_readWishes_52 : decode cX9_readWishes 52 = .ok (.invokevirtual 111, 3) := by decide +kernel
theorem dX9_readWishes_55 : decode cX9_readWishes 55 = .ok (.iconst (-1), 1) := by decide +kernel
theorem dX9_readWishes_56 : decode cX9_readWishes 56 = .ok (.if_icmp .eq 9, 3) := by decide +kernel
theorem dX9_readWishes_59 : decode cX9_readWishes 59 = .ok (.aload_n 0, 1) := by decide +kernel
theorem dX9_readWishes_60 : decode cX9_readWishes 60 = .ok (.iconst 4, 1) := by decide +kernel
theorem dX9_readWishes_61 : decode cX9_readWishes 61 = .ok (.invokevirtual 52, 3) := by decide +kernel
theorem dX9_readWishes_64 : decode cX9_readWishes 64 = .ok (.ireturn, 1) := by decide +kernel
theorem dX9_readWishes_65 : decode cX9_readWishes 65 = .ok (.aload_n 1, 1) := by decide +kernel
theorem dX9_readWishes_66 : decode cX9_readWishes 66 = .ok (.iload_n 2, 1) := by decide +kernel
theorem dX9_readWishes_67 : decode cX9_readWishes 67 = .ok (.iload 4, 2) := by decide +kernel
theorem dX9_readWishes_69 : decode cX9_readWishes 69 = .ok (.invokevirtual 114, 3) := by decide +kernel
theorem dX9_readWishes_72 : decode cX9_readWishes 72 = .ok (.aload_n 0, 1) := by decide +kernel
theorem dX9_readWishes_73 : decode cX9_readWishes 73 = .ok (.getfield 38, 3) := by decide +kernel
theorem dX9_readWishes_76 : decode cX9_readWishes 76 = .ok (.invokevirtual 82, 3) := by decide +kernel
theorem dX9_readWishes_79 : decode cX9_readWishes 79 = .ok (.iinc 3 1, 3) := by decide +kernel
theorem dX9_readWishes_82 : decode cX9_readWishes 82 = .ok (.goto (-80), 3) := by decide +kernel
theorem dX9_readWishes_85 : decode cX9_readWishes 85 = .ok (.iconst 1, 1) := by decide +kernel
theorem dX9_readWishes_86 : decode cX9_readWishes 86 = .ok (.ireturn, 1) := by decide +kernel
theorem dX9_readPlace_0 : decode cX9_readPlace 0 = .ok (.aload_n 0, 1) := by decide +kernel
theorem dX9_readPlace_1 : decode cX9_readPlace 1 = .ok (.getfield 38, 3) := by decide +kernel
theorem dX9_readPlace_4 : decode cX9_readPlace 4 = .ok (.ldc 60, 2) := by decide +kernel
theorem dX9_readPlace_6 : decode cX9_readPlace 6 = .ok (.invokevirtual 44, 3) := by decide +kernel
theorem dX9_readPlace_9 : decode cX9_readPlace 9 = .ok (.ifCond .ne 5, 3) := by decide +kernel
theorem dX9_readPlace_12 : decode cX9_readPlace 12 = .ok (.iconst 1, 1) := by decide +kernel
theorem dX9_readPlace_13 : decode cX9_readPlace 13 = .ok (.ireturn, 1) := by decide +kernel
theorem dX9_readPlace_14 : decode cX9_readPlace 14 = .ok (.aload_n 0, 1) := by decide +kernel
theorem dX9_readPlace_15 : decode cX9_readPlace 15 = .ok (.getfield 38, 3) := by decide +kernel
theorem dX9_readPlace_18 : decode cX9_readPlace 18 = .ok (.invokevirtual 82, 3) := by decide +kernel
theorem dX9_readPlace_21 : decode cX9_readPlace 21 = .ok (.aload_n 0, 1) := by decide +kernel
theorem dX9_readPlace_22 : decode cX9_readPlace 22 = .ok (.aload_n 1, 1) := by decide +kernel
theorem dX9_readPlace_23 : decode cX9_readPlace 23 = .ok (.invokevirtual 107, 3) := by decide +kernel
theorem dX9_readPlace_26 : decode cX9_readPlace 26 = .ok (.istore_n 3, 1) := by decide +kernel
theorem dX9_readPlace_27 : decode cX9_readPlace 27 = .ok (.iload_n 3, 1) := by decide +kernel
theorem dX9_readPlace_28 : decode cX9_readPlace 28 = .ok (.iconst (-1), 1) := by decide +kernel
theorem dX9_readPlace_29 : decode cX9_readPlace 29 = .ok (.if_icmp .ne 5, 3) := by decide +kernel
theorem dX9_readPlace_32 : decode cX9_readPlace 32 = .ok (.iconst 0, 1) := by decide +kernel
theorem dX9_readPlace_33 : decode cX9_readPlace 33 = .ok (.ireturn, 1) := by decide +kernel
theorem dX9_readPlace_34 : decode cX9_readPlace 34 = .ok (.aload_n 1, 1) := by decide +kernel
theorem dX9_readPlace_35 : decode cX9_readPlace 35 = .ok (.iload_n 3, 1) := by decide +kernel
theorem dX9_readPlace_36 : decode cX9_readPlace 36 = .ok (.invokevirtual 118, 3) := by decide +kernel
theorem dX9_readPlace_39 : decode cX9_readPlace 39 = .ok (.iconst (-1), 1) := by decide +kernel
theorem dX9_readPlace_40 : decode cX9_readPlace 40 = .ok (.if_icmp .eq 9, 3) := by decide +kernel
theorem dX9_readPlace_43 : decode cX9_readPlace 43 = .ok (.aload_n 0, 1) := by decide +kernel
theorem dX9_readPlace_44 : decode cX9_readPlace 44 = .ok (.iconst 4, 1) := by decide +kernel
theorem dX9_readPlace_45 : decode cX9_readPlace 45 = .ok (.invokevirtual 52, 3) := by decide +kernel
theorem dX9_readPlace_48 : decode cX9_readPlace 48 = .ok (.ireturn, 1) := by decide +kernel
theorem dX9_readPlace_49 : decode cX9_readPlace 49 = .ok (.aload_n 1, 1) := by decide +kernel
theorem dX9_readPlace_50 : decode cX9_readPlace 50 = .ok (.iload_n 2, 1) := by decide +kernel
theorem dX9_readPlace_51 : decode cX9_readPlace 51 = .ok (.iload_n 3, 1) := by decide +kernel
theorem dX9_readPlace_52 : decode cX9_readPlace 52 = .ok (.invokevirtual 122, 3) := by decide +kernel
theorem dX9_readPlace_55 : decode cX9_readPlace 55 = .ok (.aload_n 0, 1) := by decide +kernel
theorem dX9_readPlace_56 : decode cX9_readPlace 56 = .ok (.getfield 38, 3) := by decide +kernel
theorem dX9_readPlace_59 : decode cX9_readPlace 59 = .ok (.invokevirtual 82, 3) := by decide +kernel
theorem dX9_readPlace_62 : decode cX9_readPlace 62 = .ok (.iconst 1, 1) := by decide +kernel
theorem dX9_readPlace_63 : decode cX9_readPlace 63 = .ok (.ireturn, 1) := by decide +kernel
theorem dX10_init_0 : decode cX10_init 0 = .ok (.aload_n 0, 1) := by decide +kernel
theorem dX10_init_1 : decode cX10_init 1 = .ok (.invokespecial 3, 3) := by decide +kernel
theorem dX10_init_4 : decode cX10_init 4 = .ok (.aload_n 0, 1) := by decide +kernel
theorem dX10_init_5 : decode cX10_init 5 = .ok (.new 9, 3) := by decide +kernel
theorem dX10_init_8 : decode cX10_init 8 = .ok (.dup, 1) := by decide +kernel
theorem dX10_init_9 : decode cX10_init 9 = .ok (.invokespecial 11, 3) := by decide +kernel
theorem dX10_init_12 : decode cX10_init 12 = .ok (.putfield 12, 3) := by decide +kernel
theorem dX10_init_15 : decode cX10_init 15 = .ok (.aload_n 0, 1) := by decide +kernel
theorem dX10_init_16 : decode cX10_init 16 = .ok (.iconst 0, 1) := by decide +kernel
theorem dX10_init_17 : decode cX10_init 17 = .ok (.putfield 18, 3) := by decide +kernel
theorem dX10_init_20 : decode cX10_init 20 = .ok (.aload_n 0, 1) := by decide +kernel
theorem dX10_init_21 : decode cX10_init 21 = .ok (.iconst 0, 1) := by decide +kernel
theorem dX10_init_22 : decode cX10_init 22 = .ok (.putfield 22, 3) := by decide +kernel
theorem dX10_init_25 : decode cX10_init 25 = .ok (.aload_n 0, 1) := by decide +kernel
theorem dX10_init_26 : decode cX10_init 26 = .ok (.iconst 0, 1) := by decide +kernel
theorem dX10_init_27 : decode cX10_init 27 = .ok (.putfield 25, 3) := by decide +kernel
theorem dX10_init_30 : decode cX10_init 30 = .ok (.aload_n 0, 1) := by decide +kernel
theorem dX10_init_31 : decode cX10_init 31 = .ok (.iconst 0, 1) := by decide +kernel
theorem dX10_init_32 : decode cX10_init 32 = .ok (.putfield 28, 3) := by decide +kernel
theorem dX10_init_35 : decode cX10_init 35 = .ok (.aload_n 0, 1) := by decide +kernel
theorem dX10_init_36 : decode cX10_init 36 = .ok (.lconst 0, 1) := by decide +kernel
theorem dX10_init_37 : decode cX10_init 37 = .ok (.putfield 31, 3) := by decide +kernel
theorem dX10_init_40 : decode cX10_init 40 = .ok (.return_, 1) := by decide +kernel
theorem dX10_rewind_0 : decode cX10_rewind 0 = .ok (.aload_n 0, 1) := by decide +kernel
theorem dX10_rewind_1 : decode cX10_rewind 1 = .ok (.iconst 0, 1) := by decide +kernel
theorem dX10_rewind_2 : decode cX10_rewind 2 = .ok (.putfield 25, 3) := by decide +kernel
theorem dX10_rewind_5 : decode cX10_rewind 5 = .ok (.aload_n 0, 1) := by decide +kernel
theorem dX10_rewind_6 : decode cX10_rewind 6 = .ok (.invokevirtual 35, 3) := by decide +kernel
theorem dX10_rewind_9 : decode cX10_rewind 9 = .ok (.return_, 1) := by decide +kernel
theorem dX10_next_0 : decode cX10_next 0 = .ok (.aload_n 0, 1) := by decide +kernel
theorem dX10_next_1 : decode cX10_next 1 = .ok (.aload_n 0, 1) := by decide +kernel
theorem dX10_next_2 : decode cX10_next 2 = .ok (.getfield 25, 3) := by decide +kernel
theorem dX10_next_5 : decode cX10_next 5 = .ok (.putfield 22, 3) := by decide +kernel
theorem dX10_next_8 : decode cX10_next 8 = .ok (.aload_n 0, 1) := by decide +kernel
theorem dX10_next_9 : decode cX10_next 9 = .ok (.getfield 22, 3) := by decide +kernel
theorem dX10_next_12 : decode cX10_next 12 = .ok (.aload_n 0, 1) := by decide +kernel
theorem dX10_next_13 : decode cX10_next 13 = .ok (.getfield 12, 3) := by decide +kernel
theorem dX10_next_16 : decode cX10_next 16 = .ok (.getfield 38, 3) := by decide +kernel
theorem dX10_next_19 : decode cX10_next 19 = .ok (.if_icmp .ge 32, 3) := by decide +kernel
theorem dX10_next_22 : decode cX10_next 22 = .ok (.aload_n 0, 1) := by decide +kernel
theorem dX10_next_23 : decode cX10_next 23 = .ok (.getfield 12, 3) := by decide +kernel
theorem dX10_next_26 : decode cX10_next 26 = .ok (.aload_n 0, 1) := by decide +kernel
theorem dX10_next_27 : decode cX10_next 27 = .ok (.getfield 22, 3) := by decide +kernel
theorem dX10_next_30 : decode cX10_next 30 = .ok (.invokevirtual 41, 3) := by decide +kernel
theorem dX10_next_33 : decode cX10_next 33 = .ok (.bipush 32, 2) := by decide +kernel
theorem dX10_next_35 : decode cX10_next 35 = .ok (.if_icmp .ne 16, 3) := by decide +kernel
theorem dX10_next_38 : decode cX10_next 38 = .ok (.aload_n 0, 1) := by decide +kernel
theorem dX10_next_39 : decode cX10_next 39 = .ok (.dup, 1) := by decide +kernel
theorem dX10_next_40 : decode cX10_next 40 = .ok (.getfield 22, 3) := by decide +kernel
theorem dX10_next_43 : decode cX10_next 43 = .ok (.iconst 1, 1) := by decide +kernel
theorem dX10_next_44 : decode cX10_next 44 = .ok (.iadd, 1) := by decide +kernel
theorem dX10_next_45 : decode cX10_next 45 = .ok (.putfield 22, 3) := by decide +kernel
theorem dX10_next_48 : decode cX10_next 48 = .ok (.goto (-40), 3) := by decide +kernel
theorem dX10_next_51 : decode cX10_next 51 = .ok (.aload_n 0, 1) := by decide +kernel
theorem dX10_next_52 : decode cX10_next 52 = .ok (.aload_n 0, 1) := by decide +kernel
theorem dX10_next_53 : decode cX10_next 53 = .ok (.getfield 22, 3) := by decide +kernel
theorem dX10_next_56 : decode cX10_next 56 = .ok (.putfield 25, 3) := by decide +kernel
theorem dX10_next_59 : decode cX10_next 59 = .ok (.aload_n 0, 1) := by decide +kernel
theorem dX10_next_60 : decode cX10_next 60 = .ok (.iconst 0, 1) := by decide +kernel
theorem dX10_next_61 : decode cX10_next 61 = .ok (.putfield 28, 3) := by decide +kernel
theorem dX10_next_64 : decode cX10_next 64 = .ok (.aload_n 0, 1) := by decide +kernel
theorem dX10_next_65 : decode cX10_next 65 = .ok (.lconst 0, 1) := by decide +kernel
theorem dX10_next_66 : decode cX10_next 66 = .ok (.putfield 31, 3) := by decide +kernel
theorem dX10_next_69 : decode cX10_next 69 = .ok (.aload_n 0, 1) := by decide +kernel
theorem dX10_next_70 : decode cX10_next 70 = .ok (.getfield 12, 3) := by decide +kernel
theorem dX10_next_73 : decode cX10_next 73 = .ok (.aload_n 0, 1) := by decide +kernel
theorem dX10_next_74 : decode cX10_next 74 = .ok (.getfield 22, 3) := by decide +kernel
theorem dX10_next_77 : decode cX10_next 77 = .ok (.invokevirtual 41, 3) := by decide +kernel
theorem dX10_next_80 : decode cX10_next 80 = .ok (.istore_n 1, 1) := by decide +kernel
theorem dX10_next_81 : decode cX10_next 81 = .ok (.iload_n 1, 1) := by decide +kernel
theorem dX10_next_82 : decode cX10_next 82 = .ok (.iconst (-1), 1) := by decide +kernel
theorem dX10_next_83 : decode cX10_next 83 = .ok (.if_icmp .ne 11, 3) := by decide +kernel
theorem dX10_next_86 : decode cX10_next 86 = .ok (.aload_n 0, 1) := by decide +kernel
theorem dX10_next_87 : decode cX10_next 87 = .ok (.iconst 0, 1) := by decide +kernel
theorem dX10_next_88 : decode cX10_next 88 = .ok (.putfield 18, 3) := by decide +kernel
theorem dX10_next_91 : decode cX10_next 91 = .ok (.goto 56, 3) := by decide +kernel
theorem dX10_next_94 : decode cX10_next 94 = .ok (.iload_n 1, 1) := by decide +kernel
theorem dX10_next_95 : decode cX10_next 95 = .ok (.invokestatic 45, 3) := by decide +kernel
theorem dX10_next_98 : decode cX10_next 98 = .ok (.ifCond .eq 10, 3) := by decide +kernel
theorem dX10_next_101 : decode cX10_next 101 = .ok (.aload_n 0, 1) := by decide +kernel
theorem dX10_next_102 : decode cX10_next 102 = .ok (.invokevirtual 49, 3) := by decide +kernel
theorem dX10_next_105 : decode cX10_next 105 = .ok (.goto 42, 3) := by decide +kernel
theorem dX10_next_108 : decode cX10_next 108 = .ok (.iload_n 1, 1) := by decide +kernel
theorem dX10_next_109 : decode cX10_next 109 = .ok (.invokestatic 52, 3) := by decide +kernel
theorem dX10_next_112 : decode cX10_next 112 = .ok (.ifCond .eq 10, 3) := by decide +kernel
theorem dX10_next_115 : decode cX10_next 115 = .ok (.aload_n 0, 1) := by decide +kernel
theorem dX10_next_116 : decode cX10_next 116 = .ok (.invokevirtual 55, 3) := by decide +kernel
theorem dX10_next_119 : decode cX10_next 119 = .ok (.goto 28, 3) := by decide +kernel
theorem dX10_next_122 : decode cX10_next 122 = .ok (.aload_n 0, 1) := by decide +kernel
theorem dX10_next_123 : decode cX10_next 123 = .ok (.iload_n 1, 1) := by decide +kernel
theorem dX10_next_124 : decode cX10_next 124 = .ok (.bipush 59, 2) := by decide +kernel
theorem dX10_next_126 : decode cX10_next 126 = .ok (.if_icmp .ne 7, 3) := by decide +kernel
theorem dX10_next_129 : decode cX10_next 129 = .ok (.iconst 3, 1) := by decide +kernel
theorem dX10_next_130 : decode cX10_next 130 = .ok (.goto 4, 3) := by decide +kernel
theorem dX10_next_133 : decode cX10_next 133 = .ok (.iconst 4, 1) := by decide +kernel
theorem dX10_next_134 : decode cX10_next 134 = .ok (.putfield 18, 3) := by decide +kernel
theorem dX10_next_137 : decode cX10_next 137 = .ok (.aload_n 0, 1) := by decide +kernel
theorem dX10_next_138 : decode cX10_next 138 = .ok (.aload_n 0, 1) := by decide +kernel
theorem dX10_next_139 : decode cX10_next 139 = .ok (.getfield 22, 3) := by decide +kernel
theorem dX10_next_142 : decode cX10_next 142 = .ok (.iconst 1, 1) := by decide +kernel
theorem dX10_next_143 : decode cX10_next 143 = .ok (.iadd, 1) := by decide +kernel
theorem dX10_next_144 : decode cX10_next 144 = .ok (.putfield 25, 3) := by decide +kernel
theorem dX10_next_147 : decode cX10_next 147 = .ok (.return_, 1) := by decide +kernel
theorem dX10_readWord_0 : decode cX10_readWord 0 = .ok (.aload_n 0, 1) := by decide +kernel
theorem dX10_readWord_1 : decode cX10_readWord 1 = .ok (.iconst 1, 1) := by decide +kernel
theorem dX10_readWord_2 : decode cX10_readWord 2 = .ok (.putfield 18, 3) := by decide +kernel
theorem dX10_readWord_5 : decode cX10_readWord 5 = .ok (.aload_n 0, 1) := by decide +kernel
theorem dX10_readWord_6 : decode cX10_readWord 6 = .ok (.getfield 25, 3) := by decide +kernel
theorem dX10_readWord_9 : decode cX10_readWord 9 = .ok (.aload_n 0, 1) := by decide +kernel
theorem dX10_readWord_10 : decode cX10_readWord 10 = .ok (.getfield 12, 3) := by decide +kernel
theorem dX10_readWord_13 : decode cX10_readWord 13 = .ok (.getfield 38, 3) := by decide +kernel
theorem dX10_readWord_16 : decode cX10_readWord 16 = .ok (.if_icmp .ge 75, 3) := by decide +kernel
theorem dX10_readWord_19 : decode cX10_readWord 19 = .ok (.aload_n 0, 1) := by decide +kernel
theorem dX10_readWord_20 : decode cX10_readWord 20 = .ok (.getfield 12, 3) := by decide +kernel
theorem dX10_readWord_23 : decode cX10_readWord 23 = .ok (.aload_n 0, 1) := by decide +kernel
theorem dX10_readWord_24 : decode cX10_readWord 24 = .ok (.getfield 25, 3) := by decide +kernel
theorem dX10_readWord_27 : decode cX10_readWord 27 = .ok (.invokevirtual 41, 3) := by decide +kernel
theorem dX10_readWord_30 : decode cX10_readWord 30 = .ok (.invokestatic 45, 3) := by decide +kernel
theorem dX10_readWord_33 : decode cX10_readWord 33 = .ok (.ifCond .eq 58, 3) := by decide +kernel
theorem dX10_readWord_36 : decode cX10_readWord 36 = .ok (.aload_n 0, 1) := by decide +kernel
theorem dX10_readWord_37 : decode cX10_readWord 37 = .ok (.aload_n 0, 1) := by decide +kernel
theorem dX10_readWord_38 : decode cX10_readWord 38 = .ok (.getfield 25, 3) := by decide +kernel
theorem dX10_readWord_41 : decode cX10_readWord 41 = .ok (.aload_n 0, 1) := by decide +kernel
theorem dX10_readWord_42 : decode cX10_readWord 42 = .ok (.getfield 22, 3) := by decide +kernel
theorem dX10_readWord_45 : decode cX10_readWord 45 = .ok (.isub, 1) := by decide +kernel
theorem dX10_readWord_46 : decode cX10_readWord 46 = .ok (.bipush 6, 2) := by decide +kernel
theorem dX10_readWord_48 : decode cX10_readWord 48 = .ok (.if_icmp .ge 26, 3) := by decide +kernel
theorem dX10_readWord_51 : decode cX10_readWord 51 = .ok (.aload_n 0, 1) := by decide +kernel
theorem dX10_readWord_52 : decode cX10_readWord 52 = .ok (.getfield 31, 3) := by decide +kernel
theorem dX10_readWord_55 : decode cX10_readWord 55 = .ok (.bipush 8, 2) := by decide +kernel
theorem dX10_readWord_57 : decode cX10_readWord 57 = .ok (.lshl, 1) := by decide +kernel
theorem dX10_readWord_58 : decode cX10_readWord 58 = .ok (.aload_n 0, 1) := by decide +kernel
theorem dX10_readWord_59 : decode cX10_readWord 59 = .ok (.getfield 12, 3) := by decide +kernel
theorem dX10_readWord_62 : decode cX10_readWord 62 = .ok (.aload_n 0, 1) := by decide +kernel
theorem dX10_readWord_63 : decode cX10_readWord 63 = .ok (.getfield 25, 3) := by decide +kernel
theorem dX10_readWord_66 : decode cX10_readWord 66 = .ok (.invokevirtual 41, 3) := by decide +kernel
theorem dX10_readWord_69 : decode cX10_readWord 69 = .ok (.i2l, 1) := by decide +kernel
theorem dX10_readWord_70 : decode cX10_readWord 70 = .ok (.lor, 1) := by decide +kernel
theorem dX10_readWord_71 : decode cX10_readWord 71 = .ok (.goto 4, 3) := by decide +kernel
theorem dX10_readWord_74 : decode cX10_readWord 74 = .ok (.lconst 0, 1) := by decide +kernel
theorem dX10_readWord_75 : decode cX10_readWord 75 = .ok (.putfield 31, 3) := by decide +kernel
theorem dX10_readWord_78 : decode cX10_readWord 78 = .ok (.aload_n 0, 1) := by decide +kernel
theorem dX10_readWord_79 : decode cX10_readWord 79 = .ok (.dup, 1) := by decide +kernel
theorem dX10_readWord_80 : decode cX10_readWord 80 = .ok (.getfield 25, 3) := by decide +kernel
theorem dX10_readWord_83 : decode cX10_readWord 83 = .ok (.iconst 1, 1) := by decide +kernel
theorem dX10_readWord_84 : decode cX10_readWord 84 = .ok (.iadd, 1) := by decide +kernel
theorem dX10_readWord_85 : decode cX10_readWord 85 = .ok (.putfield 25, 3) := by decide +kernel
theorem dX10_readWord_88 : decode cX10_readWord 88 = .ok (.goto (-83), 3) := by decide +kernel
theorem dX10_readWord_91 : decode cX10_readWord 91 = .ok (.return_, 1) := by decide +kernel
theorem dX10_readNumber_0 : decode cX10_readNumber 0 = .ok (.aload_n 0, 1) := by decide +kernel
theorem dX10_readNumber_1 : decode cX10_readNumber 1 = .ok (.iconst 2, 1) := by decide +kernel
theorem dX10_readNumber_2 : decode cX10_readNumber 2 = .ok (.putfield 18, 3) := by decide +kernel
theorem dX10_readNumber_5 : decode cX10_readNumber 5 = .ok (.aload_n 0, 1) := by decide +kernel
theorem dX10_readNumber_6 : decode cX10_readNumber 6 = .ok (.getfield 25, 3) := by decide +kernel
theorem dX10_readNumber_9 : decode cX10_readNumber 9 = .ok (.aload_n 0, 1) := by decide +kernel
theorem dX10_readNumber_10 : decode cX10_readNumber 10 = .ok (.getfield 12, 3) := by decide +kernel
theorem dX10_readNumber_13 : decode cX10_readNumber 13 = .ok (.getfield 38, 3) := by decide +kernel
theorem dX10_readNumber_16 : decode cX10_readNumber 16 = .ok (.if_icmp .ge 69, 3) := by decide +kernel
theorem dX10_readNumber_19 : decode cX10_readNumber 19 = .ok (.aload_n 0, 1) := by decide +kernel
theorem dX10_readNumber_20 : decode cX10_readNumber 20 = .ok (.getfield 12, 3) := by decide +kernel
theorem dX10_readNumber_23 : decode cX10_readNumber 23 = .ok (.aload_n 0, 1) := by decide +kernel
theorem dX10_readNumber_24 : decode cX10_readNumber 24 = .ok (.getfield 25, 3) := by decide +kernel
theorem dX10_readNumber_27 : decode cX10_readNumber 27 = .ok (.invokevirtual 41, 3) := by decide +kernel
theorem dX10_readNumber_30 : decode cX10_readNumber 30 = .ok (.invokestatic 52, 3) := by decide +kernel
theorem dX10_readNumber_33 : decode cX10_readNumber 33 = .ok (.ifCond .eq 52, 3) := by decide +kernel
theorem dX10_readNumber_36 : decode cX10_readNumber 36 = .ok (.aload_n 0, 1) := by decide +kernel
theorem dX10_readNumber_37 : decode cX10_readNumber 37 = .ok (.getfield 28, 3) := by decide +kernel
theorem dX10_readNumber_40 : decode cX10_readNumber 40 = .ok (.sipush 10000, 3) := by decide +kernel
theorem dX10_readNumber_43 : decode cX10_readNumber 43 = .ok (.if_icmp .ge 29, 3) := by decide +kernel
theorem dX10_readNumber_46 : decode cX10_readNumber 46 = .ok (.aload_n 0, 1) := by decide +kernel
theorem dX10_readNumber_47 : decode cX10_readNumber 47 = .ok (.bipush 10, 2) := by decide +kernel
theorem dX10_readNumber_49 : decode cX10_readNumber 49 = .ok (.aload_n 0, 1) := by decide +kernel
theorem dX10_readNumber_50 : decode cX10_readNumber 50 = .ok (.getfield 28, 3) := by decide +kernel
theorem dX10_readNumber_53 : decode cX10_readNumber 53 = .ok (.imul, 1) := by decide +kernel
theorem dX10_readNumber_54 : decode cX10_readNumber 54 = .ok (.aload_n 0, 1) := by decide +kernel
theorem dX10_readNumber_55 : decode cX10_readNumber 55 = .ok (.getfield 12, 3) := by decide +kernel
theorem dX10_readNumber_58 : decode cX10_readNumber 58 = .ok (.aload_n 0, 1) := by decide +kernel
theorem dX10_readNumber_59 : decode cX10_readNumber 59 = .ok (.getfield 25, 3) := by decide +kernel
theorem dX10_readNumber_62 : decode cX10_readNumber 62 = .ok (.invokevirtual 41, 3) := by decide +kernel
theorem dX10_readNumber_65 : decode cX10_readNumber 65 = .ok (.iadd, 1) := by decide +kernel
theorem dX10_readNumber_66 : decode cX10_readNumber 66 = .ok (.bipush 48, 2) := by decide +kernel
theorem dX10_readNumber_68 : decode cX10_readNumber 68 = .ok (.isub, 1) := by decide +kernel
theorem dX10_readNumber_69 : decode cX10_readNumber 69 = .ok (.putfield 28, 3) := by decide +kernel
theorem dX10_readNumber_72 : decode cX10_readNumber 72 = .ok (.aload_n 0, 1) := by decide +kernel
theorem dX10_readNumber_73 : decode cX10_readNumber 73 = .ok (.dup, 1) := by decide +kernel
theorem dX10_readNumber_74 : decode cX10_readNumber 74 = .ok (.getfield 25, 3) := by decide +kernel
theorem dX10_readNumber_77 : decode cX10_readNumber 77 = .ok (.iconst 1, 1) := by decide +kernel
theorem dX10_readNumber_78 : decode cX10_readNumber 78 = .ok (.iadd, 1) := by decide +kernel
theorem dX10_readNumber_79 : decode cX10_readNumber 79 = .ok (.putfield 25, 3) := by decide +kernel
theorem dX10_readNumber_82 : decode cX10_readNumber 82 = .ok (.goto (-77), 3) := by decide +kernel
theorem dX10_readNumber_85 : decode cX10_readNumber 85 = .ok (.return_, 1) := by decide +kernel
theorem dX10_isWord_0 : decode cX10_isWord 0 = .ok (.aload_n 0, 1) := by decide +kernel
theorem dX10_isWord_1 : decode cX10_isWord 1 = .ok (.getfield 18, 3) := by decide +kernel
theorem dX10_isWord_4 : decode cX10_isWord 4 = .ok (.iconst 1, 1) := by decide +kernel
theorem dX10_isWord_5 : decode cX10_isWord 5 = .ok (.if_icmp .ne 19, 3) := by decide +kernel
theorem dX10_isWord_8 : decode cX10_isWord 8 = .ok (.aload_n 0, 1) := by decide +kernel
theorem dX10_isWord_9 : decode cX10_isWord 9 = .ok (.getfield 25, 3) := by decide +kernel
theorem dX10_isWord_12 : decode cX10_isWord 12 = .ok (.aload_n 0, 1) := by decide +kernel
theorem dX10_isWord_13 : decode cX10_isWord 13 = .ok (.getfield 22, 3) := by decide +kernel
theorem dX10_isWord_16 : decode cX10_isWord 16 = .ok (.isub, 1) := by decide +kernel
theorem dX10_isWord_17 : decode cX10_isWord 17 = .ok (.aload_n 1, 1) := by decide +kernel
theorem dX10_isWord_18 : decode cX10_isWord 18 = .ok (.invokevirtual 58, 3) := by decide +kernel
theorem dX10_isWord_21 : decode cX10_isWord 21 = .ok (.if_icmp .eq 5, 3) := by decide +kernel
theorem dX10_isWord_24 : decode cX10_isWord 24 = .ok (.iconst 0, 1) := by decide +kernel
theorem dX10_isWord_25 : decode cX10_isWord 25 = .ok (.ireturn, 1) := by decide +kernel
theorem dX10_isWord_26 : decode cX10_isWord 26 = .ok (.iconst 0, 1) := by decide +kernel
theorem dX10_isWord_27 : decode cX10_isWord 27 = .ok (.istore_n 2, 1) := by decide +kernel
theorem dX10_isWord_28 : decode cX10_isWord 28 = .ok (.iload_n 2, 1) := by decide +kernel
theorem dX10_isWord_29 : decode cX10_isWord 29 = .ok (.aload_n 1, 1) := by decide +kernel
theorem dX10_isWord_30 : decode cX10_isWord 30 = .ok (.invokevirtual 58, 3) := by decide +kernel
theorem dX10_isWord_33 : decode cX10_isWord 33 = .ok (.if_icmp .ge 32, 3) := by decide +kernel
theorem dX10_isWord_36 : decode cX10_isWord 36 = .ok (.aload_n 0, 1) := by decide +kernel
theorem dX10_isWord_37 : decode cX10_isWord 37 = .ok (.getfield 12, 3) := by decide +kernel
theorem dX10_isWord_40 : decode cX10_isWord 40 = .ok (.aload_n 0, 1) := by decide +kernel
theorem dX10_isWord_41 : decode cX10_isWord 41 = .ok (.getfield 22, 3) := by decide +kernel
theorem dX10_isWord_44 : decode cX10_isWord 44 = .ok (.iload_n 2, 1) := by decide +kernel
theorem dX10_isWord_45 : decode cX10_isWord 45 = .ok (.iadd, 1) := by decide +kernel
theorem dX10_isWord_46 : decode cX10_isWord 46 = .ok (.invokevirtual 41, 3) := by decide +kernel
theorem dX10_isWord_49 : decode cX10_isWord 49 = .ok (.aload_n 1, 1) := by decide +kernel
theorem dX10_isWord_50 : decode cX10_isWord 50 = .ok (.iload_n 2, 1) := by decide +kernel
theorem dX10_isWord_51 : decode cX10_isWord 51 = .ok (.invokevirtual 63, 3) := by decide +kernel
theorem dX10_isWord_54 : decode cX10_isWord 54 = .ok (.if_icmp .eq 5, 3) := by decide +kernel
theorem dX10_isWord_57 : decode cX10_isWord 57 = .ok (.iconst 0, 1) := by decide +kernel
theorem dX10_isWord_58 : decode cX10_isWord 58 = .ok (.ireturn, 1) := by decide +kernel
theorem dX10_isWord_59 : decode cX10_isWord 59 = .ok (.iinc 2 1, 3) := by decide +kernel
theorem dX10_isWord_62 : decode cX10_isWord 62 = .ok (.goto (-34), 3) := by decide +kernel
theorem dX10_isWord_65 : decode cX10_isWord 65 = .ok (.iconst 1, 1) := by decide +kernel
theorem dX10_isWord_66 : decode cX10_isWord 66 = .ok (.ireturn, 1) := by decide +kernel
theorem dX10_isLetter_0 : decode cX10_isLetter 0 = .ok (.iload_n 0, 1) := by decide +kernel
theorem dX10_isLetter_1 : decode cX10_isLetter 1 = .ok (.bipush 97, 2) := by decide +kernel
theorem dX10_isLetter_3 : decode cX10_isLetter 3 = .ok (.if_icmp .lt 13, 3) := by decide +kernel
theorem dX10_isLetter_6 : decode cX10_isLetter 6 = .ok (.iload_n 0, 1) := by decide +kernel
theorem dX10_isLetter_7 : decode cX10_isLetter 7 = .ok (.bipush 122, 2) := by decide +kernel
theorem dX10_isLetter_9 : decode cX10_isLetter 9 = .ok (.if_icmp .gt 7, 3) := by decide +kernel
theorem dX10_isLetter_12 : decode cX10_isLetter 12 = .ok (.iconst 1, 1) := by decide +kernel
theorem dX10_isLetter_13 : decode cX10_isLetter 13 = .ok (.goto 4, 3) := by decide +kernel
theorem dX10_isLetter_16 : decode cX10_isLetter 16 = .ok (.iconst 0, 1) := by decide +kernel
theorem dX10_isLetter_17 : decode cX10_isLetter 17 = .ok (.ireturn, 1) := by decide +kernel
theorem dX10_isDigit_0 : decode cX10_isDigit 0 = .ok (.iload_n 0, 1) := by decide +kernel
theorem dX10_isDigit_1 : decode cX10_isDigit 1 = .ok (.bipush 48, 2) := by decide +kernel
theorem dX10_isDigit_3 : decode cX10_isDigit 3 = .ok (.if_icmp .lt 13, 3) := by decide +kernel
theorem dX10_isDigit_6 : decode cX10_isDigit 6 = .ok (.iload_n 0, 1) := by decide +kernel
theorem dX10_isDigit_7 : decode cX10_isDigit 7 = .ok (.bipush 57, 2) := by decide +kernel
theorem dX10_isDigit_9 : decode cX10_isDigit 9 = .ok (.if_icmp .gt 7, 3) := by decide +kernel
theorem dX10_isDigit_12 : decode cX10_isDigit 12 = .ok (.iconst 1, 1) := by decide +kernel
theorem dX10_isDigit_13 : decode cX10_isDigit 13 = .ok (.goto 4, 3) := by decide +kernel
theorem dX10_isDigit_16 : decode cX10_isDigit 16 = .ok (.iconst 0, 1) := by decide +kernel
theorem dX10_isDigit_17 : decode cX10_isDigit 17 = .ok (.ireturn, 1) := by decide +kernel
theorem dX12_init_0 : decode cX12_init 0 = .ok (.aload_n 0, 1) := by decide +kernel
theorem dX12_init_1 : decode cX12_init 1 = .ok (.invokespecial 3, 3) := by decide +kernel
theorem dX12_init_4 : decode cX12_init 4 = .ok (.aload_n 0, 1) := by decide +kernel
theorem dX12_init_5 : decode cX12_init 5 = .ok (.new 9, 3) := by decide +kernel
theorem dX12_init_8 : decode cX12_init 8 = .ok (.dup, 1) := by decide +kernel
theorem dX12_init_9 : decode cX12_init 9 = .ok (.invokespecial 11, 3) := by decide +kernel
theorem dX12_init_12 : decode cX12_init 12 = .ok (.putfield 12, 3) := by decide +kernel
theorem dX12_init_15 : decode cX12_init 15 = .ok (.aload_n 0, 1) := by decide +kernel
theorem dX12_init_16 : decode cX12_init 16 = .ok (.new 16, 3) := by decide +kernel
theorem dX12_init_19 : decode cX12_init 19 = .ok (.dup, 1) := by decide +kernel
theorem dX12_init_20 : decode cX12_init 20 = .ok (.invokespecial 18, 3) := by decide +kernel
theorem dX12_init_23 : decode cX12_init 23 = .ok (.putfield 19, 3) := by decide +kernel
theorem dX12_init_26 : decode cX12_init 26 = .ok (.aload_n 0, 1) := by decide +kernel
theorem dX12_init_27 : decode cX12_init 27 = .ok (.new 23, 3) := by decide +kernel
theorem dX12_init_30 : decode cX12_init 30 = .ok (.dup, 1) := by decide +kernel
theorem dX12_init_31 : decode cX12_init 31 = .ok (.invokespecial 25, 3) := by decide +kernel
theorem dX12_init_34 : decode cX12_init 34 = .ok (.putfield 26, 3) := by decide +kernel
theorem dX12_init_37 : decode cX12_init 37 = .ok (.aload_n 0, 1) := by decide +kernel
theorem dX12_init_38 : decode cX12_init 38 = .ok (.new 23, 3) := by decide +kernel
theorem dX12_init_41 : decode cX12_init 41 = .ok (.dup, 1) := by decide +kernel
theorem dX12_init_42 : decode cX12_init 42 = .ok (.invokespecial 25, 3) := by decide +kernel
theorem dX12_init_45 : decode cX12_init 45 = .ok (.putfield 30, 3) := by decide +kernel
theorem dX12_init_48 : decode cX12_init 48 = .ok (.aload_n 0, 1) := by decide +kernel
theorem dX12_init_49 : decode cX12_init 49 = .ok (.iconst 0, 1) := by decide +kernel
theorem dX12_init_50 : decode cX12_init 50 = .ok (.putfield 33, 3) := by decide +kernel
theorem dX12_init_53 : decode cX12_init 53 = .ok (.aload_n 0, 1) := by decide +kernel
theorem dX12_init_54 : decode cX12_init 54 = .ok (.new 37, 3) := by decide +kernel
theorem dX12_init_57 : decode cX12_init 57 = .ok (.dup, 1) := by decide +kernel
theorem dX12_init_58 : decode cX12_init 58 = .ok (.invokespecial 39, 3) := by decide +kernel
theorem dX12_init_61 : decode cX12_init 61 = .ok (.putfield 40, 3) := by decide +kernel
theorem dX12_init_64 : decode cX12_init 64 = .ok (.aload_n 0, 1) := by decide +kernel
theorem dX12_init_65 : decode cX12_init 65 = .ok (.new 44, 3) := by decide +kernel
theorem dX12_init_68 : decode cX12_init 68 = .ok (.dup, 1) := by decide +kernel
theorem dX12_init_69 : decode cX12_init 69 = .ok (.invokespecial 46, 3) := by decide +kernel
theorem dX12_init_72 : decode cX12_init 72 = .ok (.putfield 47, 3) := by decide +kernel
theorem dX12_init_75 : decode cX12_init 75 = .ok (.aload_n 0, 1) := by decide +kernel
theorem dX12_init_76 : decode cX12_init 76 = .ok (.new 51, 3) := by decide +kernel
theorem dX12_init_79 : decode cX12_init 79 = .ok (.dup, 1) := by decide +kernel
theorem dX12_init_80 : decode cX12_init 80 = .ok (.invokespecial 53, 3) := by decide +kernel
theorem dX12_init_83 : decode cX12_init 83 = .ok (.putfield 54, 3) := by decide +kernel
theorem dX12_init_86 : decode cX12_init 86 = .ok (.new 58, 3) := by decide +kernel
theorem dX12_init_89 : decode cX12_init 89 = .ok (.dup, 1) := by decide +kernel
theorem dX12_init_90 : decode cX12_init 90 = .ok (.invokespecial 60, 3) := by decide +kernel
theorem dX12_init_93 : decode cX12_init 93 = .ok (.astore_n 1, 1) := by decide +kernel
theorem dX12_init_94 : decode cX12_init 94 = .ok (.new 23, 3) := by decide +kernel
theorem dX12_init_97 : decode cX12_init 97 = .ok (.dup, 1) := by decide +kernel
theorem dX12_init_98 : decode cX12_init 98 = .ok (.invokespecial 25, 3) := by decide +kernel
theorem dX12_init_101 : decode cX12_init 101 = .ok (.astore_n 2, 1) := by decide +kernel
theorem dX12_init_102 : decode cX12_init 102 = .ok (.iconst 0, 1) := by decide +kernel
theorem dX12_init_103 : decode cX12_init 103 = .ok (.istore_n 3, 1) := by decide +kernel
theorem dX12_init_104 : decode cX12_init 104 = .ok (.iload_n 3, 1) := by decide +kernel
theorem dX12_init_105 : decode cX12_init 105 = .ok (.ldc 61, 2) := by decide +kernel
theorem dX12_init_107 : decode cX12_init 107 = .ok (.invokevirtual 63, 3) := by decide +kernel
theorem dX12_init_110 : decode cX12_init 110 = .ok (.if_icmp .ge 25, 3) := by decide +kernel
theorem dX12_init_113 : decode cX12_init 113 = .ok (.aload_n 1, 1) := by decide +kernel
theorem dX12_init_114 : decode cX12_init 114 = .ok (.getfield 69, 3) := by decide +kernel
theorem dX12_init_117 : decode cX12_init 117 = .ok (.getfield 73, 3) := by decide +kernel
theorem dX12_init_120 : decode cX12_init 120 = .ok (.ldc 61, 2) := by decide +kernel
theorem dX12_init_122 : decode cX12_init 122 = .ok (.iload_n 3, 1) := by decide +kernel
theorem dX12_init_123 : decode cX12_init 123 = .ok (.invokevirtual 78, 3) := by decide +kernel
theorem dX12_init_126 : decode cX12_init 126 = .ok (.invokevirtual 82, 3) := by decide +kernel
theorem dX12_init_129 : decode cX12_init 129 = .ok (.iinc 3 1, 3) := by decide +kernel
theorem dX12_init_132 : decode cX12_init 132 = .ok (.goto (-28), 3) := by decide +kernel
theorem dX12_init_135 : decode cX12_init 135 = .ok (.aload_n 1, 1) := by decide +kernel
theorem dX12_init_136 : decode cX12_init 136 = .ok (.aload_n 2, 1) := by decide +kernel
theorem dX12_init_137 : decode cX12_init 137 = .ok (.invokestatic 86, 3) := by decide +kernel
theorem dX12_init_140 : decode cX12_init 140 = .ok (.pop, 1) := by decide +kernel
theorem dX12_init_141 : decode cX12_init 141 = .ok (.aload_n 1, 1) := by decide +kernel
theorem dX12_init_142 : decode cX12_init 142 = .ok (.getfield 69, 3) := by decide +kernel
theorem dX12_init_145 : decode cX12_init 145 = .ok (.getfield 73, 3) := by decide +kernel
theorem dX12_init_148 : decode cX12_init 148 = .ok (.iconst 0, 1) := by decide +kernel
theorem dX12_init_149 : decode cX12_init 149 = .ok (.invokevirtual 92, 3) := by decide +kernel
theorem dX12_init_152 : decode cX12_init 152 = .ok (.aload_n 0, 1) := by decide +kernel
theorem dX12_init_153 : decode cX12_init 153 = .ok (.aload_n 1, 1) := by decide +kernel
theorem dX12_init_154 : decode cX12_init 154 = .ok (.putfield 95, 3) := by decide +kernel
theorem dX12_init_157 : decode cX12_init 157 = .ok (.aload_n 0, 1) := by decide +kernel
theorem dX12_init_158 : decode cX12_init 158 = .ok (.aload_n 2, 1) := by decide +kernel
theorem dX12_init_159 : decode cX12_init 159 = .ok (.putfield 99, 3) := by decide +kernel
theorem dX12_init_162 : decode cX12_init 162 = .ok (.return_, 1) := by decide +kernel
theorem dX12_appendInput_0 : decode cX12_appendInput 0 = .ok (.aload_n 0, 1) := by decide +kernel
theorem dX12_appendInput_1 : decode cX12_appendInput 1 = .ok (.getfield 95, 3) := by decide +kernel
theorem dX12_appendInput_4 : decode cX12_appendInput 4 = .ok (.getfield 69, 3) := by decide +kernel
theorem dX12_appendInput_7 : decode cX12_appendInput 7 = .ok (.getfield 73, 3) := by decide +kernel
theorem dX12_appendInput_10 : decode cX12_appendInput 10 = .ok (.astore 6, 2) := by decide +kernel
theorem dX12_appendInput_12 : decode cX12_appendInput 12 = .ok (.aload 6, 2) := by decide +kernel
theorem dX12_appendInput_14 : decode cX12_appendInput 14 = .ok (.getfield 102, 3) := by decide +kernel
theorem dX12_appendInput_17 : decode cX12_appendInput 17 = .ok (.sipush 680, 3) := by decide +kernel
theorem dX12_appendInput_20 : decode cX12_appendInput 20 = .ok (.if_icmp .le 13, 3) := by decide +kernel
theorem dX12_appendInput_23 : decode cX12_appendInput 23 = .ok (.new 105, 3) := by decide +kernel
theorem dX12_appendInput_26 : decode cX12_appendInput 26 = .ok (.dup, 1) := by decide +kernel
theorem dX12_appendInput_27 : decode cX12_appendInput 27 = .ok (.ldc 107, 2) := by decide +kernel
theorem dX12_appendInput_29 : decode cX12_appendInput 29 = .ok (.invokespecial 109, 3) := by decide +kernel
theorem dX12_appendInput_32 : decode cX12_appendInput 32 = .ok (.athrow, 1) := by decide +kernel
theorem dX12_appendInput_33 : decode cX12_appendInput 33 = .ok (.aload 6, 2) := by decide +kernel
theorem dX12_appendInput_35 : decode cX12_appendInput 35 = .ok (.iload_n 1, 1) := by decide +kernel
theorem dX12_appendInput_36 : decode cX12_appendInput 36 = .ok (.invokevirtual 112, 3) := by decide +kernel
theorem dX12_appendInput_39 : decode cX12_appendInput 39 = .ok (.aload 6, 2) := by decide +kernel
theorem dX12_appendInput_41 : decode cX12_appendInput 41 = .ok (.iload_n 2, 1) := by decide +kernel
theorem dX12_appendInput_42 : decode cX12_appendInput 42 = .ok (.invokevirtual 112, 3) := by decide +kernel
theorem dX12_appendInput_45 : decode cX12_appendInput 45 = .ok (.aload 6, 2) := by decide +kernel
theorem dX12_appendInput_47 : decode cX12_appendInput 47 = .ok (.iload_n 3, 1) := by decide +kernel
theorem dX12_appendInput_48 : decode cX12_appendInput 48 = .ok (.invokevirtual 112, 3) := by decide +kernel
theorem dX12_appendInput_51 : decode cX12_appendInput 51 = .ok (.aload 6, 2) := by decide +kernel
theorem dX12_appendInput_53 : decode cX12_appendInput 53 = .ok (.iload 4, 2) := by decide +kernel
theorem dX12_appendInput_55 : decode cX12_appendInput 55 = .ok (.invokevirtual 112, 3) := by decide +kernel
theorem dX12_appendInput_58 : decode cX12_appendInput 58 = .ok (.aload 6, 2) := by decide +kernel
theorem dX12_appendInput_60 : decode cX12_appendInput 60 = .ok (.iload 5, 2) := by decide +kernel
theorem dX12_appendInput_62 : decode cX12_appendInput 62 = .ok (.invokevirtual 112, 3) := by decide +kernel
theorem dX12_appendInput_65 : decode cX12_appendInput 65 = .ok (.aload 6, 2) := by decide +kernel
theorem dX12_appendInput_67 : decode cX12_appendInput 67 = .ok (.getfield 102, 3) := by decide +kernel
theorem dX12_appendInput_70 : decode cX12_appendInput 70 = .ok (.ireturn, 1) := by decide +kernel
theorem dX12_truncateInput_0 : decode cX12_truncateInput 0 = .ok (.aload_n 0, 1) := by decide +kernel
theorem dX12_truncateInput_1 : decode cX12_truncateInput 1 = .ok (.getfield 95, 3) := by decide +kernel
theorem dX12_truncateInput_4 : decode cX12_truncateInput 4 = .ok (.getfield 69, 3) := by decide +kernel
theorem dX12_truncateInput_7 : decode cX12_truncateInput 7 = .ok (.getfield 73, 3) := by decide +kernel
theorem dX12_truncateInput_10 : decode cX12_truncateInput 10 = .ok (.astore_n 2, 1) := by decide +kernel
theorem dX12_truncateInput_11 : decode cX12_truncateInput 11 = .ok (.iload_n 1, 1) := by decide +kernel
theorem dX12_truncateInput_12 : decode cX12_truncateInput 12 = .ok (.ifCond .lt 11, 3) := by decide +kernel
theorem dX12_truncateInput_15 : decode cX12_truncateInput 15 = .ok (.iload_n 1, 1) := by decide +kernel
theorem dX12_truncateInput_16 : decode cX12_truncateInput 16 = .ok (.aload_n 2, 1) := by decide +kernel
theorem dX12_truncateInput_17 : decode cX12_truncateInput 17 = .ok (.getfield 102, 3) := by decide +kernel
theorem dX12_truncateInput_20 : decode cX12_truncateInput 20 = .ok (.if_icmp .le 13, 3) := by decide +kernel
theorem dX12_truncateInput_23 : decode cX12_truncateInput 23 = .ok (.new 115, 3) := by decide +kernel
theorem dX12_truncateInput_26 : decode cX12_truncateInput 26 = .ok (.dup, 1) := by decide +kernel
theorem dX12_truncateInput_27 : decode cX12_truncateInput 27 = .ok (.ldc 117, 2) := by decide +kernel
theorem dX12_truncateInput_29 : decode cX12_truncateInput 29 = .ok (.invokespecial 119, 3) := by decide +kernel
theorem dX12_truncateInput_32 : decode cX12_truncateInput 32 = .ok (.athrow, 1) := by decide +kernel
theorem dX12_truncateInput_33 : decode cX12_truncateInput 33 = .ok (.aload_n 2, 1) := by decide +kernel
theorem dX12_truncateInput_34 : decode cX12_truncateInput 34 = .ok (.iload_n 1, 1) := by decide +kernel
theorem dX12_truncateInput_35 : decode cX12_truncateInput 35 = .ok (.invokevirtual 92, 3) := by decide +kernel
theorem dX12_truncateInput_38 : decode cX12_truncateInput 38 = .ok (.aload_n 2, 1) := by decide +kernel
theorem dX12_truncateInput_39 : decode cX12_truncateInput 39 = .ok (.getfield 102, 3) := by decide +kernel
theorem dX12_truncateInput_42 : decode cX12_truncateInput 42 = .ok (.ireturn, 1) := by decide +kernel
theorem dX12_loadSetup_0 : decode cX12_loadSetup 0 = .ok (.aload_n 0, 1) := by decide +kernel
theorem dX12_loadSetup_1 : decode cX12_loadSetup 1 = .ok (.getfield 95, 3) := by decide +kernel
theorem dX12_loadSetup_4 : decode cX12_loadSetup 4 = .ok (.aload_n 0, 1) := by decide +kernel
theorem dX12_loadSetup_5 : decode cX12_loadSetup 5 = .ok (.getfield 26, 3) := by decide +kernel
theorem dX12_loadSetup_8 : decode cX12_loadSetup 8 = .ok (.invokestatic 86, 3) := by decide +kernel
theorem dX12_loadSetup_11 : decode cX12_loadSetup 11 = .ok (.istore_n 1, 1) := by decide +kernel
theorem dX12_loadSetup_12 : decode cX12_loadSetup 12 = .ok (.aload_n 0, 1) := by decide +kernel
theorem dX12_loadSetup_13 : decode cX12_loadSetup 13 = .ok (.getfield 95, 3) := by decide +kernel
theorem dX12_loadSetup_16 : decode cX12_loadSetup 16 = .ok (.getfield 69, 3) := by decide +kernel
theorem dX12_loadSetup_19 : decode cX12_loadSetup 19 = .ok (.getfield 73, 3) := by decide +kernel
theorem dX12_loadSetup_22 : decode cX12_loadSetup 22 = .ok (.iconst 0, 1) := by decide +kernel
theorem dX12_loadSetup_23 : decode cX12_loadSetup 23 = .ok (.invokevirtual 92, 3) := by decide +kernel
theorem dX12_loadSetup_26 : decode cX12_loadSetup 26 = .ok (.iload_n 1, 1) := by decide +kernel
theorem dX12_loadSetup_27 : decode cX12_loadSetup 27 = .ok (.ifCond .ne 5, 3) := by decide +kernel
theorem dX12_loadSetup_30 : decode cX12_loadSetup 30 = .ok (.iconst (-1), 1) := by decide +kernel
theorem dX12_loadSetup_31 : decode cX12_loadSetup 31 = .ok (.ireturn, 1) := by decide +kernel
theorem dX12_loadSetup_32 : decode cX12_loadSetup 32 = .ok (.aload_n 0, 1) := by decide +kernel
theorem dX12_loadSetup_33 : decode cX12_loadSetup 33 = .ok (.getfield 26, 3) := by decide +kernel
theorem dX12_loadSetup_36 : decode cX12_loadSetup 36 = .ok (.aload_n 0, 1) := by decide +kernel
theorem dX12_loadSetup_37 : decode cX12_loadSetup 37 = .ok (.getfield 99, 3) := by decide +kernel
theorem dX12_loadSetup_40 : decode cX12_loadSetup 40 = .ok (.invokestatic 120, 3) := by decide +kernel
theorem dX12_loadSetup_43 : decode cX12_loadSetup 43 = .ok (.aload_n 0, 1) := by decide +kernel
theorem dX12_loadSetup_44 : decode cX12_loadSetup 44 = .ok (.getfield 40, 3) := by decide +kernel
theorem dX12_loadSetup_47 : decode cX12_loadSetup 47 = .ok (.invokevirtual 124, 3) := by decide +kernel
theorem dX12_loadSetup_50 : decode cX12_loadSetup 50 = .ok (.aload_n 0, 1) := by decide +kernel
theorem dX12_loadSetup_51 : decode cX12_loadSetup 51 = .ok (.getfield 99, 3) := by decide +kernel
theorem dX12_loadSetup_54 : decode cX12_loadSetup 54 = .ok (.getfield 127, 3) := by decide +kernel
theorem dX12_loadSetup_57 : decode cX12_loadSetup 57 = .ok (.ireturn, 1) := by decide +kernel
theorem dX12_runScript_0 : decode cX12_runScript 0 = .ok (.aload_n 0, 1) := by decide +kernel
theorem dX12_runScript_1 : decode cX12_runScript 1 = .ok (.getfield 19, 3) := by decide +kernel
theorem dX12_runScript_4 : decode cX12_runScript 4 = .ok (.aload_n 0, 1) := by decide +kernel
theorem dX12_runScript_5 : decode cX12_runScript 5 = .ok (.getfield 95, 3) := by decide +kernel
theorem dX12_runScript_8 : decode cX12_runScript 8 = .ok (.aload_n 0, 1) := by decide +kernel
theorem dX12_runScript_9 : decode cX12_runScript 9 = .ok (.getfield 99, 3) := by decide +kernel
theorem dX12_runScript_12 : decode cX12_runScript 12 = .ok (.invokevirtual 130, 3) := by decide +kernel
theorem dX12_runScript_15 : decode cX12_runScript 15 = .ok (.istore_n 1, 1) := by decide +kernel
theorem dX12_runScript_16 : decode cX12_runScript 16 = .ok (.aload_n 0, 1) := by decide +kernel
theorem dX12_runScript_17 : decode cX12_runScript 17 = .ok (.getfield 95, 3) := by decide +kernel
theorem dX12_runScript_20 : decode cX12_runScript 20 = .ok (.getfield 69, 3) := by decide +kernel
theorem dX12_runScript_23 : decode cX12_runScript 23 = .ok (.getfield 73, 3) := by decide +kernel
theorem dX12_runScript_26 : decode cX12_runScript 26 = .ok (.iconst 0, 1) := by decide +kernel
theorem dX12_runScript_27 : decode cX12_runScript 27 = .ok (.invokevirtual 92, 3) := by decide +kernel
theorem dX12_runScript_30 : decode cX12_runScript 30 = .ok (.iload_n 1, 1) := by decide +kernel
theorem dX12_runScript_31 : decode cX12_runScript 31 = .ok (.ifCond .ne 5, 3) := by decide +kernel
theorem dX12_runScript_34 : decode cX12_runScript 34 = .ok (.iconst (-1), 1) := by decide +kernel
theorem dX12_runScript_35 : decode cX12_runScript 35 = .ok (.ireturn, 1) := by decide +kernel
theorem dX12_runScript_36 : decode cX12_runScript 36 = .ok (.aload_n 0, 1) := by decide +kernel
theorem dX12_runScript_37 : decode cX12_runScript 37 = .ok (.getfield 40, 3) := by decide +kernel
theorem dX12_runScript_40 : decode cX12_runScript 40 = .ok (.aload_n 0, 1) := by decide +kernel
theorem dX12_runScript_41 : decode cX12_runScript 41 = .ok (.getfield 99, 3) := by decide +kernel
theorem dX12_runScript_44 : decode cX12_runScript 44 = .ok (.invokevirtual 131, 3) := by decide +kernel
theorem dX12_runScript_47 : decode cX12_runScript 47 = .ok (.aload_n 0, 1) := by decide +kernel
theorem dX12_runScript_48 : decode cX12_runScript 48 = .ok (.getfield 19, 3) := by decide +kernel
theorem dX12_runScript_51 : decode cX12_runScript 51 = .ok (.aload_n 0, 1) := by decide +kernel
theorem dX12_runScript_52 : decode cX12_runScript 52 = .ok (.getfield 99, 3) := by decide +kernel
theorem dX12_runScript_55 : decode cX12_runScript 55 = .ok (.aload_n 0, 1) := by decide +kernel
theorem dX12_runScript_56 : decode cX12_runScript 56 = .ok (.getfield 47, 3) := by decide +kernel
theorem dX12_runScript_59 : decode cX12_runScript 59 = .ok (.invokevirtual 135, 3) := by decide +kernel
theorem dX12_runScript_62 : decode cX12_runScript 62 = .ok (.ireturn, 1) := by decide +kernel
theorem dX12_errorCode_0 : decode cX12_errorCode 0 = .ok (.aload_n 0, 1) := by decide +kernel
theorem dX12_errorCode_1 : decode cX12_errorCode 1 = .ok (.getfield 95, 3) := by decide +kernel
theorem dX12_errorCode_4 : decode cX12_errorCode 4 = .ok (.getfield 139, 3) := by decide +kernel
theorem dX12_errorCode_7 : decode cX12_errorCode 7 = .ok (.ireturn, 1) := by decide +kernel
theorem dX12_errorPosition_0 : decode cX12_errorPosition 0 = .ok (.aload_n 0, 1) := by decide +kernel
theorem dX12_errorPosition_1 : decode cX12_errorPosition 1 = .ok (.getfield 95, 3) := by decide +kernel
theorem dX12_errorPosition_4 : decode cX12_errorPosition 4 = .ok (.getfield 142, 3) := by decide +kernel
theorem dX12_errorPosition_7 : decode cX12_errorPosition 7 = .ok (.ireturn, 1) := by decide +kernel
theorem dX12_sellerCount_0 : decode cX12_sellerCount 0 = .ok (.aload_n 0, 1) := by decide +kernel
theorem dX12_sellerCount_1 : decode cX12_sellerCount 1 = .ok (.getfield 99, 3) := by decide +kernel
theorem dX12_sellerCount_4 : decode cX12_sellerCount 4 = .ok (.getfield 127, 3) := by decide +kernel
theorem dX12_sellerCount_7 : decode cX12_sellerCount 7 = .ok (.ireturn, 1) := by decide +kernel
theorem dX12_stallCount_0 : decode cX12_stallCount 0 = .ok (.aload_n 0, 1) := by decide +kernel
theorem dX12_stallCount_1 : decode cX12_stallCount 1 = .ok (.getfield 99, 3) := by decide +kernel
theorem dX12_stallCount_4 : decode cX12_stallCount 4 = .ok (.getfield 145, 3) := by decide +kernel
theorem dX12_stallCount_7 : decode cX12_stallCount 7 = .ok (.ireturn, 1) := by decide +kernel
theorem dX12_day_0 : decode cX12_day 0 = .ok (.aload_n 0, 1) := by decide +kernel
theorem dX12_day_1 : decode cX12_day 1 = .ok (.getfield 99, 3) := by decide +kernel
theorem dX12_day_4 : decode cX12_day 4 = .ok (.getfield 148, 3) := by decide +kernel
theorem dX12_day_7 : decode cX12_day 7 = .ok (.ireturn, 1) := by decide +kernel
theorem dX12_balance_0 : decode cX12_balance 0 = .ok (.aload_n 0, 1) := by decide +kernel
theorem dX12_balance_1 : decode cX12_balance 1 = .ok (.iload_n 1, 1) := by decide +kernel
theorem dX12_balance_2 : decode cX12_balance 2 = .ok (.invokevirtual 151, 3) := by decide +kernel
theorem dX12_balance_5 : decode cX12_balance 5 = .ok (.aload_n 0, 1) := by decide +kernel
theorem dX12_balance_6 : decode cX12_balance 6 = .ok (.getfield 99, 3) := by decide +kernel
theorem dX12_balance_9 : decode cX12_balance 9 = .ok (.iload_n 1, 1) := by decide +kernel
theorem dX12_balance_10 : decode cX12_balance 10 = .ok (.invokevirtual 154, 3) := by decide +kernel
theorem dX12_balance_13 : decode cX12_balance 13 = .ok (.ireturn, 1) := by decide +kernel
theorem dX12_income_0 : decode cX12_income 0 = .ok (.aload_n 0, 1) := by decide +kernel
theorem dX12_income_1 : decode cX12_income 1 = .ok (.iload_n 1, 1) := by decide +kernel
theorem dX12_income_2 : decode cX12_income 2 = .ok (.invokevirtual 151, 3) := by decide +kernel
theorem dX12_income_5 : decode cX12_income 5 = .ok (.aload_n 0, 1) := by decide +kernel
theorem dX12_income_6 : decode cX12_income 6 = .ok (.getfield 99, 3) := by decide +kernel
theorem dX12_income_9 : decode cX12_income 9 = .ok (.iload_n 1, 1) := by decide +kernel
theorem dX12_income_10 : decode cX12_income 10 = .ok (.invokevirtual 158, 3) := by decide +kernel
theorem dX12_income_13 : decode cX12_income 13 = .ok (.ireturn, 1) := by decide +kernel
theorem dX12_rent_0 : decode cX12_rent 0 = .ok (.aload_n 0, 1) := by decide +kernel
theorem dX12_rent_1 : decode cX12_rent 1 = .ok (.iload_n 1, 1) := by decide +kernel
theorem dX12_rent_2 : decode cX12_rent 2 = .ok (.invokevirtual 161, 3) := by decide +kernel
theorem dX12_rent_5 : decode cX12_rent 5 = .ok (.aload_n 0, 1) := by decide +kernel
theorem dX12_rent_6 : decode cX12_rent 6 = .ok (.getfield 99, 3) := by decide +kernel
theorem dX12_rent_9 : decode cX12_rent 9 = .ok (.iload_n 1, 1) := by decide +kernel
theorem dX12_rent_10 : decode cX12_rent 10 = .ok (.invokevirtual 164, 3) := by decide +kernel
theorem dX12_rent_13 : decode cX12_rent 13 = .ok (.ireturn, 1) := by decide +kernel
theorem dX12_stallOf_0 : decode cX12_stallOf 0 = .ok (.aload_n 0, 1) := by decide +kernel
theorem dX12_stallOf_1 : decode cX12_stallOf 1 = .ok (.iload_n 1, 1) := by decide +kernel
theorem dX12_stallOf_2 : decode cX12_stallOf 2 = .ok (.invokevirtual 151, 3) := by decide +kernel
theorem dX12_stallOf_5 : decode cX12_stallOf 5 = .ok (.aload_n 0, 1) := by decide +kernel
theorem dX12_stallOf_6 : decode cX12_stallOf 6 = .ok (.getfield 99, 3) := by decide +kernel
theorem dX12_stallOf_9 : decode cX12_stallOf 9 = .ok (.iload_n 1, 1) := by decide +kernel
theorem dX12_stallOf_10 : decode cX12_stallOf 10 = .ok (.invokevirtual 167, 3) := by decide +kernel
theorem dX12_stallOf_13 : decode cX12_stallOf 13 = .ok (.ireturn, 1) := by decide +kernel
theorem dX12_occupantOf_0 : decode cX12_occupantOf 0 = .ok (.aload_n 0, 1) := by decide +kernel
theorem dX12_occupantOf_1 : decode cX12_occupantOf 1 = .ok (.iload_n 1, 1) := by decide +kernel
theorem dX12_occupantOf_2 : decode cX12_occupantOf 2 = .ok (.invokevirtual 161, 3) := by decide +kernel
theorem dX12_occupantOf_5 : decode cX12_occupantOf 5 = .ok (.aload_n 0, 1) := by decide +kernel
theorem dX12_occupantOf_6 : decode cX12_occupantOf 6 = .ok (.getfield 99, 3) := by decide +kernel
theorem dX12_occupantOf_9 : decode cX12_occupantOf 9 = .ok (.iload_n 1, 1) := by decide +kernel
theorem dX12_occupantOf_10 : decode cX12_occupantOf 10 = .ok (.invokevirtual 170, 3) := by decide +kernel
theorem dX12_occupantOf_13 : decode cX12_occupantOf 13 = .ok (.ireturn, 1) := by decide +kernel
theorem dX12_priorityOf_0 : decode cX12_priorityOf 0 = .ok (.aload_n 0, 1) := by decide +kernel
theorem dX12_priorityOf_1 : decode cX12_priorityOf 1 = .ok (.iload_n 1, 1) := by decide +kernel
theorem dX12_priorityOf_2 : decode cX12_priorityOf 2 = .ok (.invokevirtual 151, 3) := by decide +kernel
theorem dX12_priorityOf_5 : decode cX12_priorityOf 5 = .ok (.aload_n 0, 1) := by decide +kernel
theorem dX12_priorityOf_6 : decode cX12_priorityOf 6 = .ok (.getfield 99, 3) := by decide +kernel
theorem dX12_priorityOf_9 : decode cX12_priorityOf 9 = .ok (.iload_n 1, 1) := by decide +kernel
theorem dX12_priorityOf_10 : decode cX12_priorityOf 10 = .ok (.invokevirtual 173, 3) := by decide +kernel
theorem dX12_priorityOf_13 : decode cX12_priorityOf 13 = .ok (.ireturn, 1) := by decide +kernel
theorem dX12_preferenceCount_0 : decode cX12_preferenceCount 0 = .ok (.aload_n 0, 1) := by decide +kernel
theorem dX12_preferenceCount_1 : decode cX12_preferenceCount 1 = .ok (.iload_n 1, 1) := by decide +kernel
theorem dX12_preferenceCount_2 : decode cX12_preferenceCount 2 = .ok (.invokevirtual 151, 3) := by decide +kernel
theorem dX12_preferenceCount_5 : decode cX12_preferenceCount 5 = .ok (.aload_n 0, 1) := by decide +kernel
theorem dX12_preferenceCount_6 : decode cX12_preferenceCount 6 = .ok (.getfield 99, 3) := by decide +kernel
theorem dX12_preferenceCount_9 : decode cX12_preferenceCount 9 = .ok (.iload_n 1, 1) := by decide +kernel
theorem dX12_preferenceCount_10 : decode cX12_preferenceCount 10 = .ok (.invokevirtual 176, 3) := by decide +kernel
theorem dX12_preferenceCount_13 : decode cX12_preferenceCount 13 = .ok (.ireturn, 1) := by decide +kernel
theorem dX12_preferenceAt_0 : decode cX12_preferenceAt 0 = .ok (.aload_n 0, 1) := by decide +kernel
theorem dX12_preferenceAt_1 : decode cX12_preferenceAt 1 = .ok (.iload_n 1, 1) := by decide +kernel
theorem dX12_preferenceAt_2 : decode cX12_preferenceAt 2 = .ok (.invokevirtual 151, 3) := by decide +kernel
theorem dX12_preferenceAt_5 : decode cX12_preferenceAt 5 = .ok (.iload_n 2, 1) := by decide +kernel
theorem dX12_preferenceAt_6 : decode cX12_preferenceAt 6 = .ok (.ifCond .lt 15, 3) := by decide +kernel
theorem dX12_preferenceAt_9 : decode cX12_preferenceAt 9 = .ok (.iload_n 2, 1) := by decide +kernel
theorem dX12_preferenceAt_10 : decode cX12_preferenceAt 10 = .ok (.aload_n 0, 1) := by decide +kernel
theorem dX12_preferenceAt_11 : decode cX12_preferenceAt 11 = .ok (.getfield 99, 3) := by decide +kernel
theorem dX12_preferenceAt_14 : decode cX12_preferenceAt 14 = .ok (.iload_n 1, 1) := by decide +kernel
theorem dX12_preferenceAt_15 : decode cX12_preferenceAt 15 = .ok (.invokevirtual 176, 3) := by decide +kernel
theorem dX12_preferenceAt_18 : decode cX12_preferenceAt 18 = .ok (.if_icmp .lt 13, 3) := by decide +kernel
theorem dX12_preferenceAt_21 : decode cX12_preferenceAt 21 = .ok (.new 179, 3) := by decide +kernel
theorem dX12_preferenceAt_24 : decode cX12_preferenceAt 24 = .ok (.dup, 1) := by decide +kernel
theorem dX12_preferenceAt_25 : decode cX12_preferenceAt 25 = .ok (.ldc 181, 2) := by decide +kernel
theorem dX12_preferenceAt_27 : decode cX12_preferenceAt 27 = .ok (.invokespecial 183, 3) := by decide +kernel
theorem dX12_preferenceAt_30 : decode cX12_preferenceAt 30 = .ok (.athrow, 1) := by decide +kernel
theorem dX12_preferenceAt_31 : decode cX12_preferenceAt 31 = .ok (.aload_n 0, 1) := by decide +kernel
theorem dX12_preferenceAt_32 : decode cX12_preferenceAt 32 = .ok (.getfield 99, 3) := by decide +kernel
theorem dX12_preferenceAt_35 : decode cX12_preferenceAt 35 = .ok (.iload_n 1, 1) := by decide +kernel
theorem dX12_preferenceAt_36 : decode cX12_preferenceAt 36 = .ok (.iload_n 2, 1) := by decide +kernel
theorem dX12_preferenceAt_37 : decode cX12_preferenceAt 37 = .ok (.invokevirtual 184, 3) := by decide +kernel
theorem dX12_preferenceAt_40 : decode cX12_preferenceAt 40 = .ok (.ireturn, 1) := by decide +kernel
theorem dX12_rankOf_0 : decode cX12_rankOf 0 = .ok (.aload_n 0, 1) := by decide +kernel
theorem dX12_rankOf_1 : decode cX12_rankOf 1 = .ok (.iload_n 1, 1) := by decide +kernel
theorem dX12_rankOf_2 : decode cX12_rankOf 2 = .ok (.invokevirtual 151, 3) := by decide +kernel
theorem dX12_rankOf_5 : decode cX12_rankOf 5 = .ok (.aload_n 0, 1) := by decide +kernel
theorem dX12_rankOf_6 : decode cX12_rankOf 6 = .ok (.iload_n 2, 1) := by decide +kernel
theorem dX12_rankOf_7 : decode cX12_rankOf 7 = .ok (.invokevirtual 161, 3) := by decide +kernel
theorem dX12_rankOf_10 : decode cX12_rankOf 10 = .ok (.aload_n 0, 1) := by decide +kernel
theorem dX12_rankOf_11 : decode cX12_rankOf 11 = .ok (.getfield 99, 3) := by decide +kernel
theorem dX12_rankOf_14 : decode cX12_rankOf 14 = .ok (.iload_n 1, 1) := by decide +kernel
theorem dX12_rankOf_15 : decode cX12_rankOf 15 = .ok (.iload_n 2, 1) := by decide +kernel
theorem dX12_rankOf_16 : decode cX12_rankOf 16 = .ok (.invokevirtual 188, 3) := by decide +kernel
theorem dX12_rankOf_19 : decode cX12_rankOf 19 = .ok (.ireturn, 1) := by decide +kernel
theorem dX12_prefers_0 : decode cX12_prefers 0 = .ok (.aload_n 0, 1) := by decide +kernel
theorem dX12_prefers_1 : decode cX12_prefers 1 = .ok (.iload_n 1, 1) := by decide +kernel
theorem dX12_prefers_2 : decode cX12_prefers 2 = .ok (.invokevirtual 151, 3) := by decide +kernel
theorem dX12_prefers_5 : decode cX12_prefers 5 = .ok (.iload_n 2, 1) := by decide +kernel
theorem dX12_prefers_6 : decode cX12_prefers 6 = .ok (.iconst (-1), 1) := by decide +kernel
theorem dX12_prefers_7 : decode cX12_prefers 7 = .ok (.if_icmp .eq 8, 3) := by decide +kernel
theorem dX12_prefers_10 : decode cX12_prefers 10 = .ok (.aload_n 0, 1) := by decide +kernel
theorem dX12_prefers_11 : decode cX12_prefers 11 = .ok (.iload_n 2, 1) := by decide +kernel
theorem dX12_prefers_12 : decode cX12_prefers 12 = .ok (.invokevirtual 161, 3) := by decide +kernel
theorem dX12_prefers_15 : decode cX12_prefers 15 = .ok (.iload_n 3, 1) := by decide +kernel
theorem dX12_prefers_16 : decode cX12_prefers 16 = .ok (.iconst (-1), 1) := by decide +kernel
theorem dX12_prefers_17 : decode cX12_prefers 17 = .ok (.if_icmp .eq 8, 3) := by decide +kernel
theorem dX12_prefers_20 : decode cX12_prefers 20 = .ok (.aload_n 0, 1) := by decide +kernel
theorem dX12_prefers_21 : decode cX12_prefers 21 = .ok (.iload_n 3, 1) := by decide +kernel
theorem dX12_prefers_22 : decode cX12_prefers 22 = .ok (.invokevirtual 161, 3) := by decide +kernel
theorem dX12_prefers_25 : decode cX12_prefers 25 = .ok (.aload_n 0, 1) := by decide +kernel
theorem dX12_prefers_26 : decode cX12_prefers 26 = .ok (.getfield 99, 3) := by decide +kernel
theorem dX12_prefers_29 : decode cX12_prefers 29 = .ok (.iload_n 1, 1) := by decide +kernel
theorem dX12_prefers_30 : decode cX12_prefers 30 = .ok (.iload_n 2, 1) := by decide +kernel
theorem dX12_prefers_31 : decode cX12_prefers 31 = .ok (.iload_n 3, 1) := by decide +kernel
theorem dX12_prefers_32 : decode cX12_prefers 32 = .ok (.invokevirtual 191, 3) := by decide +kernel
theorem dX12_prefers_35 : decode cX12_prefers 35 = .ok (.ireturn, 1) := by decide +kernel
theorem dX12_sellerNameByte_0 : decode cX12_sellerNameByte 0 = .ok (.aload_n 0, 1) := by decide +kernel
theorem dX12_sellerNameByte_1 : decode cX12_sellerNameByte 1 = .ok (.iload_n 1, 1) := by decide +kernel
theorem dX12_sellerNameByte_2 : decode cX12_sellerNameByte 2 = .ok (.invokevirtual 151, 3) := by decide +kernel
theorem dX12_sellerNameByte_5 : decode cX12_sellerNameByte 5 = .ok (.aload_n 0, 1) := by decide +kernel
theorem dX12_sellerNameByte_6 : decode cX12_sellerNameByte 6 = .ok (.getfield 99, 3) := by decide +kernel
theorem dX12_sellerNameByte_9 : decode cX12_sellerNameByte 9 = .ok (.iload_n 1, 1) := by decide +kernel
theorem dX12_sellerNameByte_10 : decode cX12_sellerNameByte 10 = .ok (.invokevirtual 195, 3) := by decide +kernel
theorem dX12_sellerNameByte_13 : decode cX12_sellerNameByte 13 = .ok (.iload_n 2, 1) := by decide +kernel
theorem dX12_sellerNameByte_14 : decode cX12_sellerNameByte 14 = .ok (.invokestatic 199, 3) := by decide +kernel
theorem dX12_sellerNameByte_17 : decode cX12_sellerNameByte 17 = .ok (.ireturn, 1) := by decide +kernel
theorem dX12_stallNameByte_0 : decode cX12_stallNameByte 0 = .ok (.aload_n 0, 1) := by decide +kernel
theorem dX12_stallNameByte_1 : decode cX12_stallNameByte 1 = .ok (.iload_n 1, 1) := by decide +kernel
theorem dX12_stallNameByte_2 : decode cX12_stallNameByte 2 = .ok (.invokevirtual 161, 3) := by decide +kernel
theorem dX12_stallNameByte_5 : decode cX12_stallNameByte 5 = .ok (.aload_n 0, 1) := by decide +kernel
theorem dX12_stallNameByte_6 : decode cX12_stallNameByte 6 = .ok (.getfield 99, 3) := by decide +kernel
theorem dX12_stallNameByte_9 : decode cX12_stallNameByte 9 = .ok (.iload_n 1, 1) := by decide +kernel
theorem dX12_stallNameByte_10 : decode cX12_stallNameByte 10 = .ok (.invokevirtual 203, 3) := by decide +kernel
theorem dX12_stallNameByte_13 : decode cX12_stallNameByte 13 = .ok (.iload_n 2, 1) := by decide +kernel
theorem dX12_stallNameByte_14 : decode cX12_stallNameByte 14 = .ok (.invokestatic 199, 3) := by decide +kernel
theorem dX12_stallNameByte_17 : decode cX12_stallNameByte 17 = .ok (.ireturn, 1) := by decide +kernel
theorem dX12_findSeller_0 : decode cX12_findSeller 0 = .ok (.aload_n 0, 1) := by decide +kernel
theorem dX12_findSeller_1 : decode cX12_findSeller 1 = .ok (.getfield 95, 3) := by decide +kernel
theorem dX12_findSeller_4 : decode cX12_findSeller 4 = .ok (.getfield 69, 3) := by decide +kernel
theorem dX12_findSeller_7 : decode cX12_findSeller 7 = .ok (.astore_n 1, 1) := by decide +kernel
theorem dX12_findSeller_8 : decode cX12_findSeller 8 = .ok (.aload_n 1, 1) := by decide +kernel
theorem dX12_findSeller_9 : decode cX12_findSeller 9 = .ok (.invokevirtual 206, 3) := by decide +kernel
theorem dX12_findSeller_12 : decode cX12_findSeller 12 = .ok (.aload_n 1, 1) := by decide +kernel
theorem dX12_findSeller_13 : decode cX12_findSeller 13 = .ok (.getfield 209, 3) := by decide +kernel
theorem dX12_findSeller_16 : decode cX12_findSeller 16 = .ok (.ifCond .ne 21, 3) := by decide +kernel
theorem dX12_findSeller_19 : decode cX12_findSeller 19 = .ok (.aload_n 1, 1) := by decide +kernel
theorem dX12_findSeller_20 : decode cX12_findSeller 20 = .ok (.getfield 212, 3) := by decide +kernel
theorem dX12_findSeller_23 : decode cX12_findSeller 23 = .ok (.aload_n 1, 1) := by decide +kernel
theorem dX12_findSeller_24 : decode cX12_findSeller 24 = .ok (.getfield 73, 3) := by decide +kernel
theorem dX12_findSeller_27 : decode cX12_findSeller 27 = .ok (.getfield 102, 3) := by decide +kernel
theorem dX12_findSeller_30 : decode cX12_findSeller 30 = .ok (.if_icmp .ne 7, 3) := by decide +kernel
theorem dX12_findSeller_33 : decode cX12_findSeller 33 = .ok (.iconst 1, 1) := by decide +kernel
theorem dX12_findSeller_34 : decode cX12_findSeller 34 = .ok (.goto 4, 3) := by decide +kernel
theorem dX12_findSeller_37 : decode cX12_findSeller 37 = .ok (.iconst 0, 1) := by decide +kernel
theorem dX12_findSeller_38 : decode cX12_findSeller 38 = .ok (.istore_n 2, 1) := by decide +kernel
theorem dX12_findSeller_39 : decode cX12_findSeller 39 = .ok (.iload_n 2, 1) := by decide +kernel
theorem dX12_findSeller_40 : decode cX12_findSeller 40 = .ok (.ifCond .eq 17, 3) := by decide +kernel
theorem dX12_findSeller_43 : decode cX12_findSeller 43 = .ok (.aload_n 0, 1) := by decide +kernel
theorem dX12_findSeller_44 : decode cX12_findSeller 44 = .ok (.getfield 99, 3) := by decide +kernel
theorem dX12_findSeller_47 : decode cX12_findSeller 47 = .ok (.aload_n 1, 1) := by decide +kernel
theorem dX12_findSeller_48 : decode cX12_findSeller 48 = .ok (.getfield 215, 3) := by decide +kernel
theorem dX12_findSeller_51 : decode cX12_findSeller 51 = .ok (.invokevirtual 219, 3) := by decide +kernel
theorem dX12_findSeller_54 : decode cX12_findSeller 54 = .ok (.goto 4, 3) := by decide +kernel
theorem dX12_findSeller_57 : decode cX12_findSeller 57 = .ok (.iconst (-1), 1) := by decide +kernel
theorem dX12_findSeller_58 : decode cX12_findSeller 58 = .ok (.ireturn, 1) := by decide +kernel
theorem dX12_freeStallCount_0 : decode cX12_freeStallCount 0 = .ok (.aload_n 0, 1) := by decide +kernel
theorem dX12_freeStallCount_1 : decode cX12_freeStallCount 1 = .ok (.getfield 99, 3) := by decide +kernel
theorem dX12_freeStallCount_4 : decode cX12_freeStallCount 4 = .ok (.getfield 145, 3) := by decide +kernel
theorem dX12_freeStallCount_7 : decode cX12_freeStallCount 7 = .ok (.aload_n 0, 1) := by decide +kernel
theorem dX12_freeStallCount_8 : decode cX12_freeStallCount 8 = .ok (.getfield 99, 3) := by decide +kernel
theorem dX12_freeStallCount_11 : decode cX12_freeStallCount 11 = .ok (.invokevirtual 223, 3) := by decide +kernel
theorem dX12_freeStallCount_14 : decode cX12_freeStallCount 14 = .ok (.isub, 1) := by decide +kernel
theorem dX12_freeStallCount_15 : decode cX12_freeStallCount 15 = .ok (.ireturn, 1) := by decide +kernel
theorem dX12_envies_0 : decode cX12_envies 0 = .ok (.aload_n 0, 1) := by decide +kernel
theorem dX12_envies_1 : decode cX12_envies 1 = .ok (.iload_n 1, 1) := by decide +kernel
theorem dX12_envies_2 : decode cX12_envies 2 = .ok (.invokevirtual 151, 3) := by decide +kernel
theorem dX12_envies_5 : decode cX12_envies 5 = .ok (.aload_n 0, 1) := by decide +kernel
theorem dX12_envies_6 : decode cX12_envies 6 = .ok (.iload_n 2, 1) := by decide +kernel
theorem dX12_envies_7 : decode cX12_envies 7 = .ok (.invokevirtual 151, 3) := by decide +kernel
theorem dX12_envies_10 : decode cX12_envies 10 = .ok (.aload_n 0, 1) := by decide +kernel
theorem dX12_envies_11 : decode cX12_envies 11 = .ok (.getfield 99, 3) := by decide +kernel
theorem dX12_envies_14 : decode cX12_envies 14 = .ok (.iload_n 1, 1) := by decide +kernel
theorem dX12_envies_15 : decode cX12_envies 15 = .ok (.iload_n 2, 1) := by decide +kernel
theorem dX12_envies_16 : decode cX12_envies 16 = .ok (.invokestatic 226, 3) := by decide +kernel
theorem dX12_envies_19 : decode cX12_envies 19 = .ok (.ireturn, 1) := by decide +kernel
theorem dX12_wouldSwap_0 : decode cX12_wouldSwap 0 = .ok (.aload_n 0, 1) := by decide +kernel
theorem dX12_wouldSwap_1 : decode cX12_wouldSwap 1 = .ok (.iload_n 1, 1) := by decide +kernel
theorem dX12_wouldSwap_2 : decode cX12_wouldSwap 2 = .ok (.invokevirtual 151, 3) := by decide +kernel
theorem dX12_wouldSwap_5 : decode cX12_wouldSwap 5 = .ok (.aload_n 0, 1) := by decide +kernel
theorem dX12_wouldSwap_6 : decode cX12_wouldSwap 6 = .ok (.iload_n 2, 1) := by decide +kernel
theorem dX12_wouldSwap_7 : decode cX12_wouldSwap 7 = .ok (.invokevirtual 151, 3) := by decide +kernel
theorem dX12_wouldSwap_10 : decode cX12_wouldSwap 10 = .ok (.aload_n 0, 1) := by decide +kernel
theorem dX12_wouldSwap_11 : decode cX12_wouldSwap 11 = .ok (.getfield 99, 3) := by decide +kernel
theorem dX12_wouldSwap_14 : decode cX12_wouldSwap 14 = .ok (.iload_n 1, 1) := by decide +kernel
theorem dX12_wouldSwap_15 : decode cX12_wouldSwap 15 = .ok (.iload_n 2, 1) := by decide +kernel
theorem dX12_wouldSwap_16 : decode cX12_wouldSwap 16 = .ok (.invokestatic 232, 3) := by decide +kernel
theorem dX12_wouldSwap_19 : decode cX12_wouldSwap 19 = .ok (.ireturn, 1) := by decide +kernel
theorem dX12_swapPairCount_0 : decode cX12_swapPairCount 0 = .ok (.aload_n 0, 1) := by decide +kernel
theorem dX12_swapPairCount_1 : decode cX12_swapPairCount 1 = .ok (.getfield 99, 3) := by decide +kernel
theorem dX12_swapPairCount_4 : decode cX12_swapPairCount 4 = .ok (.invokestatic 235, 3) := by decide +kernel
theorem dX12_swapPairCount_7 : decode cX12_swapPairCount 7 = .ok (.ireturn, 1) := by decide +kernel
theorem dX12_improvingCycleLength_0 : decode cX12_improvingCycleLength 0 = .ok (.aload_n 0, 1) := by decide +kernel
theorem dX12_improvingCycleLength_1 : decode cX12_improvingCycleLength 1 = .ok (.iload_n 1, 1) := by decide +kernel
theorem dX12_improvingCycleLength_2 : decode cX12_improvingCycleLength 2 = .ok (.invokevirtual 151, 3) := by decide +kernel
theorem dX12_improvingCycleLength_5 : decode cX12_improvingCycleLength 5 = .ok (.aload_n 0, 1) := by decide +kernel
theorem dX12_improvingCycleLength_6 : decode cX12_improvingCycleLength 6 = .ok (.getfield 99, 3) := by decide +kernel
theorem dX12_improvingCycleLength_9 : decode cX12_improvingCycleLength 9 = .ok (.iload_n 1, 1) := by decide +kernel
theorem dX12_improvingCycleLength_10 : decode cX12_improvingCycleLength 10 = .ok (.invokestatic 239, 3) := by decide +kernel
theorem dX12_improvingCycleLength_13 : decode cX12_improvingCycleLength 13 = .ok (.ireturn, 1) := by decide +kernel
theorem dX12_betterFreeStall_0 : decode cX12_betterFreeStall 0 = .ok (.aload_n 0, 1) := by decide +kernel
theorem dX12_betterFreeStall_1 : decode cX12_betterFreeStall 1 = .ok (.iload_n 1, 1) := by decide +kernel
theorem dX12_betterFreeStall_2 : decode cX12_betterFreeStall 2 = .ok (.invokevirtual 151, 3) := by decide +kernel
theorem dX12_betterFreeStall_5 : decode cX12_betterFreeStall 5 = .ok (.aload_n 0, 1) := by decide +kernel
theorem dX12_betterFreeStall_6 : decode cX12_betterFreeStall 6 = .ok (.getfield 99, 3) := by decide +kernel
theorem dX12_betterFreeStall_9 : decode cX12_betterFreeStall 9 = .ok (.iload_n 1, 1) := by decide +kernel
theorem dX12_betterFreeStall_10 : decode cX12_betterFreeStall 10 = .ok (.invokestatic 243, 3) := by decide +kernel
theorem dX12_betterFreeStall_13 : decode cX12_betterFreeStall 13 = .ok (.ireturn, 1) := by decide +kernel
theorem dX12_isEfficient_0 : decode cX12_isEfficient 0 = .ok (.aload_n 0, 1) := by decide +kernel
theorem dX12_isEfficient_1 : decode cX12_isEfficient 1 = .ok (.getfield 99, 3) := by decide +kernel
theorem dX12_isEfficient_4 : decode cX12_isEfficient 4 = .ok (.invokestatic 246, 3) := by decide +kernel
theorem dX12_isEfficient_7 : decode cX12_isEfficient 7 = .ok (.ifCond .ne 7, 3) := by decide +kernel
theorem dX12_isEfficient_10 : decode cX12_isEfficient 10 = .ok (.iconst 1, 1) := by decide +kernel
theorem dX12_isEfficient_11 : decode cX12_isEfficient 11 = .ok (.goto 4, 3) := by decide +kernel
theorem dX12_isEfficient_14 : decode cX12_isEfficient 14 = .ok (.iconst 0, 1) := by decide +kernel
theorem dX12_isEfficient_15 : decode cX12_isEfficient 15 = .ok (.ireturn, 1) := by decide +kernel
theorem dX12_blockReason_0 : decode cX12_blockReason 0 = .ok (.aload_n 0, 1) := by decide +kernel
theorem dX12_blockReason_1 : decode cX12_blockReason 1 = .ok (.iload_n 1, 1) := by decide +kernel
theorem dX12_blockReason_2 : decode cX12_blockReason 2 = .ok (.invokevirtual 151, 3) := by decide +kernel
theorem dX12_blockReason_5 : decode cX12_blockReason 5 = .ok (.aload_n 0, 1) := by decide +kernel
theorem dX12_blockReason_6 : decode cX12_blockReason 6 = .ok (.iload_n 2, 1) := by decide +kernel
theorem dX12_blockReason_7 : decode cX12_blockReason 7 = .ok (.invokevirtual 161, 3) := by decide +kernel
theorem dX12_blockReason_10 : decode cX12_blockReason 10 = .ok (.aload_n 0, 1) := by decide +kernel
theorem dX12_blockReason_11 : decode cX12_blockReason 11 = .ok (.getfield 99, 3) := by decide +kernel
theorem dX12_blockReason_14 : decode cX12_blockReason 14 = .ok (.iload_n 1, 1) := by decide +kernel
theorem dX12_blockReason_15 : decode cX12_blockReason 15 = .ok (.invokevirtual 167, 3) := by decide +kernel
theorem dX12_blockReason_18 : decode cX12_blockReason 18 = .ok (.istore_n 3, 1) := by decide +kernel
theorem dX12_blockReason_19 : decode cX12_blockReason 19 = .ok (.iload_n 3, 1) := by decide +kernel
theorem dX12_blockReason_20 : decode cX12_blockReason 20 = .ok (.iload_n 2, 1) := by decide +kernel
theorem dX12_blockReason_21 : decode cX12_blockReason 21 = .ok (.if_icmp .ne 5, 3) := by decide +kernel
theorem dX12_blockReason_24 : decode cX12_blockReason 24 = .ok (.iconst 0, 1) := by decide +kernel
theorem dX12_blockReason_25 : decode cX12_blockReason 25 = .ok (.ireturn, 1) := by decide +kernel
theorem dX12_blockReason_26 : decode cX12_blockReason 26 = .ok (.aload_n 0, 1) := by decide +kernel
theorem dX12_blockReason_27 : decode cX12_blockReason 27 = .ok (.getfield 99, 3) := by decide +kernel
theorem dX12_blockReason_30 : decode cX12_blockReason 30 = .ok (.iload_n 1, 1) := by decide +kernel
theorem dX12_blockReason_31 : decode cX12_blockReason 31 = .ok (.iload_n 2, 1) := by decide +kernel
theorem dX12_blockReason_32 : decode cX12_blockReason 32 = .ok (.invokevirtual 188, 3) := by decide +kernel
theorem dX12_blockReason_35 : decode cX12_blockReason 35 = .ok (.iconst (-1), 1) := by decide +kernel
theorem dX12_blockReason_36 : decode cX12_blockReason 36 = .ok (.if_icmp .ne 5, 3) := by decide +kernel
theorem dX12_blockReason_39 : decode cX12_blockReason 39 = .ok (.iconst 1, 1) := by decide +kernel
theorem dX12_blockReason_40 : decode cX12_blockReason 40 = .ok (.ireturn, 1) := by decide +kernel
theorem dX12_blockReason_41 : decode cX12_blockReason 41 = .ok (.iload_n 3, 1) := by decide +kernel
theorem dX12_blockReason_42 : decode cX12_blockReason 42 = .ok (.iconst (-1), 1) := by decide +kernel
theorem dX12_blockReason_43 : decode cX12_blockReason 43 = .ok (.if_icmp .eq 18, 3) := by decide +kernel
theorem dX12_blockReason_46 : decode cX12_blockReason 46 = .ok (.aload_n 0, 1) := by decide +kernel
theorem dX12_blockReason_47 : decode cX12_blockReason 47 = .ok (.getfield 99, 3) := by decide +kernel
theorem dX12_blockReason_50 : decode cX12_blockReason 50 = .ok (.iload_n 1, 1) := by decide +kernel
theorem dX12_blockReason_51 : decode cX12_blockReason 51 = .ok (.iload_n 3, 1) := by decide +kernel
theorem dX12_blockReason_52 : decode cX12_blockReason 52 = .ok (.iload_n 2, 1) := by decide +kernel
theorem dX12_blockReason_53 : decode cX12_blockReason 53 = .ok (.invokevirtual 191, 3) := by decide +kernel
theorem dX12_blockReason_56 : decode cX12_blockReason 56 = .ok (.ifCond .eq 5, 3) := by decide +kernel
theorem dX12_blockReason_59 : decode cX12_blockReason 59 = .ok (.iconst 2, 1) := by decide +kernel
theorem dX12_blockReason_60 : decode cX12_blockReason 60 = .ok (.ireturn, 1) := by decide +kernel
theorem dX12_blockReason_61 : decode cX12_blockReason 61 = .ok (.aload_n 0, 1) := by decide +kernel
theorem dX12_blockReason_62 : decode cX12_blockReason 62 = .ok (.getfield 99, 3) := by decide +kernel
theorem dX12_blockReason_65 : decode cX12_blockReason 65 = .ok (.iload_n 2, 1) := by decide +kernel
theorem dX12_blockReason_66 : decode cX12_blockReason 66 = .ok (.invokevirtual 170, 3) := by decide +kernel
theorem dX12_blockReason_69 : decode cX12_blockReason 69 = .ok (.iconst (-1), 1) := by decide +kernel
theorem dX12_blockReason_70 : decode cX12_blockReason 70 = .ok (.if_icmp .eq 5, 3) := by decide +kernel
theorem dX12_blockReason_73 : decode cX12_blockReason 73 = .ok (.iconst 3, 1) := by decide +kernel
theorem dX12_blockReason_74 : decode cX12_blockReason 74 = .ok (.ireturn, 1) := by decide +kernel
theorem dX12_blockReason_75 : decode cX12_blockReason 75 = .ok (.aload_n 0, 1) := by decide +kernel
theorem dX12_blockReason_76 : decode cX12_blockReason 76 = .ok (.getfield 99, 3) := by decide +kernel
theorem dX12_blockReason_79 : decode cX12_blockReason 79 = .ok (.iload_n 2, 1) := by decide +kernel
theorem dX12_blockReason_80 : decode cX12_blockReason 80 = .ok (.invokevirtual 164, 3) := by decide +kernel
theorem dX12_blockReason_83 : decode cX12_blockReason 83 = .ok (.aload_n 0, 1) := by decide +kernel
theorem dX12_blockReason_84 : decode cX12_blockReason 84 = .ok (.getfield 99, 3) := by decide +kernel
theorem dX12_blockReason_87 : decode cX12_blockReason 87 = .ok (.iload_n 1, 1) := by decide +kernel
theorem dX12_blockReason_88 : decode cX12_blockReason 88 = .ok (.invokevirtual 154, 3) := by decide +kernel
theorem dX12_blockReason_91 : decode cX12_blockReason 91 = .ok (.if_icmp .le 7, 3) := by decide +kernel
theorem dX12_blockReason_94 : decode cX12_blockReason 94 = .ok (.iconst 4, 1) := by decide +kernel
theorem dX12_blockReason_95 : decode cX12_blockReason 95 = .ok (.goto 4, 3) := by decide +kernel
theorem dX12_blockReason_98 : decode cX12_blockReason 98 = .ok (.iconst 5, 1) := by decide +kernel
theorem dX12_blockReason_99 : decode cX12_blockReason 99 = .ok (.ireturn, 1) := by decide +kernel
theorem dX12_allocatedStall_0 : decode cX12_allocatedStall 0 = .ok (.aload_n 0, 1) := by decide +kernel
theorem dX12_allocatedStall_1 : decode cX12_allocatedStall 1 = .ok (.iload_n 1, 1) := by decide +kernel
theorem dX12_allocatedStall_2 : decode cX12_allocatedStall 2 = .ok (.invokevirtual 151, 3) := by decide +kernel
theorem dX12_allocatedStall_5 : decode cX12_allocatedStall 5 = .ok (.aload_n 0, 1) := by decide +kernel
theorem dX12_allocatedStall_6 : decode cX12_allocatedStall 6 = .ok (.getfield 47, 3) := by decide +kernel
theorem dX12_allocatedStall_9 : decode cX12_allocatedStall 9 = .ok (.aload_n 0, 1) := by decide +kernel
theorem dX12_allocatedStall_10 : decode cX12_allocatedStall 10 = .ok (.getfield 99, 3) := by decide +kernel
theorem dX12_allocatedStall_13 : decode cX12_allocatedStall 13 = .ok (.invokevirtual 250, 3) := by decide +kernel
theorem dX12_allocatedStall_16 : decode cX12_allocatedStall 16 = .ok (.aload_n 0, 1) := by decide +kernel
theorem dX12_allocatedStall_17 : decode cX12_allocatedStall 17 = .ok (.getfield 47, 3) := by decide +kernel
theorem dX12_allocatedStall_20 : decode cX12_allocatedStall 20 = .ok (.iload_n 1, 1) := by decide +kernel
theorem dX12_allocatedStall_21 : decode cX12_allocatedStall 21 = .ok (.invokevirtual 253, 3) := by decide +kernel
theorem dX12_allocatedStall_24 : decode cX12_allocatedStall 24 = .ok (.ireturn, 1) := by decide +kernel
theorem dX12_allocatedIfFirst_0 : decode cX12_allocatedIfFirst 0 = .ok (.aload_n 0, 1) := by decide +kernel
theorem dX12_allocatedIfFirst_1 : decode cX12_allocatedIfFirst 1 = .ok (.iload_n 1, 1) := by decide +kernel
theorem dX12_allocatedIfFirst_2 : decode cX12_allocatedIfFirst 2 = .ok (.invokevirtual 151, 3) := by decide +kernel
theorem dX12_allocatedIfFirst_5 : decode cX12_allocatedIfFirst 5 = .ok (.aload_n 0, 1) := by decide +kernel
theorem dX12_allocatedIfFirst_6 : decode cX12_allocatedIfFirst 6 = .ok (.getfield 99, 3) := by decide +kernel
theorem dX12_allocatedIfFirst_9 : decode cX12_allocatedIfFirst 9 = .ok (.aload_n 0, 1) := by decide +kernel
theorem dX12_allocatedIfFirst_10 : decode cX12_allocatedIfFirst 10 = .ok (.getfield 26, 3) := by decide +kernel
theorem dX12_allocatedIfFirst_13 : decode cX12_allocatedIfFirst 13 = .ok (.invokestatic 120, 3) := by decide +kernel
theorem dX12_allocatedIfFirst_16 : decode cX12_allocatedIfFirst 16 = .ok (.aload_n 0, 1) := by decide +kernel
theorem dX12_allocatedIfFirst_17 : decode cX12_allocatedIfFirst 17 = .ok (.getfield 26, 3) := by decide +kernel
theorem dX12_allocatedIfFirst_20 : decode cX12_allocatedIfFirst 20 = .ok (.iload_n 1, 1) := by decide +kernel
theorem dX12_allocatedIfFirst_21 : decode cX12_allocatedIfFirst 21 = .ok (.iconst 0, 1) := by decide +kernel
theorem dX12_allocatedIfFirst_22 : decode cX12_allocatedIfFirst 22 = .ok (.invokevirtual 256, 3) := by decide +kernel
theorem dX12_allocatedIfFirst_25 : decode cX12_allocatedIfFirst 25 = .ok (.aload_n 0, 1) := by decide +kernel
theorem dX12_allocatedIfFirst_26 : decode cX12_allocatedIfFirst 26 = .ok (.getfield 47, 3) := by decide +kernel
theorem dX12_allocatedIfFirst_29 : decode cX12_allocatedIfFirst 29 = .ok (.aload_n 0, 1) := by decide +kernel
theorem dX12_allocatedIfFirst_30 : decode cX12_allocatedIfFirst 30 = .ok (.getfield 26, 3) := by decide +kernel
theorem dX12_allocatedIfFirst_33 : decode cX12_allocatedIfFirst 33 = .ok (.invokevirtual 250, 3) := by decide +kernel
theorem dX12_allocatedIfFirst_36 : decode cX12_allocatedIfFirst 36 = .ok (.aload_n 0, 1) := by decide +kernel
theorem dX12_allocatedIfFirst_37 : decode cX12_allocatedIfFirst 37 = .ok (.getfield 47, 3) := by decide +kernel
theorem dX12_allocatedIfFirst_40 : decode cX12_allocatedIfFirst 40 = .ok (.iload_n 1, 1) := by decide +kernel
theorem dX12_allocatedIfFirst_41 : decode cX12_allocatedIfFirst 41 = .ok (.invokevirtual 253, 3) := by decide +kernel
theorem dX12_allocatedIfFirst_44 : decode cX12_allocatedIfFirst 44 = .ok (.ireturn, 1) := by decide +kernel
theorem dX12_allocatedIfReported_0 : decode cX12_allocatedIfReported 0 = .ok (.aload_n 0, 1) := by decide +kernel
theorem dX12_allocatedIfReported_1 : decode cX12_allocatedIfReported 1 = .ok (.iload_n 1, 1) := by decide +kernel
theorem dX12_allocatedIfReported_2 : decode cX12_allocatedIfReported 2 = .ok (.invokevirtual 151, 3) := by decide +kernel
theorem dX12_allocatedIfReported_5 : decode cX12_allocatedIfReported 5 = .ok (.aload_n 0, 1) := by decide +kernel
theorem dX12_allocatedIfReported_6 : decode cX12_allocatedIfReported 6 = .ok (.iload_n 2, 1) := by decide +kernel
theorem dX12_allocatedIfReported_7 : decode cX12_allocatedIfReported 7 = .ok (.invokevirtual 161, 3) := by decide +kernel
theorem dX12_allocatedIfReported_10 : decode cX12_allocatedIfReported 10 = .ok (.aload_n 0, 1) := by decide +kernel
theorem dX12_allocatedIfReported_11 : decode cX12_allocatedIfReported 11 = .ok (.getfield 99, 3) := by decide +kernel
theorem dX12_allocatedIfReported_14 : decode cX12_allocatedIfReported 14 = .ok (.aload_n 0, 1) := by decide +kernel
theorem dX12_allocatedIfReported_15 : decode cX12_allocatedIfReported 15 = .ok (.getfield 26, 3) := by decide +kernel
theorem dX12_allocatedIfReported_18 : decode cX12_allocatedIfReported 18 = .ok (.invokestatic 120, 3) := by decide +kernel
theorem dX12_allocatedIfReported_21 : decode cX12_allocatedIfReported 21 = .ok (.aload_n 0, 1) := by decide +kernel
theorem dX12_allocatedIfReported_22 : decode cX12_allocatedIfReported 22 = .ok (.getfield 26, 3) := by decide +kernel
theorem dX12_allocatedIfReported_25 : decode cX12_allocatedIfReported 25 = .ok (.iload_n 1, 1) := by decide +kernel
theorem dX12_allocatedIfReported_26 : decode cX12_allocatedIfReported 26 = .ok (.iload_n 2, 1) := by decide +kernel
theorem dX12_allocatedIfReported_27 : decode cX12_allocatedIfReported 27 = .ok (.invokevirtual 260, 3) := by decide +kernel
theorem dX12_allocatedIfReported_30 : decode cX12_allocatedIfReported 30 = .ok (.aload_n 0, 1) := by decide +kernel
theorem dX12_allocatedIfReported_31 : decode cX12_allocatedIfReported 31 = .ok (.getfield 47, 3) := by decide +kernel
theorem dX12_allocatedIfReported_34 : decode cX12_allocatedIfReported 34 = .ok (.aload_n 0, 1) := by decide +kernel
theorem dX12_allocatedIfReported_35 : decode cX12_allocatedIfReported 35 = .ok (.getfield 26, 3) := by decide +kernel
theorem dX12_allocatedIfReported_38 : decode cX12_allocatedIfReported 38 = .ok (.invokevirtual 250, 3) := by decide +kernel
theorem dX12_allocatedIfReported_41 : decode cX12_allocatedIfReported 41 = .ok (.aload_n 0, 1) := by decide +kernel
theorem dX12_allocatedIfReported_42 : decode cX12_allocatedIfReported 42 = .ok (.getfield 47, 3) := by decide +kernel
theorem dX12_allocatedIfReported_45 : decode cX12_allocatedIfReported 45 = .ok (.iload_n 1, 1) := by decide +kernel
theorem dX12_allocatedIfReported_46 : decode cX12_allocatedIfReported 46 = .ok (.invokevirtual 253, 3) := by decide +kernel
theorem dX12_allocatedIfReported_49 : decode cX12_allocatedIfReported 49 = .ok (.ireturn, 1) := by decide +kernel
theorem dX12_gainerCount_0 : decode cX12_gainerCount 0 = .ok (.aload_n 0, 1) := by decide +kernel
theorem dX12_gainerCount_1 : decode cX12_gainerCount 1 = .ok (.getfield 47, 3) := by decide +kernel
theorem dX12_gainerCount_4 : decode cX12_gainerCount 4 = .ok (.aload_n 0, 1) := by decide +kernel
theorem dX12_gainerCount_5 : decode cX12_gainerCount 5 = .ok (.getfield 99, 3) := by decide +kernel
theorem dX12_gainerCount_8 : decode cX12_gainerCount 8 = .ok (.invokevirtual 250, 3) := by decide +kernel
theorem dX12_gainerCount_11 : decode cX12_gainerCount 11 = .ok (.iconst 0, 1) := by decide +kernel
theorem dX12_gainerCount_12 : decode cX12_gainerCount 12 = .ok (.istore_n 1, 1) := by decide +kernel
theorem dX12_gainerCount_13 : decode cX12_gainerCount 13 = .ok (.iconst 0, 1) := by decide +kernel
theorem dX12_gainerCount_14 : decode cX12_gainerCount 14 = .ok (.istore_n 2, 1) := by decide +kernel
theorem dX12_gainerCount_15 : decode cX12_gainerCount 15 = .ok (.iload_n 2, 1) := by decide +kernel
theorem dX12_gainerCount_16 : decode cX12_gainerCount 16 = .ok (.aload_n 0, 1) := by decide +kernel
theorem dX12_gainerCount_17 : decode cX12_gainerCount 17 = .ok (.getfield 99, 3) := by decide +kernel
theorem dX12_gainerCount_20 : decode cX12_gainerCount 20 = .ok (.getfield 127, 3) := by decide +kernel
theorem dX12_gainerCount_23 : decode cX12_gainerCount 23 = .ok (.if_icmp .ge 39, 3) := by decide +kernel
theorem dX12_gainerCount_26 : decode cX12_gainerCount 26 = .ok (.aload_n 0, 1) := by decide +kernel
theorem dX12_gainerCount_27 : decode cX12_gainerCount 27 = .ok (.getfield 99, 3) := by decide +kernel
theorem dX12_gainerCount_30 : decode cX12_gainerCount 30 = .ok (.iload_n 2, 1) := by decide +kernel
theorem dX12_gainerCount_31 : decode cX12_gainerCount 31 = .ok (.aload_n 0, 1) := by decide +kernel
theorem dX12_gainerCount_32 : decode cX12_gainerCount 32 = .ok (.getfield 47, 3) := by decide +kernel
theorem dX12_gainerCount_35 : decode cX12_gainerCount 35 = .ok (.iload_n 2, 1) := by decide +kernel
theorem dX12_gainerCount_36 : decode cX12_gainerCount 36 = .ok (.invokevirtual 253, 3) := by decide +kernel
theorem dX12_gainerCount_39 : decode cX12_gainerCount 39 = .ok (.aload_n 0, 1) := by decide +kernel
theorem dX12_gainerCount_40 : decode cX12_gainerCount 40 = .ok (.getfield 99, 3) := by decide +kernel
theorem dX12_gainerCount_43 : decode cX12_gainerCount 43 = .ok (.iload_n 2, 1) := by decide +kernel
theorem dX12_gainerCount_44 : decode cX12_gainerCount 44 = .ok (.invokevirtual 167, 3) := by decide +kernel
theorem dX12_gainerCount_47 : decode cX12_gainerCount 47 = .ok (.invokevirtual 191, 3) := by decide +kernel
theorem dX12_gainerCount_50 : decode cX12_gainerCount 50 = .ok (.ifCond .eq 6, 3) := by decide +kernel
theorem dX12_gainerCount_53 : decode cX12_gainerCount 53 = .ok (.iinc 1 1, 3) := by decide +kernel
theorem dX12_gainerCount_56 : decode cX12_gainerCount 56 = .ok (.iinc 2 1, 3) := by decide +kernel
theorem dX12_gainerCount_59 : decode cX12_gainerCount 59 = .ok (.goto (-44), 3) := by decide +kernel
theorem dX12_gainerCount_62 : decode cX12_gainerCount 62 = .ok (.iload_n 1, 1) := by decide +kernel
theorem dX12_gainerCount_63 : decode cX12_gainerCount 63 = .ok (.ireturn, 1) := by decide +kernel
theorem dX12_maximumMatchingSize_0 : decode cX12_maximumMatchingSize 0 = .ok (.aload_n 0, 1) := by decide +kernel
theorem dX12_maximumMatchingSize_1 : decode cX12_maximumMatchingSize 1 = .ok (.getfield 54, 3) := by decide +kernel
theorem dX12_maximumMatchingSize_4 : decode cX12_maximumMatchingSize 4 = .ok (.aload_n 0, 1) := by decide +kernel
theorem dX12_maximumMatchingSize_5 : decode cX12_maximumMatchingSize 5 = .ok (.getfield 99, 3) := by decide +kernel
theorem dX12_maximumMatchingSize_8 : decode cX12_maximumMatchingSize 8 = .ok (.invokevirtual 263, 3) := by decide +kernel
theorem dX12_maximumMatchingSize_11 : decode cX12_maximumMatchingSize 11 = .ok (.aload_n 0, 1) := by decide +kernel
theorem dX12_maximumMatchingSize_12 : decode cX12_maximumMatchingSize 12 = .ok (.getfield 54, 3) := by decide +kernel
theorem dX12_maximumMatchingSize_15 : decode cX12_maximumMatchingSize 15 = .ok (.getfield 266, 3) := by decide +kernel
theorem dX12_maximumMatchingSize_18 : decode cX12_maximumMatchingSize 18 = .ok (.ireturn, 1) := by decide +kernel
theorem dX12_leastRankSum_0 : decode cX12_leastRankSum 0 = .ok (.aload_n 0, 1) := by decide +kernel
theorem dX12_leastRankSum_1 : decode cX12_leastRankSum 1 = .ok (.getfield 54, 3) := by decide +kernel
theorem dX12_leastRankSum_4 : decode cX12_leastRankSum 4 = .ok (.aload_n 0, 1) := by decide +kernel
theorem dX12_leastRankSum_5 : decode cX12_leastRankSum 5 = .ok (.getfield 99, 3) := by decide +kernel
theorem dX12_leastRankSum_8 : decode cX12_leastRankSum 8 = .ok (.invokevirtual 263, 3) := by decide +kernel
theorem dX12_leastRankSum_11 : decode cX12_leastRankSum 11 = .ok (.aload_n 0, 1) := by decide +kernel
theorem dX12_leastRankSum_12 : decode cX12_leastRankSum 12 = .ok (.getfield 54, 3) := by decide +kernel
theorem dX12_leastRankSum_15 : decode cX12_leastRankSum 15 = .ok (.getfield 269, 3) := by decide +kernel
theorem dX12_leastRankSum_18 : decode cX12_leastRankSum 18 = .ok (.ireturn, 1) := by decide +kernel
theorem dX12_daysUntilEviction_0 : decode cX12_daysUntilEviction 0 = .ok (.aload_n 0, 1) := by decide +kernel
theorem dX12_daysUntilEviction_1 : decode cX12_daysUntilEviction 1 = .ok (.iload_n 1, 1) := by decide +kernel
theorem dX12_daysUntilEviction_2 : decode cX12_daysUntilEviction 2 = .ok (.invokevirtual 151, 3) := by decide +kernel
theorem dX12_daysUntilEviction_5 : decode cX12_daysUntilEviction 5 = .ok (.aload_n 0, 1) := by decide +kernel
theorem dX12_daysUntilEviction_6 : decode cX12_daysUntilEviction 6 = .ok (.getfield 99, 3) := by decide +kernel
theorem dX12_daysUntilEviction_9 : decode cX12_daysUntilEviction 9 = .ok (.aload_n 0, 1) := by decide +kernel
theorem dX12_daysUntilEviction_10 : decode cX12_daysUntilEviction 10 = .ok (.getfield 99, 3) := by decide +kernel
theorem dX12_daysUntilEviction_13 : decode cX12_daysUntilEviction 13 = .ok (.iload_n 1, 1) := by decide +kernel
theorem dX12_daysUntilEviction_14 : decode cX12_daysUntilEviction 14 = .ok (.invokevirtual 167, 3) := by decide +kernel
theorem dX12_daysUntilEviction_17 : decode cX12_daysUntilEviction 17 = .ok (.invokevirtual 164, 3) := by decide +kernel
theorem dX12_daysUntilEviction_20 : decode cX12_daysUntilEviction 20 = .ok (.istore_n 2, 1) := by decide +kernel
theorem dX12_daysUntilEviction_21 : decode cX12_daysUntilEviction 21 = .ok (.aload_n 0, 1) := by decide +kernel
theorem dX12_daysUntilEviction_22 : decode cX12_daysUntilEviction 22 = .ok (.getfield 99, 3) := by decide +kernel
theorem dX12_daysUntilEviction_25 : decode cX12_daysUntilEviction 25 = .ok (.iload_n 1, 1) := by decide +kernel
theorem dX12_daysUntilEviction_26 : decode cX12_daysUntilEviction 26 = .ok (.invokevirtual 154, 3) := by decide +kernel
theorem dX12_daysUntilEviction_29 : decode cX12_daysUntilEviction 29 = .ok (.istore_n 3, 1) := by decide +kernel
theorem dX12_daysUntilEviction_30 : decode cX12_daysUntilEviction 30 = .ok (.iconst 1, 1) := by decide +kernel
theorem dX12_daysUntilEviction_31 : decode cX12_daysUntilEviction 31 = .ok (.istore 4, 2) := by decide +kernel
theorem dX12_daysUntilEviction_33 : decode cX12_daysUntilEviction 33 = .ok (.iload 4, 2) := by decide +kernel
theorem dX12_daysUntilEviction_35 : decode cX12_daysUntilEviction 35 = .ok (.sipush 400, 3) := by decide +kernel
theorem dX12_daysUntilEviction_38 : decode cX12_daysUntilEviction 38 = .ok (.if_icmp .gt 32, 3) := by decide +kernel
theorem dX12_daysUntilEviction_41 : decode cX12_daysUntilEviction 41 = .ok (.iload_n 3, 1) := by decide +kernel
theorem dX12_daysUntilEviction_42 : decode cX12_daysUntilEviction 42 = .ok (.aload_n 0, 1) := by decide +kernel
theorem dX12_daysUntilEviction_43 : decode cX12_daysUntilEviction 43 = .ok (.getfield 99, 3) := by decide +kernel
theorem dX12_daysUntilEviction_46 : decode cX12_daysUntilEviction 46 = .ok (.iload_n 1, 1) := by decide +kernel
theorem dX12_daysUntilEviction_47 : decode cX12_daysUntilEviction 47 = .ok (.invokevirtual 158, 3) := by decide +kernel
theorem dX12_daysUntilEviction_50 : decode cX12_daysUntilEviction 50 = .ok (.iadd, 1) := by decide +kernel
theorem dX12_daysUntilEviction_51 : decode cX12_daysUntilEviction 51 = .ok (.istore_n 3, 1) := by decide +kernel
theorem dX12_daysUntilEviction_52 : decode cX12_daysUntilEviction 52 = .ok (.iload_n 3, 1) := by decide +kernel
theorem dX12_daysUntilEviction_53 : decode cX12_daysUntilEviction 53 = .ok (.iload_n 2, 1) := by decide +kernel
theorem dX12_daysUntilEviction_54 : decode cX12_daysUntilEviction 54 = .ok (.if_icmp .ge 6, 3) := by decide +kernel
theorem dX12_daysUntilEviction_57 : decode cX12_daysUntilEviction 57 = .ok (.iload 4, 2) := by decide +kernel
theorem dX12_daysUntilEviction_59 : decode cX12_daysUntilEviction 59 = .ok (.ireturn, 1) := by decide +kernel
theorem dX12_daysUntilEviction_60 : decode cX12_daysUntilEviction 60 = .ok (.iload_n 3, 1) := by decide +kernel
theorem dX12_daysUntilEviction_61 : decode cX12_daysUntilEviction 61 = .ok (.iload_n 2, 1) := by decide +kernel
theorem dX12_daysUntilEviction_62 : decode cX12_daysUntilEviction 62 = .ok (.isub, 1) := by decide +kernel
theorem dX12_daysUntilEviction_63 : decode cX12_daysUntilEviction 63 = .ok (.istore_n 3, 1) := by decide +kernel
theorem dX12_daysUntilEviction_64 : decode cX12_daysUntilEviction 64 = .ok (.iinc 4 1, 3) := by decide +kernel
theorem dX12_daysUntilEviction_67 : decode cX12_daysUntilEviction 67 = .ok (.goto (-34), 3) := by decide +kernel
theorem dX12_daysUntilEviction_70 : decode cX12_daysUntilEviction 70 = .ok (.iconst (-1), 1) := by decide +kernel
theorem dX12_daysUntilEviction_71 : decode cX12_daysUntilEviction 71 = .ok (.ireturn, 1) := by decide +kernel
theorem dX12_balanceAfter_0 : decode cX12_balanceAfter 0 = .ok (.aload_n 0, 1) := by decide +kernel
theorem dX12_balanceAfter_1 : decode cX12_balanceAfter 1 = .ok (.iload_n 1, 1) := by decide +kernel
theorem dX12_balanceAfter_2 : decode cX12_balanceAfter 2 = .ok (.invokevirtual 151, 3) := by decide +kernel
theorem dX12_balanceAfter_5 : decode cX12_balanceAfter 5 = .ok (.iload_n 2, 1) := by decide +kernel
theorem dX12_balanceAfter_6 : decode cX12_balanceAfter 6 = .ok (.ifCond .lt 10, 3) := by decide +kernel
theorem dX12_balanceAfter_9 : decode cX12_balanceAfter 9 = .ok (.iload_n 2, 1) := by decide +kernel
theorem dX12_balanceAfter_10 : decode cX12_balanceAfter 10 = .ok (.sipush 400, 3) := by decide +kernel
theorem dX12_balanceAfter_13 : decode cX12_balanceAfter 13 = .ok (.if_icmp .le 14, 3) := by decide +kernel
theorem dX12_balanceAfter_16 : decode cX12_balanceAfter 16 = .ok (.new 115, 3) := by decide +kernel
theorem dX12_balanceAfter_19 : decode cX12_balanceAfter 19 = .ok (.dup, 1) := by decide +kernel
theorem dX12_balanceAfter_20 : decode cX12_balanceAfter 20 = .ok (.ldc_w 272, 3) := by decide +kernel
theorem dX12_balanceAfter_23 : decode cX12_balanceAfter 23 = .ok (.invokespecial 119, 3) := by decide +kernel
theorem dX12_balanceAfter_26 : decode cX12_balanceAfter 26 = .ok (.athrow, 1) := by decide +kernel
theorem dX12_balanceAfter_27 : decode cX12_balanceAfter 27 = .ok (.aload_n 0, 1) := by decide +kernel
theorem dX12_balanceAfter_28 : decode cX12_balanceAfter 28 = .ok (.getfield 99, 3) := by decide +kernel
theorem dX12_balanceAfter_31 : decode cX12_balanceAfter 31 = .ok (.aload_n 0, 1) := by decide +kernel
theorem dX12_balanceAfter_32 : decode cX12_balanceAfter 32 = .ok (.getfield 99, 3) := by decide +kernel
theorem dX12_balanceAfter_35 : decode cX12_balanceAfter 35 = .ok (.iload_n 1, 1) := by decide +kernel
theorem dX12_balanceAfter_36 : decode cX12_balanceAfter 36 = .ok (.invokevirtual 167, 3) := by decide +kernel
theorem dX12_balanceAfter_39 : decode cX12_balanceAfter 39 = .ok (.invokevirtual 164, 3) := by decide +kernel
theorem dX12_balanceAfter_42 : decode cX12_balanceAfter 42 = .ok (.istore_n 3, 1) := by decide +kernel
theorem dX12_balanceAfter_43 : decode cX12_balanceAfter 43 = .ok (.aload_n 0, 1) := by decide +kernel
theorem dX12_balanceAfter_44 : decode cX12_balanceAfter 44 = .ok (.getfield 99, 3) := by decide +kernel
theorem dX12_balanceAfter_47 : decode cX12_balanceAfter 47 = .ok (.iload_n 1, 1) := by decide +kernel
theorem dX12_balanceAfter_48 : decode cX12_balanceAfter 48 = .ok (.invokevirtual 154, 3) := by decide +kernel
theorem dX12_balanceAfter_51 : decode cX12_balanceAfter 51 = .ok (.istore 4, 2) := by decide +kernel
theorem dX12_balanceAfter_53 : decode cX12_balanceAfter 53 = .ok (.iconst 1, 1) := by decide +kernel
theorem dX12_balanceAfter_54 : decode cX12_balanceAfter 54 = .ok (.istore 5, 2) := by decide +kernel
theorem dX12_balanceAfter_56 : decode cX12_balanceAfter 56 = .ok (.iload 5, 2) := by decide +kernel
theorem dX12_balanceAfter_58 : decode cX12_balanceAfter 58 = .ok (.iload_n 2, 1) := by decide +kernel
theorem dX12_balanceAfter_59 : decode cX12_balanceAfter 59 = .ok (.if_icmp .gt 36, 3) := by decide +kernel
theorem dX12_balanceAfter_62 : decode cX12_balanceAfter 62 = .ok (.iload 4, 2) := by decide +kernel
theorem dX12_balanceAfter_64 : decode cX12_balanceAfter 64 = .ok (.aload_n 0, 1) := by decide +kernel
theorem dX12_balanceAfter_65 : decode cX12_balanceAfter 65 = .ok (.getfield 99, 3) := by decide +kernel
theorem dX12_balanceAfter_68 : decode cX12_balanceAfter 68 = .ok (.iload_n 1, 1) := by decide +kernel
theorem dX12_balanceAfter_69 : decode cX12_balanceAfter 69 = .ok (.invokevirtual 158, 3) := by decide +kernel
theorem dX12_balanceAfter_72 : decode cX12_balanceAfter 72 = .ok (.iadd, 1) := by decide +kernel
theorem dX12_balanceAfter_73 : decode cX12_balanceAfter 73 = .ok (.istore 4, 2) := by decide +kernel
theorem dX12_balanceAfter_75 : decode cX12_balanceAfter 75 = .ok (.iload 4, 2) := by decide +kernel
