theorem d_T_init_0 : decode b_T_init 0 = .ok (.aload_n 0, 1) := by decide +kernel
theorem d_T_init_1 : decode b_T_init 1 = .ok (.invokespecial 3, 3) := by decide +kernel
theorem d_T_init_4 : decode b_T_init 4 = .ok (.aload_n 0, 1) := by decide +kernel
theorem d_T_init_5 : decode b_T_init 5 = .ok (.bipush 32, 2) := by decide +kernel
theorem d_T_init_7 : decode b_T_init 7 = .ok (.newarray .int, 2) := by decide +kernel
theorem d_T_init_9 : decode b_T_init 9 = .ok (.putfield 9, 3) := by decide +kernel
theorem d_T_init_12 : decode b_T_init 12 = .ok (.aload_n 0, 1) := by decide +kernel
theorem d_T_init_13 : decode b_T_init 13 = .ok (.bipush 17, 2) := by decide +kernel
theorem d_T_init_15 : decode b_T_init 15 = .ok (.newarray .int, 2) := by decide +kernel
theorem d_T_init_17 : decode b_T_init 17 = .ok (.putfield 15, 3) := by decide +kernel
theorem d_T_init_20 : decode b_T_init 20 = .ok (.aload_n 0, 1) := by decide +kernel
theorem d_T_init_21 : decode b_T_init 21 = .ok (.iconst 0, 1) := by decide +kernel
theorem d_T_init_22 : decode b_T_init 22 = .ok (.putfield 18, 3) := by decide +kernel
theorem d_T_init_25 : decode b_T_init 25 = .ok (.bipush 15, 2) := by decide +kernel
theorem d_T_init_27 : decode b_T_init 27 = .ok (.istore_n 1, 1) := by decide +kernel
theorem d_T_init_28 : decode b_T_init 28 = .ok (.iload_n 1, 1) := by decide +kernel
theorem d_T_init_29 : decode b_T_init 29 = .ok (.iconst 1, 1) := by decide +kernel
theorem d_T_init_30 : decode b_T_init 30 = .ok (.if_icmp .lt 14, 3) := by decide +kernel
theorem d_T_init_33 : decode b_T_init 33 = .ok (.aload_n 0, 1) := by decide +kernel
theorem d_T_init_34 : decode b_T_init 34 = .ok (.iload_n 1, 1) := by decide +kernel
theorem d_T_init_35 : decode b_T_init 35 = .ok (.invokevirtual 22, 3) := by decide +kernel
theorem d_T_init_38 : decode b_T_init 38 = .ok (.iinc 1 (-1), 3) := by decide +kernel
theorem d_T_init_41 : decode b_T_init 41 = .ok (.goto (-13), 3) := by decide +kernel
theorem d_T_init_44 : decode b_T_init 44 = .ok (.aload_n 0, 1) := by decide +kernel
theorem d_T_init_45 : decode b_T_init 45 = .ok (.getfield 15, 3) := by decide +kernel
theorem d_T_init_48 : decode b_T_init 48 = .ok (.iconst 0, 1) := by decide +kernel
theorem d_T_init_49 : decode b_T_init 49 = .ok (.aload_n 0, 1) := by decide +kernel
theorem d_T_init_50 : decode b_T_init 50 = .ok (.getfield 9, 3) := by decide +kernel
theorem d_T_init_53 : decode b_T_init 53 = .ok (.iconst 1, 1) := by decide +kernel
theorem d_T_init_54 : decode b_T_init 54 = .ok (.iaload, 1) := by decide +kernel
theorem d_T_init_55 : decode b_T_init 55 = .ok (.iastore, 1) := by decide +kernel
theorem d_T_init_56 : decode b_T_init 56 = .ok (.return_, 1) := by decide +kernel
theorem d_T_hashUp_0 : decode b_T_hashUp 0 = .ok (.aload_n 0, 1) := by decide +kernel
theorem d_T_hashUp_1 : decode b_T_hashUp 1 = .ok (.getfield 9, 3) := by decide +kernel
theorem d_T_hashUp_4 : decode b_T_hashUp 4 = .ok (.iload_n 1, 1) := by decide +kernel
theorem d_T_hashUp_5 : decode b_T_hashUp 5 = .ok (.aload_n 0, 1) := by decide +kernel
theorem d_T_hashUp_6 : decode b_T_hashUp 6 = .ok (.getfield 9, 3) := by decide +kernel
theorem d_T_hashUp_9 : decode b_T_hashUp 9 = .ok (.iconst 2, 1) := by decide +kernel
theorem d_T_hashUp_10 : decode b_T_hashUp 10 = .ok (.iload_n 1, 1) := by decide +kernel
theorem d_T_hashUp_11 : decode b_T_hashUp 11 = .ok (.imul, 1) := by decide +kernel
theorem d_T_hashUp_12 : decode b_T_hashUp 12 = .ok (.iaload, 1) := by decide +kernel
theorem d_T_hashUp_13 : decode b_T_hashUp 13 = .ok (.aload_n 0, 1) := by decide +kernel
theorem d_T_hashUp_14 : decode b_T_hashUp 14 = .ok (.getfield 9, 3) := by decide +kernel
theorem d_T_hashUp_17 : decode b_T_hashUp 17 = .ok (.iconst 2, 1) := by decide +kernel
theorem d_T_hashUp_18 : decode b_T_hashUp 18 = .ok (.iload_n 1, 1) := by decide +kernel
theorem d_T_hashUp_19 : decode b_T_hashUp 19 = .ok (.imul, 1) := by decide +kernel
theorem d_T_hashUp_20 : decode b_T_hashUp 20 = .ok (.iconst 1, 1) := by decide +kernel
theorem d_T_hashUp_21 : decode b_T_hashUp 21 = .ok (.iadd, 1) := by decide +kernel
theorem d_T_hashUp_22 : decode b_T_hashUp 22 = .ok (.iaload, 1) := by decide +kernel
theorem d_T_hashUp_23 : decode b_T_hashUp 23 = .ok (.invokestatic 34, 3) := by decide +kernel
theorem d_T_hashUp_26 : decode b_T_hashUp 26 = .ok (.iastore, 1) := by decide +kernel
theorem d_T_hashUp_27 : decode b_T_hashUp 27 = .ok (.return_, 1) := by decide +kernel
theorem d_K_init_0 : decode b_K_init 0 = .ok (.aload_n 0, 1) := by decide +kernel
theorem d_K_init_1 : decode b_K_init 1 = .ok (.invokespecial 3, 3) := by decide +kernel
theorem d_K_init_4 : decode b_K_init 4 = .ok (.aload_n 0, 1) := by decide +kernel
theorem d_K_init_5 : decode b_K_init 5 = .ok (.bipush 16, 2) := by decide +kernel
theorem d_K_init_7 : decode b_K_init 7 = .ok (.newarray .int, 2) := by decide +kernel
theorem d_K_init_9 : decode b_K_init 9 = .ok (.putfield 9, 3) := by decide +kernel
theorem d_K_init_12 : decode b_K_init 12 = .ok (.aload_n 0, 1) := by decide +kernel
theorem d_K_init_13 : decode b_K_init 13 = .ok (.iconst 0, 1) := by decide +kernel
theorem d_K_init_14 : decode b_K_init 14 = .ok (.putfield 15, 3) := by decide +kernel
theorem d_K_init_17 : decode b_K_init 17 = .ok (.return_, 1) := by decide +kernel
theorem d_T_isFull_0 : decode b_T_isFull 0 = .ok (.aload_n 0, 1) := by decide +kernel
theorem d_T_isFull_1 : decode b_T_isFull 1 = .ok (.getfield 18, 3) := by decide +kernel
theorem d_T_isFull_4 : decode b_T_isFull 4 = .ok (.bipush 16, 2) := by decide +kernel
theorem d_T_isFull_6 : decode b_T_isFull 6 = .ok (.if_icmp .lt 7, 3) := by decide +kernel
theorem d_T_isFull_9 : decode b_T_isFull 9 = .ok (.iconst 1, 1) := by decide +kernel
theorem d_T_isFull_10 : decode b_T_isFull 10 = .ok (.goto 4, 3) := by decide +kernel
theorem d_T_isFull_13 : decode b_T_isFull 13 = .ok (.iconst 0, 1) := by decide +kernel
theorem d_T_isFull_14 : decode b_T_isFull 14 = .ok (.ireturn, 1) := by decide +kernel
theorem d_T_append_0 : decode b_T_append 0 = .ok (.aload_n 0, 1) := by decide +kernel
theorem d_T_append_1 : decode b_T_append 1 = .ok (.invokevirtual 26, 3) := by decide +kernel
theorem d_T_append_4 : decode b_T_append 4 = .ok (.ifCond .eq 6, 3) := by decide +kernel
theorem d_T_append_7 : decode b_T_append 7 = .ok (.bipush (-7), 2) := by decide +kernel
theorem d_T_append_9 : decode b_T_append 9 = .ok (.ireturn, 1) := by decide +kernel
theorem d_T_append_10 : decode b_T_append 10 = .ok (.aload_n 0, 1) := by decide +kernel
theorem d_T_append_11 : decode b_T_append 11 = .ok (.getfield 18, 3) := by decide +kernel
theorem d_T_append_14 : decode b_T_append 14 = .ok (.istore_n 2, 1) := by decide +kernel
theorem d_T_append_15 : decode b_T_append 15 = .ok (.aload_n 0, 1) := by decide +kernel
theorem d_T_append_16 : decode b_T_append 16 = .ok (.getfield 9, 3) := by decide +kernel
theorem d_T_append_19 : decode b_T_append 19 = .ok (.bipush 16, 2) := by decide +kernel
theorem d_T_append_21 : decode b_T_append 21 = .ok (.iload_n 2, 1) := by decide +kernel
theorem d_T_append_22 : decode b_T_append 22 = .ok (.iadd, 1) := by decide +kernel
theorem d_T_append_23 : decode b_T_append 23 = .ok (.iload_n 1, 1) := by decide +kernel
theorem d_T_append_24 : decode b_T_append 24 = .ok (.iastore, 1) := by decide +kernel
theorem d_T_append_25 : decode b_T_append 25 = .ok (.iconst 1, 1) := by decide +kernel
theorem d_T_append_26 : decode b_T_append 26 = .ok (.istore_n 3, 1) := by decide +kernel
theorem d_T_append_27 : decode b_T_append 27 = .ok (.iload_n 3, 1) := by decide +kernel
theorem d_T_append_28 : decode b_T_append 28 = .ok (.iconst 4, 1) := by decide +kernel
theorem d_T_append_29 : decode b_T_append 29 = .ok (.if_icmp .gt 19, 3) := by decide +kernel
theorem d_T_append_32 : decode b_T_append 32 = .ok (.aload_n 0, 1) := by decide +kernel
theorem d_T_append_33 : decode b_T_append 33 = .ok (.bipush 16, 2) := by decide +kernel
theorem d_T_append_35 : decode b_T_append 35 = .ok (.iload_n 2, 1) := by decide +kernel
theorem d_T_append_36 : decode b_T_append 36 = .ok (.iadd, 1) := by decide +kernel
theorem d_T_append_37 : decode b_T_append 37 = .ok (.iload_n 3, 1) := by decide +kernel
theorem d_T_append_38 : decode b_T_append 38 = .ok (.ishr, 1) := by decide +kernel
theorem d_T_append_39 : decode b_T_append 39 = .ok (.invokevirtual 22, 3) := by decide +kernel
theorem d_T_append_42 : decode b_T_append 42 = .ok (.iinc 3 1, 3) := by decide +kernel
theorem d_T_append_45 : decode b_T_append 45 = .ok (.goto (-18), 3) := by decide +kernel
theorem d_T_append_48 : decode b_T_append 48 = .ok (.aload_n 0, 1) := by decide +kernel
theorem d_T_append_49 : decode b_T_append 49 = .ok (.dup, 1) := by decide +kernel
theorem d_T_append_50 : decode b_T_append 50 = .ok (.getfield 18, 3) := by decide +kernel
theorem d_T_append_53 : decode b_T_append 53 = .ok (.iconst 1, 1) := by decide +kernel
theorem d_T_append_54 : decode b_T_append 54 = .ok (.iadd, 1) := by decide +kernel
theorem d_T_append_55 : decode b_T_append 55 = .ok (.putfield 18, 3) := by decide +kernel
theorem d_T_append_58 : decode b_T_append 58 = .ok (.aload_n 0, 1) := by decide +kernel
theorem d_T_append_59 : decode b_T_append 59 = .ok (.getfield 15, 3) := by decide +kernel
theorem d_T_append_62 : decode b_T_append 62 = .ok (.aload_n 0, 1) := by decide +kernel
theorem d_T_append_63 : decode b_T_append 63 = .ok (.getfield 18, 3) := by decide +kernel
theorem d_T_append_66 : decode b_T_append 66 = .ok (.aload_n 0, 1) := by decide +kernel
theorem d_T_append_67 : decode b_T_append 67 = .ok (.getfield 9, 3) := by decide +kernel
theorem d_T_append_70 : decode b_T_append 70 = .ok (.iconst 1, 1) := by decide +kernel
theorem d_T_append_71 : decode b_T_append 71 = .ok (.iaload, 1) := by decide +kernel
theorem d_T_append_72 : decode b_T_append 72 = .ok (.iastore, 1) := by decide +kernel
theorem d_T_append_73 : decode b_T_append 73 = .ok (.iload_n 2, 1) := by decide +kernel
theorem d_T_append_74 : decode b_T_append 74 = .ok (.ireturn, 1) := by decide +kernel
theorem d_T_nodeAt_0 : decode b_T_nodeAt 0 = .ok (.iload_n 1, 1) := by decide +kernel
theorem d_T_nodeAt_1 : decode b_T_nodeAt 1 = .ok (.ifCond .lt 8, 3) := by decide +kernel
theorem d_T_nodeAt_4 : decode b_T_nodeAt 4 = .ok (.iload_n 1, 1) := by decide +kernel
theorem d_T_nodeAt_5 : decode b_T_nodeAt 5 = .ok (.iconst 4, 1) := by decide +kernel
theorem d_T_nodeAt_6 : decode b_T_nodeAt 6 = .ok (.if_icmp .le 5, 3) := by decide +kernel
theorem d_T_nodeAt_9 : decode b_T_nodeAt 9 = .ok (.iconst (-1), 1) := by decide +kernel
theorem d_T_nodeAt_10 : decode b_T_nodeAt 10 = .ok (.ireturn, 1) := by decide +kernel
theorem d_T_nodeAt_11 : decode b_T_nodeAt 11 = .ok (.bipush 16, 2) := by decide +kernel
theorem d_T_nodeAt_13 : decode b_T_nodeAt 13 = .ok (.iload_n 1, 1) := by decide +kernel
theorem d_T_nodeAt_14 : decode b_T_nodeAt 14 = .ok (.ishr, 1) := by decide +kernel
theorem d_T_nodeAt_15 : decode b_T_nodeAt 15 = .ok (.istore_n 3, 1) := by decide +kernel
theorem d_T_nodeAt_16 : decode b_T_nodeAt 16 = .ok (.iload_n 2, 1) := by decide +kernel
theorem d_T_nodeAt_17 : decode b_T_nodeAt 17 = .ok (.ifCond .lt 19, 3) := by decide +kernel
theorem d_T_nodeAt_20 : decode b_T_nodeAt 20 = .ok (.iload_n 2, 1) := by decide +kernel
theorem d_T_nodeAt_21 : decode b_T_nodeAt 21 = .ok (.iload_n 3, 1) := by decide +kernel
theorem d_T_nodeAt_22 : decode b_T_nodeAt 22 = .ok (.if_icmp .ge 14, 3) := by decide +kernel
theorem d_T_nodeAt_25 : decode b_T_nodeAt 25 = .ok (.aload_n 0, 1) := by decide +kernel
theorem d_T_nodeAt_26 : decode b_T_nodeAt 26 = .ok (.getfield 9, 3) := by decide +kernel
theorem d_T_nodeAt_29 : decode b_T_nodeAt 29 = .ok (.iload_n 3, 1) := by decide +kernel
theorem d_T_nodeAt_30 : decode b_T_nodeAt 30 = .ok (.iload_n 2, 1) := by decide +kernel
theorem d_T_nodeAt_31 : decode b_T_nodeAt 31 = .ok (.iadd, 1) := by decide +kernel
theorem d_T_nodeAt_32 : decode b_T_nodeAt 32 = .ok (.iaload, 1) := by decide +kernel
theorem d_T_nodeAt_33 : decode b_T_nodeAt 33 = .ok (.goto 4, 3) := by decide +kernel
theorem d_T_nodeAt_36 : decode b_T_nodeAt 36 = .ok (.iconst (-1), 1) := by decide +kernel
theorem d_T_nodeAt_37 : decode b_T_nodeAt 37 = .ok (.ireturn, 1) := by decide +kernel
theorem d_T_isRecent_0 : decode b_T_isRecent 0 = .ok (.iconst 0, 1) := by decide +kernel
theorem d_T_isRecent_1 : decode b_T_isRecent 1 = .ok (.istore_n 2, 1) := by decide +kernel
theorem d_T_isRecent_2 : decode b_T_isRecent 2 = .ok (.iload_n 2, 1) := by decide +kernel
theorem d_T_isRecent_3 : decode b_T_isRecent 3 = .ok (.iconst 4, 1) := by decide +kernel
theorem d_T_isRecent_4 : decode b_T_isRecent 4 = .ok (.if_icmp .ge 20, 3) := by decide +kernel
theorem d_T_isRecent_7 : decode b_T_isRecent 7 = .ok (.aload_n 0, 1) := by decide +kernel
theorem d_T_isRecent_8 : decode b_T_isRecent 8 = .ok (.iload_n 2, 1) := by decide +kernel
theorem d_T_isRecent_9 : decode b_T_isRecent 9 = .ok (.invokevirtual 30, 3) := by decide +kernel
theorem d_T_isRecent_12 : decode b_T_isRecent 12 = .ok (.iload_n 1, 1) := by decide +kernel
theorem d_T_isRecent_13 : decode b_T_isRecent 13 = .ok (.if_icmp .ne 5, 3) := by decide +kernel
theorem d_T_isRecent_16 : decode b_T_isRecent 16 = .ok (.iconst 1, 1) := by decide +kernel
theorem d_T_isRecent_17 : decode b_T_isRecent 17 = .ok (.ireturn, 1) := by decide +kernel
theorem d_T_isRecent_18 : decode b_T_isRecent 18 = .ok (.iinc 2 1, 3) := by decide +kernel
theorem d_T_isRecent_21 : decode b_T_isRecent 21 = .ok (.goto (-19), 3) := by decide +kernel
theorem d_T_isRecent_24 : decode b_T_isRecent 24 = .ok (.iconst 0, 1) := by decide +kernel
theorem d_T_isRecent_25 : decode b_T_isRecent 25 = .ok (.ireturn, 1) := by decide +kernel
theorem d_T_recentRoot_0 : decode b_T_recentRoot 0 = .ok (.iload_n 1, 1) := by decide +kernel
theorem d_T_recentRoot_1 : decode b_T_recentRoot 1 = .ok (.ifCond .lt 30, 3) := by decide +kernel
theorem d_T_recentRoot_4 : decode b_T_recentRoot 4 = .ok (.iload_n 1, 1) := by decide +kernel
theorem d_T_recentRoot_5 : decode b_T_recentRoot 5 = .ok (.iconst 4, 1) := by decide +kernel
theorem d_T_recentRoot_6 : decode b_T_recentRoot 6 = .ok (.if_icmp .ge 25, 3) := by decide +kernel
theorem d_T_recentRoot_9 : decode b_T_recentRoot 9 = .ok (.iload_n 1, 1) := by decide +kernel
theorem d_T_recentRoot_10 : decode b_T_recentRoot 10 = .ok (.aload_n 0, 1) := by decide +kernel
theorem d_T_recentRoot_11 : decode b_T_recentRoot 11 = .ok (.getfield 18, 3) := by decide +kernel
theorem d_T_recentRoot_14 : decode b_T_recentRoot 14 = .ok (.if_icmp .gt 17, 3) := by decide +kernel
theorem d_T_recentRoot_17 : decode b_T_recentRoot 17 = .ok (.aload_n 0, 1) := by decide +kernel
theorem d_T_recentRoot_18 : decode b_T_recentRoot 18 = .ok (.getfield 15, 3) := by decide +kernel
theorem d_T_recentRoot_21 : decode b_T_recentRoot 21 = .ok (.aload_n 0, 1) := by decide +kernel
theorem d_T_recentRoot_22 : decode b_T_recentRoot 22 = .ok (.getfield 18, 3) := by decide +kernel
theorem d_T_recentRoot_25 : decode b_T_recentRoot 25 = .ok (.iload_n 1, 1) := by decide +kernel
theorem d_T_recentRoot_26 : decode b_T_recentRoot 26 = .ok (.isub, 1) := by decide +kernel
theorem d_T_recentRoot_27 : decode b_T_recentRoot 27 = .ok (.iaload, 1) := by decide +kernel
theorem d_T_recentRoot_28 : decode b_T_recentRoot 28 = .ok (.goto 4, 3) := by decide +kernel
theorem d_T_recentRoot_31 : decode b_T_recentRoot 31 = .ok (.iconst (-1), 1) := by decide +kernel
theorem d_T_recentRoot_32 : decode b_T_recentRoot 32 = .ok (.ireturn, 1) := by decide +kernel
theorem d_K_has_0 : decode b_K_has 0 = .ok (.iconst 0, 1) := by decide +kernel
theorem d_K_has_1 : decode b_K_has 1 = .ok (.istore_n 2, 1) := by decide +kernel
theorem d_K_has_2 : decode b_K_has 2 = .ok (.iload_n 2, 1) := by decide +kernel
theorem d_K_has_3 : decode b_K_has 3 = .ok (.aload_n 0, 1) := by decide +kernel
theorem d_K_has_4 : decode b_K_has 4 = .ok (.getfield 15, 3) := by decide +kernel
theorem d_K_has_7 : decode b_K_has 7 = .ok (.if_icmp .ge 21, 3) := by decide +kernel
theorem d_K_has_10 : decode b_K_has 10 = .ok (.aload_n 0, 1) := by decide +kernel
theorem d_K_has_11 : decode b_K_has 11 = .ok (.getfield 9, 3) := by decide +kernel
theorem d_K_has_14 : decode b_K_has 14 = .ok (.iload_n 2, 1) := by decide +kernel
theorem d_K_has_15 : decode b_K_has 15 = .ok (.iaload, 1) := by decide +kernel
theorem d_K_has_16 : decode b_K_has 16 = .ok (.iload_n 1, 1) := by decide +kernel
theorem d_K_has_17 : decode b_K_has 17 = .ok (.if_icmp .ne 5, 3) := by decide +kernel
theorem d_K_has_20 : decode b_K_has 20 = .ok (.iconst 1, 1) := by decide +kernel
theorem d_K_has_21 : decode b_K_has 21 = .ok (.ireturn, 1) := by decide +kernel
theorem d_K_has_22 : decode b_K_has 22 = .ok (.iinc 2 1, 3) := by decide +kernel
theorem d_K_has_25 : decode b_K_has 25 = .ok (.goto (-23), 3) := by decide +kernel
theorem d_K_has_28 : decode b_K_has 28 = .ok (.iconst 0, 1) := by decide +kernel
theorem d_K_has_29 : decode b_K_has 29 = .ok (.ireturn, 1) := by decide +kernel
theorem d_K_add_0 : decode b_K_add 0 = .ok (.aload_n 0, 1) := by decide +kernel
theorem d_K_add_1 : decode b_K_add 1 = .ok (.getfield 15, 3) := by decide +kernel
theorem d_K_add_4 : decode b_K_add 4 = .ok (.bipush 16, 2) := by decide +kernel
theorem d_K_add_6 : decode b_K_add 6 = .ok (.if_icmp .lt 4, 3) := by decide +kernel
theorem d_K_add_9 : decode b_K_add 9 = .ok (.return_, 1) := by decide +kernel
theorem d_K_add_10 : decode b_K_add 10 = .ok (.aload_n 0, 1) := by decide +kernel
theorem d_K_add_11 : decode b_K_add 11 = .ok (.getfield 15, 3) := by decide +kernel
theorem d_K_add_14 : decode b_K_add 14 = .ok (.istore_n 2, 1) := by decide +kernel
theorem d_K_add_15 : decode b_K_add 15 = .ok (.iload_n 2, 1) := by decide +kernel
theorem d_K_add_16 : decode b_K_add 16 = .ok (.ifCond .le 35, 3) := by decide +kernel
theorem d_K_add_19 : decode b_K_add 19 = .ok (.aload_n 0, 1) := by decide +kernel
theorem d_K_add_20 : decode b_K_add 20 = .ok (.getfield 9, 3) := by decide +kernel
theorem d_K_add_23 : decode b_K_add 23 = .ok (.iload_n 2, 1) := by decide +kernel
theorem d_K_add_24 : decode b_K_add 24 = .ok (.iconst 1, 1) := by decide +kernel
theorem d_K_add_25 : decode b_K_add 25 = .ok (.isub, 1) := by decide +kernel
theorem d_K_add_26 : decode b_K_add 26 = .ok (.iaload, 1) := by decide +kernel
theorem d_K_add_27 : decode b_K_add 27 = .ok (.iload_n 1, 1) := by decide +kernel
theorem d_K_add_28 : decode b_K_add 28 = .ok (.if_icmp .le 23, 3) := by decide +kernel
theorem d_K_add_31 : decode b_K_add 31 = .ok (.aload_n 0, 1) := by decide +kernel
theorem d_K_add_32 : decode b_K_add 32 = .ok (.getfield 9, 3) := by decide +kernel
theorem d_K_add_35 : decode b_K_add 35 = .ok (.iload_n 2, 1) := by decide +kernel
theorem d_K_add_36 : decode b_K_add 36 = .ok (.aload_n 0, 1) := by decide +kernel
theorem d_K_add_37 : decode b_K_add 37 = .ok (.getfield 9, 3) := by decide +kernel
theorem d_K_add_40 : decode b_K_add 40 = .ok (.iload_n 2, 1) := by decide +kernel
theorem d_K_add_41 : decode b_K_add 41 = .ok (.iconst 1, 1) := by decide +kernel
theorem d_K_add_42 : decode b_K_add 42 = .ok (.isub, 1) := by decide +kernel
theorem d_K_add_43 : decode b_K_add 43 = .ok (.iaload, 1) := by decide +kernel
theorem d_K_add_44 : decode b_K_add 44 = .ok (.iastore, 1) := by decide +kernel
theorem d_K_add_45 : decode b_K_add 45 = .ok (.iinc 2 (-1), 3) := by decide +kernel
theorem d_K_add_48 : decode b_K_add 48 = .ok (.goto (-33), 3) := by decide +kernel
theorem d_K_add_51 : decode b_K_add 51 = .ok (.aload_n 0, 1) := by decide +kernel
theorem d_K_add_52 : decode b_K_add 52 = .ok (.getfield 9, 3) := by decide +kernel
theorem d_K_add_55 : decode b_K_add 55 = .ok (.iload_n 2, 1) := by decide +kernel
theorem d_K_add_56 : decode b_K_add 56 = .ok (.iload_n 1, 1) := by decide +kernel
theorem d_K_add_57 : decode b_K_add 57 = .ok (.iastore, 1) := by decide +kernel
theorem d_K_add_58 : decode b_K_add 58 = .ok (.aload_n 0, 1) := by decide +kernel
theorem d_K_add_59 : decode b_K_add 59 = .ok (.dup, 1) := by decide +kernel
theorem d_K_add_60 : decode b_K_add 60 = .ok (.getfield 15, 3) := by decide +kernel
theorem d_K_add_63 : decode b_K_add 63 = .ok (.iconst 1, 1) := by decide +kernel
theorem d_K_add_64 : decode b_K_add 64 = .ok (.iadd, 1) := by decide +kernel
theorem d_K_add_65 : decode b_K_add 65 = .ok (.putfield 15, 3) := by decide +kernel
theorem d_K_add_68 : decode b_K_add 68 = .ok (.return_, 1) := by decide +kernel
theorem d_K_at_0 : decode b_K_at 0 = .ok (.iload_n 1, 1) := by decide +kernel
theorem d_K_at_1 : decode b_K_at 1 = .ok (.ifCond .lt 20, 3) := by decide +kernel
theorem d_K_at_4 : decode b_K_at 4 = .ok (.iload_n 1, 1) := by decide +kernel
theorem d_K_at_5 : decode b_K_at 5 = .ok (.aload_n 0, 1) := by decide +kernel
theorem d_K_at_6 : decode b_K_at 6 = .ok (.getfield 15, 3) := by decide +kernel
theorem d_K_at_9 : decode b_K_at 9 = .ok (.if_icmp .ge 12, 3) := by decide +kernel
theorem d_K_at_12 : decode b_K_at 12 = .ok (.aload_n 0, 1) := by decide +kernel
theorem d_K_at_13 : decode b_K_at 13 = .ok (.getfield 9, 3) := by decide +kernel
theorem d_K_at_16 : decode b_K_at 16 = .ok (.iload_n 1, 1) := by decide +kernel
theorem d_K_at_17 : decode b_K_at 17 = .ok (.iaload, 1) := by decide +kernel
theorem d_K_at_18 : decode b_K_at 18 = .ok (.goto 4, 3) := by decide +kernel
theorem d_K_at_21 : decode b_K_at 21 = .ok (.iconst (-1), 1) := by decide +kernel
theorem d_K_at_22 : decode b_K_at 22 = .ok (.ireturn, 1) := by decide +kernel
