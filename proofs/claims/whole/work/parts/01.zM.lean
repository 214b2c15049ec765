theorem d_M_init_0 : decode b_M_init 0 = .ok (.aload_n 0, 1) := by decide +kernel
theorem d_M_init_1 : decode b_M_init 1 = .ok (.invokespecial 1, 3) := by decide +kernel
theorem d_M_init_4 : decode b_M_init 4 = .ok (.aload_n 0, 1) := by decide +kernel
theorem d_M_init_5 : decode b_M_init 5 = .ok (.bipush 16, 2) := by decide +kernel
theorem d_M_init_7 : decode b_M_init 7 = .ok (.newarray .int, 2) := by decide +kernel
theorem d_M_init_9 : decode b_M_init 9 = .ok (.putfield 7, 3) := by decide +kernel
theorem d_M_init_12 : decode b_M_init 12 = .ok (.aload_n 0, 1) := by decide +kernel
theorem d_M_init_13 : decode b_M_init 13 = .ok (.bipush 16, 2) := by decide +kernel
theorem d_M_init_15 : decode b_M_init 15 = .ok (.newarray .int, 2) := by decide +kernel
theorem d_M_init_17 : decode b_M_init 17 = .ok (.putfield 13, 3) := by decide +kernel
theorem d_M_init_20 : decode b_M_init 20 = .ok (.aload_n 0, 1) := by decide +kernel
theorem d_M_init_21 : decode b_M_init 21 = .ok (.bipush 16, 2) := by decide +kernel
theorem d_M_init_23 : decode b_M_init 23 = .ok (.newarray .int, 2) := by decide +kernel
theorem d_M_init_25 : decode b_M_init 25 = .ok (.putfield 16, 3) := by decide +kernel
theorem d_M_init_28 : decode b_M_init 28 = .ok (.aload_n 0, 1) := by decide +kernel
theorem d_M_init_29 : decode b_M_init 29 = .ok (.bipush 16, 2) := by decide +kernel
theorem d_M_init_31 : decode b_M_init 31 = .ok (.newarray .int, 2) := by decide +kernel
theorem d_M_init_33 : decode b_M_init 33 = .ok (.putfield 19, 3) := by decide +kernel
theorem d_M_init_36 : decode b_M_init 36 = .ok (.aload_n 0, 1) := by decide +kernel
theorem d_M_init_37 : decode b_M_init 37 = .ok (.bipush 125, 2) := by decide +kernel
theorem d_M_init_39 : decode b_M_init 39 = .ok (.newarray .int, 2) := by decide +kernel
theorem d_M_init_41 : decode b_M_init 41 = .ok (.putfield 22, 3) := by decide +kernel
theorem d_M_init_44 : decode b_M_init 44 = .ok (.aload_n 0, 1) := by decide +kernel
theorem d_M_init_45 : decode b_M_init 45 = .ok (.bipush 16, 2) := by decide +kernel
theorem d_M_init_47 : decode b_M_init 47 = .ok (.newarray .int, 2) := by decide +kernel
theorem d_M_init_49 : decode b_M_init 49 = .ok (.putfield 25, 3) := by decide +kernel
theorem d_M_init_52 : decode b_M_init 52 = .ok (.aload_n 0, 1) := by decide +kernel
theorem d_M_init_53 : decode b_M_init 53 = .ok (.getfield 22, 3) := by decide +kernel
theorem d_M_init_56 : decode b_M_init 56 = .ok (.iconst 0, 1) := by decide +kernel
theorem d_M_init_57 : decode b_M_init 57 = .ok (.iconst 1, 1) := by decide +kernel
theorem d_M_init_58 : decode b_M_init 58 = .ok (.iastore, 1) := by decide +kernel
theorem d_M_init_59 : decode b_M_init 59 = .ok (.return_, 1) := by decide +kernel
theorem d_M_hash_0 : decode b_M_hash 0 = .ok (.iload_n 1, 1) := by decide +kernel
theorem d_M_hash_1 : decode b_M_hash 1 = .ok (.ldc 46, 2) := by decide +kernel
theorem d_M_hash_3 : decode b_M_hash 3 = .ok (.invokestatic 47, 3) := by decide +kernel
theorem d_M_hash_6 : decode b_M_hash 6 = .ok (.ifCond .ne 12, 3) := by decide +kernel
theorem d_M_hash_9 : decode b_M_hash 9 = .ok (.iload_n 2, 1) := by decide +kernel
theorem d_M_hash_10 : decode b_M_hash 10 = .ok (.ldc 46, 2) := by decide +kernel
theorem d_M_hash_12 : decode b_M_hash 12 = .ok (.invokestatic 47, 3) := by decide +kernel
theorem d_M_hash_15 : decode b_M_hash 15 = .ok (.ifCond .eq 7, 3) := by decide +kernel
theorem d_M_hash_18 : decode b_M_hash 18 = .ok (.iconst (-1), 1) := by decide +kernel
theorem d_M_hash_19 : decode b_M_hash 19 = .ok (.goto 8, 3) := by decide +kernel
theorem d_M_hash_22 : decode b_M_hash 22 = .ok (.iload_n 1, 1) := by decide +kernel
theorem d_M_hash_23 : decode b_M_hash 23 = .ok (.iload_n 2, 1) := by decide +kernel
theorem d_M_hash_24 : decode b_M_hash 24 = .ok (.invokestatic 51, 3) := by decide +kernel
theorem d_M_hash_27 : decode b_M_hash 27 = .ok (.ireturn, 1) := by decide +kernel
theorem d_M_outside_0 : decode b_M_outside 0 = .ok (.iload_n 0, 1) := by decide +kernel
theorem d_M_outside_1 : decode b_M_outside 1 = .ok (.ifCond .lt 8, 3) := by decide +kernel
theorem d_M_outside_4 : decode b_M_outside 4 = .ok (.iload_n 0, 1) := by decide +kernel
theorem d_M_outside_5 : decode b_M_outside 5 = .ok (.iload_n 1, 1) := by decide +kernel
theorem d_M_outside_6 : decode b_M_outside 6 = .ok (.if_icmp .le 7, 3) := by decide +kernel
theorem d_M_outside_9 : decode b_M_outside 9 = .ok (.iconst 1, 1) := by decide +kernel
theorem d_M_outside_10 : decode b_M_outside 10 = .ok (.goto 4, 3) := by decide +kernel
theorem d_M_outside_13 : decode b_M_outside 13 = .ok (.iconst 0, 1) := by decide +kernel
theorem d_M_outside_14 : decode b_M_outside 14 = .ok (.ireturn, 1) := by decide +kernel
theorem d_M_hashed_0 : decode b_M_hashed 0 = .ok (.iload_n 0, 1) := by decide +kernel
theorem d_M_hashed_1 : decode b_M_hashed 1 = .ok (.istore_n 2, 1) := by decide +kernel
theorem d_M_hashed_2 : decode b_M_hashed 2 = .ok (.iconst 0, 1) := by decide +kernel
theorem d_M_hashed_3 : decode b_M_hashed 3 = .ok (.istore_n 3, 1) := by decide +kernel
theorem d_M_hashed_4 : decode b_M_hashed 4 = .ok (.iload_n 3, 1) := by decide +kernel
theorem d_M_hashed_5 : decode b_M_hashed 5 = .ok (.iconst 4, 1) := by decide +kernel
theorem d_M_hashed_6 : decode b_M_hashed 6 = .ok (.if_icmp .ge 24, 3) := by decide +kernel
theorem d_M_hashed_9 : decode b_M_hashed 9 = .ok (.iload_n 2, 1) := by decide +kernel
theorem d_M_hashed_10 : decode b_M_hashed 10 = .ok (.i2l, 1) := by decide +kernel
theorem d_M_hashed_11 : decode b_M_hashed 11 = .ok (.iload_n 1, 1) := by decide +kernel
theorem d_M_hashed_12 : decode b_M_hashed 12 = .ok (.i2l, 1) := by decide +kernel
theorem d_M_hashed_13 : decode b_M_hashed 13 = .ok (.ladd, 1) := by decide +kernel
theorem d_M_hashed_14 : decode b_M_hashed 14 = .ok (.iload_n 3, 1) := by decide +kernel
theorem d_M_hashed_15 : decode b_M_hashed 15 = .ok (.invokestatic 39, 3) := by decide +kernel
theorem d_M_hashed_18 : decode b_M_hashed 18 = .ok (.i2l, 1) := by decide +kernel
theorem d_M_hashed_19 : decode b_M_hashed 19 = .ok (.ladd, 1) := by decide +kernel
theorem d_M_hashed_20 : decode b_M_hashed 20 = .ok (.invokestatic 43, 3) := by decide +kernel
theorem d_M_hashed_23 : decode b_M_hashed 23 = .ok (.istore_n 2, 1) := by decide +kernel
theorem d_M_hashed_24 : decode b_M_hashed 24 = .ok (.iinc 3 1, 3) := by decide +kernel
theorem d_M_hashed_27 : decode b_M_hashed 27 = .ok (.goto (-23), 3) := by decide +kernel
theorem d_M_hashed_30 : decode b_M_hashed 30 = .ok (.iload_n 2, 1) := by decide +kernel
theorem d_M_hashed_31 : decode b_M_hashed 31 = .ok (.i2l, 1) := by decide +kernel
theorem d_M_hashed_32 : decode b_M_hashed 32 = .ok (.iload_n 0, 1) := by decide +kernel
theorem d_M_hashed_33 : decode b_M_hashed 33 = .ok (.i2l, 1) := by decide +kernel
theorem d_M_hashed_34 : decode b_M_hashed 34 = .ok (.ladd, 1) := by decide +kernel
theorem d_M_hashed_35 : decode b_M_hashed 35 = .ok (.iload_n 1, 1) := by decide +kernel
theorem d_M_hashed_36 : decode b_M_hashed 36 = .ok (.i2l, 1) := by decide +kernel
theorem d_M_hashed_37 : decode b_M_hashed 37 = .ok (.ladd, 1) := by decide +kernel
theorem d_M_hashed_38 : decode b_M_hashed 38 = .ok (.invokestatic 30, 3) := by decide +kernel
theorem d_M_hashed_41 : decode b_M_hashed 41 = .ok (.ireturn, 1) := by decide +kernel
theorem d_M_salt_0 : decode b_M_salt 0 = .ok (.iload_n 0, 1) := by decide +kernel
theorem d_M_salt_1 : decode b_M_salt 1 = .ok (.ifCond .ne 8, 3) := by decide +kernel
theorem d_M_salt_4 : decode b_M_salt 4 = .ok (.bipush 11, 2) := by decide +kernel
theorem d_M_salt_6 : decode b_M_salt 6 = .ok (.goto 27, 3) := by decide +kernel
theorem d_M_salt_9 : decode b_M_salt 9 = .ok (.iload_n 0, 1) := by decide +kernel
theorem d_M_salt_10 : decode b_M_salt 10 = .ok (.iconst 1, 1) := by decide +kernel
theorem d_M_salt_11 : decode b_M_salt 11 = .ok (.if_icmp .ne 9, 3) := by decide +kernel
theorem d_M_salt_14 : decode b_M_salt 14 = .ok (.sipush 222, 3) := by decide +kernel
theorem d_M_salt_17 : decode b_M_salt 17 = .ok (.goto 16, 3) := by decide +kernel
theorem d_M_salt_20 : decode b_M_salt 20 = .ok (.iload_n 0, 1) := by decide +kernel
theorem d_M_salt_21 : decode b_M_salt 21 = .ok (.iconst 2, 1) := by decide +kernel
theorem d_M_salt_22 : decode b_M_salt 22 = .ok (.if_icmp .ne 9, 3) := by decide +kernel
theorem d_M_salt_25 : decode b_M_salt 25 = .ok (.sipush 3333, 3) := by decide +kernel
theorem d_M_salt_28 : decode b_M_salt 28 = .ok (.goto 5, 3) := by decide +kernel
theorem d_M_salt_31 : decode b_M_salt 31 = .ok (.ldc 38, 2) := by decide +kernel
theorem d_M_salt_33 : decode b_M_salt 33 = .ok (.ireturn, 1) := by decide +kernel
theorem d_M_cubed_0 : decode b_M_cubed 0 = .ok (.lload_n 0, 1) := by decide +kernel
theorem d_M_cubed_1 : decode b_M_cubed 1 = .ok (.invokestatic 30, 3) := by decide +kernel
theorem d_M_cubed_4 : decode b_M_cubed 4 = .ok (.istore_n 2, 1) := by decide +kernel
theorem d_M_cubed_5 : decode b_M_cubed 5 = .ok (.iload_n 2, 1) := by decide +kernel
theorem d_M_cubed_6 : decode b_M_cubed 6 = .ok (.i2l, 1) := by decide +kernel
theorem d_M_cubed_7 : decode b_M_cubed 7 = .ok (.iload_n 2, 1) := by decide +kernel
theorem d_M_cubed_8 : decode b_M_cubed 8 = .ok (.i2l, 1) := by decide +kernel
theorem d_M_cubed_9 : decode b_M_cubed 9 = .ok (.invokestatic 34, 3) := by decide +kernel
theorem d_M_cubed_12 : decode b_M_cubed 12 = .ok (.istore_n 3, 1) := by decide +kernel
theorem d_M_cubed_13 : decode b_M_cubed 13 = .ok (.iload_n 3, 1) := by decide +kernel
theorem d_M_cubed_14 : decode b_M_cubed 14 = .ok (.i2l, 1) := by decide +kernel
theorem d_M_cubed_15 : decode b_M_cubed 15 = .ok (.iload_n 2, 1) := by decide +kernel
theorem d_M_cubed_16 : decode b_M_cubed 16 = .ok (.i2l, 1) := by decide +kernel
theorem d_M_cubed_17 : decode b_M_cubed 17 = .ok (.invokestatic 34, 3) := by decide +kernel
theorem d_M_cubed_20 : decode b_M_cubed 20 = .ok (.ireturn, 1) := by decide +kernel
theorem d_M_reduced_0 : decode b_M_reduced 0 = .ok (.lload_n 0, 1) := by decide +kernel
theorem d_M_reduced_1 : decode b_M_reduced 1 = .ok (.ldc2_w 28, 3) := by decide +kernel
theorem d_M_reduced_4 : decode b_M_reduced 4 = .ok (.lrem, 1) := by decide +kernel
theorem d_M_reduced_5 : decode b_M_reduced 5 = .ok (.lstore_n 2, 1) := by decide +kernel
theorem d_M_reduced_6 : decode b_M_reduced 6 = .ok (.lload_n 2, 1) := by decide +kernel
theorem d_M_reduced_7 : decode b_M_reduced 7 = .ok (.lconst 0, 1) := by decide +kernel
theorem d_M_reduced_8 : decode b_M_reduced 8 = .ok (.lcmp, 1) := by decide +kernel
theorem d_M_reduced_9 : decode b_M_reduced 9 = .ok (.ifCond .ge 11, 3) := by decide +kernel
theorem d_M_reduced_12 : decode b_M_reduced 12 = .ok (.lload_n 2, 1) := by decide +kernel
theorem d_M_reduced_13 : decode b_M_reduced 13 = .ok (.ldc2_w 28, 3) := by decide +kernel
theorem d_M_reduced_16 : decode b_M_reduced 16 = .ok (.ladd, 1) := by decide +kernel
theorem d_M_reduced_17 : decode b_M_reduced 17 = .ok (.goto 4, 3) := by decide +kernel
theorem d_M_reduced_20 : decode b_M_reduced 20 = .ok (.lload_n 2, 1) := by decide +kernel
theorem d_M_reduced_21 : decode b_M_reduced 21 = .ok (.l2i, 1) := by decide +kernel
theorem d_M_reduced_22 : decode b_M_reduced 22 = .ok (.ireturn, 1) := by decide +kernel
theorem d_M_times_0 : decode b_M_times 0 = .ok (.lload_n 0, 1) := by decide +kernel
theorem d_M_times_1 : decode b_M_times 1 = .ok (.lload_n 2, 1) := by decide +kernel
theorem d_M_times_2 : decode b_M_times 2 = .ok (.lmul, 1) := by decide +kernel
theorem d_M_times_3 : decode b_M_times 3 = .ok (.invokestatic 30, 3) := by decide +kernel
theorem d_M_times_6 : decode b_M_times 6 = .ok (.ireturn, 1) := by decide +kernel
theorem d_M_deposit_0 : decode b_M_deposit 0 = .ok (.iload_n 1, 1) := by decide +kernel
theorem d_M_deposit_1 : decode b_M_deposit 1 = .ok (.iconst 3, 1) := by decide +kernel
theorem d_M_deposit_2 : decode b_M_deposit 2 = .ok (.invokestatic 47, 3) := by decide +kernel
theorem d_M_deposit_5 : decode b_M_deposit 5 = .ok (.ifCond .eq 6, 3) := by decide +kernel
theorem d_M_deposit_8 : decode b_M_deposit 8 = .ok (.bipush (-2), 2) := by decide +kernel
theorem d_M_deposit_10 : decode b_M_deposit 10 = .ok (.ireturn, 1) := by decide +kernel
theorem d_M_deposit_11 : decode b_M_deposit 11 = .ok (.iload_n 2, 1) := by decide +kernel
theorem d_M_deposit_12 : decode b_M_deposit 12 = .ok (.sipush 255, 3) := by decide +kernel
theorem d_M_deposit_15 : decode b_M_deposit 15 = .ok (.invokestatic 47, 3) := by decide +kernel
theorem d_M_deposit_18 : decode b_M_deposit 18 = .ok (.ifCond .ne 12, 3) := by decide +kernel
theorem d_M_deposit_21 : decode b_M_deposit 21 = .ok (.iload_n 3, 1) := by decide +kernel
theorem d_M_deposit_22 : decode b_M_deposit 22 = .ok (.ldc 46, 2) := by decide +kernel
theorem d_M_deposit_24 : decode b_M_deposit 24 = .ok (.invokestatic 47, 3) := by decide +kernel
theorem d_M_deposit_27 : decode b_M_deposit 27 = .ok (.ifCond .eq 6, 3) := by decide +kernel
theorem d_M_deposit_30 : decode b_M_deposit 30 = .ok (.bipush (-3), 2) := by decide +kernel
theorem d_M_deposit_32 : decode b_M_deposit 32 = .ok (.ireturn, 1) := by decide +kernel
theorem d_M_deposit_33 : decode b_M_deposit 33 = .ok (.aload_n 0, 1) := by decide +kernel
theorem d_M_deposit_34 : decode b_M_deposit 34 = .ok (.getfield 65, 3) := by decide +kernel
theorem d_M_deposit_37 : decode b_M_deposit 37 = .ok (.bipush 16, 2) := by decide +kernel
theorem d_M_deposit_39 : decode b_M_deposit 39 = .ok (.if_icmp .ne 6, 3) := by decide +kernel
theorem d_M_deposit_42 : decode b_M_deposit 42 = .ok (.bipush (-7), 2) := by decide +kernel
theorem d_M_deposit_44 : decode b_M_deposit 44 = .ok (.ireturn, 1) := by decide +kernel
theorem d_M_deposit_45 : decode b_M_deposit 45 = .ok (.aload_n 0, 1) := by decide +kernel
theorem d_M_deposit_46 : decode b_M_deposit 46 = .ok (.aload_n 0, 1) := by decide +kernel
theorem d_M_deposit_47 : decode b_M_deposit 47 = .ok (.getfield 68, 3) := by decide +kernel
theorem d_M_deposit_50 : decode b_M_deposit 50 = .ok (.iload_n 2, 1) := by decide +kernel
theorem d_M_deposit_51 : decode b_M_deposit 51 = .ok (.iadd, 1) := by decide +kernel
theorem d_M_deposit_52 : decode b_M_deposit 52 = .ok (.putfield 68, 3) := by decide +kernel
theorem d_M_deposit_55 : decode b_M_deposit 55 = .ok (.iload_n 1, 1) := by decide +kernel
theorem d_M_deposit_56 : decode b_M_deposit 56 = .ok (.invokestatic 55, 3) := by decide +kernel
theorem d_M_deposit_59 : decode b_M_deposit 59 = .ok (.istore 4, 2) := by decide +kernel
theorem d_M_deposit_61 : decode b_M_deposit 61 = .ok (.aload_n 0, 1) := by decide +kernel
theorem d_M_deposit_62 : decode b_M_deposit 62 = .ok (.iload 4, 2) := by decide +kernel
theorem d_M_deposit_64 : decode b_M_deposit 64 = .ok (.iload_n 2, 1) := by decide +kernel
theorem d_M_deposit_65 : decode b_M_deposit 65 = .ok (.iload_n 3, 1) := by decide +kernel
theorem d_M_deposit_66 : decode b_M_deposit 66 = .ok (.invokevirtual 71, 3) := by decide +kernel
theorem d_M_deposit_69 : decode b_M_deposit 69 = .ok (.ireturn, 1) := by decide +kernel
theorem d_M_accountKey_0 : decode b_M_accountKey 0 = .ok (.bipush 100, 2) := by decide +kernel
theorem d_M_accountKey_2 : decode b_M_accountKey 2 = .ok (.iload_n 0, 1) := by decide +kernel
theorem d_M_accountKey_3 : decode b_M_accountKey 3 = .ok (.iadd, 1) := by decide +kernel
theorem d_M_accountKey_4 : decode b_M_accountKey 4 = .ok (.iconst 0, 1) := by decide +kernel
theorem d_M_accountKey_5 : decode b_M_accountKey 5 = .ok (.invokestatic 51, 3) := by decide +kernel
theorem d_M_accountKey_8 : decode b_M_accountKey 8 = .ok (.ireturn, 1) := by decide +kernel
theorem d_M_make_0 : decode b_M_make 0 = .ok (.aload_n 0, 1) := by decide +kernel
theorem d_M_make_1 : decode b_M_make 1 = .ok (.getfield 7, 3) := by decide +kernel
theorem d_M_make_4 : decode b_M_make 4 = .ok (.aload_n 0, 1) := by decide +kernel
theorem d_M_make_5 : decode b_M_make 5 = .ok (.getfield 65, 3) := by decide +kernel
theorem d_M_make_8 : decode b_M_make 8 = .ok (.iload_n 1, 1) := by decide +kernel
theorem d_M_make_9 : decode b_M_make 9 = .ok (.iastore, 1) := by decide +kernel
theorem d_M_make_10 : decode b_M_make 10 = .ok (.aload_n 0, 1) := by decide +kernel
theorem d_M_make_11 : decode b_M_make 11 = .ok (.getfield 13, 3) := by decide +kernel
theorem d_M_make_14 : decode b_M_make 14 = .ok (.aload_n 0, 1) := by decide +kernel
theorem d_M_make_15 : decode b_M_make 15 = .ok (.getfield 65, 3) := by decide +kernel
theorem d_M_make_18 : decode b_M_make 18 = .ok (.iload_n 2, 1) := by decide +kernel
theorem d_M_make_19 : decode b_M_make 19 = .ok (.iastore, 1) := by decide +kernel
theorem d_M_make_20 : decode b_M_make 20 = .ok (.aload_n 0, 1) := by decide +kernel
theorem d_M_make_21 : decode b_M_make 21 = .ok (.getfield 16, 3) := by decide +kernel
theorem d_M_make_24 : decode b_M_make 24 = .ok (.aload_n 0, 1) := by decide +kernel
theorem d_M_make_25 : decode b_M_make 25 = .ok (.getfield 65, 3) := by decide +kernel
theorem d_M_make_28 : decode b_M_make 28 = .ok (.iload_n 3, 1) := by decide +kernel
theorem d_M_make_29 : decode b_M_make 29 = .ok (.iastore, 1) := by decide +kernel
theorem d_M_make_30 : decode b_M_make 30 = .ok (.aload_n 0, 1) := by decide +kernel
theorem d_M_make_31 : decode b_M_make 31 = .ok (.dup, 1) := by decide +kernel
theorem d_M_make_32 : decode b_M_make 32 = .ok (.getfield 65, 3) := by decide +kernel
theorem d_M_make_35 : decode b_M_make 35 = .ok (.iconst 1, 1) := by decide +kernel
theorem d_M_make_36 : decode b_M_make 36 = .ok (.iadd, 1) := by decide +kernel
theorem d_M_make_37 : decode b_M_make 37 = .ok (.putfield 65, 3) := by decide +kernel
theorem d_M_make_40 : decode b_M_make 40 = .ok (.aload_n 0, 1) := by decide +kernel
theorem d_M_make_41 : decode b_M_make 41 = .ok (.getfield 65, 3) := by decide +kernel
theorem d_M_make_44 : decode b_M_make 44 = .ok (.iconst 1, 1) := by decide +kernel
theorem d_M_make_45 : decode b_M_make 45 = .ok (.isub, 1) := by decide +kernel
theorem d_M_make_46 : decode b_M_make 46 = .ok (.ireturn, 1) := by decide +kernel
theorem d_M_load_0 : decode b_M_load 0 = .ok (.iload_n 1, 1) := by decide +kernel
theorem d_M_load_1 : decode b_M_load 1 = .ok (.ifCond .lt 19, 3) := by decide +kernel
theorem d_M_load_4 : decode b_M_load 4 = .ok (.iload_n 1, 1) := by decide +kernel
theorem d_M_load_5 : decode b_M_load 5 = .ok (.aload_n 0, 1) := by decide +kernel
theorem d_M_load_6 : decode b_M_load 6 = .ok (.getfield 65, 3) := by decide +kernel
theorem d_M_load_9 : decode b_M_load 9 = .ok (.if_icmp .ge 11, 3) := by decide +kernel
theorem d_M_load_12 : decode b_M_load 12 = .ok (.iload_n 2, 1) := by decide +kernel
theorem d_M_load_13 : decode b_M_load 13 = .ok (.iconst 3, 1) := by decide +kernel
theorem d_M_load_14 : decode b_M_load 14 = .ok (.invokestatic 47, 3) := by decide +kernel
theorem d_M_load_17 : decode b_M_load 17 = .ok (.ifCond .eq 6, 3) := by decide +kernel
theorem d_M_load_20 : decode b_M_load 20 = .ok (.bipush (-2), 2) := by decide +kernel
theorem d_M_load_22 : decode b_M_load 22 = .ok (.ireturn, 1) := by decide +kernel
theorem d_M_load_23 : decode b_M_load 23 = .ok (.aload_n 0, 1) := by decide +kernel
theorem d_M_load_24 : decode b_M_load 24 = .ok (.iload_n 1, 1) := by decide +kernel
theorem d_M_load_25 : decode b_M_load 25 = .ok (.invokevirtual 96, 3) := by decide +kernel
theorem d_M_load_28 : decode b_M_load 28 = .ok (.istore 6, 2) := by decide +kernel
theorem d_M_load_30 : decode b_M_load 30 = .ok (.iload 6, 2) := by decide +kernel
theorem d_M_load_32 : decode b_M_load 32 = .ok (.iconst (-1), 1) := by decide +kernel
theorem d_M_load_33 : decode b_M_load 33 = .ok (.if_icmp .ne 5, 3) := by decide +kernel
theorem d_M_load_36 : decode b_M_load 36 = .ok (.iconst (-1), 1) := by decide +kernel
theorem d_M_load_37 : decode b_M_load 37 = .ok (.ireturn, 1) := by decide +kernel
theorem d_M_load_38 : decode b_M_load 38 = .ok (.iload_n 3, 1) := by decide +kernel
theorem d_M_load_39 : decode b_M_load 39 = .ok (.sipush 255, 3) := by decide +kernel
theorem d_M_load_42 : decode b_M_load 42 = .ok (.invokestatic 47, 3) := by decide +kernel
theorem d_M_load_45 : decode b_M_load 45 = .ok (.ifCond .ne 24, 3) := by decide +kernel
theorem d_M_load_48 : decode b_M_load 48 = .ok (.iload 4, 2) := by decide +kernel
theorem d_M_load_50 : decode b_M_load 50 = .ok (.sipush 255, 3) := by decide +kernel
theorem d_M_load_53 : decode b_M_load 53 = .ok (.invokestatic 47, 3) := by decide +kernel
theorem d_M_load_56 : decode b_M_load 56 = .ok (.ifCond .ne 13, 3) := by decide +kernel
theorem d_M_load_59 : decode b_M_load 59 = .ok (.iload 5, 2) := by decide +kernel
theorem d_M_load_61 : decode b_M_load 61 = .ok (.ldc 46, 2) := by decide +kernel
theorem d_M_load_63 : decode b_M_load 63 = .ok (.invokestatic 47, 3) := by decide +kernel
theorem d_M_load_66 : decode b_M_load 66 = .ok (.ifCond .eq 6, 3) := by decide +kernel
theorem d_M_load_69 : decode b_M_load 69 = .ok (.bipush (-3), 2) := by decide +kernel
theorem d_M_load_71 : decode b_M_load 71 = .ok (.ireturn, 1) := by decide +kernel
theorem d_M_load_72 : decode b_M_load 72 = .ok (.aload_n 0, 1) := by decide +kernel
theorem d_M_load_73 : decode b_M_load 73 = .ok (.getfield 22, 3) := by decide +kernel
theorem d_M_load_76 : decode b_M_load 76 = .ok (.iconst 4, 1) := by decide +kernel
theorem d_M_load_77 : decode b_M_load 77 = .ok (.iload 4, 2) := by decide +kernel
theorem d_M_load_79 : decode b_M_load 79 = .ok (.iastore, 1) := by decide +kernel
theorem d_M_load_80 : decode b_M_load 80 = .ok (.aload_n 0, 1) := by decide +kernel
theorem d_M_load_81 : decode b_M_load 81 = .ok (.getfield 22, 3) := by decide +kernel
theorem d_M_load_84 : decode b_M_load 84 = .ok (.iconst 5, 1) := by decide +kernel
theorem d_M_load_85 : decode b_M_load 85 = .ok (.bipush 100, 2) := by decide +kernel
theorem d_M_load_87 : decode b_M_load 87 = .ok (.iload 6, 2) := by decide +kernel
theorem d_M_load_89 : decode b_M_load 89 = .ok (.iadd, 1) := by decide +kernel
theorem d_M_load_90 : decode b_M_load 90 = .ok (.iastore, 1) := by decide +kernel
theorem d_M_load_91 : decode b_M_load 91 = .ok (.aload_n 0, 1) := by decide +kernel
theorem d_M_load_92 : decode b_M_load 92 = .ok (.getfield 22, 3) := by decide +kernel
theorem d_M_load_95 : decode b_M_load 95 = .ok (.bipush 6, 2) := by decide +kernel
theorem d_M_load_97 : decode b_M_load 97 = .ok (.aload_n 0, 1) := by decide +kernel
theorem d_M_load_98 : decode b_M_load 98 = .ok (.getfield 13, 3) := by decide +kernel
theorem d_M_load_101 : decode b_M_load 101 = .ok (.iload_n 1, 1) := by decide +kernel
theorem d_M_load_102 : decode b_M_load 102 = .ok (.iaload, 1) := by decide +kernel
theorem d_M_load_103 : decode b_M_load 103 = .ok (.iastore, 1) := by decide +kernel
theorem d_M_load_104 : decode b_M_load 104 = .ok (.aload_n 0, 1) := by decide +kernel
theorem d_M_load_105 : decode b_M_load 105 = .ok (.getfield 22, 3) := by decide +kernel
theorem d_M_load_108 : decode b_M_load 108 = .ok (.bipush 7, 2) := by decide +kernel
theorem d_M_load_110 : decode b_M_load 110 = .ok (.aload_n 0, 1) := by decide +kernel
theorem d_M_load_111 : decode b_M_load 111 = .ok (.getfield 16, 3) := by decide +kernel
theorem d_M_load_114 : decode b_M_load 114 = .ok (.iload_n 1, 1) := by decide +kernel
theorem d_M_load_115 : decode b_M_load 115 = .ok (.iaload, 1) := by decide +kernel
theorem d_M_load_116 : decode b_M_load 116 = .ok (.iastore, 1) := by decide +kernel
theorem d_M_load_117 : decode b_M_load 117 = .ok (.aload_n 0, 1) := by decide +kernel
theorem d_M_load_118 : decode b_M_load 118 = .ok (.getfield 22, 3) := by decide +kernel
theorem d_M_load_121 : decode b_M_load 121 = .ok (.bipush 8, 2) := by decide +kernel
theorem d_M_load_123 : decode b_M_load 123 = .ok (.iload_n 2, 1) := by decide +kernel
theorem d_M_load_124 : decode b_M_load 124 = .ok (.invokestatic 55, 3) := by decide +kernel
theorem d_M_load_127 : decode b_M_load 127 = .ok (.iastore, 1) := by decide +kernel
theorem d_M_load_128 : decode b_M_load 128 = .ok (.aload_n 0, 1) := by decide +kernel
theorem d_M_load_129 : decode b_M_load 129 = .ok (.getfield 22, 3) := by decide +kernel
theorem d_M_load_132 : decode b_M_load 132 = .ok (.bipush 9, 2) := by decide +kernel
theorem d_M_load_134 : decode b_M_load 134 = .ok (.iload_n 3, 1) := by decide +kernel
theorem d_M_load_135 : decode b_M_load 135 = .ok (.iastore, 1) := by decide +kernel
theorem d_M_load_136 : decode b_M_load 136 = .ok (.aload_n 0, 1) := by decide +kernel
theorem d_M_load_137 : decode b_M_load 137 = .ok (.getfield 22, 3) := by decide +kernel
theorem d_M_load_140 : decode b_M_load 140 = .ok (.bipush 10, 2) := by decide +kernel
theorem d_M_load_142 : decode b_M_load 142 = .ok (.iload 5, 2) := by decide +kernel
theorem d_M_load_144 : decode b_M_load 144 = .ok (.iastore, 1) := by decide +kernel
theorem d_M_load_145 : decode b_M_load 145 = .ok (.iconst 0, 1) := by decide +kernel
theorem d_M_load_146 : decode b_M_load 146 = .ok (.istore 7, 2) := by decide +kernel
theorem d_M_load_148 : decode b_M_load 148 = .ok (.iload 7, 2) := by decide +kernel
theorem d_M_load_150 : decode b_M_load 150 = .ok (.bipush 8, 2) := by decide +kernel
theorem d_M_load_152 : decode b_M_load 152 = .ok (.if_icmp .ge 25, 3) := by decide +kernel
theorem d_M_load_155 : decode b_M_load 155 = .ok (.aload_n 0, 1) := by decide +kernel
theorem d_M_load_156 : decode b_M_load 156 = .ok (.getfield 22, 3) := by decide +kernel
theorem d_M_load_159 : decode b_M_load 159 = .ok (.bipush 27, 2) := by decide +kernel
theorem d_M_load_161 : decode b_M_load 161 = .ok (.iload 7, 2) := by decide +kernel
theorem d_M_load_163 : decode b_M_load 163 = .ok (.iadd, 1) := by decide +kernel
theorem d_M_load_164 : decode b_M_load 164 = .ok (.iload_n 3, 1) := by decide +kernel
theorem d_M_load_165 : decode b_M_load 165 = .ok (.iload 7, 2) := by decide +kernel
theorem d_M_load_167 : decode b_M_load 167 = .ok (.ishr, 1) := by decide +kernel
theorem d_M_load_168 : decode b_M_load 168 = .ok (.iconst 1, 1) := by decide +kernel
theorem d_M_load_169 : decode b_M_load 169 = .ok (.iand, 1) := by decide +kernel
theorem d_M_load_170 : decode b_M_load 170 = .ok (.iastore, 1) := by decide +kernel
theorem d_M_load_171 : decode b_M_load 171 = .ok (.iinc 7 1, 3) := by decide +kernel
theorem d_M_load_174 : decode b_M_load 174 = .ok (.goto (-26), 3) := by decide +kernel
theorem d_M_load_177 : decode b_M_load 177 = .ok (.aload_n 0, 1) := by decide +kernel
theorem d_M_load_178 : decode b_M_load 178 = .ok (.iconst 0, 1) := by decide +kernel
theorem d_M_load_179 : decode b_M_load 179 = .ok (.invokevirtual 99, 3) := by decide +kernel
theorem d_M_load_182 : decode b_M_load 182 = .ok (.aload_n 0, 1) := by decide +kernel
theorem d_M_load_183 : decode b_M_load 183 = .ok (.iconst 1, 1) := by decide +kernel
theorem d_M_load_184 : decode b_M_load 184 = .ok (.invokevirtual 99, 3) := by decide +kernel
theorem d_M_load_187 : decode b_M_load 187 = .ok (.aload_n 0, 1) := by decide +kernel
theorem d_M_load_188 : decode b_M_load 188 = .ok (.iconst 2, 1) := by decide +kernel
theorem d_M_load_189 : decode b_M_load 189 = .ok (.invokevirtual 99, 3) := by decide +kernel
theorem d_M_load_192 : decode b_M_load 192 = .ok (.iconst 0, 1) := by decide +kernel
theorem d_M_load_193 : decode b_M_load 193 = .ok (.istore 7, 2) := by decide +kernel
theorem d_M_load_195 : decode b_M_load 195 = .ok (.iload 7, 2) := by decide +kernel
theorem d_M_load_197 : decode b_M_load 197 = .ok (.iconst 4, 1) := by decide +kernel
theorem d_M_load_198 : decode b_M_load 198 = .ok (.if_icmp .ge 109, 3) := by decide +kernel
theorem d_M_load_201 : decode b_M_load 201 = .ok (.iload_n 1, 1) := by decide +kernel
theorem d_M_load_202 : decode b_M_load 202 = .ok (.iload 7, 2) := by decide +kernel
theorem d_M_load_204 : decode b_M_load 204 = .ok (.ishr, 1) := by decide +kernel
theorem d_M_load_205 : decode b_M_load 205 = .ok (.istore 8, 2) := by decide +kernel
theorem d_M_load_207 : decode b_M_load 207 = .ok (.aload_n 0, 1) := by decide +kernel
theorem d_M_load_208 : decode b_M_load 208 = .ok (.getfield 22, 3) := by decide +kernel
theorem d_M_load_211 : decode b_M_load 211 = .ok (.bipush 11, 2) := by decide +kernel
theorem d_M_load_213 : decode b_M_load 213 = .ok (.iload 7, 2) := by decide +kernel
theorem d_M_load_215 : decode b_M_load 215 = .ok (.iadd, 1) := by decide +kernel
theorem d_M_load_216 : decode b_M_load 216 = .ok (.aload_n 0, 1) := by decide +kernel
theorem d_M_load_217 : decode b_M_load 217 = .ok (.aload_n 0, 1) := by decide +kernel
theorem d_M_load_218 : decode b_M_load 218 = .ok (.getfield 65, 3) := by decide +kernel
theorem d_M_load_221 : decode b_M_load 221 = .ok (.iload 7, 2) := by decide +kernel
theorem d_M_load_223 : decode b_M_load 223 = .ok (.iload 8, 2) := by decide +kernel
theorem d_M_load_225 : decode b_M_load 225 = .ok (.iconst 2, 1) := by decide +kernel
theorem d_M_load_226 : decode b_M_load 226 = .ok (.irem, 1) := by decide +kernel
theorem d_M_load_227 : decode b_M_load 227 = .ok (.ifCond .ne 10, 3) := by decide +kernel
theorem d_M_load_230 : decode b_M_load 230 = .ok (.iload 8, 2) := by decide +kernel
theorem d_M_load_232 : decode b_M_load 232 = .ok (.iconst 1, 1) := by decide +kernel
theorem d_M_load_233 : decode b_M_load 233 = .ok (.iadd, 1) := by decide +kernel
theorem d_M_load_234 : decode b_M_load 234 = .ok (.goto 7, 3) := by decide +kernel
theorem d_M_load_237 : decode b_M_load 237 = .ok (.iload 8, 2) := by decide +kernel
theorem d_M_load_239 : decode b_M_load 239 = .ok (.iconst 1, 1) := by decide +kernel
theorem d_M_load_240 : decode b_M_load 240 = .ok (.isub, 1) := by decide +kernel
theorem d_M_load_241 : decode b_M_load 241 = .ok (.invokevirtual 103, 3) := by decide +kernel
theorem d_M_load_244 : decode b_M_load 244 = .ok (.iastore, 1) := by decide +kernel
theorem d_M_load_245 : decode b_M_load 245 = .ok (.aload_n 0, 1) := by decide +kernel
theorem d_M_load_246 : decode b_M_load 246 = .ok (.getfield 22, 3) := by decide +kernel
theorem d_M_load_249 : decode b_M_load 249 = .ok (.bipush 15, 2) := by decide +kernel
theorem d_M_load_251 : decode b_M_load 251 = .ok (.iload 7, 2) := by decide +kernel
theorem d_M_load_253 : decode b_M_load 253 = .ok (.iadd, 1) := by decide +kernel
theorem d_M_load_254 : decode b_M_load 254 = .ok (.iload 8, 2) := by decide +kernel
theorem d_M_load_256 : decode b_M_load 256 = .ok (.iconst 2, 1) := by decide +kernel
theorem d_M_load_257 : decode b_M_load 257 = .ok (.irem, 1) := by decide +kernel
theorem d_M_load_258 : decode b_M_load 258 = .ok (.iastore, 1) := by decide +kernel
theorem d_M_load_259 : decode b_M_load 259 = .ok (.aload_n 0, 1) := by decide +kernel
theorem d_M_load_260 : decode b_M_load 260 = .ok (.getfield 22, 3) := by decide +kernel
theorem d_M_load_263 : decode b_M_load 263 = .ok (.bipush 19, 2) := by decide +kernel
theorem d_M_load_265 : decode b_M_load 265 = .ok (.iload 7, 2) := by decide +kernel
theorem d_M_load_267 : decode b_M_load 267 = .ok (.iadd, 1) := by decide +kernel
theorem d_M_load_268 : decode b_M_load 268 = .ok (.aload_n 0, 1) := by decide +kernel
theorem d_M_load_269 : decode b_M_load 269 = .ok (.iload 7, 2) := by decide +kernel
theorem d_M_load_271 : decode b_M_load 271 = .ok (.iconst 1, 1) := by decide +kernel
theorem d_M_load_272 : decode b_M_load 272 = .ok (.invokevirtual 93, 3) := by decide +kernel
theorem d_M_load_275 : decode b_M_load 275 = .ok (.iastore, 1) := by decide +kernel
theorem d_M_load_276 : decode b_M_load 276 = .ok (.aload_n 0, 1) := by decide +kernel
theorem d_M_load_277 : decode b_M_load 277 = .ok (.getfield 22, 3) := by decide +kernel
theorem d_M_load_280 : decode b_M_load 280 = .ok (.bipush 23, 2) := by decide +kernel
theorem d_M_load_282 : decode b_M_load 282 = .ok (.iload 7, 2) := by decide +kernel
theorem d_M_load_284 : decode b_M_load 284 = .ok (.iadd, 1) := by decide +kernel
theorem d_M_load_285 : decode b_M_load 285 = .ok (.aload_n 0, 1) := by decide +kernel
theorem d_M_load_286 : decode b_M_load 286 = .ok (.iload 7, 2) := by decide +kernel
theorem d_M_load_288 : decode b_M_load 288 = .ok (.iconst 0, 1) := by decide +kernel
theorem d_M_load_289 : decode b_M_load 289 = .ok (.invokevirtual 93, 3) := by decide +kernel
theorem d_M_load_292 : decode b_M_load 292 = .ok (.iastore, 1) := by decide +kernel
theorem d_M_load_293 : decode b_M_load 293 = .ok (.aload_n 0, 1) := by decide +kernel
theorem d_M_load_294 : decode b_M_load 294 = .ok (.iconst 3, 1) := by decide +kernel
theorem d_M_load_295 : decode b_M_load 295 = .ok (.iload 7, 2) := by decide +kernel
theorem d_M_load_297 : decode b_M_load 297 = .ok (.iadd, 1) := by decide +kernel
theorem d_M_load_298 : decode b_M_load 298 = .ok (.invokevirtual 99, 3) := by decide +kernel
theorem d_M_load_301 : decode b_M_load 301 = .ok (.iinc 7 1, 3) := by decide +kernel
theorem d_M_load_304 : decode b_M_load 304 = .ok (.goto (-109), 3) := by decide +kernel
theorem d_M_load_307 : decode b_M_load 307 = .ok (.aload_n 0, 1) := by decide +kernel
theorem d_M_load_308 : decode b_M_load 308 = .ok (.bipush 7, 2) := by decide +kernel
theorem d_M_load_310 : decode b_M_load 310 = .ok (.invokevirtual 99, 3) := by decide +kernel
theorem d_M_load_313 : decode b_M_load 313 = .ok (.aload_n 0, 1) := by decide +kernel
theorem d_M_load_314 : decode b_M_load 314 = .ok (.bipush 8, 2) := by decide +kernel
theorem d_M_load_316 : decode b_M_load 316 = .ok (.invokevirtual 99, 3) := by decide +kernel
theorem d_M_load_319 : decode b_M_load 319 = .ok (.aload_n 0, 1) := by decide +kernel
theorem d_M_load_320 : decode b_M_load 320 = .ok (.bipush 9, 2) := by decide +kernel
theorem d_M_load_322 : decode b_M_load 322 = .ok (.invokevirtual 99, 3) := by decide +kernel
theorem d_M_load_325 : decode b_M_load 325 = .ok (.aload_n 0, 1) := by decide +kernel
theorem d_M_load_326 : decode b_M_load 326 = .ok (.getfield 22, 3) := by decide +kernel
theorem d_M_load_329 : decode b_M_load 329 = .ok (.iconst 1, 1) := by decide +kernel
theorem d_M_load_330 : decode b_M_load 330 = .ok (.aload_n 0, 1) := by decide +kernel
theorem d_M_load_331 : decode b_M_load 331 = .ok (.getfield 22, 3) := by decide +kernel
theorem d_M_load_334 : decode b_M_load 334 = .ok (.bipush 97, 2) := by decide +kernel
theorem d_M_load_336 : decode b_M_load 336 = .ok (.iaload, 1) := by decide +kernel
theorem d_M_load_337 : decode b_M_load 337 = .ok (.iastore, 1) := by decide +kernel
theorem d_M_load_338 : decode b_M_load 338 = .ok (.aload_n 0, 1) := by decide +kernel
theorem d_M_load_339 : decode b_M_load 339 = .ok (.getfield 22, 3) := by decide +kernel
theorem d_M_load_342 : decode b_M_load 342 = .ok (.iconst 2, 1) := by decide +kernel
theorem d_M_load_343 : decode b_M_load 343 = .ok (.aload_n 0, 1) := by decide +kernel
theorem d_M_load_344 : decode b_M_load 344 = .ok (.getfield 22, 3) := by decide +kernel
theorem d_M_load_347 : decode b_M_load 347 = .ok (.bipush 106, 2) := by decide +kernel
theorem d_M_load_349 : decode b_M_load 349 = .ok (.iaload, 1) := by decide +kernel
theorem d_M_load_350 : decode b_M_load 350 = .ok (.iastore, 1) := by decide +kernel
theorem d_M_load_351 : decode b_M_load 351 = .ok (.aload_n 0, 1) := by decide +kernel
theorem d_M_load_352 : decode b_M_load 352 = .ok (.getfield 22, 3) := by decide +kernel
theorem d_M_load_355 : decode b_M_load 355 = .ok (.iconst 3, 1) := by decide +kernel
theorem d_M_load_356 : decode b_M_load 356 = .ok (.aload_n 0, 1) := by decide +kernel
theorem d_M_load_357 : decode b_M_load 357 = .ok (.getfield 22, 3) := by decide +kernel
theorem d_M_load_360 : decode b_M_load 360 = .ok (.bipush 124, 2) := by decide +kernel
theorem d_M_load_362 : decode b_M_load 362 = .ok (.iaload, 1) := by decide +kernel
theorem d_M_load_363 : decode b_M_load 363 = .ok (.iastore, 1) := by decide +kernel
theorem d_M_load_364 : decode b_M_load 364 = .ok (.aload_n 0, 1) := by decide +kernel
theorem d_M_load_365 : decode b_M_load 365 = .ok (.invokevirtual 106, 3) := by decide +kernel
theorem d_M_load_368 : decode b_M_load 368 = .ok (.iconst (-1), 1) := by decide +kernel
theorem d_M_load_369 : decode b_M_load 369 = .ok (.if_icmp .ne 7, 3) := by decide +kernel
theorem d_M_load_372 : decode b_M_load 372 = .ok (.iconst 1, 1) := by decide +kernel
theorem d_M_load_373 : decode b_M_load 373 = .ok (.goto 4, 3) := by decide +kernel
theorem d_M_load_376 : decode b_M_load 376 = .ok (.iconst 0, 1) := by decide +kernel
theorem d_M_load_377 : decode b_M_load 377 = .ok (.ireturn, 1) := by decide +kernel
theorem d_M_ownerOf_0 : decode b_M_ownerOf 0 = .ok (.iconst 0, 1) := by decide +kernel
theorem d_M_ownerOf_1 : decode b_M_ownerOf 1 = .ok (.istore_n 2, 1) := by decide +kernel
theorem d_M_ownerOf_2 : decode b_M_ownerOf 2 = .ok (.iload_n 2, 1) := by decide +kernel
theorem d_M_ownerOf_3 : decode b_M_ownerOf 3 = .ok (.iconst 4, 1) := by decide +kernel
theorem d_M_ownerOf_4 : decode b_M_ownerOf 4 = .ok (.if_icmp .ge 24, 3) := by decide +kernel
theorem d_M_ownerOf_7 : decode b_M_ownerOf 7 = .ok (.iload_n 2, 1) := by decide +kernel
theorem d_M_ownerOf_8 : decode b_M_ownerOf 8 = .ok (.invokestatic 55, 3) := by decide +kernel
theorem d_M_ownerOf_11 : decode b_M_ownerOf 11 = .ok (.aload_n 0, 1) := by decide +kernel
theorem d_M_ownerOf_12 : decode b_M_ownerOf 12 = .ok (.getfield 7, 3) := by decide +kernel
theorem d_M_ownerOf_15 : decode b_M_ownerOf 15 = .ok (.iload_n 1, 1) := by decide +kernel
theorem d_M_ownerOf_16 : decode b_M_ownerOf 16 = .ok (.iaload, 1) := by decide +kernel
theorem d_M_ownerOf_17 : decode b_M_ownerOf 17 = .ok (.if_icmp .ne 5, 3) := by decide +kernel
theorem d_M_ownerOf_20 : decode b_M_ownerOf 20 = .ok (.iload_n 2, 1) := by decide +kernel
theorem d_M_ownerOf_21 : decode b_M_ownerOf 21 = .ok (.ireturn, 1) := by decide +kernel
theorem d_M_ownerOf_22 : decode b_M_ownerOf 22 = .ok (.iinc 2 1, 3) := by decide +kernel
theorem d_M_ownerOf_25 : decode b_M_ownerOf 25 = .ok (.goto (-23), 3) := by decide +kernel
theorem d_M_ownerOf_28 : decode b_M_ownerOf 28 = .ok (.iconst (-1), 1) := by decide +kernel
theorem d_M_ownerOf_29 : decode b_M_ownerOf 29 = .ok (.ireturn, 1) := by decide +kernel
theorem d_M_fill_0 : decode b_M_fill 0 = .ok (.iconst 0, 1) := by decide +kernel
theorem d_M_fill_1 : decode b_M_fill 1 = .ok (.istore_n 2, 1) := by decide +kernel
theorem d_M_fill_2 : decode b_M_fill 2 = .ok (.iload_n 2, 1) := by decide +kernel
theorem d_M_fill_3 : decode b_M_fill 3 = .ok (.bipush 9, 2) := by decide +kernel
theorem d_M_fill_5 : decode b_M_fill 5 = .ok (.if_icmp .ge 29, 3) := by decide +kernel
theorem d_M_fill_8 : decode b_M_fill 8 = .ok (.aload_n 0, 1) := by decide +kernel
theorem d_M_fill_9 : decode b_M_fill 9 = .ok (.getfield 22, 3) := by decide +kernel
theorem d_M_fill_12 : decode b_M_fill 12 = .ok (.bipush 35, 2) := by decide +kernel
theorem d_M_fill_14 : decode b_M_fill 14 = .ok (.bipush 9, 2) := by decide +kernel
theorem d_M_fill_16 : decode b_M_fill 16 = .ok (.iload_n 1, 1) := by decide +kernel
theorem d_M_fill_17 : decode b_M_fill 17 = .ok (.imul, 1) := by decide +kernel
theorem d_M_fill_18 : decode b_M_fill 18 = .ok (.iadd, 1) := by decide +kernel
theorem d_M_fill_19 : decode b_M_fill 19 = .ok (.iload_n 2, 1) := by decide +kernel
theorem d_M_fill_20 : decode b_M_fill 20 = .ok (.iadd, 1) := by decide +kernel
theorem d_M_fill_21 : decode b_M_fill 21 = .ok (.aload_n 0, 1) := by decide +kernel
theorem d_M_fill_22 : decode b_M_fill 22 = .ok (.iload_n 1, 1) := by decide +kernel
theorem d_M_fill_23 : decode b_M_fill 23 = .ok (.iload_n 2, 1) := by decide +kernel
theorem d_M_fill_24 : decode b_M_fill 24 = .ok (.invokevirtual 79, 3) := by decide +kernel
theorem d_M_fill_27 : decode b_M_fill 27 = .ok (.iastore, 1) := by decide +kernel
theorem d_M_fill_28 : decode b_M_fill 28 = .ok (.iinc 2 1, 3) := by decide +kernel
theorem d_M_fill_31 : decode b_M_fill 31 = .ok (.goto (-29), 3) := by decide +kernel
theorem d_M_fill_34 : decode b_M_fill 34 = .ok (.return_, 1) := by decide +kernel
theorem d_M_due_0 : decode b_M_due 0 = .ok (.bipush 35, 2) := by decide +kernel
theorem d_M_due_2 : decode b_M_due 2 = .ok (.bipush 9, 2) := by decide +kernel
theorem d_M_due_4 : decode b_M_due 4 = .ok (.iload_n 1, 1) := by decide +kernel
theorem d_M_due_5 : decode b_M_due 5 = .ok (.imul, 1) := by decide +kernel
theorem d_M_due_6 : decode b_M_due 6 = .ok (.iadd, 1) := by decide +kernel
theorem d_M_due_7 : decode b_M_due 7 = .ok (.istore_n 3, 1) := by decide +kernel
theorem d_M_due_8 : decode b_M_due 8 = .ok (.aload_n 0, 1) := by decide +kernel
theorem d_M_due_9 : decode b_M_due 9 = .ok (.iload_n 1, 1) := by decide +kernel
theorem d_M_due_10 : decode b_M_due 10 = .ok (.iconst 1, 1) := by decide +kernel
theorem d_M_due_11 : decode b_M_due 11 = .ok (.invokevirtual 75, 3) := by decide +kernel
theorem d_M_due_14 : decode b_M_due 14 = .ok (.i2l, 1) := by decide +kernel
theorem d_M_due_15 : decode b_M_due 15 = .ok (.lstore 4, 2) := by decide +kernel
theorem d_M_due_17 : decode b_M_due 17 = .ok (.aload_n 0, 1) := by decide +kernel
theorem d_M_due_18 : decode b_M_due 18 = .ok (.iload_n 1, 1) := by decide +kernel
theorem d_M_due_19 : decode b_M_due 19 = .ok (.iconst 0, 1) := by decide +kernel
theorem d_M_due_20 : decode b_M_due 20 = .ok (.invokevirtual 75, 3) := by decide +kernel
theorem d_M_due_23 : decode b_M_due 23 = .ok (.i2l, 1) := by decide +kernel
theorem d_M_due_24 : decode b_M_due 24 = .ok (.lstore 6, 2) := by decide +kernel
theorem d_M_due_26 : decode b_M_due 26 = .ok (.iload_n 2, 1) := by decide +kernel
theorem d_M_due_27 : decode b_M_due 27 = .ok (.bipush 8, 2) := by decide +kernel
theorem d_M_due_29 : decode b_M_due 29 = .ok (.if_icmp .ne 23, 3) := by decide +kernel
theorem d_M_due_32 : decode b_M_due 32 = .ok (.aload_n 0, 1) := by decide +kernel
theorem d_M_due_33 : decode b_M_due 33 = .ok (.getfield 22, 3) := by decide +kernel
theorem d_M_due_36 : decode b_M_due 36 = .ok (.iload_n 3, 1) := by decide +kernel
theorem d_M_due_37 : decode b_M_due 37 = .ok (.bipush 7, 2) := by decide +kernel
theorem d_M_due_39 : decode b_M_due 39 = .ok (.iadd, 1) := by decide +kernel
theorem d_M_due_40 : decode b_M_due 40 = .ok (.iaload, 1) := by decide +kernel
theorem d_M_due_41 : decode b_M_due 41 = .ok (.i2l, 1) := by decide +kernel
theorem d_M_due_42 : decode b_M_due 42 = .ok (.lload 4, 2) := by decide +kernel
theorem d_M_due_44 : decode b_M_due 44 = .ok (.ladd, 1) := by decide +kernel
theorem d_M_due_45 : decode b_M_due 45 = .ok (.lload 6, 2) := by decide +kernel
theorem d_M_due_47 : decode b_M_due 47 = .ok (.ladd, 1) := by decide +kernel
theorem d_M_due_48 : decode b_M_due 48 = .ok (.invokestatic 30, 3) := by decide +kernel
theorem d_M_due_51 : decode b_M_due 51 = .ok (.ireturn, 1) := by decide +kernel
theorem d_M_due_52 : decode b_M_due 52 = .ok (.iload_n 2, 1) := by decide +kernel
theorem d_M_due_53 : decode b_M_due 53 = .ok (.iconst 2, 1) := by decide +kernel
theorem d_M_due_54 : decode b_M_due 54 = .ok (.idiv, 1) := by decide +kernel
theorem d_M_due_55 : decode b_M_due 55 = .ok (.istore 8, 2) := by decide +kernel
theorem d_M_due_57 : decode b_M_due 57 = .ok (.iload 8, 2) := by decide +kernel
theorem d_M_due_59 : decode b_M_due 59 = .ok (.ifCond .ne 8, 3) := by decide +kernel
theorem d_M_due_62 : decode b_M_due 62 = .ok (.lload 4, 2) := by decide +kernel
theorem d_M_due_64 : decode b_M_due 64 = .ok (.goto 17, 3) := by decide +kernel
theorem d_M_due_67 : decode b_M_due 67 = .ok (.aload_n 0, 1) := by decide +kernel
theorem d_M_due_68 : decode b_M_due 68 = .ok (.getfield 22, 3) := by decide +kernel
theorem d_M_due_71 : decode b_M_due 71 = .ok (.iload_n 3, 1) := by decide +kernel
theorem d_M_due_72 : decode b_M_due 72 = .ok (.iconst 2, 1) := by decide +kernel
theorem d_M_due_73 : decode b_M_due 73 = .ok (.iload 8, 2) := by decide +kernel
theorem d_M_due_75 : decode b_M_due 75 = .ok (.imul, 1) := by decide +kernel
theorem d_M_due_76 : decode b_M_due 76 = .ok (.iadd, 1) := by decide +kernel
theorem d_M_due_77 : decode b_M_due 77 = .ok (.iconst 1, 1) := by decide +kernel
theorem d_M_due_78 : decode b_M_due 78 = .ok (.isub, 1) := by decide +kernel
theorem d_M_due_79 : decode b_M_due 79 = .ok (.iaload, 1) := by decide +kernel
theorem d_M_due_80 : decode b_M_due 80 = .ok (.i2l, 1) := by decide +kernel
theorem d_M_due_81 : decode b_M_due 81 = .ok (.lstore 9, 2) := by decide +kernel
theorem d_M_due_83 : decode b_M_due 83 = .ok (.lload 9, 2) := by decide +kernel
theorem d_M_due_85 : decode b_M_due 85 = .ok (.lload 6, 2) := by decide +kernel
theorem d_M_due_87 : decode b_M_due 87 = .ok (.ladd, 1) := by decide +kernel
theorem d_M_due_88 : decode b_M_due 88 = .ok (.iload 8, 2) := by decide +kernel
theorem d_M_due_90 : decode b_M_due 90 = .ok (.invokestatic 39, 3) := by decide +kernel
theorem d_M_due_93 : decode b_M_due 93 = .ok (.i2l, 1) := by decide +kernel
theorem d_M_due_94 : decode b_M_due 94 = .ok (.ladd, 1) := by decide +kernel
theorem d_M_due_95 : decode b_M_due 95 = .ok (.invokestatic 30, 3) := by decide +kernel
theorem d_M_due_98 : decode b_M_due 98 = .ok (.istore 11, 2) := by decide +kernel
theorem d_M_due_100 : decode b_M_due 100 = .ok (.iload_n 2, 1) := by decide +kernel
theorem d_M_due_101 : decode b_M_due 101 = .ok (.iconst 2, 1) := by decide +kernel
theorem d_M_due_102 : decode b_M_due 102 = .ok (.irem, 1) := by decide +kernel
theorem d_M_due_103 : decode b_M_due 103 = .ok (.ifCond .ne 15, 3) := by decide +kernel
theorem d_M_due_106 : decode b_M_due 106 = .ok (.iload 11, 2) := by decide +kernel
theorem d_M_due_108 : decode b_M_due 108 = .ok (.i2l, 1) := by decide +kernel
theorem d_M_due_109 : decode b_M_due 109 = .ok (.iload 11, 2) := by decide +kernel
theorem d_M_due_111 : decode b_M_due 111 = .ok (.i2l, 1) := by decide +kernel
theorem d_M_due_112 : decode b_M_due 112 = .ok (.invokestatic 34, 3) := by decide +kernel
theorem d_M_due_115 : decode b_M_due 115 = .ok (.goto 20, 3) := by decide +kernel
theorem d_M_due_118 : decode b_M_due 118 = .ok (.aload_n 0, 1) := by decide +kernel
theorem d_M_due_119 : decode b_M_due 119 = .ok (.getfield 22, 3) := by decide +kernel
theorem d_M_due_122 : decode b_M_due 122 = .ok (.iload_n 3, 1) := by decide +kernel
theorem d_M_due_123 : decode b_M_due 123 = .ok (.iload_n 2, 1) := by decide +kernel
theorem d_M_due_124 : decode b_M_due 124 = .ok (.iadd, 1) := by decide +kernel
theorem d_M_due_125 : decode b_M_due 125 = .ok (.iconst 1, 1) := by decide +kernel
theorem d_M_due_126 : decode b_M_due 126 = .ok (.isub, 1) := by decide +kernel
theorem d_M_due_127 : decode b_M_due 127 = .ok (.iaload, 1) := by decide +kernel
theorem d_M_due_128 : decode b_M_due 128 = .ok (.i2l, 1) := by decide +kernel
theorem d_M_due_129 : decode b_M_due 129 = .ok (.iload 11, 2) := by decide +kernel
theorem d_M_due_131 : decode b_M_due 131 = .ok (.i2l, 1) := by decide +kernel
theorem d_M_due_132 : decode b_M_due 132 = .ok (.invokestatic 34, 3) := by decide +kernel
theorem d_M_due_135 : decode b_M_due 135 = .ok (.ireturn, 1) := by decide +kernel
theorem d_M_input_0 : decode b_M_input 0 = .ok (.iload_n 1, 1) := by decide +kernel
theorem d_M_input_1 : decode b_M_input 1 = .ok (.iconst 3, 1) := by decide +kernel
theorem d_M_input_2 : decode b_M_input 2 = .ok (.if_icmp .lt 30, 3) := by decide +kernel
theorem d_M_input_5 : decode b_M_input 5 = .ok (.iload_n 1, 1) := by decide +kernel
theorem d_M_input_6 : decode b_M_input 6 = .ok (.bipush 6, 2) := by decide +kernel
theorem d_M_input_8 : decode b_M_input 8 = .ok (.if_icmp .gt 24, 3) := by decide +kernel
theorem d_M_input_11 : decode b_M_input 11 = .ok (.aload_n 0, 1) := by decide +kernel
theorem d_M_input_12 : decode b_M_input 12 = .ok (.getfield 22, 3) := by decide +kernel
theorem d_M_input_15 : decode b_M_input 15 = .ok (.iload_n 2, 1) := by decide +kernel
theorem d_M_input_16 : decode b_M_input 16 = .ok (.ifCond .eq 8, 3) := by decide +kernel
theorem d_M_input_19 : decode b_M_input 19 = .ok (.bipush 19, 2) := by decide +kernel
theorem d_M_input_21 : decode b_M_input 21 = .ok (.goto 5, 3) := by decide +kernel
theorem d_M_input_24 : decode b_M_input 24 = .ok (.bipush 23, 2) := by decide +kernel
theorem d_M_input_26 : decode b_M_input 26 = .ok (.iload_n 1, 1) := by decide +kernel
theorem d_M_input_27 : decode b_M_input 27 = .ok (.iadd, 1) := by decide +kernel
theorem d_M_input_28 : decode b_M_input 28 = .ok (.iconst 3, 1) := by decide +kernel
theorem d_M_input_29 : decode b_M_input 29 = .ok (.isub, 1) := by decide +kernel
theorem d_M_input_30 : decode b_M_input 30 = .ok (.iaload, 1) := by decide +kernel
theorem d_M_input_31 : decode b_M_input 31 = .ok (.ireturn, 1) := by decide +kernel
theorem d_M_input_32 : decode b_M_input 32 = .ok (.iload_n 1, 1) := by decide +kernel
theorem d_M_input_33 : decode b_M_input 33 = .ok (.tableswitch 153 0 8 #[51, 66, 88, 153, 153, 153, 153, 110, 131], 51) := by decide +kernel
theorem d_M_input_84 : decode b_M_input 84 = .ok (.iload_n 2, 1) := by decide +kernel
theorem d_M_input_85 : decode b_M_input 85 = .ok (.ifCond .eq 12, 3) := by decide +kernel
theorem d_M_input_88 : decode b_M_input 88 = .ok (.aload_n 0, 1) := by decide +kernel
theorem d_M_input_89 : decode b_M_input 89 = .ok (.getfield 22, 3) := by decide +kernel
theorem d_M_input_92 : decode b_M_input 92 = .ok (.iconst 5, 1) := by decide +kernel
theorem d_M_input_93 : decode b_M_input 93 = .ok (.iaload, 1) := by decide +kernel
theorem d_M_input_94 : decode b_M_input 94 = .ok (.goto 4, 3) := by decide +kernel
theorem d_M_input_97 : decode b_M_input 97 = .ok (.iconst 0, 1) := by decide +kernel
theorem d_M_input_98 : decode b_M_input 98 = .ok (.ireturn, 1) := by decide +kernel
theorem d_M_input_99 : decode b_M_input 99 = .ok (.iload_n 2, 1) := by decide +kernel
theorem d_M_input_100 : decode b_M_input 100 = .ok (.ifCond .eq 13, 3) := by decide +kernel
theorem d_M_input_103 : decode b_M_input 103 = .ok (.aload_n 0, 1) := by decide +kernel
theorem d_M_input_104 : decode b_M_input 104 = .ok (.getfield 22, 3) := by decide +kernel
theorem d_M_input_107 : decode b_M_input 107 = .ok (.bipush 43, 2) := by decide +kernel
theorem d_M_input_109 : decode b_M_input 109 = .ok (.iaload, 1) := by decide +kernel
theorem d_M_input_110 : decode b_M_input 110 = .ok (.goto 10, 3) := by decide +kernel
theorem d_M_input_113 : decode b_M_input 113 = .ok (.aload_n 0, 1) := by decide +kernel
theorem d_M_input_114 : decode b_M_input 114 = .ok (.getfield 22, 3) := by decide +kernel
theorem d_M_input_117 : decode b_M_input 117 = .ok (.bipush 6, 2) := by decide +kernel
theorem d_M_input_119 : decode b_M_input 119 = .ok (.iaload, 1) := by decide +kernel
theorem d_M_input_120 : decode b_M_input 120 = .ok (.ireturn, 1) := by decide +kernel
theorem d_M_input_121 : decode b_M_input 121 = .ok (.iload_n 2, 1) := by decide +kernel
theorem d_M_input_122 : decode b_M_input 122 = .ok (.ifCond .eq 13, 3) := by decide +kernel
theorem d_M_input_125 : decode b_M_input 125 = .ok (.aload_n 0, 1) := by decide +kernel
theorem d_M_input_126 : decode b_M_input 126 = .ok (.getfield 22, 3) := by decide +kernel
theorem d_M_input_129 : decode b_M_input 129 = .ok (.bipush 52, 2) := by decide +kernel
theorem d_M_input_131 : decode b_M_input 131 = .ok (.iaload, 1) := by decide +kernel
theorem d_M_input_132 : decode b_M_input 132 = .ok (.goto 10, 3) := by decide +kernel
theorem d_M_input_135 : decode b_M_input 135 = .ok (.aload_n 0, 1) := by decide +kernel
theorem d_M_input_136 : decode b_M_input 136 = .ok (.getfield 22, 3) := by decide +kernel
theorem d_M_input_139 : decode b_M_input 139 = .ok (.bipush 7, 2) := by decide +kernel
theorem d_M_input_141 : decode b_M_input 141 = .ok (.iaload, 1) := by decide +kernel
theorem d_M_input_142 : decode b_M_input 142 = .ok (.ireturn, 1) := by decide +kernel
theorem d_M_input_143 : decode b_M_input 143 = .ok (.iload_n 2, 1) := by decide +kernel
theorem d_M_input_144 : decode b_M_input 144 = .ok (.ifCond .eq 12, 3) := by decide +kernel
theorem d_M_input_147 : decode b_M_input 147 = .ok (.aload_n 0, 1) := by decide +kernel
theorem d_M_input_148 : decode b_M_input 148 = .ok (.getfield 22, 3) := by decide +kernel
theorem d_M_input_151 : decode b_M_input 151 = .ok (.iconst 5, 1) := by decide +kernel
theorem d_M_input_152 : decode b_M_input 152 = .ok (.iaload, 1) := by decide +kernel
theorem d_M_input_153 : decode b_M_input 153 = .ok (.goto 10, 3) := by decide +kernel
theorem d_M_input_156 : decode b_M_input 156 = .ok (.aload_n 0, 1) := by decide +kernel
theorem d_M_input_157 : decode b_M_input 157 = .ok (.getfield 22, 3) := by decide +kernel
theorem d_M_input_160 : decode b_M_input 160 = .ok (.bipush 61, 2) := by decide +kernel
theorem d_M_input_162 : decode b_M_input 162 = .ok (.iaload, 1) := by decide +kernel
theorem d_M_input_163 : decode b_M_input 163 = .ok (.ireturn, 1) := by decide +kernel
theorem d_M_input_164 : decode b_M_input 164 = .ok (.iload_n 2, 1) := by decide +kernel
theorem d_M_input_165 : decode b_M_input 165 = .ok (.ifCond .eq 13, 3) := by decide +kernel
theorem d_M_input_168 : decode b_M_input 168 = .ok (.aload_n 0, 1) := by decide +kernel
theorem d_M_input_169 : decode b_M_input 169 = .ok (.getfield 22, 3) := by decide +kernel
theorem d_M_input_172 : decode b_M_input 172 = .ok (.bipush 8, 2) := by decide +kernel
theorem d_M_input_174 : decode b_M_input 174 = .ok (.iaload, 1) := by decide +kernel
theorem d_M_input_175 : decode b_M_input 175 = .ok (.goto 10, 3) := by decide +kernel
theorem d_M_input_178 : decode b_M_input 178 = .ok (.aload_n 0, 1) := by decide +kernel
theorem d_M_input_179 : decode b_M_input 179 = .ok (.getfield 22, 3) := by decide +kernel
theorem d_M_input_182 : decode b_M_input 182 = .ok (.bipush 9, 2) := by decide +kernel
theorem d_M_input_184 : decode b_M_input 184 = .ok (.iaload, 1) := by decide +kernel
theorem d_M_input_185 : decode b_M_input 185 = .ok (.ireturn, 1) := by decide +kernel
theorem d_M_input_186 : decode b_M_input 186 = .ok (.iload_n 2, 1) := by decide +kernel
theorem d_M_input_187 : decode b_M_input 187 = .ok (.ifCond .eq 13, 3) := by decide +kernel
theorem d_M_input_190 : decode b_M_input 190 = .ok (.aload_n 0, 1) := by decide +kernel
theorem d_M_input_191 : decode b_M_input 191 = .ok (.getfield 22, 3) := by decide +kernel
theorem d_M_input_194 : decode b_M_input 194 = .ok (.bipush 115, 2) := by decide +kernel
theorem d_M_input_196 : decode b_M_input 196 = .ok (.iaload, 1) := by decide +kernel
theorem d_M_input_197 : decode b_M_input 197 = .ok (.goto 10, 3) := by decide +kernel
theorem d_M_input_200 : decode b_M_input 200 = .ok (.aload_n 0, 1) := by decide +kernel
theorem d_M_input_201 : decode b_M_input 201 = .ok (.getfield 22, 3) := by decide +kernel
theorem d_M_input_204 : decode b_M_input 204 = .ok (.bipush 10, 2) := by decide +kernel
theorem d_M_input_206 : decode b_M_input 206 = .ok (.iaload, 1) := by decide +kernel
theorem d_M_input_207 : decode b_M_input 207 = .ok (.ireturn, 1) := by decide +kernel
theorem d_M_nodeOf_0 : decode b_M_nodeOf 0 = .ok (.iconst 0, 1) := by decide +kernel
theorem d_M_nodeOf_1 : decode b_M_nodeOf 1 = .ok (.istore 4, 2) := by decide +kernel
theorem d_M_nodeOf_3 : decode b_M_nodeOf 3 = .ok (.iload 4, 2) := by decide +kernel
theorem d_M_nodeOf_5 : decode b_M_nodeOf 5 = .ok (.bipush 16, 2) := by decide +kernel
theorem d_M_nodeOf_7 : decode b_M_nodeOf 7 = .ok (.if_icmp .ge 32, 3) := by decide +kernel
theorem d_M_nodeOf_10 : decode b_M_nodeOf 10 = .ok (.aload_n 0, 1) := by decide +kernel
theorem d_M_nodeOf_11 : decode b_M_nodeOf 11 = .ok (.getfield 25, 3) := by decide +kernel
theorem d_M_nodeOf_14 : decode b_M_nodeOf 14 = .ok (.iload 4, 2) := by decide +kernel
theorem d_M_nodeOf_16 : decode b_M_nodeOf 16 = .ok (.iload 4, 2) := by decide +kernel
theorem d_M_nodeOf_18 : decode b_M_nodeOf 18 = .ok (.iload_n 1, 1) := by decide +kernel
theorem d_M_nodeOf_19 : decode b_M_nodeOf 19 = .ok (.if_icmp .ge 12, 3) := by decide +kernel
theorem d_M_nodeOf_22 : decode b_M_nodeOf 22 = .ok (.aload_n 0, 1) := by decide +kernel
theorem d_M_nodeOf_23 : decode b_M_nodeOf 23 = .ok (.iload 4, 2) := by decide +kernel
theorem d_M_nodeOf_25 : decode b_M_nodeOf 25 = .ok (.invokevirtual 62, 3) := by decide +kernel
theorem d_M_nodeOf_28 : decode b_M_nodeOf 28 = .ok (.goto 4, 3) := by decide +kernel
theorem d_M_nodeOf_31 : decode b_M_nodeOf 31 = .ok (.iconst 0, 1) := by decide +kernel
theorem d_M_nodeOf_32 : decode b_M_nodeOf 32 = .ok (.iastore, 1) := by decide +kernel
theorem d_M_nodeOf_33 : decode b_M_nodeOf 33 = .ok (.iinc 4 1, 3) := by decide +kernel
theorem d_M_nodeOf_36 : decode b_M_nodeOf 36 = .ok (.goto (-33), 3) := by decide +kernel
theorem d_M_nodeOf_39 : decode b_M_nodeOf 39 = .ok (.bipush 16, 2) := by decide +kernel
theorem d_M_nodeOf_41 : decode b_M_nodeOf 41 = .ok (.istore 4, 2) := by decide +kernel
theorem d_M_nodeOf_43 : decode b_M_nodeOf 43 = .ok (.iconst 0, 1) := by decide +kernel
theorem d_M_nodeOf_44 : decode b_M_nodeOf 44 = .ok (.istore 5, 2) := by decide +kernel
theorem d_M_nodeOf_46 : decode b_M_nodeOf 46 = .ok (.iload 5, 2) := by decide +kernel
theorem d_M_nodeOf_48 : decode b_M_nodeOf 48 = .ok (.iload_n 2, 1) := by decide +kernel
theorem d_M_nodeOf_49 : decode b_M_nodeOf 49 = .ok (.if_icmp .ge 61, 3) := by decide +kernel
theorem d_M_nodeOf_52 : decode b_M_nodeOf 52 = .ok (.iload 4, 2) := by decide +kernel
theorem d_M_nodeOf_54 : decode b_M_nodeOf 54 = .ok (.iconst 2, 1) := by decide +kernel
theorem d_M_nodeOf_55 : decode b_M_nodeOf 55 = .ok (.idiv, 1) := by decide +kernel
theorem d_M_nodeOf_56 : decode b_M_nodeOf 56 = .ok (.istore 4, 2) := by decide +kernel
theorem d_M_nodeOf_58 : decode b_M_nodeOf 58 = .ok (.iconst 0, 1) := by decide +kernel
theorem d_M_nodeOf_59 : decode b_M_nodeOf 59 = .ok (.istore 6, 2) := by decide +kernel
theorem d_M_nodeOf_61 : decode b_M_nodeOf 61 = .ok (.iload 6, 2) := by decide +kernel
theorem d_M_nodeOf_63 : decode b_M_nodeOf 63 = .ok (.iload 4, 2) := by decide +kernel
theorem d_M_nodeOf_65 : decode b_M_nodeOf 65 = .ok (.if_icmp .ge 39, 3) := by decide +kernel
theorem d_M_nodeOf_68 : decode b_M_nodeOf 68 = .ok (.aload_n 0, 1) := by decide +kernel
theorem d_M_nodeOf_69 : decode b_M_nodeOf 69 = .ok (.getfield 25, 3) := by decide +kernel
theorem d_M_nodeOf_72 : decode b_M_nodeOf 72 = .ok (.iload 6, 2) := by decide +kernel
theorem d_M_nodeOf_74 : decode b_M_nodeOf 74 = .ok (.aload_n 0, 1) := by decide +kernel
theorem d_M_nodeOf_75 : decode b_M_nodeOf 75 = .ok (.getfield 25, 3) := by decide +kernel
theorem d_M_nodeOf_78 : decode b_M_nodeOf 78 = .ok (.iconst 2, 1) := by decide +kernel
theorem d_M_nodeOf_79 : decode b_M_nodeOf 79 = .ok (.iload 6, 2) := by decide +kernel
theorem d_M_nodeOf_81 : decode b_M_nodeOf 81 = .ok (.imul, 1) := by decide +kernel
theorem d_M_nodeOf_82 : decode b_M_nodeOf 82 = .ok (.iaload, 1) := by decide +kernel
theorem d_M_nodeOf_83 : decode b_M_nodeOf 83 = .ok (.aload_n 0, 1) := by decide +kernel
theorem d_M_nodeOf_84 : decode b_M_nodeOf 84 = .ok (.getfield 25, 3) := by decide +kernel
theorem d_M_nodeOf_87 : decode b_M_nodeOf 87 = .ok (.iconst 2, 1) := by decide +kernel
theorem d_M_nodeOf_88 : decode b_M_nodeOf 88 = .ok (.iload 6, 2) := by decide +kernel
theorem d_M_nodeOf_90 : decode b_M_nodeOf 90 = .ok (.imul, 1) := by decide +kernel
theorem d_M_nodeOf_91 : decode b_M_nodeOf 91 = .ok (.iconst 1, 1) := by decide +kernel
theorem d_M_nodeOf_92 : decode b_M_nodeOf 92 = .ok (.iadd, 1) := by decide +kernel
theorem d_M_nodeOf_93 : decode b_M_nodeOf 93 = .ok (.iaload, 1) := by decide +kernel
theorem d_M_nodeOf_94 : decode b_M_nodeOf 94 = .ok (.invokestatic 51, 3) := by decide +kernel
theorem d_M_nodeOf_97 : decode b_M_nodeOf 97 = .ok (.iastore, 1) := by decide +kernel
theorem d_M_nodeOf_98 : decode b_M_nodeOf 98 = .ok (.iinc 6 1, 3) := by decide +kernel
theorem d_M_nodeOf_101 : decode b_M_nodeOf 101 = .ok (.goto (-40), 3) := by decide +kernel
theorem d_M_nodeOf_104 : decode b_M_nodeOf 104 = .ok (.iinc 5 1, 3) := by decide +kernel
theorem d_M_nodeOf_107 : decode b_M_nodeOf 107 = .ok (.goto (-61), 3) := by decide +kernel
theorem d_M_nodeOf_110 : decode b_M_nodeOf 110 = .ok (.aload_n 0, 1) := by decide +kernel
theorem d_M_nodeOf_111 : decode b_M_nodeOf 111 = .ok (.getfield 25, 3) := by decide +kernel
theorem d_M_nodeOf_114 : decode b_M_nodeOf 114 = .ok (.iload_n 3, 1) := by decide +kernel
theorem d_M_nodeOf_115 : decode b_M_nodeOf 115 = .ok (.iaload, 1) := by decide +kernel
theorem d_M_nodeOf_116 : decode b_M_nodeOf 116 = .ok (.ireturn, 1) := by decide +kernel
theorem d_M_leaf_0 : decode b_M_leaf 0 = .ok (.aload_n 0, 1) := by decide +kernel
theorem d_M_leaf_1 : decode b_M_leaf 1 = .ok (.getfield 7, 3) := by decide +kernel
theorem d_M_leaf_4 : decode b_M_leaf 4 = .ok (.iload_n 1, 1) := by decide +kernel
theorem d_M_leaf_5 : decode b_M_leaf 5 = .ok (.iaload, 1) := by decide +kernel
theorem d_M_leaf_6 : decode b_M_leaf 6 = .ok (.aload_n 0, 1) := by decide +kernel
theorem d_M_leaf_7 : decode b_M_leaf 7 = .ok (.getfield 13, 3) := by decide +kernel
theorem d_M_leaf_10 : decode b_M_leaf 10 = .ok (.iload_n 1, 1) := by decide +kernel
theorem d_M_leaf_11 : decode b_M_leaf 11 = .ok (.iaload, 1) := by decide +kernel
theorem d_M_leaf_12 : decode b_M_leaf 12 = .ok (.invokestatic 51, 3) := by decide +kernel
theorem d_M_leaf_15 : decode b_M_leaf 15 = .ok (.istore_n 2, 1) := by decide +kernel
theorem d_M_leaf_16 : decode b_M_leaf 16 = .ok (.iload_n 2, 1) := by decide +kernel
theorem d_M_leaf_17 : decode b_M_leaf 17 = .ok (.aload_n 0, 1) := by decide +kernel
theorem d_M_leaf_18 : decode b_M_leaf 18 = .ok (.getfield 16, 3) := by decide +kernel
theorem d_M_leaf_21 : decode b_M_leaf 21 = .ok (.iload_n 1, 1) := by decide +kernel
theorem d_M_leaf_22 : decode b_M_leaf 22 = .ok (.iaload, 1) := by decide +kernel
theorem d_M_leaf_23 : decode b_M_leaf 23 = .ok (.invokestatic 51, 3) := by decide +kernel
theorem d_M_leaf_26 : decode b_M_leaf 26 = .ok (.ireturn, 1) := by decide +kernel
theorem d_M_turned_0 : decode b_M_turned 0 = .ok (.aload_n 0, 1) := by decide +kernel
theorem d_M_turned_1 : decode b_M_turned 1 = .ok (.getfield 22, 3) := by decide +kernel
theorem d_M_turned_4 : decode b_M_turned 4 = .ok (.bipush 61, 2) := by decide +kernel
theorem d_M_turned_6 : decode b_M_turned 6 = .ok (.bipush 9, 2) := by decide +kernel
theorem d_M_turned_8 : decode b_M_turned 8 = .ok (.iload_n 1, 1) := by decide +kernel
theorem d_M_turned_9 : decode b_M_turned 9 = .ok (.imul, 1) := by decide +kernel
theorem d_M_turned_10 : decode b_M_turned 10 = .ok (.iadd, 1) := by decide +kernel
theorem d_M_turned_11 : decode b_M_turned 11 = .ok (.iaload, 1) := by decide +kernel
theorem d_M_turned_12 : decode b_M_turned 12 = .ok (.i2l, 1) := by decide +kernel
theorem d_M_turned_13 : decode b_M_turned 13 = .ok (.lstore_n 3, 1) := by decide +kernel
theorem d_M_turned_14 : decode b_M_turned 14 = .ok (.aload_n 0, 1) := by decide +kernel
theorem d_M_turned_15 : decode b_M_turned 15 = .ok (.getfield 22, 3) := by decide +kernel
theorem d_M_turned_18 : decode b_M_turned 18 = .ok (.bipush 11, 2) := by decide +kernel
theorem d_M_turned_20 : decode b_M_turned 20 = .ok (.iload_n 1, 1) := by decide +kernel
theorem d_M_turned_21 : decode b_M_turned 21 = .ok (.iadd, 1) := by decide +kernel
theorem d_M_turned_22 : decode b_M_turned 22 = .ok (.iaload, 1) := by decide +kernel
theorem d_M_turned_23 : decode b_M_turned 23 = .ok (.i2l, 1) := by decide +kernel
theorem d_M_turned_24 : decode b_M_turned 24 = .ok (.lstore 5, 2) := by decide +kernel
theorem d_M_turned_26 : decode b_M_turned 26 = .ok (.aload_n 0, 1) := by decide +kernel
theorem d_M_turned_27 : decode b_M_turned 27 = .ok (.getfield 22, 3) := by decide +kernel
theorem d_M_turned_30 : decode b_M_turned 30 = .ok (.bipush 15, 2) := by decide +kernel
theorem d_M_turned_32 : decode b_M_turned 32 = .ok (.iload_n 1, 1) := by decide +kernel
theorem d_M_turned_33 : decode b_M_turned 33 = .ok (.iadd, 1) := by decide +kernel
theorem d_M_turned_34 : decode b_M_turned 34 = .ok (.iaload, 1) := by decide +kernel
theorem d_M_turned_35 : decode b_M_turned 35 = .ok (.i2l, 1) := by decide +kernel
theorem d_M_turned_36 : decode b_M_turned 36 = .ok (.lload 5, 2) := by decide +kernel
theorem d_M_turned_38 : decode b_M_turned 38 = .ok (.lload_n 3, 1) := by decide +kernel
theorem d_M_turned_39 : decode b_M_turned 39 = .ok (.lsub, 1) := by decide +kernel
theorem d_M_turned_40 : decode b_M_turned 40 = .ok (.ldc2_w 28, 3) := by decide +kernel
theorem d_M_turned_43 : decode b_M_turned 43 = .ok (.ladd, 1) := by decide +kernel
theorem d_M_turned_44 : decode b_M_turned 44 = .ok (.invokestatic 34, 3) := by decide +kernel
theorem d_M_turned_47 : decode b_M_turned 47 = .ok (.istore 7, 2) := by decide +kernel
theorem d_M_turned_49 : decode b_M_turned 49 = .ok (.iload_n 2, 1) := by decide +kernel
theorem d_M_turned_50 : decode b_M_turned 50 = .ok (.ifCond .eq 14, 3) := by decide +kernel
theorem d_M_turned_53 : decode b_M_turned 53 = .ok (.lload_n 3, 1) := by decide +kernel
theorem d_M_turned_54 : decode b_M_turned 54 = .ok (.iload 7, 2) := by decide +kernel
theorem d_M_turned_56 : decode b_M_turned 56 = .ok (.i2l, 1) := by decide +kernel
theorem d_M_turned_57 : decode b_M_turned 57 = .ok (.ladd, 1) := by decide +kernel
theorem d_M_turned_58 : decode b_M_turned 58 = .ok (.invokestatic 30, 3) := by decide +kernel
theorem d_M_turned_61 : decode b_M_turned 61 = .ok (.goto 21, 3) := by decide +kernel
theorem d_M_turned_64 : decode b_M_turned 64 = .ok (.lload_n 3, 1) := by decide +kernel
theorem d_M_turned_65 : decode b_M_turned 65 = .ok (.lload 5, 2) := by decide +kernel
theorem d_M_turned_67 : decode b_M_turned 67 = .ok (.ladd, 1) := by decide +kernel
theorem d_M_turned_68 : decode b_M_turned 68 = .ok (.aload_n 0, 1) := by decide +kernel
theorem d_M_turned_69 : decode b_M_turned 69 = .ok (.getfield 22, 3) := by decide +kernel
theorem d_M_turned_72 : decode b_M_turned 72 = .ok (.bipush 19, 2) := by decide +kernel
theorem d_M_turned_74 : decode b_M_turned 74 = .ok (.iload_n 1, 1) := by decide +kernel
theorem d_M_turned_75 : decode b_M_turned 75 = .ok (.iadd, 1) := by decide +kernel
theorem d_M_turned_76 : decode b_M_turned 76 = .ok (.iaload, 1) := by decide +kernel
theorem d_M_turned_77 : decode b_M_turned 77 = .ok (.i2l, 1) := by decide +kernel
theorem d_M_turned_78 : decode b_M_turned 78 = .ok (.lsub, 1) := by decide +kernel
theorem d_M_turned_79 : decode b_M_turned 79 = .ok (.invokestatic 30, 3) := by decide +kernel
theorem d_M_turned_82 : decode b_M_turned 82 = .ok (.ireturn, 1) := by decide +kernel
theorem d_M_fault_0 : decode b_M_fault 0 = .ok (.iconst 0, 1) := by decide +kernel
theorem d_M_fault_1 : decode b_M_fault 1 = .ok (.istore_n 1, 1) := by decide +kernel
theorem d_M_fault_2 : decode b_M_fault 2 = .ok (.iload_n 1, 1) := by decide +kernel
theorem d_M_fault_3 : decode b_M_fault 3 = .ok (.bipush 115, 2) := by decide +kernel
theorem d_M_fault_5 : decode b_M_fault 5 = .ok (.if_icmp .ge 19, 3) := by decide +kernel
theorem d_M_fault_8 : decode b_M_fault 8 = .ok (.aload_n 0, 1) := by decide +kernel
theorem d_M_fault_9 : decode b_M_fault 9 = .ok (.iload_n 1, 1) := by decide +kernel
theorem d_M_fault_10 : decode b_M_fault 10 = .ok (.invokevirtual 110, 3) := by decide +kernel
theorem d_M_fault_13 : decode b_M_fault 13 = .ok (.ifCond .ne 5, 3) := by decide +kernel
theorem d_M_fault_16 : decode b_M_fault 16 = .ok (.iload_n 1, 1) := by decide +kernel
theorem d_M_fault_17 : decode b_M_fault 17 = .ok (.ireturn, 1) := by decide +kernel
theorem d_M_fault_18 : decode b_M_fault 18 = .ok (.iinc 1 1, 3) := by decide +kernel
theorem d_M_fault_21 : decode b_M_fault 21 = .ok (.goto (-19), 3) := by decide +kernel
theorem d_M_fault_24 : decode b_M_fault 24 = .ok (.iconst (-1), 1) := by decide +kernel
theorem d_M_fault_25 : decode b_M_fault 25 = .ok (.ireturn, 1) := by decide +kernel
theorem d_M_holds_0 : decode b_M_holds 0 = .ok (.iload_n 1, 1) := by decide +kernel
theorem d_M_holds_1 : decode b_M_holds 1 = .ok (.bipush 12, 2) := by decide +kernel
theorem d_M_holds_3 : decode b_M_holds 3 = .ok (.if_icmp .ge 24, 3) := by decide +kernel
theorem d_M_holds_6 : decode b_M_holds 6 = .ok (.aload_n 0, 1) := by decide +kernel
theorem d_M_holds_7 : decode b_M_holds 7 = .ok (.iload_n 1, 1) := by decide +kernel
theorem d_M_holds_8 : decode b_M_holds 8 = .ok (.iconst 4, 1) := by decide +kernel
theorem d_M_holds_9 : decode b_M_holds 9 = .ok (.if_icmp .ge 10, 3) := by decide +kernel
theorem d_M_holds_12 : decode b_M_holds 12 = .ok (.bipush 15, 2) := by decide +kernel
theorem d_M_holds_14 : decode b_M_holds 14 = .ok (.iload_n 1, 1) := by decide +kernel
theorem d_M_holds_15 : decode b_M_holds 15 = .ok (.iadd, 1) := by decide +kernel
theorem d_M_holds_16 : decode b_M_holds 16 = .ok (.goto 7, 3) := by decide +kernel
theorem d_M_holds_19 : decode b_M_holds 19 = .ok (.bipush 23, 2) := by decide +kernel
theorem d_M_holds_21 : decode b_M_holds 21 = .ok (.iload_n 1, 1) := by decide +kernel
theorem d_M_holds_22 : decode b_M_holds 22 = .ok (.iadd, 1) := by decide +kernel
theorem d_M_holds_23 : decode b_M_holds 23 = .ok (.invokevirtual 82, 3) := by decide +kernel
theorem d_M_holds_26 : decode b_M_holds 26 = .ok (.ireturn, 1) := by decide +kernel
theorem d_M_holds_27 : decode b_M_holds 27 = .ok (.iload_n 1, 1) := by decide +kernel
theorem d_M_holds_28 : decode b_M_holds 28 = .ok (.bipush 14, 2) := by decide +kernel
theorem d_M_holds_30 : decode b_M_holds 30 = .ok (.if_icmp .ge 51, 3) := by decide +kernel
theorem d_M_holds_33 : decode b_M_holds 33 = .ok (.iload_n 1, 1) := by decide +kernel
theorem d_M_holds_34 : decode b_M_holds 34 = .ok (.bipush 12, 2) := by decide +kernel
theorem d_M_holds_36 : decode b_M_holds 36 = .ok (.if_icmp .ne 10, 3) := by decide +kernel
theorem d_M_holds_39 : decode b_M_holds 39 = .ok (.aload_n 0, 1) := by decide +kernel
theorem d_M_holds_40 : decode b_M_holds 40 = .ok (.invokevirtual 86, 3) := by decide +kernel
theorem d_M_holds_43 : decode b_M_holds 43 = .ok (.goto 37, 3) := by decide +kernel
theorem d_M_holds_46 : decode b_M_holds 46 = .ok (.aload_n 0, 1) := by decide +kernel
theorem d_M_holds_47 : decode b_M_holds 47 = .ok (.getfield 22, 3) := by decide +kernel
theorem d_M_holds_50 : decode b_M_holds 50 = .ok (.bipush 9, 2) := by decide +kernel
theorem d_M_holds_52 : decode b_M_holds 52 = .ok (.iaload, 1) := by decide +kernel
theorem d_M_holds_53 : decode b_M_holds 53 = .ok (.i2l, 1) := by decide +kernel
theorem d_M_holds_54 : decode b_M_holds 54 = .ok (.aload_n 0, 1) := by decide +kernel
theorem d_M_holds_55 : decode b_M_holds 55 = .ok (.getfield 22, 3) := by decide +kernel
theorem d_M_holds_58 : decode b_M_holds 58 = .ok (.iconst 4, 1) := by decide +kernel
theorem d_M_holds_59 : decode b_M_holds 59 = .ok (.iaload, 1) := by decide +kernel
theorem d_M_holds_60 : decode b_M_holds 60 = .ok (.i2l, 1) := by decide +kernel
theorem d_M_holds_61 : decode b_M_holds 61 = .ok (.ladd, 1) := by decide +kernel
theorem d_M_holds_62 : decode b_M_holds 62 = .ok (.invokestatic 30, 3) := by decide +kernel
theorem d_M_holds_65 : decode b_M_holds 65 = .ok (.aload_n 0, 1) := by decide +kernel
theorem d_M_holds_66 : decode b_M_holds 66 = .ok (.getfield 22, 3) := by decide +kernel
theorem d_M_holds_69 : decode b_M_holds 69 = .ok (.bipush 6, 2) := by decide +kernel
theorem d_M_holds_71 : decode b_M_holds 71 = .ok (.iaload, 1) := by decide +kernel
theorem d_M_holds_72 : decode b_M_holds 72 = .ok (.if_icmp .ne 7, 3) := by decide +kernel
theorem d_M_holds_75 : decode b_M_holds 75 = .ok (.iconst 1, 1) := by decide +kernel
theorem d_M_holds_76 : decode b_M_holds 76 = .ok (.goto 4, 3) := by decide +kernel
theorem d_M_holds_79 : decode b_M_holds 79 = .ok (.iconst 0, 1) := by decide +kernel
theorem d_M_holds_80 : decode b_M_holds 80 = .ok (.ireturn, 1) := by decide +kernel
theorem d_M_holds_81 : decode b_M_holds 81 = .ok (.iload_n 1, 1) := by decide +kernel
theorem d_M_holds_82 : decode b_M_holds 82 = .ok (.bipush 41, 2) := by decide +kernel
theorem d_M_holds_84 : decode b_M_holds 84 = .ok (.if_icmp .ge 22, 3) := by decide +kernel
theorem d_M_holds_87 : decode b_M_holds 87 = .ok (.aload_n 0, 1) := by decide +kernel
theorem d_M_holds_88 : decode b_M_holds 88 = .ok (.iload_n 1, 1) := by decide +kernel
theorem d_M_holds_89 : decode b_M_holds 89 = .ok (.bipush 14, 2) := by decide +kernel
theorem d_M_holds_91 : decode b_M_holds 91 = .ok (.isub, 1) := by decide +kernel
theorem d_M_holds_92 : decode b_M_holds 92 = .ok (.bipush 9, 2) := by decide +kernel
theorem d_M_holds_94 : decode b_M_holds 94 = .ok (.idiv, 1) := by decide +kernel
theorem d_M_holds_95 : decode b_M_holds 95 = .ok (.iload_n 1, 1) := by decide +kernel
theorem d_M_holds_96 : decode b_M_holds 96 = .ok (.bipush 14, 2) := by decide +kernel
theorem d_M_holds_98 : decode b_M_holds 98 = .ok (.isub, 1) := by decide +kernel
theorem d_M_holds_99 : decode b_M_holds 99 = .ok (.bipush 9, 2) := by decide +kernel
theorem d_M_holds_101 : decode b_M_holds 101 = .ok (.irem, 1) := by decide +kernel
theorem d_M_holds_102 : decode b_M_holds 102 = .ok (.invokevirtual 90, 3) := by decide +kernel
theorem d_M_holds_105 : decode b_M_holds 105 = .ok (.ireturn, 1) := by decide +kernel
theorem d_M_holds_106 : decode b_M_holds 106 = .ok (.iload_n 1, 1) := by decide +kernel
theorem d_M_holds_107 : decode b_M_holds 107 = .ok (.bipush 85, 2) := by decide +kernel
theorem d_M_holds_109 : decode b_M_holds 109 = .ok (.if_icmp .ge 80, 3) := by decide +kernel
theorem d_M_holds_112 : decode b_M_holds 112 = .ok (.iload_n 1, 1) := by decide +kernel
theorem d_M_holds_113 : decode b_M_holds 113 = .ok (.bipush 41, 2) := by decide +kernel
theorem d_M_holds_115 : decode b_M_holds 115 = .ok (.isub, 1) := by decide +kernel
theorem d_M_holds_116 : decode b_M_holds 116 = .ok (.bipush 11, 2) := by decide +kernel
theorem d_M_holds_118 : decode b_M_holds 118 = .ok (.idiv, 1) := by decide +kernel
theorem d_M_holds_119 : decode b_M_holds 119 = .ok (.istore_n 2, 1) := by decide +kernel
theorem d_M_holds_120 : decode b_M_holds 120 = .ok (.iload_n 1, 1) := by decide +kernel
theorem d_M_holds_121 : decode b_M_holds 121 = .ok (.bipush 41, 2) := by decide +kernel
theorem d_M_holds_123 : decode b_M_holds 123 = .ok (.isub, 1) := by decide +kernel
theorem d_M_holds_124 : decode b_M_holds 124 = .ok (.bipush 11, 2) := by decide +kernel
theorem d_M_holds_126 : decode b_M_holds 126 = .ok (.irem, 1) := by decide +kernel
theorem d_M_holds_127 : decode b_M_holds 127 = .ok (.istore_n 3, 1) := by decide +kernel
theorem d_M_holds_128 : decode b_M_holds 128 = .ok (.iload_n 3, 1) := by decide +kernel
theorem d_M_holds_129 : decode b_M_holds 129 = .ok (.iconst 1, 1) := by decide +kernel
theorem d_M_holds_130 : decode b_M_holds 130 = .ok (.if_icmp .le 14, 3) := by decide +kernel
theorem d_M_holds_133 : decode b_M_holds 133 = .ok (.aload_n 0, 1) := by decide +kernel
theorem d_M_holds_134 : decode b_M_holds 134 = .ok (.iconst 3, 1) := by decide +kernel
theorem d_M_holds_135 : decode b_M_holds 135 = .ok (.iload_n 2, 1) := by decide +kernel
theorem d_M_holds_136 : decode b_M_holds 136 = .ok (.iadd, 1) := by decide +kernel
theorem d_M_holds_137 : decode b_M_holds 137 = .ok (.iload_n 3, 1) := by decide +kernel
theorem d_M_holds_138 : decode b_M_holds 138 = .ok (.iconst 2, 1) := by decide +kernel
theorem d_M_holds_139 : decode b_M_holds 139 = .ok (.isub, 1) := by decide +kernel
theorem d_M_holds_140 : decode b_M_holds 140 = .ok (.invokevirtual 90, 3) := by decide +kernel
theorem d_M_holds_143 : decode b_M_holds 143 = .ok (.ireturn, 1) := by decide +kernel
theorem d_M_holds_144 : decode b_M_holds 144 = .ok (.aload_n 0, 1) := by decide +kernel
theorem d_M_holds_145 : decode b_M_holds 145 = .ok (.iload_n 2, 1) := by decide +kernel
theorem d_M_holds_146 : decode b_M_holds 146 = .ok (.iload_n 3, 1) := by decide +kernel
theorem d_M_holds_147 : decode b_M_holds 147 = .ok (.ifCond .ne 7, 3) := by decide +kernel
theorem d_M_holds_150 : decode b_M_holds 150 = .ok (.iconst 1, 1) := by decide +kernel
theorem d_M_holds_151 : decode b_M_holds 151 = .ok (.goto 4, 3) := by decide +kernel
theorem d_M_holds_154 : decode b_M_holds 154 = .ok (.iconst 0, 1) := by decide +kernel
theorem d_M_holds_155 : decode b_M_holds 155 = .ok (.invokevirtual 93, 3) := by decide +kernel
theorem d_M_holds_158 : decode b_M_holds 158 = .ok (.istore 4, 2) := by decide +kernel
theorem d_M_holds_160 : decode b_M_holds 160 = .ok (.aload_n 0, 1) := by decide +kernel
theorem d_M_holds_161 : decode b_M_holds 161 = .ok (.getfield 22, 3) := by decide +kernel
theorem d_M_holds_164 : decode b_M_holds 164 = .ok (.iload_n 3, 1) := by decide +kernel
theorem d_M_holds_165 : decode b_M_holds 165 = .ok (.ifCond .ne 8, 3) := by decide +kernel
theorem d_M_holds_168 : decode b_M_holds 168 = .ok (.bipush 19, 2) := by decide +kernel
theorem d_M_holds_170 : decode b_M_holds 170 = .ok (.goto 5, 3) := by decide +kernel
theorem d_M_holds_173 : decode b_M_holds 173 = .ok (.bipush 23, 2) := by decide +kernel
theorem d_M_holds_175 : decode b_M_holds 175 = .ok (.iload_n 2, 1) := by decide +kernel
theorem d_M_holds_176 : decode b_M_holds 176 = .ok (.iadd, 1) := by decide +kernel
theorem d_M_holds_177 : decode b_M_holds 177 = .ok (.iaload, 1) := by decide +kernel
theorem d_M_holds_178 : decode b_M_holds 178 = .ok (.iload 4, 2) := by decide +kernel
theorem d_M_holds_180 : decode b_M_holds 180 = .ok (.if_icmp .ne 7, 3) := by decide +kernel
theorem d_M_holds_183 : decode b_M_holds 183 = .ok (.iconst 1, 1) := by decide +kernel
theorem d_M_holds_184 : decode b_M_holds 184 = .ok (.goto 4, 3) := by decide +kernel
theorem d_M_holds_187 : decode b_M_holds 187 = .ok (.iconst 0, 1) := by decide +kernel
theorem d_M_holds_188 : decode b_M_holds 188 = .ok (.ireturn, 1) := by decide +kernel
theorem d_M_holds_189 : decode b_M_holds 189 = .ok (.iload_n 1, 1) := by decide +kernel
theorem d_M_holds_190 : decode b_M_holds 190 = .ok (.bipush 112, 2) := by decide +kernel
theorem d_M_holds_192 : decode b_M_holds 192 = .ok (.if_icmp .ge 25, 3) := by decide +kernel
theorem d_M_holds_195 : decode b_M_holds 195 = .ok (.aload_n 0, 1) := by decide +kernel
theorem d_M_holds_196 : decode b_M_holds 196 = .ok (.bipush 7, 2) := by decide +kernel
theorem d_M_holds_198 : decode b_M_holds 198 = .ok (.iload_n 1, 1) := by decide +kernel
theorem d_M_holds_199 : decode b_M_holds 199 = .ok (.bipush 85, 2) := by decide +kernel
theorem d_M_holds_201 : decode b_M_holds 201 = .ok (.isub, 1) := by decide +kernel
theorem d_M_holds_202 : decode b_M_holds 202 = .ok (.bipush 9, 2) := by decide +kernel
theorem d_M_holds_204 : decode b_M_holds 204 = .ok (.idiv, 1) := by decide +kernel
theorem d_M_holds_205 : decode b_M_holds 205 = .ok (.iadd, 1) := by decide +kernel
theorem d_M_holds_206 : decode b_M_holds 206 = .ok (.iload_n 1, 1) := by decide +kernel
theorem d_M_holds_207 : decode b_M_holds 207 = .ok (.bipush 85, 2) := by decide +kernel
theorem d_M_holds_209 : decode b_M_holds 209 = .ok (.isub, 1) := by decide +kernel
theorem d_M_holds_210 : decode b_M_holds 210 = .ok (.bipush 9, 2) := by decide +kernel
theorem d_M_holds_212 : decode b_M_holds 212 = .ok (.irem, 1) := by decide +kernel
theorem d_M_holds_213 : decode b_M_holds 213 = .ok (.invokevirtual 90, 3) := by decide +kernel
theorem d_M_holds_216 : decode b_M_holds 216 = .ok (.ireturn, 1) := by decide +kernel
theorem d_M_holds_217 : decode b_M_holds 217 = .ok (.iload_n 1, 1) := by decide +kernel
theorem d_M_holds_218 : decode b_M_holds 218 = .ok (.bipush 112, 2) := by decide +kernel
theorem d_M_holds_220 : decode b_M_holds 220 = .ok (.if_icmp .ne 27, 3) := by decide +kernel
theorem d_M_holds_223 : decode b_M_holds 223 = .ok (.aload_n 0, 1) := by decide +kernel
theorem d_M_holds_224 : decode b_M_holds 224 = .ok (.getfield 22, 3) := by decide +kernel
theorem d_M_holds_227 : decode b_M_holds 227 = .ok (.iconst 1, 1) := by decide +kernel
theorem d_M_holds_228 : decode b_M_holds 228 = .ok (.iaload, 1) := by decide +kernel
theorem d_M_holds_229 : decode b_M_holds 229 = .ok (.aload_n 0, 1) := by decide +kernel
theorem d_M_holds_230 : decode b_M_holds 230 = .ok (.getfield 22, 3) := by decide +kernel
theorem d_M_holds_233 : decode b_M_holds 233 = .ok (.bipush 97, 2) := by decide +kernel
theorem d_M_holds_235 : decode b_M_holds 235 = .ok (.iaload, 1) := by decide +kernel
theorem d_M_holds_236 : decode b_M_holds 236 = .ok (.if_icmp .ne 7, 3) := by decide +kernel
theorem d_M_holds_239 : decode b_M_holds 239 = .ok (.iconst 1, 1) := by decide +kernel
theorem d_M_holds_240 : decode b_M_holds 240 = .ok (.goto 58, 3) := by decide +kernel
theorem d_M_holds_243 : decode b_M_holds 243 = .ok (.iconst 0, 1) := by decide +kernel
theorem d_M_holds_244 : decode b_M_holds 244 = .ok (.goto 54, 3) := by decide +kernel
theorem d_M_holds_247 : decode b_M_holds 247 = .ok (.iload_n 1, 1) := by decide +kernel
theorem d_M_holds_248 : decode b_M_holds 248 = .ok (.bipush 113, 2) := by decide +kernel
theorem d_M_holds_250 : decode b_M_holds 250 = .ok (.if_icmp .ne 27, 3) := by decide +kernel
theorem d_M_holds_253 : decode b_M_holds 253 = .ok (.aload_n 0, 1) := by decide +kernel
theorem d_M_holds_254 : decode b_M_holds 254 = .ok (.getfield 22, 3) := by decide +kernel
theorem d_M_holds_257 : decode b_M_holds 257 = .ok (.iconst 2, 1) := by decide +kernel
theorem d_M_holds_258 : decode b_M_holds 258 = .ok (.iaload, 1) := by decide +kernel
theorem d_M_holds_259 : decode b_M_holds 259 = .ok (.aload_n 0, 1) := by decide +kernel
theorem d_M_holds_260 : decode b_M_holds 260 = .ok (.getfield 22, 3) := by decide +kernel
theorem d_M_holds_263 : decode b_M_holds 263 = .ok (.bipush 106, 2) := by decide +kernel
theorem d_M_holds_265 : decode b_M_holds 265 = .ok (.iaload, 1) := by decide +kernel
theorem d_M_holds_266 : decode b_M_holds 266 = .ok (.if_icmp .ne 7, 3) := by decide +kernel
theorem d_M_holds_269 : decode b_M_holds 269 = .ok (.iconst 1, 1) := by decide +kernel
theorem d_M_holds_270 : decode b_M_holds 270 = .ok (.goto 28, 3) := by decide +kernel
theorem d_M_holds_273 : decode b_M_holds 273 = .ok (.iconst 0, 1) := by decide +kernel
theorem d_M_holds_274 : decode b_M_holds 274 = .ok (.goto 24, 3) := by decide +kernel
theorem d_M_holds_277 : decode b_M_holds 277 = .ok (.aload_n 0, 1) := by decide +kernel
theorem d_M_holds_278 : decode b_M_holds 278 = .ok (.getfield 22, 3) := by decide +kernel
theorem d_M_holds_281 : decode b_M_holds 281 = .ok (.iconst 3, 1) := by decide +kernel
theorem d_M_holds_282 : decode b_M_holds 282 = .ok (.iaload, 1) := by decide +kernel
theorem d_M_holds_283 : decode b_M_holds 283 = .ok (.aload_n 0, 1) := by decide +kernel
theorem d_M_holds_284 : decode b_M_holds 284 = .ok (.getfield 22, 3) := by decide +kernel
theorem d_M_holds_287 : decode b_M_holds 287 = .ok (.bipush 124, 2) := by decide +kernel
theorem d_M_holds_289 : decode b_M_holds 289 = .ok (.iaload, 1) := by decide +kernel
theorem d_M_holds_290 : decode b_M_holds 290 = .ok (.if_icmp .ne 7, 3) := by decide +kernel
theorem d_M_holds_293 : decode b_M_holds 293 = .ok (.iconst 1, 1) := by decide +kernel
theorem d_M_holds_294 : decode b_M_holds 294 = .ok (.goto 4, 3) := by decide +kernel
theorem d_M_holds_297 : decode b_M_holds 297 = .ok (.iconst 0, 1) := by decide +kernel
theorem d_M_holds_298 : decode b_M_holds 298 = .ok (.ireturn, 1) := by decide +kernel
theorem d_M_bit_0 : decode b_M_bit 0 = .ok (.aload_n 0, 1) := by decide +kernel
theorem d_M_bit_1 : decode b_M_bit 1 = .ok (.getfield 22, 3) := by decide +kernel
theorem d_M_bit_4 : decode b_M_bit 4 = .ok (.iload_n 1, 1) := by decide +kernel
theorem d_M_bit_5 : decode b_M_bit 5 = .ok (.iaload, 1) := by decide +kernel
theorem d_M_bit_6 : decode b_M_bit 6 = .ok (.ifCond .eq 13, 3) := by decide +kernel
theorem d_M_bit_9 : decode b_M_bit 9 = .ok (.aload_n 0, 1) := by decide +kernel
theorem d_M_bit_10 : decode b_M_bit 10 = .ok (.getfield 22, 3) := by decide +kernel
theorem d_M_bit_13 : decode b_M_bit 13 = .ok (.iload_n 1, 1) := by decide +kernel
theorem d_M_bit_14 : decode b_M_bit 14 = .ok (.iaload, 1) := by decide +kernel
theorem d_M_bit_15 : decode b_M_bit 15 = .ok (.iconst 1, 1) := by decide +kernel
theorem d_M_bit_16 : decode b_M_bit 16 = .ok (.if_icmp .ne 7, 3) := by decide +kernel
theorem d_M_bit_19 : decode b_M_bit 19 = .ok (.iconst 1, 1) := by decide +kernel
theorem d_M_bit_20 : decode b_M_bit 20 = .ok (.goto 4, 3) := by decide +kernel
theorem d_M_bit_23 : decode b_M_bit 23 = .ok (.iconst 0, 1) := by decide +kernel
theorem d_M_bit_24 : decode b_M_bit 24 = .ok (.ireturn, 1) := by decide +kernel
theorem d_M_sums_0 : decode b_M_sums 0 = .ok (.lconst 0, 1) := by decide +kernel
theorem d_M_sums_1 : decode b_M_sums 1 = .ok (.lstore_n 1, 1) := by decide +kernel
theorem d_M_sums_2 : decode b_M_sums 2 = .ok (.iconst 0, 1) := by decide +kernel
theorem d_M_sums_3 : decode b_M_sums 3 = .ok (.istore_n 3, 1) := by decide +kernel
theorem d_M_sums_4 : decode b_M_sums 4 = .ok (.iload_n 3, 1) := by decide +kernel
theorem d_M_sums_5 : decode b_M_sums 5 = .ok (.bipush 8, 2) := by decide +kernel
theorem d_M_sums_7 : decode b_M_sums 7 = .ok (.if_icmp .ge 27, 3) := by decide +kernel
theorem d_M_sums_10 : decode b_M_sums 10 = .ok (.lload_n 1, 1) := by decide +kernel
theorem d_M_sums_11 : decode b_M_sums 11 = .ok (.aload_n 0, 1) := by decide +kernel
theorem d_M_sums_12 : decode b_M_sums 12 = .ok (.getfield 22, 3) := by decide +kernel
theorem d_M_sums_15 : decode b_M_sums 15 = .ok (.bipush 27, 2) := by decide +kernel
theorem d_M_sums_17 : decode b_M_sums 17 = .ok (.iload_n 3, 1) := by decide +kernel
theorem d_M_sums_18 : decode b_M_sums 18 = .ok (.iadd, 1) := by decide +kernel
theorem d_M_sums_19 : decode b_M_sums 19 = .ok (.iaload, 1) := by decide +kernel
theorem d_M_sums_20 : decode b_M_sums 20 = .ok (.i2l, 1) := by decide +kernel
theorem d_M_sums_21 : decode b_M_sums 21 = .ok (.iconst 1, 1) := by decide +kernel
theorem d_M_sums_22 : decode b_M_sums 22 = .ok (.iload_n 3, 1) := by decide +kernel
theorem d_M_sums_23 : decode b_M_sums 23 = .ok (.ishl, 1) := by decide +kernel
theorem d_M_sums_24 : decode b_M_sums 24 = .ok (.i2l, 1) := by decide +kernel
theorem d_M_sums_25 : decode b_M_sums 25 = .ok (.lmul, 1) := by decide +kernel
theorem d_M_sums_26 : decode b_M_sums 26 = .ok (.ladd, 1) := by decide +kernel
theorem d_M_sums_27 : decode b_M_sums 27 = .ok (.lstore_n 1, 1) := by decide +kernel
theorem d_M_sums_28 : decode b_M_sums 28 = .ok (.iinc 3 1, 3) := by decide +kernel
theorem d_M_sums_31 : decode b_M_sums 31 = .ok (.goto (-27), 3) := by decide +kernel
theorem d_M_sums_34 : decode b_M_sums 34 = .ok (.lload_n 1, 1) := by decide +kernel
theorem d_M_sums_35 : decode b_M_sums 35 = .ok (.invokestatic 30, 3) := by decide +kernel
theorem d_M_sums_38 : decode b_M_sums 38 = .ok (.aload_n 0, 1) := by decide +kernel
theorem d_M_sums_39 : decode b_M_sums 39 = .ok (.getfield 22, 3) := by decide +kernel
theorem d_M_sums_42 : decode b_M_sums 42 = .ok (.bipush 9, 2) := by decide +kernel
theorem d_M_sums_44 : decode b_M_sums 44 = .ok (.iaload, 1) := by decide +kernel
theorem d_M_sums_45 : decode b_M_sums 45 = .ok (.if_icmp .ne 7, 3) := by decide +kernel
theorem d_M_sums_48 : decode b_M_sums 48 = .ok (.iconst 1, 1) := by decide +kernel
theorem d_M_sums_49 : decode b_M_sums 49 = .ok (.goto 4, 3) := by decide +kernel
theorem d_M_sums_52 : decode b_M_sums 52 = .ok (.iconst 0, 1) := by decide +kernel
theorem d_M_sums_53 : decode b_M_sums 53 = .ok (.ireturn, 1) := by decide +kernel
theorem d_M_nine_0 : decode b_M_nine 0 = .ok (.aload_n 0, 1) := by decide +kernel
theorem d_M_nine_1 : decode b_M_nine 1 = .ok (.getfield 22, 3) := by decide +kernel
theorem d_M_nine_4 : decode b_M_nine 4 = .ok (.bipush 35, 2) := by decide +kernel
theorem d_M_nine_6 : decode b_M_nine 6 = .ok (.bipush 9, 2) := by decide +kernel
theorem d_M_nine_8 : decode b_M_nine 8 = .ok (.iload_n 1, 1) := by decide +kernel
theorem d_M_nine_9 : decode b_M_nine 9 = .ok (.imul, 1) := by decide +kernel
theorem d_M_nine_10 : decode b_M_nine 10 = .ok (.iadd, 1) := by decide +kernel
theorem d_M_nine_11 : decode b_M_nine 11 = .ok (.iload_n 2, 1) := by decide +kernel
theorem d_M_nine_12 : decode b_M_nine 12 = .ok (.iadd, 1) := by decide +kernel
theorem d_M_nine_13 : decode b_M_nine 13 = .ok (.iaload, 1) := by decide +kernel
theorem d_M_nine_14 : decode b_M_nine 14 = .ok (.aload_n 0, 1) := by decide +kernel
theorem d_M_nine_15 : decode b_M_nine 15 = .ok (.iload_n 1, 1) := by decide +kernel
theorem d_M_nine_16 : decode b_M_nine 16 = .ok (.iload_n 2, 1) := by decide +kernel
theorem d_M_nine_17 : decode b_M_nine 17 = .ok (.invokevirtual 79, 3) := by decide +kernel
theorem d_M_nine_20 : decode b_M_nine 20 = .ok (.if_icmp .ne 7, 3) := by decide +kernel
theorem d_M_nine_23 : decode b_M_nine 23 = .ok (.iconst 1, 1) := by decide +kernel
theorem d_M_nine_24 : decode b_M_nine 24 = .ok (.goto 4, 3) := by decide +kernel
theorem d_M_nine_27 : decode b_M_nine 27 = .ok (.iconst 0, 1) := by decide +kernel
theorem d_M_nine_28 : decode b_M_nine 28 = .ok (.ireturn, 1) := by decide +kernel
theorem d_M_set_0 : decode b_M_set 0 = .ok (.iload_n 1, 1) := by decide +kernel
theorem d_M_set_1 : decode b_M_set 1 = .ok (.iconst 1, 1) := by decide +kernel
theorem d_M_set_2 : decode b_M_set 2 = .ok (.if_icmp .lt 18, 3) := by decide +kernel
theorem d_M_set_5 : decode b_M_set 5 = .ok (.iload_n 1, 1) := by decide +kernel
theorem d_M_set_6 : decode b_M_set 6 = .ok (.bipush 124, 2) := by decide +kernel
theorem d_M_set_8 : decode b_M_set 8 = .ok (.if_icmp .gt 12, 3) := by decide +kernel
theorem d_M_set_11 : decode b_M_set 11 = .ok (.iload_n 2, 1) := by decide +kernel
theorem d_M_set_12 : decode b_M_set 12 = .ok (.ldc 46, 2) := by decide +kernel
theorem d_M_set_14 : decode b_M_set 14 = .ok (.invokestatic 47, 3) := by decide +kernel
theorem d_M_set_17 : decode b_M_set 17 = .ok (.ifCond .eq 5, 3) := by decide +kernel
theorem d_M_set_20 : decode b_M_set 20 = .ok (.iconst 0, 1) := by decide +kernel
theorem d_M_set_21 : decode b_M_set 21 = .ok (.ireturn, 1) := by decide +kernel
theorem d_M_set_22 : decode b_M_set 22 = .ok (.aload_n 0, 1) := by decide +kernel
theorem d_M_set_23 : decode b_M_set 23 = .ok (.getfield 22, 3) := by decide +kernel
theorem d_M_set_26 : decode b_M_set 26 = .ok (.iload_n 1, 1) := by decide +kernel
theorem d_M_set_27 : decode b_M_set 27 = .ok (.iload_n 2, 1) := by decide +kernel
theorem d_M_set_28 : decode b_M_set 28 = .ok (.iastore, 1) := by decide +kernel
theorem d_M_set_29 : decode b_M_set 29 = .ok (.iconst 1, 1) := by decide +kernel
theorem d_M_set_30 : decode b_M_set 30 = .ok (.ireturn, 1) := by decide +kernel
theorem d_M_get_0 : decode b_M_get 0 = .ok (.iload_n 1, 1) := by decide +kernel
theorem d_M_get_1 : decode b_M_get 1 = .ok (.bipush 124, 2) := by decide +kernel
theorem d_M_get_3 : decode b_M_get 3 = .ok (.invokestatic 47, 3) := by decide +kernel
theorem d_M_get_6 : decode b_M_get 6 = .ok (.ifCond .eq 7, 3) := by decide +kernel
theorem d_M_get_9 : decode b_M_get 9 = .ok (.iconst (-1), 1) := by decide +kernel
theorem d_M_get_10 : decode b_M_get 10 = .ok (.goto 9, 3) := by decide +kernel
theorem d_M_get_13 : decode b_M_get 13 = .ok (.aload_n 0, 1) := by decide +kernel
theorem d_M_get_14 : decode b_M_get 14 = .ok (.getfield 22, 3) := by decide +kernel
theorem d_M_get_17 : decode b_M_get 17 = .ok (.iload_n 1, 1) := by decide +kernel
theorem d_M_get_18 : decode b_M_get 18 = .ok (.iaload, 1) := by decide +kernel
theorem d_M_get_19 : decode b_M_get 19 = .ok (.ireturn, 1) := by decide +kernel
theorem d_M_submit_0 : decode b_M_submit 0 = .ok (.aload_n 0, 1) := by decide +kernel
theorem d_M_submit_1 : decode b_M_submit 1 = .ok (.invokevirtual 106, 3) := by decide +kernel
theorem d_M_submit_4 : decode b_M_submit 4 = .ok (.iconst (-1), 1) := by decide +kernel
theorem d_M_submit_5 : decode b_M_submit 5 = .ok (.if_icmp .eq 6, 3) := by decide +kernel
theorem d_M_submit_8 : decode b_M_submit 8 = .ok (.bipush (-3), 2) := by decide +kernel
theorem d_M_submit_10 : decode b_M_submit 10 = .ok (.ireturn, 1) := by decide +kernel
theorem d_M_submit_11 : decode b_M_submit 11 = .ok (.aload_n 0, 1) := by decide +kernel
theorem d_M_submit_12 : decode b_M_submit 12 = .ok (.getfield 22, 3) := by decide +kernel
theorem d_M_submit_15 : decode b_M_submit 15 = .ok (.iconst 4, 1) := by decide +kernel
theorem d_M_submit_16 : decode b_M_submit 16 = .ok (.iaload, 1) := by decide +kernel
theorem d_M_submit_17 : decode b_M_submit 17 = .ok (.sipush 255, 3) := by decide +kernel
theorem d_M_submit_20 : decode b_M_submit 20 = .ok (.if_icmp .le 6, 3) := by decide +kernel
theorem d_M_submit_23 : decode b_M_submit 23 = .ok (.bipush (-4), 2) := by decide +kernel
theorem d_M_submit_25 : decode b_M_submit 25 = .ok (.ireturn, 1) := by decide +kernel
theorem d_M_submit_26 : decode b_M_submit 26 = .ok (.aload_n 0, 1) := by decide +kernel
theorem d_M_submit_27 : decode b_M_submit 27 = .ok (.aload_n 0, 1) := by decide +kernel
theorem d_M_submit_28 : decode b_M_submit 28 = .ok (.getfield 22, 3) := by decide +kernel
theorem d_M_submit_31 : decode b_M_submit 31 = .ok (.iconst 1, 1) := by decide +kernel
theorem d_M_submit_32 : decode b_M_submit 32 = .ok (.iaload, 1) := by decide +kernel
theorem d_M_submit_33 : decode b_M_submit 33 = .ok (.invokevirtual 116, 3) := by decide +kernel
theorem d_M_submit_36 : decode b_M_submit 36 = .ok (.ifCond .ne 6, 3) := by decide +kernel
theorem d_M_submit_39 : decode b_M_submit 39 = .ok (.bipush (-5), 2) := by decide +kernel
theorem d_M_submit_41 : decode b_M_submit 41 = .ok (.ireturn, 1) := by decide +kernel
theorem d_M_submit_42 : decode b_M_submit 42 = .ok (.aload_n 0, 1) := by decide +kernel
theorem d_M_submit_43 : decode b_M_submit 43 = .ok (.aload_n 0, 1) := by decide +kernel
theorem d_M_submit_44 : decode b_M_submit 44 = .ok (.getfield 22, 3) := by decide +kernel
theorem d_M_submit_47 : decode b_M_submit 47 = .ok (.iconst 2, 1) := by decide +kernel
theorem d_M_submit_48 : decode b_M_submit 48 = .ok (.iaload, 1) := by decide +kernel
theorem d_M_submit_49 : decode b_M_submit 49 = .ok (.invokevirtual 119, 3) := by decide +kernel
theorem d_M_submit_52 : decode b_M_submit 52 = .ok (.ifCond .eq 6, 3) := by decide +kernel
theorem d_M_submit_55 : decode b_M_submit 55 = .ok (.bipush (-6), 2) := by decide +kernel
theorem d_M_submit_57 : decode b_M_submit 57 = .ok (.ireturn, 1) := by decide +kernel
theorem d_M_submit_58 : decode b_M_submit 58 = .ok (.aload_n 0, 1) := by decide +kernel
theorem d_M_submit_59 : decode b_M_submit 59 = .ok (.getfield 65, 3) := by decide +kernel
theorem d_M_submit_62 : decode b_M_submit 62 = .ok (.bipush 16, 2) := by decide +kernel
theorem d_M_submit_64 : decode b_M_submit 64 = .ok (.if_icmp .ne 6, 3) := by decide +kernel
theorem d_M_submit_67 : decode b_M_submit 67 = .ok (.bipush (-7), 2) := by decide +kernel
theorem d_M_submit_69 : decode b_M_submit 69 = .ok (.ireturn, 1) := by decide +kernel
theorem d_M_submit_70 : decode b_M_submit 70 = .ok (.aload_n 0, 1) := by decide +kernel
theorem d_M_submit_71 : decode b_M_submit 71 = .ok (.getfield 19, 3) := by decide +kernel
theorem d_M_submit_74 : decode b_M_submit 74 = .ok (.aload_n 0, 1) := by decide +kernel
theorem d_M_submit_75 : decode b_M_submit 75 = .ok (.getfield 58, 3) := by decide +kernel
theorem d_M_submit_78 : decode b_M_submit 78 = .ok (.aload_n 0, 1) := by decide +kernel
theorem d_M_submit_79 : decode b_M_submit 79 = .ok (.getfield 22, 3) := by decide +kernel
theorem d_M_submit_82 : decode b_M_submit 82 = .ok (.iconst 2, 1) := by decide +kernel
theorem d_M_submit_83 : decode b_M_submit 83 = .ok (.iaload, 1) := by decide +kernel
theorem d_M_submit_84 : decode b_M_submit 84 = .ok (.iastore, 1) := by decide +kernel
theorem d_M_submit_85 : decode b_M_submit 85 = .ok (.aload_n 0, 1) := by decide +kernel
theorem d_M_submit_86 : decode b_M_submit 86 = .ok (.dup, 1) := by decide +kernel
theorem d_M_submit_87 : decode b_M_submit 87 = .ok (.getfield 58, 3) := by decide +kernel
theorem d_M_submit_90 : decode b_M_submit 90 = .ok (.iconst 1, 1) := by decide +kernel
theorem d_M_submit_91 : decode b_M_submit 91 = .ok (.iadd, 1) := by decide +kernel
theorem d_M_submit_92 : decode b_M_submit 92 = .ok (.putfield 58, 3) := by decide +kernel
theorem d_M_submit_95 : decode b_M_submit 95 = .ok (.aload_n 0, 1) := by decide +kernel
theorem d_M_submit_96 : decode b_M_submit 96 = .ok (.aload_n 0, 1) := by decide +kernel
theorem d_M_submit_97 : decode b_M_submit 97 = .ok (.getfield 68, 3) := by decide +kernel
theorem d_M_submit_100 : decode b_M_submit 100 = .ok (.aload_n 0, 1) := by decide +kernel
theorem d_M_submit_101 : decode b_M_submit 101 = .ok (.getfield 22, 3) := by decide +kernel
theorem d_M_submit_104 : decode b_M_submit 104 = .ok (.iconst 4, 1) := by decide +kernel
theorem d_M_submit_105 : decode b_M_submit 105 = .ok (.iaload, 1) := by decide +kernel
theorem d_M_submit_106 : decode b_M_submit 106 = .ok (.isub, 1) := by decide +kernel
theorem d_M_submit_107 : decode b_M_submit 107 = .ok (.putfield 68, 3) := by decide +kernel
theorem d_M_submit_110 : decode b_M_submit 110 = .ok (.aload_n 0, 1) := by decide +kernel
theorem d_M_submit_111 : decode b_M_submit 111 = .ok (.aload_n 0, 1) := by decide +kernel
theorem d_M_submit_112 : decode b_M_submit 112 = .ok (.getfield 22, 3) := by decide +kernel
theorem d_M_submit_115 : decode b_M_submit 115 = .ok (.bipush 8, 2) := by decide +kernel
theorem d_M_submit_117 : decode b_M_submit 117 = .ok (.iaload, 1) := by decide +kernel
theorem d_M_submit_118 : decode b_M_submit 118 = .ok (.aload_n 0, 1) := by decide +kernel
theorem d_M_submit_119 : decode b_M_submit 119 = .ok (.getfield 22, 3) := by decide +kernel
theorem d_M_submit_122 : decode b_M_submit 122 = .ok (.bipush 9, 2) := by decide +kernel
theorem d_M_submit_124 : decode b_M_submit 124 = .ok (.iaload, 1) := by decide +kernel
theorem d_M_submit_125 : decode b_M_submit 125 = .ok (.aload_n 0, 1) := by decide +kernel
theorem d_M_submit_126 : decode b_M_submit 126 = .ok (.getfield 22, 3) := by decide +kernel
theorem d_M_submit_129 : decode b_M_submit 129 = .ok (.bipush 10, 2) := by decide +kernel
theorem d_M_submit_131 : decode b_M_submit 131 = .ok (.iaload, 1) := by decide +kernel
theorem d_M_submit_132 : decode b_M_submit 132 = .ok (.invokevirtual 71, 3) := by decide +kernel
theorem d_M_submit_135 : decode b_M_submit 135 = .ok (.ireturn, 1) := by decide +kernel
theorem d_M_isRecent_0 : decode b_M_isRecent 0 = .ok (.iconst 0, 1) := by decide +kernel
theorem d_M_isRecent_1 : decode b_M_isRecent 1 = .ok (.istore_n 2, 1) := by decide +kernel
theorem d_M_isRecent_2 : decode b_M_isRecent 2 = .ok (.iload_n 2, 1) := by decide +kernel
theorem d_M_isRecent_3 : decode b_M_isRecent 3 = .ok (.iconst 4, 1) := by decide +kernel
theorem d_M_isRecent_4 : decode b_M_isRecent 4 = .ok (.if_icmp .ge 20, 3) := by decide +kernel
theorem d_M_isRecent_7 : decode b_M_isRecent 7 = .ok (.aload_n 0, 1) := by decide +kernel
theorem d_M_isRecent_8 : decode b_M_isRecent 8 = .ok (.iload_n 2, 1) := by decide +kernel
theorem d_M_isRecent_9 : decode b_M_isRecent 9 = .ok (.invokevirtual 113, 3) := by decide +kernel
theorem d_M_isRecent_12 : decode b_M_isRecent 12 = .ok (.iload_n 1, 1) := by decide +kernel
theorem d_M_isRecent_13 : decode b_M_isRecent 13 = .ok (.if_icmp .ne 5, 3) := by decide +kernel
theorem d_M_isRecent_16 : decode b_M_isRecent 16 = .ok (.iconst 1, 1) := by decide +kernel
theorem d_M_isRecent_17 : decode b_M_isRecent 17 = .ok (.ireturn, 1) := by decide +kernel
theorem d_M_isRecent_18 : decode b_M_isRecent 18 = .ok (.iinc 2 1, 3) := by decide +kernel
theorem d_M_isRecent_21 : decode b_M_isRecent 21 = .ok (.goto (-19), 3) := by decide +kernel
theorem d_M_isRecent_24 : decode b_M_isRecent 24 = .ok (.iconst 0, 1) := by decide +kernel
theorem d_M_isRecent_25 : decode b_M_isRecent 25 = .ok (.ireturn, 1) := by decide +kernel
theorem d_M_root_0 : decode b_M_root 0 = .ok (.iload_n 1, 1) := by decide +kernel
theorem d_M_root_1 : decode b_M_root 1 = .ok (.iconst 3, 1) := by decide +kernel
theorem d_M_root_2 : decode b_M_root 2 = .ok (.invokestatic 47, 3) := by decide +kernel
theorem d_M_root_5 : decode b_M_root 5 = .ok (.ifCond .ne 11, 3) := by decide +kernel
theorem d_M_root_8 : decode b_M_root 8 = .ok (.iload_n 1, 1) := by decide +kernel
theorem d_M_root_9 : decode b_M_root 9 = .ok (.aload_n 0, 1) := by decide +kernel
theorem d_M_root_10 : decode b_M_root 10 = .ok (.getfield 65, 3) := by decide +kernel
theorem d_M_root_13 : decode b_M_root 13 = .ok (.if_icmp .le 7, 3) := by decide +kernel
theorem d_M_root_16 : decode b_M_root 16 = .ok (.iconst (-1), 1) := by decide +kernel
theorem d_M_root_17 : decode b_M_root 17 = .ok (.goto 15, 3) := by decide +kernel
theorem d_M_root_20 : decode b_M_root 20 = .ok (.aload_n 0, 1) := by decide +kernel
theorem d_M_root_21 : decode b_M_root 21 = .ok (.aload_n 0, 1) := by decide +kernel
theorem d_M_root_22 : decode b_M_root 22 = .ok (.getfield 65, 3) := by decide +kernel
theorem d_M_root_25 : decode b_M_root 25 = .ok (.iload_n 1, 1) := by decide +kernel
theorem d_M_root_26 : decode b_M_root 26 = .ok (.isub, 1) := by decide +kernel
theorem d_M_root_27 : decode b_M_root 27 = .ok (.iconst 4, 1) := by decide +kernel
theorem d_M_root_28 : decode b_M_root 28 = .ok (.iconst 0, 1) := by decide +kernel
theorem d_M_root_29 : decode b_M_root 29 = .ok (.invokevirtual 103, 3) := by decide +kernel
theorem d_M_root_32 : decode b_M_root 32 = .ok (.ireturn, 1) := by decide +kernel
theorem d_M_isUsed_0 : decode b_M_isUsed 0 = .ok (.iconst 0, 1) := by decide +kernel
theorem d_M_isUsed_1 : decode b_M_isUsed 1 = .ok (.istore_n 2, 1) := by decide +kernel
theorem d_M_isUsed_2 : decode b_M_isUsed 2 = .ok (.iload_n 2, 1) := by decide +kernel
theorem d_M_isUsed_3 : decode b_M_isUsed 3 = .ok (.aload_n 0, 1) := by decide +kernel
theorem d_M_isUsed_4 : decode b_M_isUsed 4 = .ok (.getfield 58, 3) := by decide +kernel
theorem d_M_isUsed_7 : decode b_M_isUsed 7 = .ok (.if_icmp .ge 21, 3) := by decide +kernel
theorem d_M_isUsed_10 : decode b_M_isUsed 10 = .ok (.aload_n 0, 1) := by decide +kernel
theorem d_M_isUsed_11 : decode b_M_isUsed 11 = .ok (.getfield 19, 3) := by decide +kernel
theorem d_M_isUsed_14 : decode b_M_isUsed 14 = .ok (.iload_n 2, 1) := by decide +kernel
theorem d_M_isUsed_15 : decode b_M_isUsed 15 = .ok (.iaload, 1) := by decide +kernel
theorem d_M_isUsed_16 : decode b_M_isUsed 16 = .ok (.iload_n 1, 1) := by decide +kernel
theorem d_M_isUsed_17 : decode b_M_isUsed 17 = .ok (.if_icmp .ne 5, 3) := by decide +kernel
theorem d_M_isUsed_20 : decode b_M_isUsed 20 = .ok (.iconst 1, 1) := by decide +kernel
theorem d_M_isUsed_21 : decode b_M_isUsed 21 = .ok (.ireturn, 1) := by decide +kernel
theorem d_M_isUsed_22 : decode b_M_isUsed 22 = .ok (.iinc 2 1, 3) := by decide +kernel
theorem d_M_isUsed_25 : decode b_M_isUsed 25 = .ok (.goto (-23), 3) := by decide +kernel
theorem d_M_isUsed_28 : decode b_M_isUsed 28 = .ok (.iconst 0, 1) := by decide +kernel
theorem d_M_isUsed_29 : decode b_M_isUsed 29 = .ok (.ireturn, 1) := by decide +kernel
theorem d_M_notes_0 : decode b_M_notes 0 = .ok (.aload_n 0, 1) := by decide +kernel
theorem d_M_notes_1 : decode b_M_notes 1 = .ok (.getfield 65, 3) := by decide +kernel
theorem d_M_notes_4 : decode b_M_notes 4 = .ok (.ireturn, 1) := by decide +kernel
theorem d_M_commitment_0 : decode b_M_commitment 0 = .ok (.iload_n 1, 1) := by decide +kernel
theorem d_M_commitment_1 : decode b_M_commitment 1 = .ok (.ifCond .lt 11, 3) := by decide +kernel
theorem d_M_commitment_4 : decode b_M_commitment 4 = .ok (.iload_n 1, 1) := by decide +kernel
theorem d_M_commitment_5 : decode b_M_commitment 5 = .ok (.aload_n 0, 1) := by decide +kernel
theorem d_M_commitment_6 : decode b_M_commitment 6 = .ok (.getfield 65, 3) := by decide +kernel
theorem d_M_commitment_9 : decode b_M_commitment 9 = .ok (.if_icmp .lt 8, 3) := by decide +kernel
theorem d_M_commitment_12 : decode b_M_commitment 12 = .ok (.bipush (-2), 2) := by decide +kernel
theorem d_M_commitment_14 : decode b_M_commitment 14 = .ok (.goto 8, 3) := by decide +kernel
theorem d_M_commitment_17 : decode b_M_commitment 17 = .ok (.aload_n 0, 1) := by decide +kernel
theorem d_M_commitment_18 : decode b_M_commitment 18 = .ok (.iload_n 1, 1) := by decide +kernel
theorem d_M_commitment_19 : decode b_M_commitment 19 = .ok (.invokevirtual 62, 3) := by decide +kernel
theorem d_M_commitment_22 : decode b_M_commitment 22 = .ok (.ireturn, 1) := by decide +kernel
theorem d_M_owner_0 : decode b_M_owner 0 = .ok (.iload_n 1, 1) := by decide +kernel
theorem d_M_owner_1 : decode b_M_owner 1 = .ok (.ifCond .lt 11, 3) := by decide +kernel
theorem d_M_owner_4 : decode b_M_owner 4 = .ok (.iload_n 1, 1) := by decide +kernel
theorem d_M_owner_5 : decode b_M_owner 5 = .ok (.aload_n 0, 1) := by decide +kernel
theorem d_M_owner_6 : decode b_M_owner 6 = .ok (.getfield 65, 3) := by decide +kernel
theorem d_M_owner_9 : decode b_M_owner 9 = .ok (.if_icmp .lt 8, 3) := by decide +kernel
theorem d_M_owner_12 : decode b_M_owner 12 = .ok (.bipush (-2), 2) := by decide +kernel
theorem d_M_owner_14 : decode b_M_owner 14 = .ok (.goto 8, 3) := by decide +kernel
theorem d_M_owner_17 : decode b_M_owner 17 = .ok (.aload_n 0, 1) := by decide +kernel
theorem d_M_owner_18 : decode b_M_owner 18 = .ok (.iload_n 1, 1) := by decide +kernel
theorem d_M_owner_19 : decode b_M_owner 19 = .ok (.invokevirtual 96, 3) := by decide +kernel
theorem d_M_owner_22 : decode b_M_owner 22 = .ok (.ireturn, 1) := by decide +kernel
theorem d_M_value_0 : decode b_M_value 0 = .ok (.iload_n 1, 1) := by decide +kernel
theorem d_M_value_1 : decode b_M_value 1 = .ok (.ifCond .lt 11, 3) := by decide +kernel
theorem d_M_value_4 : decode b_M_value 4 = .ok (.iload_n 1, 1) := by decide +kernel
theorem d_M_value_5 : decode b_M_value 5 = .ok (.aload_n 0, 1) := by decide +kernel
theorem d_M_value_6 : decode b_M_value 6 = .ok (.getfield 65, 3) := by decide +kernel
theorem d_M_value_9 : decode b_M_value 9 = .ok (.if_icmp .lt 8, 3) := by decide +kernel
theorem d_M_value_12 : decode b_M_value 12 = .ok (.bipush (-2), 2) := by decide +kernel
theorem d_M_value_14 : decode b_M_value 14 = .ok (.goto 9, 3) := by decide +kernel
theorem d_M_value_17 : decode b_M_value 17 = .ok (.aload_n 0, 1) := by decide +kernel
theorem d_M_value_18 : decode b_M_value 18 = .ok (.getfield 13, 3) := by decide +kernel
theorem d_M_value_21 : decode b_M_value 21 = .ok (.iload_n 1, 1) := by decide +kernel
theorem d_M_value_22 : decode b_M_value 22 = .ok (.iaload, 1) := by decide +kernel
theorem d_M_value_23 : decode b_M_value 23 = .ok (.ireturn, 1) := by decide +kernel
theorem d_M_unspent_0 : decode b_M_unspent 0 = .ok (.iload_n 1, 1) := by decide +kernel
theorem d_M_unspent_1 : decode b_M_unspent 1 = .ok (.ifCond .lt 11, 3) := by decide +kernel
theorem d_M_unspent_4 : decode b_M_unspent 4 = .ok (.iload_n 1, 1) := by decide +kernel
theorem d_M_unspent_5 : decode b_M_unspent 5 = .ok (.aload_n 0, 1) := by decide +kernel
theorem d_M_unspent_6 : decode b_M_unspent 6 = .ok (.getfield 65, 3) := by decide +kernel
theorem d_M_unspent_9 : decode b_M_unspent 9 = .ok (.if_icmp .lt 5, 3) := by decide +kernel
theorem d_M_unspent_12 : decode b_M_unspent 12 = .ok (.iconst 0, 1) := by decide +kernel
theorem d_M_unspent_13 : decode b_M_unspent 13 = .ok (.ireturn, 1) := by decide +kernel
theorem d_M_unspent_14 : decode b_M_unspent 14 = .ok (.aload_n 0, 1) := by decide +kernel
theorem d_M_unspent_15 : decode b_M_unspent 15 = .ok (.iload_n 1, 1) := by decide +kernel
theorem d_M_unspent_16 : decode b_M_unspent 16 = .ok (.invokevirtual 96, 3) := by decide +kernel
theorem d_M_unspent_19 : decode b_M_unspent 19 = .ok (.istore_n 2, 1) := by decide +kernel
theorem d_M_unspent_20 : decode b_M_unspent 20 = .ok (.aload_n 0, 1) := by decide +kernel
theorem d_M_unspent_21 : decode b_M_unspent 21 = .ok (.iload_n 1, 1) := by decide +kernel
theorem d_M_unspent_22 : decode b_M_unspent 22 = .ok (.invokevirtual 62, 3) := by decide +kernel
theorem d_M_unspent_25 : decode b_M_unspent 25 = .ok (.istore_n 3, 1) := by decide +kernel
theorem d_M_unspent_26 : decode b_M_unspent 26 = .ok (.iload_n 2, 1) := by decide +kernel
theorem d_M_unspent_27 : decode b_M_unspent 27 = .ok (.iconst (-1), 1) := by decide +kernel
theorem d_M_unspent_28 : decode b_M_unspent 28 = .ok (.if_icmp .eq 22, 3) := by decide +kernel
theorem d_M_unspent_31 : decode b_M_unspent 31 = .ok (.aload_n 0, 1) := by decide +kernel
theorem d_M_unspent_32 : decode b_M_unspent 32 = .ok (.bipush 100, 2) := by decide +kernel
theorem d_M_unspent_34 : decode b_M_unspent 34 = .ok (.iload_n 2, 1) := by decide +kernel
theorem d_M_unspent_35 : decode b_M_unspent 35 = .ok (.iadd, 1) := by decide +kernel
theorem d_M_unspent_36 : decode b_M_unspent 36 = .ok (.iload_n 3, 1) := by decide +kernel
theorem d_M_unspent_37 : decode b_M_unspent 37 = .ok (.invokestatic 51, 3) := by decide +kernel
theorem d_M_unspent_40 : decode b_M_unspent 40 = .ok (.invokevirtual 119, 3) := by decide +kernel
theorem d_M_unspent_43 : decode b_M_unspent 43 = .ok (.ifCond .ne 7, 3) := by decide +kernel
theorem d_M_unspent_46 : decode b_M_unspent 46 = .ok (.iconst 1, 1) := by decide +kernel
theorem d_M_unspent_47 : decode b_M_unspent 47 = .ok (.goto 4, 3) := by decide +kernel
theorem d_M_unspent_50 : decode b_M_unspent 50 = .ok (.iconst 0, 1) := by decide +kernel
theorem d_M_unspent_51 : decode b_M_unspent 51 = .ok (.ireturn, 1) := by decide +kernel
theorem d_M_balance_0 : decode b_M_balance 0 = .ok (.iload_n 1, 1) := by decide +kernel
theorem d_M_balance_1 : decode b_M_balance 1 = .ok (.iconst 3, 1) := by decide +kernel
theorem d_M_balance_2 : decode b_M_balance 2 = .ok (.invokestatic 47, 3) := by decide +kernel
theorem d_M_balance_5 : decode b_M_balance 5 = .ok (.ifCond .eq 6, 3) := by decide +kernel
theorem d_M_balance_8 : decode b_M_balance 8 = .ok (.bipush (-2), 2) := by decide +kernel
theorem d_M_balance_10 : decode b_M_balance 10 = .ok (.ireturn, 1) := by decide +kernel
theorem d_M_balance_11 : decode b_M_balance 11 = .ok (.iconst 0, 1) := by decide +kernel
theorem d_M_balance_12 : decode b_M_balance 12 = .ok (.istore_n 2, 1) := by decide +kernel
theorem d_M_balance_13 : decode b_M_balance 13 = .ok (.iconst 0, 1) := by decide +kernel
theorem d_M_balance_14 : decode b_M_balance 14 = .ok (.istore_n 3, 1) := by decide +kernel
theorem d_M_balance_15 : decode b_M_balance 15 = .ok (.iload_n 3, 1) := by decide +kernel
theorem d_M_balance_16 : decode b_M_balance 16 = .ok (.aload_n 0, 1) := by decide +kernel
theorem d_M_balance_17 : decode b_M_balance 17 = .ok (.getfield 65, 3) := by decide +kernel
theorem d_M_balance_20 : decode b_M_balance 20 = .ok (.if_icmp .ge 35, 3) := by decide +kernel
theorem d_M_balance_23 : decode b_M_balance 23 = .ok (.aload_n 0, 1) := by decide +kernel
theorem d_M_balance_24 : decode b_M_balance 24 = .ok (.iload_n 3, 1) := by decide +kernel
theorem d_M_balance_25 : decode b_M_balance 25 = .ok (.invokevirtual 96, 3) := by decide +kernel
theorem d_M_balance_28 : decode b_M_balance 28 = .ok (.iload_n 1, 1) := by decide +kernel
theorem d_M_balance_29 : decode b_M_balance 29 = .ok (.if_icmp .ne 20, 3) := by decide +kernel
theorem d_M_balance_32 : decode b_M_balance 32 = .ok (.aload_n 0, 1) := by decide +kernel
theorem d_M_balance_33 : decode b_M_balance 33 = .ok (.iload_n 3, 1) := by decide +kernel
theorem d_M_balance_34 : decode b_M_balance 34 = .ok (.invokevirtual 122, 3) := by decide +kernel
theorem d_M_balance_37 : decode b_M_balance 37 = .ok (.ifCond .eq 12, 3) := by decide +kernel
theorem d_M_balance_40 : decode b_M_balance 40 = .ok (.iload_n 2, 1) := by decide +kernel
theorem d_M_balance_41 : decode b_M_balance 41 = .ok (.aload_n 0, 1) := by decide +kernel
theorem d_M_balance_42 : decode b_M_balance 42 = .ok (.getfield 13, 3) := by decide +kernel
theorem d_M_balance_45 : decode b_M_balance 45 = .ok (.iload_n 3, 1) := by decide +kernel
theorem d_M_balance_46 : decode b_M_balance 46 = .ok (.iaload, 1) := by decide +kernel
theorem d_M_balance_47 : decode b_M_balance 47 = .ok (.iadd, 1) := by decide +kernel
theorem d_M_balance_48 : decode b_M_balance 48 = .ok (.istore_n 2, 1) := by decide +kernel
theorem d_M_balance_49 : decode b_M_balance 49 = .ok (.iinc 3 1, 3) := by decide +kernel
theorem d_M_balance_52 : decode b_M_balance 52 = .ok (.goto (-37), 3) := by decide +kernel
theorem d_M_balance_55 : decode b_M_balance 55 = .ok (.iload_n 2, 1) := by decide +kernel
theorem d_M_balance_56 : decode b_M_balance 56 = .ok (.ireturn, 1) := by decide +kernel
theorem d_M_node_0 : decode b_M_node 0 = .ok (.iload_n 1, 1) := by decide +kernel
theorem d_M_node_1 : decode b_M_node 1 = .ok (.iconst 4, 1) := by decide +kernel
theorem d_M_node_2 : decode b_M_node 2 = .ok (.invokestatic 47, 3) := by decide +kernel
theorem d_M_node_5 : decode b_M_node 5 = .ok (.ifCond .ne 16, 3) := by decide +kernel
theorem d_M_node_8 : decode b_M_node 8 = .ok (.iload_n 2, 1) := by decide +kernel
theorem d_M_node_9 : decode b_M_node 9 = .ok (.bipush 16, 2) := by decide +kernel
theorem d_M_node_11 : decode b_M_node 11 = .ok (.iload_n 1, 1) := by decide +kernel
theorem d_M_node_12 : decode b_M_node 12 = .ok (.ishr, 1) := by decide +kernel
theorem d_M_node_13 : decode b_M_node 13 = .ok (.iconst 1, 1) := by decide +kernel
theorem d_M_node_14 : decode b_M_node 14 = .ok (.isub, 1) := by decide +kernel
theorem d_M_node_15 : decode b_M_node 15 = .ok (.invokestatic 47, 3) := by decide +kernel
theorem d_M_node_18 : decode b_M_node 18 = .ok (.ifCond .eq 7, 3) := by decide +kernel
theorem d_M_node_21 : decode b_M_node 21 = .ok (.iconst (-1), 1) := by decide +kernel
theorem d_M_node_22 : decode b_M_node 22 = .ok (.goto 13, 3) := by decide +kernel
theorem d_M_node_25 : decode b_M_node 25 = .ok (.aload_n 0, 1) := by decide +kernel
theorem d_M_node_26 : decode b_M_node 26 = .ok (.aload_n 0, 1) := by decide +kernel
theorem d_M_node_27 : decode b_M_node 27 = .ok (.getfield 65, 3) := by decide +kernel
theorem d_M_node_30 : decode b_M_node 30 = .ok (.iload_n 1, 1) := by decide +kernel
theorem d_M_node_31 : decode b_M_node 31 = .ok (.iload_n 2, 1) := by decide +kernel
theorem d_M_node_32 : decode b_M_node 32 = .ok (.invokevirtual 103, 3) := by decide +kernel
theorem d_M_node_35 : decode b_M_node 35 = .ok (.ireturn, 1) := by decide +kernel
theorem d_M_used_0 : decode b_M_used 0 = .ok (.aload_n 0, 1) := by decide +kernel
theorem d_M_used_1 : decode b_M_used 1 = .ok (.getfield 58, 3) := by decide +kernel
theorem d_M_used_4 : decode b_M_used 4 = .ok (.ireturn, 1) := by decide +kernel
theorem d_M_mark_0 : decode b_M_mark 0 = .ok (.iconst 0, 1) := by decide +kernel
theorem d_M_mark_1 : decode b_M_mark 1 = .ok (.istore_n 2, 1) := by decide +kernel
theorem d_M_mark_2 : decode b_M_mark 2 = .ok (.iload_n 2, 1) := by decide +kernel
theorem d_M_mark_3 : decode b_M_mark 3 = .ok (.aload_n 0, 1) := by decide +kernel
theorem d_M_mark_4 : decode b_M_mark 4 = .ok (.getfield 58, 3) := by decide +kernel
theorem d_M_mark_7 : decode b_M_mark 7 = .ok (.if_icmp .ge 65, 3) := by decide +kernel
theorem d_M_mark_10 : decode b_M_mark 10 = .ok (.iconst 0, 1) := by decide +kernel
theorem d_M_mark_11 : decode b_M_mark 11 = .ok (.istore_n 3, 1) := by decide +kernel
theorem d_M_mark_12 : decode b_M_mark 12 = .ok (.iconst 0, 1) := by decide +kernel
theorem d_M_mark_13 : decode b_M_mark 13 = .ok (.istore 4, 2) := by decide +kernel
theorem d_M_mark_15 : decode b_M_mark 15 = .ok (.iload 4, 2) := by decide +kernel
theorem d_M_mark_17 : decode b_M_mark 17 = .ok (.aload_n 0, 1) := by decide +kernel
theorem d_M_mark_18 : decode b_M_mark 18 = .ok (.getfield 58, 3) := by decide +kernel
theorem d_M_mark_21 : decode b_M_mark 21 = .ok (.if_icmp .ge 33, 3) := by decide +kernel
theorem d_M_mark_24 : decode b_M_mark 24 = .ok (.aload_n 0, 1) := by decide +kernel
theorem d_M_mark_25 : decode b_M_mark 25 = .ok (.getfield 19, 3) := by decide +kernel
theorem d_M_mark_28 : decode b_M_mark 28 = .ok (.iload 4, 2) := by decide +kernel
theorem d_M_mark_30 : decode b_M_mark 30 = .ok (.iaload, 1) := by decide +kernel
theorem d_M_mark_31 : decode b_M_mark 31 = .ok (.aload_n 0, 1) := by decide +kernel
theorem d_M_mark_32 : decode b_M_mark 32 = .ok (.getfield 19, 3) := by decide +kernel
theorem d_M_mark_35 : decode b_M_mark 35 = .ok (.iload_n 2, 1) := by decide +kernel
theorem d_M_mark_36 : decode b_M_mark 36 = .ok (.iaload, 1) := by decide +kernel
theorem d_M_mark_37 : decode b_M_mark 37 = .ok (.if_icmp .ge 9, 3) := by decide +kernel
theorem d_M_mark_40 : decode b_M_mark 40 = .ok (.iload_n 3, 1) := by decide +kernel
theorem d_M_mark_41 : decode b_M_mark 41 = .ok (.iconst 1, 1) := by decide +kernel
theorem d_M_mark_42 : decode b_M_mark 42 = .ok (.iadd, 1) := by decide +kernel
theorem d_M_mark_43 : decode b_M_mark 43 = .ok (.goto 4, 3) := by decide +kernel
theorem d_M_mark_46 : decode b_M_mark 46 = .ok (.iload_n 3, 1) := by decide +kernel
theorem d_M_mark_47 : decode b_M_mark 47 = .ok (.istore_n 3, 1) := by decide +kernel
theorem d_M_mark_48 : decode b_M_mark 48 = .ok (.iinc 4 1, 3) := by decide +kernel
theorem d_M_mark_51 : decode b_M_mark 51 = .ok (.goto (-36), 3) := by decide +kernel
theorem d_M_mark_54 : decode b_M_mark 54 = .ok (.iload_n 3, 1) := by decide +kernel
theorem d_M_mark_55 : decode b_M_mark 55 = .ok (.iload_n 1, 1) := by decide +kernel
theorem d_M_mark_56 : decode b_M_mark 56 = .ok (.if_icmp .ne 10, 3) := by decide +kernel
theorem d_M_mark_59 : decode b_M_mark 59 = .ok (.aload_n 0, 1) := by decide +kernel
theorem d_M_mark_60 : decode b_M_mark 60 = .ok (.getfield 19, 3) := by decide +kernel
theorem d_M_mark_63 : decode b_M_mark 63 = .ok (.iload_n 2, 1) := by decide +kernel
theorem d_M_mark_64 : decode b_M_mark 64 = .ok (.iaload, 1) := by decide +kernel
theorem d_M_mark_65 : decode b_M_mark 65 = .ok (.ireturn, 1) := by decide +kernel
theorem d_M_mark_66 : decode b_M_mark 66 = .ok (.iinc 2 1, 3) := by decide +kernel
theorem d_M_mark_69 : decode b_M_mark 69 = .ok (.goto (-67), 3) := by decide +kernel
theorem d_M_mark_72 : decode b_M_mark 72 = .ok (.iconst (-1), 1) := by decide +kernel
theorem d_M_mark_73 : decode b_M_mark 73 = .ok (.ireturn, 1) := by decide +kernel
theorem d_M_pool_0 : decode b_M_pool 0 = .ok (.aload_n 0, 1) := by decide +kernel
theorem d_M_pool_1 : decode b_M_pool 1 = .ok (.getfield 68, 3) := by decide +kernel
theorem d_M_pool_4 : decode b_M_pool 4 = .ok (.ireturn, 1) := by decide +kernel
