theorem d_P_init_0 : decode b_P_init 0 = .ok (.aload_n 0, 1) := by decide +kernel
theorem d_P_init_1 : decode b_P_init 1 = .ok (.invokespecial 1, 3) := by decide +kernel
theorem d_P_init_4 : decode b_P_init 4 = .ok (.aload_n 0, 1) := by decide +kernel
theorem d_P_init_5 : decode b_P_init 5 = .ok (.iconst 4, 1) := by decide +kernel
theorem d_P_init_6 : decode b_P_init 6 = .ok (.newarray .int, 2) := by decide +kernel
theorem d_P_init_8 : decode b_P_init 8 = .ok (.putfield 9, 3) := by decide +kernel
theorem d_P_init_11 : decode b_P_init 11 = .ok (.aload_n 0, 1) := by decide +kernel
theorem d_P_init_12 : decode b_P_init 12 = .ok (.bipush 16, 2) := by decide +kernel
theorem d_P_init_14 : decode b_P_init 14 = .ok (.newarray .int, 2) := by decide +kernel
theorem d_P_init_16 : decode b_P_init 16 = .ok (.putfield 13, 3) := by decide +kernel
theorem d_P_init_19 : decode b_P_init 19 = .ok (.aload_n 0, 1) := by decide +kernel
theorem d_P_init_20 : decode b_P_init 20 = .ok (.bipush 16, 2) := by decide +kernel
theorem d_P_init_22 : decode b_P_init 22 = .ok (.newarray .int, 2) := by decide +kernel
theorem d_P_init_24 : decode b_P_init 24 = .ok (.putfield 16, 3) := by decide +kernel
theorem d_P_init_27 : decode b_P_init 27 = .ok (.aload_n 0, 1) := by decide +kernel
theorem d_P_init_28 : decode b_P_init 28 = .ok (.bipush 16, 2) := by decide +kernel
theorem d_P_init_30 : decode b_P_init 30 = .ok (.newarray .int, 2) := by decide +kernel
theorem d_P_init_32 : decode b_P_init 32 = .ok (.putfield 19, 3) := by decide +kernel
theorem d_P_init_35 : decode b_P_init 35 = .ok (.aload_n 0, 1) := by decide +kernel
theorem d_P_init_36 : decode b_P_init 36 = .ok (.new 22, 3) := by decide +kernel
theorem d_P_init_39 : decode b_P_init 39 = .ok (.dup, 1) := by decide +kernel
theorem d_P_init_40 : decode b_P_init 40 = .ok (.invokespecial 24, 3) := by decide +kernel
theorem d_P_init_43 : decode b_P_init 43 = .ok (.putfield 25, 3) := by decide +kernel
theorem d_P_init_46 : decode b_P_init 46 = .ok (.aload_n 0, 1) := by decide +kernel
theorem d_P_init_47 : decode b_P_init 47 = .ok (.new 29, 3) := by decide +kernel
theorem d_P_init_50 : decode b_P_init 50 = .ok (.dup, 1) := by decide +kernel
theorem d_P_init_51 : decode b_P_init 51 = .ok (.invokespecial 31, 3) := by decide +kernel
theorem d_P_init_54 : decode b_P_init 54 = .ok (.putfield 32, 3) := by decide +kernel
theorem d_P_init_57 : decode b_P_init 57 = .ok (.aload_n 0, 1) := by decide +kernel
theorem d_P_init_58 : decode b_P_init 58 = .ok (.new 36, 3) := by decide +kernel
theorem d_P_init_61 : decode b_P_init 61 = .ok (.dup, 1) := by decide +kernel
theorem d_P_init_62 : decode b_P_init 62 = .ok (.invokespecial 38, 3) := by decide +kernel
theorem d_P_init_65 : decode b_P_init 65 = .ok (.putfield 39, 3) := by decide +kernel
theorem d_P_init_68 : decode b_P_init 68 = .ok (.aload_n 0, 1) := by decide +kernel
theorem d_P_init_69 : decode b_P_init 69 = .ok (.iconst 0, 1) := by decide +kernel
theorem d_P_init_70 : decode b_P_init 70 = .ok (.putfield 43, 3) := by decide +kernel
theorem d_P_init_73 : decode b_P_init 73 = .ok (.iconst 0, 1) := by decide +kernel
theorem d_P_init_74 : decode b_P_init 74 = .ok (.istore_n 1, 1) := by decide +kernel
theorem d_P_init_75 : decode b_P_init 75 = .ok (.iload_n 1, 1) := by decide +kernel
theorem d_P_init_76 : decode b_P_init 76 = .ok (.iconst 4, 1) := by decide +kernel
theorem d_P_init_77 : decode b_P_init 77 = .ok (.if_icmp .ge 23, 3) := by decide +kernel
theorem d_P_init_80 : decode b_P_init 80 = .ok (.aload_n 0, 1) := by decide +kernel
theorem d_P_init_81 : decode b_P_init 81 = .ok (.getfield 9, 3) := by decide +kernel
theorem d_P_init_84 : decode b_P_init 84 = .ok (.iload_n 1, 1) := by decide +kernel
theorem d_P_init_85 : decode b_P_init 85 = .ok (.iload_n 1, 1) := by decide +kernel
theorem d_P_init_86 : decode b_P_init 86 = .ok (.invokestatic 47, 3) := by decide +kernel
theorem d_P_init_89 : decode b_P_init 89 = .ok (.iconst 0, 1) := by decide +kernel
theorem d_P_init_90 : decode b_P_init 90 = .ok (.invokestatic 51, 3) := by decide +kernel
theorem d_P_init_93 : decode b_P_init 93 = .ok (.iastore, 1) := by decide +kernel
theorem d_P_init_94 : decode b_P_init 94 = .ok (.iinc 1 1, 3) := by decide +kernel
theorem d_P_init_97 : decode b_P_init 97 = .ok (.goto (-22), 3) := by decide +kernel
theorem d_P_init_100 : decode b_P_init 100 = .ok (.return_, 1) := by decide +kernel
theorem d_P_hashOf_0 : decode b_P_hashOf 0 = .ok (.iload_n 0, 1) := by decide +kernel
theorem d_P_hashOf_1 : decode b_P_hashOf 1 = .ok (.istore_n 2, 1) := by decide +kernel
theorem d_P_hashOf_2 : decode b_P_hashOf 2 = .ok (.iconst 0, 1) := by decide +kernel
theorem d_P_hashOf_3 : decode b_P_hashOf 3 = .ok (.istore_n 3, 1) := by decide +kernel
theorem d_P_hashOf_4 : decode b_P_hashOf 4 = .ok (.iload_n 3, 1) := by decide +kernel
theorem d_P_hashOf_5 : decode b_P_hashOf 5 = .ok (.getstatic 136, 3) := by decide +kernel
theorem d_P_hashOf_8 : decode b_P_hashOf 8 = .ok (.arraylength, 1) := by decide +kernel
theorem d_P_hashOf_9 : decode b_P_hashOf 9 = .ok (.if_icmp .ge 37, 3) := by decide +kernel
theorem d_P_hashOf_12 : decode b_P_hashOf 12 = .ok (.iload_n 2, 1) := by decide +kernel
theorem d_P_hashOf_13 : decode b_P_hashOf 13 = .ok (.iload_n 1, 1) := by decide +kernel
theorem d_P_hashOf_14 : decode b_P_hashOf 14 = .ok (.invokestatic 139, 3) := by decide +kernel
theorem d_P_hashOf_17 : decode b_P_hashOf 17 = .ok (.getstatic 136, 3) := by decide +kernel
theorem d_P_hashOf_20 : decode b_P_hashOf 20 = .ok (.iload_n 3, 1) := by decide +kernel
theorem d_P_hashOf_21 : decode b_P_hashOf 21 = .ok (.iaload, 1) := by decide +kernel
theorem d_P_hashOf_22 : decode b_P_hashOf 22 = .ok (.invokestatic 139, 3) := by decide +kernel
theorem d_P_hashOf_25 : decode b_P_hashOf 25 = .ok (.istore 4, 2) := by decide +kernel
theorem d_P_hashOf_27 : decode b_P_hashOf 27 = .ok (.iload 4, 2) := by decide +kernel
theorem d_P_hashOf_29 : decode b_P_hashOf 29 = .ok (.iload 4, 2) := by decide +kernel
theorem d_P_hashOf_31 : decode b_P_hashOf 31 = .ok (.invokestatic 142, 3) := by decide +kernel
theorem d_P_hashOf_34 : decode b_P_hashOf 34 = .ok (.iload 4, 2) := by decide +kernel
theorem d_P_hashOf_36 : decode b_P_hashOf 36 = .ok (.invokestatic 142, 3) := by decide +kernel
theorem d_P_hashOf_39 : decode b_P_hashOf 39 = .ok (.istore_n 2, 1) := by decide +kernel
theorem d_P_hashOf_40 : decode b_P_hashOf 40 = .ok (.iinc 3 1, 3) := by decide +kernel
theorem d_P_hashOf_43 : decode b_P_hashOf 43 = .ok (.goto (-39), 3) := by decide +kernel
theorem d_P_hashOf_46 : decode b_P_hashOf 46 = .ok (.iload_n 2, 1) := by decide +kernel
theorem d_P_hashOf_47 : decode b_P_hashOf 47 = .ok (.iload_n 0, 1) := by decide +kernel
theorem d_P_hashOf_48 : decode b_P_hashOf 48 = .ok (.invokestatic 139, 3) := by decide +kernel
theorem d_P_hashOf_51 : decode b_P_hashOf 51 = .ok (.iload_n 1, 1) := by decide +kernel
theorem d_P_hashOf_52 : decode b_P_hashOf 52 = .ok (.invokestatic 139, 3) := by decide +kernel
theorem d_P_hashOf_55 : decode b_P_hashOf 55 = .ok (.ireturn, 1) := by decide +kernel
theorem d_P_sum_0 : decode b_P_sum 0 = .ok (.iload_n 0, 1) := by decide +kernel
theorem d_P_sum_1 : decode b_P_sum 1 = .ok (.iload_n 1, 1) := by decide +kernel
theorem d_P_sum_2 : decode b_P_sum 2 = .ok (.iadd, 1) := by decide +kernel
theorem d_P_sum_3 : decode b_P_sum 3 = .ok (.ldc 133, 2) := by decide +kernel
theorem d_P_sum_5 : decode b_P_sum 5 = .ok (.irem, 1) := by decide +kernel
theorem d_P_sum_6 : decode b_P_sum 6 = .ok (.ireturn, 1) := by decide +kernel
theorem d_P_product_0 : decode b_P_product 0 = .ok (.iload_n 0, 1) := by decide +kernel
theorem d_P_product_1 : decode b_P_product 1 = .ok (.i2l, 1) := by decide +kernel
theorem d_P_product_2 : decode b_P_product 2 = .ok (.iload_n 1, 1) := by decide +kernel
theorem d_P_product_3 : decode b_P_product 3 = .ok (.i2l, 1) := by decide +kernel
theorem d_P_product_4 : decode b_P_product 4 = .ok (.lmul, 1) := by decide +kernel
theorem d_P_product_5 : decode b_P_product 5 = .ok (.ldc2_w 134, 3) := by decide +kernel
theorem d_P_product_8 : decode b_P_product 8 = .ok (.lrem, 1) := by decide +kernel
theorem d_P_product_9 : decode b_P_product 9 = .ok (.l2i, 1) := by decide +kernel
theorem d_P_product_10 : decode b_P_product 10 = .ok (.ireturn, 1) := by decide +kernel
theorem d_P_secretOf_0 : decode b_P_secretOf 0 = .ok (.bipush 100, 2) := by decide +kernel
theorem d_P_secretOf_2 : decode b_P_secretOf 2 = .ok (.iload_n 0, 1) := by decide +kernel
theorem d_P_secretOf_3 : decode b_P_secretOf 3 = .ok (.iadd, 1) := by decide +kernel
theorem d_P_secretOf_4 : decode b_P_secretOf 4 = .ok (.ireturn, 1) := by decide +kernel
theorem d_P_hash_0 : decode b_P_hash 0 = .ok (.iload_n 1, 1) := by decide +kernel
theorem d_P_hash_1 : decode b_P_hash 1 = .ok (.invokestatic 55, 3) := by decide +kernel
theorem d_P_hash_4 : decode b_P_hash 4 = .ok (.ifCond .eq 10, 3) := by decide +kernel
theorem d_P_hash_7 : decode b_P_hash 7 = .ok (.iload_n 2, 1) := by decide +kernel
theorem d_P_hash_8 : decode b_P_hash 8 = .ok (.invokestatic 55, 3) := by decide +kernel
theorem d_P_hash_11 : decode b_P_hash 11 = .ok (.ifCond .ne 5, 3) := by decide +kernel
theorem d_P_hash_14 : decode b_P_hash 14 = .ok (.iconst (-1), 1) := by decide +kernel
theorem d_P_hash_15 : decode b_P_hash 15 = .ok (.ireturn, 1) := by decide +kernel
theorem d_P_hash_16 : decode b_P_hash 16 = .ok (.iload_n 1, 1) := by decide +kernel
theorem d_P_hash_17 : decode b_P_hash 17 = .ok (.iload_n 2, 1) := by decide +kernel
theorem d_P_hash_18 : decode b_P_hash 18 = .ok (.invokestatic 51, 3) := by decide +kernel
theorem d_P_hash_21 : decode b_P_hash 21 = .ok (.ireturn, 1) := by decide +kernel
theorem d_P_isNumber_0 : decode b_P_isNumber 0 = .ok (.iload_n 0, 1) := by decide +kernel
theorem d_P_isNumber_1 : decode b_P_isNumber 1 = .ok (.ifCond .lt 13, 3) := by decide +kernel
theorem d_P_isNumber_4 : decode b_P_isNumber 4 = .ok (.iload_n 0, 1) := by decide +kernel
theorem d_P_isNumber_5 : decode b_P_isNumber 5 = .ok (.ldc 133, 2) := by decide +kernel
theorem d_P_isNumber_7 : decode b_P_isNumber 7 = .ok (.if_icmp .ge 7, 3) := by decide +kernel
theorem d_P_isNumber_10 : decode b_P_isNumber 10 = .ok (.iconst 1, 1) := by decide +kernel
theorem d_P_isNumber_11 : decode b_P_isNumber 11 = .ok (.goto 4, 3) := by decide +kernel
theorem d_P_isNumber_14 : decode b_P_isNumber 14 = .ok (.iconst 0, 1) := by decide +kernel
theorem d_P_isNumber_15 : decode b_P_isNumber 15 = .ok (.ireturn, 1) := by decide +kernel
theorem d_P_deposit_0 : decode b_P_deposit 0 = .ok (.iload_n 1, 1) := by decide +kernel
theorem d_P_deposit_1 : decode b_P_deposit 1 = .ok (.invokestatic 59, 3) := by decide +kernel
theorem d_P_deposit_4 : decode b_P_deposit 4 = .ok (.ifCond .ne 6, 3) := by decide +kernel
theorem d_P_deposit_7 : decode b_P_deposit 7 = .ok (.bipush (-2), 2) := by decide +kernel
theorem d_P_deposit_9 : decode b_P_deposit 9 = .ok (.ireturn, 1) := by decide +kernel
theorem d_P_deposit_10 : decode b_P_deposit 10 = .ok (.iload_n 2, 1) := by decide +kernel
theorem d_P_deposit_11 : decode b_P_deposit 11 = .ok (.invokestatic 62, 3) := by decide +kernel
theorem d_P_deposit_14 : decode b_P_deposit 14 = .ok (.ifCond .eq 10, 3) := by decide +kernel
theorem d_P_deposit_17 : decode b_P_deposit 17 = .ok (.iload_n 3, 1) := by decide +kernel
theorem d_P_deposit_18 : decode b_P_deposit 18 = .ok (.invokestatic 55, 3) := by decide +kernel
theorem d_P_deposit_21 : decode b_P_deposit 21 = .ok (.ifCond .ne 6, 3) := by decide +kernel
theorem d_P_deposit_24 : decode b_P_deposit 24 = .ok (.bipush (-3), 2) := by decide +kernel
theorem d_P_deposit_26 : decode b_P_deposit 26 = .ok (.ireturn, 1) := by decide +kernel
theorem d_P_deposit_27 : decode b_P_deposit 27 = .ok (.aload_n 0, 1) := by decide +kernel
theorem d_P_deposit_28 : decode b_P_deposit 28 = .ok (.getfield 25, 3) := by decide +kernel
theorem d_P_deposit_31 : decode b_P_deposit 31 = .ok (.invokevirtual 65, 3) := by decide +kernel
theorem d_P_deposit_34 : decode b_P_deposit 34 = .ok (.ifCond .eq 6, 3) := by decide +kernel
theorem d_P_deposit_37 : decode b_P_deposit 37 = .ok (.bipush (-7), 2) := by decide +kernel
theorem d_P_deposit_39 : decode b_P_deposit 39 = .ok (.ireturn, 1) := by decide +kernel
theorem d_P_deposit_40 : decode b_P_deposit 40 = .ok (.aload_n 0, 1) := by decide +kernel
theorem d_P_deposit_41 : decode b_P_deposit 41 = .ok (.dup, 1) := by decide +kernel
theorem d_P_deposit_42 : decode b_P_deposit 42 = .ok (.getfield 43, 3) := by decide +kernel
theorem d_P_deposit_45 : decode b_P_deposit 45 = .ok (.iload_n 2, 1) := by decide +kernel
theorem d_P_deposit_46 : decode b_P_deposit 46 = .ok (.iadd, 1) := by decide +kernel
theorem d_P_deposit_47 : decode b_P_deposit 47 = .ok (.putfield 43, 3) := by decide +kernel
theorem d_P_deposit_50 : decode b_P_deposit 50 = .ok (.aload_n 0, 1) := by decide +kernel
theorem d_P_deposit_51 : decode b_P_deposit 51 = .ok (.aload_n 0, 1) := by decide +kernel
theorem d_P_deposit_52 : decode b_P_deposit 52 = .ok (.getfield 9, 3) := by decide +kernel
theorem d_P_deposit_55 : decode b_P_deposit 55 = .ok (.iload_n 1, 1) := by decide +kernel
theorem d_P_deposit_56 : decode b_P_deposit 56 = .ok (.iaload, 1) := by decide +kernel
theorem d_P_deposit_57 : decode b_P_deposit 57 = .ok (.iload_n 2, 1) := by decide +kernel
theorem d_P_deposit_58 : decode b_P_deposit 58 = .ok (.iload_n 3, 1) := by decide +kernel
theorem d_P_deposit_59 : decode b_P_deposit 59 = .ok (.invokevirtual 69, 3) := by decide +kernel
theorem d_P_deposit_62 : decode b_P_deposit 62 = .ok (.ireturn, 1) := by decide +kernel
theorem d_P_isAccount_0 : decode b_P_isAccount 0 = .ok (.iload_n 0, 1) := by decide +kernel
theorem d_P_isAccount_1 : decode b_P_isAccount 1 = .ok (.ifCond .lt 12, 3) := by decide +kernel
theorem d_P_isAccount_4 : decode b_P_isAccount 4 = .ok (.iload_n 0, 1) := by decide +kernel
theorem d_P_isAccount_5 : decode b_P_isAccount 5 = .ok (.iconst 4, 1) := by decide +kernel
theorem d_P_isAccount_6 : decode b_P_isAccount 6 = .ok (.if_icmp .ge 7, 3) := by decide +kernel
theorem d_P_isAccount_9 : decode b_P_isAccount 9 = .ok (.iconst 1, 1) := by decide +kernel
theorem d_P_isAccount_10 : decode b_P_isAccount 10 = .ok (.goto 4, 3) := by decide +kernel
theorem d_P_isAccount_13 : decode b_P_isAccount 13 = .ok (.iconst 0, 1) := by decide +kernel
theorem d_P_isAccount_14 : decode b_P_isAccount 14 = .ok (.ireturn, 1) := by decide +kernel
theorem d_P_isValue_0 : decode b_P_isValue 0 = .ok (.iload_n 0, 1) := by decide +kernel
theorem d_P_isValue_1 : decode b_P_isValue 1 = .ok (.ifCond .lt 14, 3) := by decide +kernel
theorem d_P_isValue_4 : decode b_P_isValue 4 = .ok (.iload_n 0, 1) := by decide +kernel
theorem d_P_isValue_5 : decode b_P_isValue 5 = .ok (.sipush 255, 3) := by decide +kernel
theorem d_P_isValue_8 : decode b_P_isValue 8 = .ok (.if_icmp .gt 7, 3) := by decide +kernel
theorem d_P_isValue_11 : decode b_P_isValue 11 = .ok (.iconst 1, 1) := by decide +kernel
theorem d_P_isValue_12 : decode b_P_isValue 12 = .ok (.goto 4, 3) := by decide +kernel
theorem d_P_isValue_15 : decode b_P_isValue 15 = .ok (.iconst 0, 1) := by decide +kernel
theorem d_P_isValue_16 : decode b_P_isValue 16 = .ok (.ireturn, 1) := by decide +kernel
theorem d_P_makeNote_0 : decode b_P_makeNote 0 = .ok (.aload_n 0, 1) := by decide +kernel
theorem d_P_makeNote_1 : decode b_P_makeNote 1 = .ok (.getfield 25, 3) := by decide +kernel
theorem d_P_makeNote_4 : decode b_P_makeNote 4 = .ok (.iload_n 1, 1) := by decide +kernel
theorem d_P_makeNote_5 : decode b_P_makeNote 5 = .ok (.iload_n 2, 1) := by decide +kernel
theorem d_P_makeNote_6 : decode b_P_makeNote 6 = .ok (.invokestatic 51, 3) := by decide +kernel
theorem d_P_makeNote_9 : decode b_P_makeNote 9 = .ok (.iload_n 3, 1) := by decide +kernel
theorem d_P_makeNote_10 : decode b_P_makeNote 10 = .ok (.invokestatic 51, 3) := by decide +kernel
theorem d_P_makeNote_13 : decode b_P_makeNote 13 = .ok (.invokevirtual 127, 3) := by decide +kernel
theorem d_P_makeNote_16 : decode b_P_makeNote 16 = .ok (.istore 4, 2) := by decide +kernel
theorem d_P_makeNote_18 : decode b_P_makeNote 18 = .ok (.aload_n 0, 1) := by decide +kernel
theorem d_P_makeNote_19 : decode b_P_makeNote 19 = .ok (.iload 4, 2) := by decide +kernel
theorem d_P_makeNote_21 : decode b_P_makeNote 21 = .ok (.invokevirtual 73, 3) := by decide +kernel
theorem d_P_makeNote_24 : decode b_P_makeNote 24 = .ok (.ifCond .eq 31, 3) := by decide +kernel
theorem d_P_makeNote_27 : decode b_P_makeNote 27 = .ok (.aload_n 0, 1) := by decide +kernel
theorem d_P_makeNote_28 : decode b_P_makeNote 28 = .ok (.getfield 13, 3) := by decide +kernel
theorem d_P_makeNote_31 : decode b_P_makeNote 31 = .ok (.iload 4, 2) := by decide +kernel
theorem d_P_makeNote_33 : decode b_P_makeNote 33 = .ok (.aload_n 0, 1) := by decide +kernel
theorem d_P_makeNote_34 : decode b_P_makeNote 34 = .ok (.iload_n 1, 1) := by decide +kernel
theorem d_P_makeNote_35 : decode b_P_makeNote 35 = .ok (.invokevirtual 130, 3) := by decide +kernel
theorem d_P_makeNote_38 : decode b_P_makeNote 38 = .ok (.iastore, 1) := by decide +kernel
theorem d_P_makeNote_39 : decode b_P_makeNote 39 = .ok (.aload_n 0, 1) := by decide +kernel
theorem d_P_makeNote_40 : decode b_P_makeNote 40 = .ok (.getfield 16, 3) := by decide +kernel
theorem d_P_makeNote_43 : decode b_P_makeNote 43 = .ok (.iload 4, 2) := by decide +kernel
theorem d_P_makeNote_45 : decode b_P_makeNote 45 = .ok (.iload_n 2, 1) := by decide +kernel
theorem d_P_makeNote_46 : decode b_P_makeNote 46 = .ok (.iastore, 1) := by decide +kernel
theorem d_P_makeNote_47 : decode b_P_makeNote 47 = .ok (.aload_n 0, 1) := by decide +kernel
theorem d_P_makeNote_48 : decode b_P_makeNote 48 = .ok (.getfield 19, 3) := by decide +kernel
theorem d_P_makeNote_51 : decode b_P_makeNote 51 = .ok (.iload 4, 2) := by decide +kernel
theorem d_P_makeNote_53 : decode b_P_makeNote 53 = .ok (.iload_n 3, 1) := by decide +kernel
theorem d_P_makeNote_54 : decode b_P_makeNote 54 = .ok (.iastore, 1) := by decide +kernel
theorem d_P_makeNote_55 : decode b_P_makeNote 55 = .ok (.iload 4, 2) := by decide +kernel
theorem d_P_makeNote_57 : decode b_P_makeNote 57 = .ok (.ireturn, 1) := by decide +kernel
theorem d_P_hasNote_0 : decode b_P_hasNote 0 = .ok (.iload_n 1, 1) := by decide +kernel
theorem d_P_hasNote_1 : decode b_P_hasNote 1 = .ok (.ifCond .lt 18, 3) := by decide +kernel
theorem d_P_hasNote_4 : decode b_P_hasNote 4 = .ok (.iload_n 1, 1) := by decide +kernel
theorem d_P_hasNote_5 : decode b_P_hasNote 5 = .ok (.aload_n 0, 1) := by decide +kernel
theorem d_P_hasNote_6 : decode b_P_hasNote 6 = .ok (.getfield 25, 3) := by decide +kernel
theorem d_P_hasNote_9 : decode b_P_hasNote 9 = .ok (.getfield 111, 3) := by decide +kernel
theorem d_P_hasNote_12 : decode b_P_hasNote 12 = .ok (.if_icmp .ge 7, 3) := by decide +kernel
theorem d_P_hasNote_15 : decode b_P_hasNote 15 = .ok (.iconst 1, 1) := by decide +kernel
theorem d_P_hasNote_16 : decode b_P_hasNote 16 = .ok (.goto 4, 3) := by decide +kernel
theorem d_P_hasNote_19 : decode b_P_hasNote 19 = .ok (.iconst 0, 1) := by decide +kernel
theorem d_P_hasNote_20 : decode b_P_hasNote 20 = .ok (.ireturn, 1) := by decide +kernel
theorem d_P_ownerOfKey_0 : decode b_P_ownerOfKey 0 = .ok (.iconst 0, 1) := by decide +kernel
theorem d_P_ownerOfKey_1 : decode b_P_ownerOfKey 1 = .ok (.istore_n 2, 1) := by decide +kernel
theorem d_P_ownerOfKey_2 : decode b_P_ownerOfKey 2 = .ok (.iload_n 2, 1) := by decide +kernel
theorem d_P_ownerOfKey_3 : decode b_P_ownerOfKey 3 = .ok (.iconst 4, 1) := by decide +kernel
theorem d_P_ownerOfKey_4 : decode b_P_ownerOfKey 4 = .ok (.if_icmp .ge 21, 3) := by decide +kernel
theorem d_P_ownerOfKey_7 : decode b_P_ownerOfKey 7 = .ok (.aload_n 0, 1) := by decide +kernel
theorem d_P_ownerOfKey_8 : decode b_P_ownerOfKey 8 = .ok (.getfield 9, 3) := by decide +kernel
theorem d_P_ownerOfKey_11 : decode b_P_ownerOfKey 11 = .ok (.iload_n 2, 1) := by decide +kernel
theorem d_P_ownerOfKey_12 : decode b_P_ownerOfKey 12 = .ok (.iaload, 1) := by decide +kernel
theorem d_P_ownerOfKey_13 : decode b_P_ownerOfKey 13 = .ok (.iload_n 1, 1) := by decide +kernel
theorem d_P_ownerOfKey_14 : decode b_P_ownerOfKey 14 = .ok (.if_icmp .ne 5, 3) := by decide +kernel
theorem d_P_ownerOfKey_17 : decode b_P_ownerOfKey 17 = .ok (.iload_n 2, 1) := by decide +kernel
theorem d_P_ownerOfKey_18 : decode b_P_ownerOfKey 18 = .ok (.ireturn, 1) := by decide +kernel
theorem d_P_ownerOfKey_19 : decode b_P_ownerOfKey 19 = .ok (.iinc 2 1, 3) := by decide +kernel
theorem d_P_ownerOfKey_22 : decode b_P_ownerOfKey 22 = .ok (.goto (-20), 3) := by decide +kernel
theorem d_P_ownerOfKey_25 : decode b_P_ownerOfKey 25 = .ok (.iconst (-1), 1) := by decide +kernel
theorem d_P_ownerOfKey_26 : decode b_P_ownerOfKey 26 = .ok (.ireturn, 1) := by decide +kernel
theorem d_P_load_0 : decode b_P_load 0 = .ok (.aload_n 0, 1) := by decide +kernel
theorem d_P_load_1 : decode b_P_load 1 = .ok (.iload_n 1, 1) := by decide +kernel
theorem d_P_load_2 : decode b_P_load 2 = .ok (.invokevirtual 73, 3) := by decide +kernel
theorem d_P_load_5 : decode b_P_load 5 = .ok (.ifCond .eq 10, 3) := by decide +kernel
theorem d_P_load_8 : decode b_P_load 8 = .ok (.iload_n 2, 1) := by decide +kernel
theorem d_P_load_9 : decode b_P_load 9 = .ok (.invokestatic 59, 3) := by decide +kernel
theorem d_P_load_12 : decode b_P_load 12 = .ok (.ifCond .ne 6, 3) := by decide +kernel
theorem d_P_load_15 : decode b_P_load 15 = .ok (.bipush (-2), 2) := by decide +kernel
theorem d_P_load_17 : decode b_P_load 17 = .ok (.ireturn, 1) := by decide +kernel
theorem d_P_load_18 : decode b_P_load 18 = .ok (.aload_n 0, 1) := by decide +kernel
theorem d_P_load_19 : decode b_P_load 19 = .ok (.getfield 13, 3) := by decide +kernel
theorem d_P_load_22 : decode b_P_load 22 = .ok (.iload_n 1, 1) := by decide +kernel
theorem d_P_load_23 : decode b_P_load 23 = .ok (.iaload, 1) := by decide +kernel
theorem d_P_load_24 : decode b_P_load 24 = .ok (.invokestatic 59, 3) := by decide +kernel
theorem d_P_load_27 : decode b_P_load 27 = .ok (.ifCond .ne 5, 3) := by decide +kernel
theorem d_P_load_30 : decode b_P_load 30 = .ok (.iconst (-1), 1) := by decide +kernel
theorem d_P_load_31 : decode b_P_load 31 = .ok (.ireturn, 1) := by decide +kernel
theorem d_P_load_32 : decode b_P_load 32 = .ok (.iload_n 3, 1) := by decide +kernel
theorem d_P_load_33 : decode b_P_load 33 = .ok (.invokestatic 62, 3) := by decide +kernel
theorem d_P_load_36 : decode b_P_load 36 = .ok (.ifCond .eq 19, 3) := by decide +kernel
theorem d_P_load_39 : decode b_P_load 39 = .ok (.iload 4, 2) := by decide +kernel
theorem d_P_load_41 : decode b_P_load 41 = .ok (.invokestatic 62, 3) := by decide +kernel
theorem d_P_load_44 : decode b_P_load 44 = .ok (.ifCond .eq 11, 3) := by decide +kernel
theorem d_P_load_47 : decode b_P_load 47 = .ok (.iload 5, 2) := by decide +kernel
theorem d_P_load_49 : decode b_P_load 49 = .ok (.invokestatic 55, 3) := by decide +kernel
theorem d_P_load_52 : decode b_P_load 52 = .ok (.ifCond .ne 6, 3) := by decide +kernel
theorem d_P_load_55 : decode b_P_load 55 = .ok (.bipush (-3), 2) := by decide +kernel
theorem d_P_load_57 : decode b_P_load 57 = .ok (.ireturn, 1) := by decide +kernel
theorem d_P_load_58 : decode b_P_load 58 = .ok (.aload_n 0, 1) := by decide +kernel
theorem d_P_load_59 : decode b_P_load 59 = .ok (.getfield 39, 3) := by decide +kernel
theorem d_P_load_62 : decode b_P_load 62 = .ok (.aload_n 0, 1) := by decide +kernel
theorem d_P_load_63 : decode b_P_load 63 = .ok (.getfield 13, 3) := by decide +kernel
theorem d_P_load_66 : decode b_P_load 66 = .ok (.iload_n 1, 1) := by decide +kernel
theorem d_P_load_67 : decode b_P_load 67 = .ok (.iaload, 1) := by decide +kernel
theorem d_P_load_68 : decode b_P_load 68 = .ok (.invokestatic 47, 3) := by decide +kernel
theorem d_P_load_71 : decode b_P_load 71 = .ok (.aload_n 0, 1) := by decide +kernel
theorem d_P_load_72 : decode b_P_load 72 = .ok (.getfield 16, 3) := by decide +kernel
theorem d_P_load_75 : decode b_P_load 75 = .ok (.iload_n 1, 1) := by decide +kernel
theorem d_P_load_76 : decode b_P_load 76 = .ok (.iaload, 1) := by decide +kernel
theorem d_P_load_77 : decode b_P_load 77 = .ok (.aload_n 0, 1) := by decide +kernel
theorem d_P_load_78 : decode b_P_load 78 = .ok (.getfield 19, 3) := by decide +kernel
theorem d_P_load_81 : decode b_P_load 81 = .ok (.iload_n 1, 1) := by decide +kernel
theorem d_P_load_82 : decode b_P_load 82 = .ok (.iaload, 1) := by decide +kernel
theorem d_P_load_83 : decode b_P_load 83 = .ok (.invokevirtual 76, 3) := by decide +kernel
theorem d_P_load_86 : decode b_P_load 86 = .ok (.aload_n 0, 1) := by decide +kernel
theorem d_P_load_87 : decode b_P_load 87 = .ok (.getfield 39, 3) := by decide +kernel
theorem d_P_load_90 : decode b_P_load 90 = .ok (.aload_n 0, 1) := by decide +kernel
theorem d_P_load_91 : decode b_P_load 91 = .ok (.getfield 9, 3) := by decide +kernel
theorem d_P_load_94 : decode b_P_load 94 = .ok (.iload_n 2, 1) := by decide +kernel
theorem d_P_load_95 : decode b_P_load 95 = .ok (.iaload, 1) := by decide +kernel
theorem d_P_load_96 : decode b_P_load 96 = .ok (.iload_n 3, 1) := by decide +kernel
theorem d_P_load_97 : decode b_P_load 97 = .ok (.iload 4, 2) := by decide +kernel
theorem d_P_load_99 : decode b_P_load 99 = .ok (.iload 5, 2) := by decide +kernel
theorem d_P_load_101 : decode b_P_load 101 = .ok (.invokevirtual 80, 3) := by decide +kernel
theorem d_P_load_104 : decode b_P_load 104 = .ok (.aload_n 0, 1) := by decide +kernel
theorem d_P_load_105 : decode b_P_load 105 = .ok (.getfield 39, 3) := by decide +kernel
theorem d_P_load_108 : decode b_P_load 108 = .ok (.iload_n 1, 1) := by decide +kernel
theorem d_P_load_109 : decode b_P_load 109 = .ok (.aload_n 0, 1) := by decide +kernel
theorem d_P_load_110 : decode b_P_load 110 = .ok (.getfield 25, 3) := by decide +kernel
theorem d_P_load_113 : decode b_P_load 113 = .ok (.invokevirtual 84, 3) := by decide +kernel
theorem d_P_load_116 : decode b_P_load 116 = .ok (.aload_n 0, 1) := by decide +kernel
theorem d_P_load_117 : decode b_P_load 117 = .ok (.getfield 39, 3) := by decide +kernel
theorem d_P_load_120 : decode b_P_load 120 = .ok (.invokevirtual 88, 3) := by decide +kernel
theorem d_P_load_123 : decode b_P_load 123 = .ok (.aload_n 0, 1) := by decide +kernel
theorem d_P_load_124 : decode b_P_load 124 = .ok (.getfield 39, 3) := by decide +kernel
theorem d_P_load_127 : decode b_P_load 127 = .ok (.invokevirtual 91, 3) := by decide +kernel
theorem d_P_load_130 : decode b_P_load 130 = .ok (.iconst (-1), 1) := by decide +kernel
theorem d_P_load_131 : decode b_P_load 131 = .ok (.if_icmp .ne 7, 3) := by decide +kernel
theorem d_P_load_134 : decode b_P_load 134 = .ok (.iconst 1, 1) := by decide +kernel
theorem d_P_load_135 : decode b_P_load 135 = .ok (.goto 4, 3) := by decide +kernel
theorem d_P_load_138 : decode b_P_load 138 = .ok (.iconst 0, 1) := by decide +kernel
theorem d_P_load_139 : decode b_P_load 139 = .ok (.ireturn, 1) := by decide +kernel
theorem d_P_difference_0 : decode b_P_difference 0 = .ok (.iload_n 0, 1) := by decide +kernel
theorem d_P_difference_1 : decode b_P_difference 1 = .ok (.iload_n 1, 1) := by decide +kernel
theorem d_P_difference_2 : decode b_P_difference 2 = .ok (.isub, 1) := by decide +kernel
theorem d_P_difference_3 : decode b_P_difference 3 = .ok (.ldc 133, 2) := by decide +kernel
theorem d_P_difference_5 : decode b_P_difference 5 = .ok (.iadd, 1) := by decide +kernel
theorem d_P_difference_6 : decode b_P_difference 6 = .ok (.ldc 133, 2) := by decide +kernel
theorem d_P_difference_8 : decode b_P_difference 8 = .ok (.irem, 1) := by decide +kernel
theorem d_P_difference_9 : decode b_P_difference 9 = .ok (.ireturn, 1) := by decide +kernel
theorem d_P_set_0 : decode b_P_set 0 = .ok (.iload_n 1, 1) := by decide +kernel
theorem d_P_set_1 : decode b_P_set 1 = .ok (.invokestatic 95, 3) := by decide +kernel
theorem d_P_set_4 : decode b_P_set 4 = .ok (.ifCond .eq 14, 3) := by decide +kernel
theorem d_P_set_7 : decode b_P_set 7 = .ok (.iload_n 1, 1) := by decide +kernel
theorem d_P_set_8 : decode b_P_set 8 = .ok (.ifCond .eq 10, 3) := by decide +kernel
theorem d_P_set_11 : decode b_P_set 11 = .ok (.iload_n 2, 1) := by decide +kernel
theorem d_P_set_12 : decode b_P_set 12 = .ok (.invokestatic 55, 3) := by decide +kernel
theorem d_P_set_15 : decode b_P_set 15 = .ok (.ifCond .ne 5, 3) := by decide +kernel
theorem d_P_set_18 : decode b_P_set 18 = .ok (.iconst 0, 1) := by decide +kernel
theorem d_P_set_19 : decode b_P_set 19 = .ok (.ireturn, 1) := by decide +kernel
theorem d_P_set_20 : decode b_P_set 20 = .ok (.aload_n 0, 1) := by decide +kernel
theorem d_P_set_21 : decode b_P_set 21 = .ok (.getfield 39, 3) := by decide +kernel
theorem d_P_set_24 : decode b_P_set 24 = .ok (.getfield 98, 3) := by decide +kernel
theorem d_P_set_27 : decode b_P_set 27 = .ok (.iload_n 1, 1) := by decide +kernel
theorem d_P_set_28 : decode b_P_set 28 = .ok (.iload_n 2, 1) := by decide +kernel
theorem d_P_set_29 : decode b_P_set 29 = .ok (.iastore, 1) := by decide +kernel
theorem d_P_set_30 : decode b_P_set 30 = .ok (.iconst 1, 1) := by decide +kernel
theorem d_P_set_31 : decode b_P_set 31 = .ok (.ireturn, 1) := by decide +kernel
theorem d_P_get_0 : decode b_P_get 0 = .ok (.iload_n 1, 1) := by decide +kernel
theorem d_P_get_1 : decode b_P_get 1 = .ok (.invokestatic 95, 3) := by decide +kernel
theorem d_P_get_4 : decode b_P_get 4 = .ok (.ifCond .eq 15, 3) := by decide +kernel
theorem d_P_get_7 : decode b_P_get 7 = .ok (.aload_n 0, 1) := by decide +kernel
theorem d_P_get_8 : decode b_P_get 8 = .ok (.getfield 39, 3) := by decide +kernel
theorem d_P_get_11 : decode b_P_get 11 = .ok (.getfield 98, 3) := by decide +kernel
theorem d_P_get_14 : decode b_P_get 14 = .ok (.iload_n 1, 1) := by decide +kernel
theorem d_P_get_15 : decode b_P_get 15 = .ok (.iaload, 1) := by decide +kernel
theorem d_P_get_16 : decode b_P_get 16 = .ok (.goto 4, 3) := by decide +kernel
theorem d_P_get_19 : decode b_P_get 19 = .ok (.iconst (-1), 1) := by decide +kernel
theorem d_P_get_20 : decode b_P_get 20 = .ok (.ireturn, 1) := by decide +kernel
theorem d_P_fault_0 : decode b_P_fault 0 = .ok (.aload_n 0, 1) := by decide +kernel
theorem d_P_fault_1 : decode b_P_fault 1 = .ok (.getfield 39, 3) := by decide +kernel
theorem d_P_fault_4 : decode b_P_fault 4 = .ok (.invokevirtual 91, 3) := by decide +kernel
theorem d_P_fault_7 : decode b_P_fault 7 = .ok (.ireturn, 1) := by decide +kernel
theorem d_P_submit_0 : decode b_P_submit 0 = .ok (.aload_n 0, 1) := by decide +kernel
theorem d_P_submit_1 : decode b_P_submit 1 = .ok (.getfield 39, 3) := by decide +kernel
theorem d_P_submit_4 : decode b_P_submit 4 = .ok (.getfield 98, 3) := by decide +kernel
theorem d_P_submit_7 : decode b_P_submit 7 = .ok (.astore_n 1, 1) := by decide +kernel
theorem d_P_submit_8 : decode b_P_submit 8 = .ok (.aload_n 0, 1) := by decide +kernel
theorem d_P_submit_9 : decode b_P_submit 9 = .ok (.getfield 39, 3) := by decide +kernel
theorem d_P_submit_12 : decode b_P_submit 12 = .ok (.invokevirtual 91, 3) := by decide +kernel
theorem d_P_submit_15 : decode b_P_submit 15 = .ok (.iconst (-1), 1) := by decide +kernel
theorem d_P_submit_16 : decode b_P_submit 16 = .ok (.if_icmp .eq 6, 3) := by decide +kernel
theorem d_P_submit_19 : decode b_P_submit 19 = .ok (.bipush (-3), 2) := by decide +kernel
theorem d_P_submit_21 : decode b_P_submit 21 = .ok (.ireturn, 1) := by decide +kernel
theorem d_P_submit_22 : decode b_P_submit 22 = .ok (.aload_n 1, 1) := by decide +kernel
theorem d_P_submit_23 : decode b_P_submit 23 = .ok (.iconst 4, 1) := by decide +kernel
theorem d_P_submit_24 : decode b_P_submit 24 = .ok (.iaload, 1) := by decide +kernel
theorem d_P_submit_25 : decode b_P_submit 25 = .ok (.sipush 255, 3) := by decide +kernel
theorem d_P_submit_28 : decode b_P_submit 28 = .ok (.if_icmp .le 6, 3) := by decide +kernel
theorem d_P_submit_31 : decode b_P_submit 31 = .ok (.bipush (-4), 2) := by decide +kernel
theorem d_P_submit_33 : decode b_P_submit 33 = .ok (.ireturn, 1) := by decide +kernel
theorem d_P_submit_34 : decode b_P_submit 34 = .ok (.aload_n 0, 1) := by decide +kernel
theorem d_P_submit_35 : decode b_P_submit 35 = .ok (.getfield 25, 3) := by decide +kernel
theorem d_P_submit_38 : decode b_P_submit 38 = .ok (.aload_n 1, 1) := by decide +kernel
theorem d_P_submit_39 : decode b_P_submit 39 = .ok (.iconst 1, 1) := by decide +kernel
theorem d_P_submit_40 : decode b_P_submit 40 = .ok (.iaload, 1) := by decide +kernel
theorem d_P_submit_41 : decode b_P_submit 41 = .ok (.invokevirtual 101, 3) := by decide +kernel
theorem d_P_submit_44 : decode b_P_submit 44 = .ok (.ifCond .ne 6, 3) := by decide +kernel
theorem d_P_submit_47 : decode b_P_submit 47 = .ok (.bipush (-5), 2) := by decide +kernel
theorem d_P_submit_49 : decode b_P_submit 49 = .ok (.ireturn, 1) := by decide +kernel
theorem d_P_submit_50 : decode b_P_submit 50 = .ok (.aload_n 0, 1) := by decide +kernel
theorem d_P_submit_51 : decode b_P_submit 51 = .ok (.getfield 32, 3) := by decide +kernel
theorem d_P_submit_54 : decode b_P_submit 54 = .ok (.aload_n 1, 1) := by decide +kernel
theorem d_P_submit_55 : decode b_P_submit 55 = .ok (.iconst 2, 1) := by decide +kernel
theorem d_P_submit_56 : decode b_P_submit 56 = .ok (.iaload, 1) := by decide +kernel
theorem d_P_submit_57 : decode b_P_submit 57 = .ok (.invokevirtual 104, 3) := by decide +kernel
theorem d_P_submit_60 : decode b_P_submit 60 = .ok (.ifCond .eq 6, 3) := by decide +kernel
theorem d_P_submit_63 : decode b_P_submit 63 = .ok (.bipush (-6), 2) := by decide +kernel
theorem d_P_submit_65 : decode b_P_submit 65 = .ok (.ireturn, 1) := by decide +kernel
theorem d_P_submit_66 : decode b_P_submit 66 = .ok (.aload_n 0, 1) := by decide +kernel
theorem d_P_submit_67 : decode b_P_submit 67 = .ok (.getfield 25, 3) := by decide +kernel
theorem d_P_submit_70 : decode b_P_submit 70 = .ok (.invokevirtual 65, 3) := by decide +kernel
theorem d_P_submit_73 : decode b_P_submit 73 = .ok (.ifCond .eq 6, 3) := by decide +kernel
theorem d_P_submit_76 : decode b_P_submit 76 = .ok (.bipush (-7), 2) := by decide +kernel
theorem d_P_submit_78 : decode b_P_submit 78 = .ok (.ireturn, 1) := by decide +kernel
theorem d_P_submit_79 : decode b_P_submit 79 = .ok (.aload_n 0, 1) := by decide +kernel
theorem d_P_submit_80 : decode b_P_submit 80 = .ok (.getfield 32, 3) := by decide +kernel
theorem d_P_submit_83 : decode b_P_submit 83 = .ok (.aload_n 1, 1) := by decide +kernel
theorem d_P_submit_84 : decode b_P_submit 84 = .ok (.iconst 2, 1) := by decide +kernel
theorem d_P_submit_85 : decode b_P_submit 85 = .ok (.iaload, 1) := by decide +kernel
theorem d_P_submit_86 : decode b_P_submit 86 = .ok (.invokevirtual 107, 3) := by decide +kernel
theorem d_P_submit_89 : decode b_P_submit 89 = .ok (.aload_n 0, 1) := by decide +kernel
theorem d_P_submit_90 : decode b_P_submit 90 = .ok (.dup, 1) := by decide +kernel
theorem d_P_submit_91 : decode b_P_submit 91 = .ok (.getfield 43, 3) := by decide +kernel
theorem d_P_submit_94 : decode b_P_submit 94 = .ok (.aload_n 1, 1) := by decide +kernel
theorem d_P_submit_95 : decode b_P_submit 95 = .ok (.iconst 4, 1) := by decide +kernel
theorem d_P_submit_96 : decode b_P_submit 96 = .ok (.iaload, 1) := by decide +kernel
theorem d_P_submit_97 : decode b_P_submit 97 = .ok (.isub, 1) := by decide +kernel
theorem d_P_submit_98 : decode b_P_submit 98 = .ok (.putfield 43, 3) := by decide +kernel
theorem d_P_submit_101 : decode b_P_submit 101 = .ok (.aload_n 0, 1) := by decide +kernel
theorem d_P_submit_102 : decode b_P_submit 102 = .ok (.aload_n 1, 1) := by decide +kernel
theorem d_P_submit_103 : decode b_P_submit 103 = .ok (.bipush 8, 2) := by decide +kernel
theorem d_P_submit_105 : decode b_P_submit 105 = .ok (.iaload, 1) := by decide +kernel
theorem d_P_submit_106 : decode b_P_submit 106 = .ok (.aload_n 1, 1) := by decide +kernel
theorem d_P_submit_107 : decode b_P_submit 107 = .ok (.bipush 9, 2) := by decide +kernel
theorem d_P_submit_109 : decode b_P_submit 109 = .ok (.iaload, 1) := by decide +kernel
theorem d_P_submit_110 : decode b_P_submit 110 = .ok (.aload_n 1, 1) := by decide +kernel
theorem d_P_submit_111 : decode b_P_submit 111 = .ok (.bipush 10, 2) := by decide +kernel
theorem d_P_submit_113 : decode b_P_submit 113 = .ok (.iaload, 1) := by decide +kernel
theorem d_P_submit_114 : decode b_P_submit 114 = .ok (.invokevirtual 69, 3) := by decide +kernel
theorem d_P_submit_117 : decode b_P_submit 117 = .ok (.ireturn, 1) := by decide +kernel
theorem d_P_notes_0 : decode b_P_notes 0 = .ok (.aload_n 0, 1) := by decide +kernel
theorem d_P_notes_1 : decode b_P_notes 1 = .ok (.getfield 25, 3) := by decide +kernel
theorem d_P_notes_4 : decode b_P_notes 4 = .ok (.getfield 111, 3) := by decide +kernel
theorem d_P_notes_7 : decode b_P_notes 7 = .ok (.ireturn, 1) := by decide +kernel
theorem d_P_commitment_0 : decode b_P_commitment 0 = .ok (.aload_n 0, 1) := by decide +kernel
theorem d_P_commitment_1 : decode b_P_commitment 1 = .ok (.iload_n 1, 1) := by decide +kernel
theorem d_P_commitment_2 : decode b_P_commitment 2 = .ok (.invokevirtual 73, 3) := by decide +kernel
theorem d_P_commitment_5 : decode b_P_commitment 5 = .ok (.ifCond .eq 15, 3) := by decide +kernel
theorem d_P_commitment_8 : decode b_P_commitment 8 = .ok (.aload_n 0, 1) := by decide +kernel
theorem d_P_commitment_9 : decode b_P_commitment 9 = .ok (.getfield 25, 3) := by decide +kernel
theorem d_P_commitment_12 : decode b_P_commitment 12 = .ok (.iconst 0, 1) := by decide +kernel
theorem d_P_commitment_13 : decode b_P_commitment 13 = .ok (.iload_n 1, 1) := by decide +kernel
theorem d_P_commitment_14 : decode b_P_commitment 14 = .ok (.invokevirtual 114, 3) := by decide +kernel
theorem d_P_commitment_17 : decode b_P_commitment 17 = .ok (.goto 5, 3) := by decide +kernel
theorem d_P_commitment_20 : decode b_P_commitment 20 = .ok (.bipush (-2), 2) := by decide +kernel
theorem d_P_commitment_22 : decode b_P_commitment 22 = .ok (.ireturn, 1) := by decide +kernel
theorem d_P_owner_0 : decode b_P_owner 0 = .ok (.aload_n 0, 1) := by decide +kernel
theorem d_P_owner_1 : decode b_P_owner 1 = .ok (.iload_n 1, 1) := by decide +kernel
theorem d_P_owner_2 : decode b_P_owner 2 = .ok (.invokevirtual 73, 3) := by decide +kernel
theorem d_P_owner_5 : decode b_P_owner 5 = .ok (.ifCond .eq 12, 3) := by decide +kernel
theorem d_P_owner_8 : decode b_P_owner 8 = .ok (.aload_n 0, 1) := by decide +kernel
theorem d_P_owner_9 : decode b_P_owner 9 = .ok (.getfield 13, 3) := by decide +kernel
theorem d_P_owner_12 : decode b_P_owner 12 = .ok (.iload_n 1, 1) := by decide +kernel
theorem d_P_owner_13 : decode b_P_owner 13 = .ok (.iaload, 1) := by decide +kernel
theorem d_P_owner_14 : decode b_P_owner 14 = .ok (.goto 5, 3) := by decide +kernel
theorem d_P_owner_17 : decode b_P_owner 17 = .ok (.bipush (-2), 2) := by decide +kernel
theorem d_P_owner_19 : decode b_P_owner 19 = .ok (.ireturn, 1) := by decide +kernel
theorem d_P_value_0 : decode b_P_value 0 = .ok (.aload_n 0, 1) := by decide +kernel
theorem d_P_value_1 : decode b_P_value 1 = .ok (.iload_n 1, 1) := by decide +kernel
theorem d_P_value_2 : decode b_P_value 2 = .ok (.invokevirtual 73, 3) := by decide +kernel
theorem d_P_value_5 : decode b_P_value 5 = .ok (.ifCond .eq 12, 3) := by decide +kernel
theorem d_P_value_8 : decode b_P_value 8 = .ok (.aload_n 0, 1) := by decide +kernel
theorem d_P_value_9 : decode b_P_value 9 = .ok (.getfield 16, 3) := by decide +kernel
theorem d_P_value_12 : decode b_P_value 12 = .ok (.iload_n 1, 1) := by decide +kernel
theorem d_P_value_13 : decode b_P_value 13 = .ok (.iaload, 1) := by decide +kernel
theorem d_P_value_14 : decode b_P_value 14 = .ok (.goto 5, 3) := by decide +kernel
theorem d_P_value_17 : decode b_P_value 17 = .ok (.bipush (-2), 2) := by decide +kernel
theorem d_P_value_19 : decode b_P_value 19 = .ok (.ireturn, 1) := by decide +kernel
theorem d_P_unspent_0 : decode b_P_unspent 0 = .ok (.aload_n 0, 1) := by decide +kernel
theorem d_P_unspent_1 : decode b_P_unspent 1 = .ok (.iload_n 1, 1) := by decide +kernel
theorem d_P_unspent_2 : decode b_P_unspent 2 = .ok (.invokevirtual 73, 3) := by decide +kernel
theorem d_P_unspent_5 : decode b_P_unspent 5 = .ok (.ifCond .eq 34, 3) := by decide +kernel
theorem d_P_unspent_8 : decode b_P_unspent 8 = .ok (.aload_n 0, 1) := by decide +kernel
theorem d_P_unspent_9 : decode b_P_unspent 9 = .ok (.getfield 13, 3) := by decide +kernel
theorem d_P_unspent_12 : decode b_P_unspent 12 = .ok (.iload_n 1, 1) := by decide +kernel
theorem d_P_unspent_13 : decode b_P_unspent 13 = .ok (.iaload, 1) := by decide +kernel
theorem d_P_unspent_14 : decode b_P_unspent 14 = .ok (.invokestatic 59, 3) := by decide +kernel
theorem d_P_unspent_17 : decode b_P_unspent 17 = .ok (.ifCond .eq 22, 3) := by decide +kernel
theorem d_P_unspent_20 : decode b_P_unspent 20 = .ok (.aload_n 0, 1) := by decide +kernel
theorem d_P_unspent_21 : decode b_P_unspent 21 = .ok (.getfield 32, 3) := by decide +kernel
theorem d_P_unspent_24 : decode b_P_unspent 24 = .ok (.aload_n 0, 1) := by decide +kernel
theorem d_P_unspent_25 : decode b_P_unspent 25 = .ok (.iload_n 1, 1) := by decide +kernel
theorem d_P_unspent_26 : decode b_P_unspent 26 = .ok (.invokevirtual 117, 3) := by decide +kernel
theorem d_P_unspent_29 : decode b_P_unspent 29 = .ok (.invokevirtual 104, 3) := by decide +kernel
theorem d_P_unspent_32 : decode b_P_unspent 32 = .ok (.ifCond .ne 7, 3) := by decide +kernel
theorem d_P_unspent_35 : decode b_P_unspent 35 = .ok (.iconst 1, 1) := by decide +kernel
theorem d_P_unspent_36 : decode b_P_unspent 36 = .ok (.goto 4, 3) := by decide +kernel
theorem d_P_unspent_39 : decode b_P_unspent 39 = .ok (.iconst 0, 1) := by decide +kernel
theorem d_P_unspent_40 : decode b_P_unspent 40 = .ok (.ireturn, 1) := by decide +kernel
theorem d_P_markOf_0 : decode b_P_markOf 0 = .ok (.aload_n 0, 1) := by decide +kernel
theorem d_P_markOf_1 : decode b_P_markOf 1 = .ok (.getfield 13, 3) := by decide +kernel
theorem d_P_markOf_4 : decode b_P_markOf 4 = .ok (.iload_n 1, 1) := by decide +kernel
theorem d_P_markOf_5 : decode b_P_markOf 5 = .ok (.iaload, 1) := by decide +kernel
theorem d_P_markOf_6 : decode b_P_markOf 6 = .ok (.invokestatic 47, 3) := by decide +kernel
theorem d_P_markOf_9 : decode b_P_markOf 9 = .ok (.aload_n 0, 1) := by decide +kernel
theorem d_P_markOf_10 : decode b_P_markOf 10 = .ok (.getfield 25, 3) := by decide +kernel
theorem d_P_markOf_13 : decode b_P_markOf 13 = .ok (.iconst 0, 1) := by decide +kernel
theorem d_P_markOf_14 : decode b_P_markOf 14 = .ok (.iload_n 1, 1) := by decide +kernel
theorem d_P_markOf_15 : decode b_P_markOf 15 = .ok (.invokevirtual 114, 3) := by decide +kernel
theorem d_P_markOf_18 : decode b_P_markOf 18 = .ok (.invokestatic 51, 3) := by decide +kernel
theorem d_P_markOf_21 : decode b_P_markOf 21 = .ok (.ireturn, 1) := by decide +kernel
theorem d_P_balance_0 : decode b_P_balance 0 = .ok (.iload_n 1, 1) := by decide +kernel
theorem d_P_balance_1 : decode b_P_balance 1 = .ok (.invokestatic 59, 3) := by decide +kernel
theorem d_P_balance_4 : decode b_P_balance 4 = .ok (.ifCond .ne 6, 3) := by decide +kernel
theorem d_P_balance_7 : decode b_P_balance 7 = .ok (.bipush (-2), 2) := by decide +kernel
theorem d_P_balance_9 : decode b_P_balance 9 = .ok (.ireturn, 1) := by decide +kernel
theorem d_P_balance_10 : decode b_P_balance 10 = .ok (.iconst 0, 1) := by decide +kernel
theorem d_P_balance_11 : decode b_P_balance 11 = .ok (.istore_n 2, 1) := by decide +kernel
theorem d_P_balance_12 : decode b_P_balance 12 = .ok (.iconst 0, 1) := by decide +kernel
theorem d_P_balance_13 : decode b_P_balance 13 = .ok (.istore_n 3, 1) := by decide +kernel
theorem d_P_balance_14 : decode b_P_balance 14 = .ok (.iload_n 3, 1) := by decide +kernel
theorem d_P_balance_15 : decode b_P_balance 15 = .ok (.bipush 16, 2) := by decide +kernel
theorem d_P_balance_17 : decode b_P_balance 17 = .ok (.if_icmp .ge 51, 3) := by decide +kernel
theorem d_P_balance_20 : decode b_P_balance 20 = .ok (.aload_n 0, 1) := by decide +kernel
theorem d_P_balance_21 : decode b_P_balance 21 = .ok (.iload_n 3, 1) := by decide +kernel
theorem d_P_balance_22 : decode b_P_balance 22 = .ok (.invokevirtual 73, 3) := by decide +kernel
theorem d_P_balance_25 : decode b_P_balance 25 = .ok (.ifCond .eq 37, 3) := by decide +kernel
theorem d_P_balance_28 : decode b_P_balance 28 = .ok (.aload_n 0, 1) := by decide +kernel
theorem d_P_balance_29 : decode b_P_balance 29 = .ok (.getfield 13, 3) := by decide +kernel
theorem d_P_balance_32 : decode b_P_balance 32 = .ok (.iload_n 3, 1) := by decide +kernel
theorem d_P_balance_33 : decode b_P_balance 33 = .ok (.iaload, 1) := by decide +kernel
theorem d_P_balance_34 : decode b_P_balance 34 = .ok (.iload_n 1, 1) := by decide +kernel
theorem d_P_balance_35 : decode b_P_balance 35 = .ok (.if_icmp .ne 27, 3) := by decide +kernel
theorem d_P_balance_38 : decode b_P_balance 38 = .ok (.aload_n 0, 1) := by decide +kernel
theorem d_P_balance_39 : decode b_P_balance 39 = .ok (.getfield 32, 3) := by decide +kernel
theorem d_P_balance_42 : decode b_P_balance 42 = .ok (.aload_n 0, 1) := by decide +kernel
theorem d_P_balance_43 : decode b_P_balance 43 = .ok (.iload_n 3, 1) := by decide +kernel
theorem d_P_balance_44 : decode b_P_balance 44 = .ok (.invokevirtual 117, 3) := by decide +kernel
theorem d_P_balance_47 : decode b_P_balance 47 = .ok (.invokevirtual 104, 3) := by decide +kernel
theorem d_P_balance_50 : decode b_P_balance 50 = .ok (.ifCond .ne 12, 3) := by decide +kernel
theorem d_P_balance_53 : decode b_P_balance 53 = .ok (.iload_n 2, 1) := by decide +kernel
theorem d_P_balance_54 : decode b_P_balance 54 = .ok (.aload_n 0, 1) := by decide +kernel
theorem d_P_balance_55 : decode b_P_balance 55 = .ok (.getfield 16, 3) := by decide +kernel
theorem d_P_balance_58 : decode b_P_balance 58 = .ok (.iload_n 3, 1) := by decide +kernel
theorem d_P_balance_59 : decode b_P_balance 59 = .ok (.iaload, 1) := by decide +kernel
theorem d_P_balance_60 : decode b_P_balance 60 = .ok (.iadd, 1) := by decide +kernel
theorem d_P_balance_61 : decode b_P_balance 61 = .ok (.istore_n 2, 1) := by decide +kernel
theorem d_P_balance_62 : decode b_P_balance 62 = .ok (.iinc 3 1, 3) := by decide +kernel
theorem d_P_balance_65 : decode b_P_balance 65 = .ok (.goto (-51), 3) := by decide +kernel
theorem d_P_balance_68 : decode b_P_balance 68 = .ok (.iload_n 2, 1) := by decide +kernel
theorem d_P_balance_69 : decode b_P_balance 69 = .ok (.ireturn, 1) := by decide +kernel
theorem d_P_root_0 : decode b_P_root 0 = .ok (.aload_n 0, 1) := by decide +kernel
theorem d_P_root_1 : decode b_P_root 1 = .ok (.getfield 25, 3) := by decide +kernel
theorem d_P_root_4 : decode b_P_root 4 = .ok (.iload_n 1, 1) := by decide +kernel
theorem d_P_root_5 : decode b_P_root 5 = .ok (.invokevirtual 120, 3) := by decide +kernel
theorem d_P_root_8 : decode b_P_root 8 = .ok (.ireturn, 1) := by decide +kernel
theorem d_P_node_0 : decode b_P_node 0 = .ok (.aload_n 0, 1) := by decide +kernel
theorem d_P_node_1 : decode b_P_node 1 = .ok (.getfield 25, 3) := by decide +kernel
theorem d_P_node_4 : decode b_P_node 4 = .ok (.iload_n 1, 1) := by decide +kernel
theorem d_P_node_5 : decode b_P_node 5 = .ok (.iload_n 2, 1) := by decide +kernel
theorem d_P_node_6 : decode b_P_node 6 = .ok (.invokevirtual 114, 3) := by decide +kernel
theorem d_P_node_9 : decode b_P_node 9 = .ok (.ireturn, 1) := by decide +kernel
theorem d_P_used_0 : decode b_P_used 0 = .ok (.aload_n 0, 1) := by decide +kernel
theorem d_P_used_1 : decode b_P_used 1 = .ok (.getfield 32, 3) := by decide +kernel
theorem d_P_used_4 : decode b_P_used 4 = .ok (.getfield 123, 3) := by decide +kernel
theorem d_P_used_7 : decode b_P_used 7 = .ok (.ireturn, 1) := by decide +kernel
theorem d_P_mark_0 : decode b_P_mark 0 = .ok (.aload_n 0, 1) := by decide +kernel
theorem d_P_mark_1 : decode b_P_mark 1 = .ok (.getfield 32, 3) := by decide +kernel
theorem d_P_mark_4 : decode b_P_mark 4 = .ok (.iload_n 1, 1) := by decide +kernel
theorem d_P_mark_5 : decode b_P_mark 5 = .ok (.invokevirtual 124, 3) := by decide +kernel
theorem d_P_mark_8 : decode b_P_mark 8 = .ok (.ireturn, 1) := by decide +kernel
theorem d_P_pool_0 : decode b_P_pool 0 = .ok (.aload_n 0, 1) := by decide +kernel
theorem d_P_pool_1 : decode b_P_pool 1 = .ok (.getfield 43, 3) := by decide +kernel
theorem d_P_pool_4 : decode b_P_pool 4 = .ok (.ireturn, 1) := by decide +kernel
