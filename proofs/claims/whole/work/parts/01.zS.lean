theorem d_S_init_0 : decode b_S_init 0 = .ok (.aload_n 0, 1) := by decide +kernel
theorem d_S_init_1 : decode b_S_init 1 = .ok (.invokespecial 5, 3) := by decide +kernel
theorem d_S_init_4 : decode b_S_init 4 = .ok (.aload_n 0, 1) := by decide +kernel
theorem d_S_init_5 : decode b_S_init 5 = .ok (.bipush 125, 2) := by decide +kernel
theorem d_S_init_7 : decode b_S_init 7 = .ok (.newarray .int, 2) := by decide +kernel
theorem d_S_init_9 : decode b_S_init 9 = .ok (.putfield 11, 3) := by decide +kernel
theorem d_S_init_12 : decode b_S_init 12 = .ok (.aload_n 0, 1) := by decide +kernel
theorem d_S_init_13 : decode b_S_init 13 = .ok (.getfield 11, 3) := by decide +kernel
theorem d_S_init_16 : decode b_S_init 16 = .ok (.iconst 0, 1) := by decide +kernel
theorem d_S_init_17 : decode b_S_init 17 = .ok (.iconst 1, 1) := by decide +kernel
theorem d_S_init_18 : decode b_S_init 18 = .ok (.iastore, 1) := by decide +kernel
theorem d_S_init_19 : decode b_S_init 19 = .ok (.return_, 1) := by decide +kernel
theorem d_S_takeNote_0 : decode b_S_takeNote 0 = .ok (.aload_n 0, 1) := by decide +kernel
theorem d_S_takeNote_1 : decode b_S_takeNote 1 = .ok (.getfield 11, 3) := by decide +kernel
theorem d_S_takeNote_4 : decode b_S_takeNote 4 = .ok (.iconst 5, 1) := by decide +kernel
theorem d_S_takeNote_5 : decode b_S_takeNote 5 = .ok (.iload_n 1, 1) := by decide +kernel
theorem d_S_takeNote_6 : decode b_S_takeNote 6 = .ok (.iastore, 1) := by decide +kernel
theorem d_S_takeNote_7 : decode b_S_takeNote 7 = .ok (.aload_n 0, 1) := by decide +kernel
theorem d_S_takeNote_8 : decode b_S_takeNote 8 = .ok (.getfield 11, 3) := by decide +kernel
theorem d_S_takeNote_11 : decode b_S_takeNote 11 = .ok (.bipush 6, 2) := by decide +kernel
theorem d_S_takeNote_13 : decode b_S_takeNote 13 = .ok (.iload_n 2, 1) := by decide +kernel
theorem d_S_takeNote_14 : decode b_S_takeNote 14 = .ok (.iastore, 1) := by decide +kernel
theorem d_S_takeNote_15 : decode b_S_takeNote 15 = .ok (.aload_n 0, 1) := by decide +kernel
theorem d_S_takeNote_16 : decode b_S_takeNote 16 = .ok (.getfield 11, 3) := by decide +kernel
theorem d_S_takeNote_19 : decode b_S_takeNote 19 = .ok (.bipush 7, 2) := by decide +kernel
theorem d_S_takeNote_21 : decode b_S_takeNote 21 = .ok (.iload_n 3, 1) := by decide +kernel
theorem d_S_takeNote_22 : decode b_S_takeNote 22 = .ok (.iastore, 1) := by decide +kernel
theorem d_S_takeNote_23 : decode b_S_takeNote 23 = .ok (.return_, 1) := by decide +kernel
theorem d_S_takePayment_0 : decode b_S_takePayment 0 = .ok (.aload_n 0, 1) := by decide +kernel
theorem d_S_takePayment_1 : decode b_S_takePayment 1 = .ok (.getfield 11, 3) := by decide +kernel
theorem d_S_takePayment_4 : decode b_S_takePayment 4 = .ok (.bipush 8, 2) := by decide +kernel
theorem d_S_takePayment_6 : decode b_S_takePayment 6 = .ok (.iload_n 1, 1) := by decide +kernel
theorem d_S_takePayment_7 : decode b_S_takePayment 7 = .ok (.iastore, 1) := by decide +kernel
theorem d_S_takePayment_8 : decode b_S_takePayment 8 = .ok (.aload_n 0, 1) := by decide +kernel
theorem d_S_takePayment_9 : decode b_S_takePayment 9 = .ok (.getfield 11, 3) := by decide +kernel
theorem d_S_takePayment_12 : decode b_S_takePayment 12 = .ok (.bipush 9, 2) := by decide +kernel
theorem d_S_takePayment_14 : decode b_S_takePayment 14 = .ok (.iload_n 2, 1) := by decide +kernel
theorem d_S_takePayment_15 : decode b_S_takePayment 15 = .ok (.iastore, 1) := by decide +kernel
theorem d_S_takePayment_16 : decode b_S_takePayment 16 = .ok (.aload_n 0, 1) := by decide +kernel
theorem d_S_takePayment_17 : decode b_S_takePayment 17 = .ok (.getfield 11, 3) := by decide +kernel
theorem d_S_takePayment_20 : decode b_S_takePayment 20 = .ok (.iconst 4, 1) := by decide +kernel
theorem d_S_takePayment_21 : decode b_S_takePayment 21 = .ok (.iload_n 3, 1) := by decide +kernel
theorem d_S_takePayment_22 : decode b_S_takePayment 22 = .ok (.iastore, 1) := by decide +kernel
theorem d_S_takePayment_23 : decode b_S_takePayment 23 = .ok (.aload_n 0, 1) := by decide +kernel
theorem d_S_takePayment_24 : decode b_S_takePayment 24 = .ok (.getfield 11, 3) := by decide +kernel
theorem d_S_takePayment_27 : decode b_S_takePayment 27 = .ok (.bipush 10, 2) := by decide +kernel
theorem d_S_takePayment_29 : decode b_S_takePayment 29 = .ok (.iload 4, 2) := by decide +kernel
theorem d_S_takePayment_31 : decode b_S_takePayment 31 = .ok (.iastore, 1) := by decide +kernel
theorem d_S_takePayment_32 : decode b_S_takePayment 32 = .ok (.iconst 0, 1) := by decide +kernel
theorem d_S_takePayment_33 : decode b_S_takePayment 33 = .ok (.istore 5, 2) := by decide +kernel
theorem d_S_takePayment_35 : decode b_S_takePayment 35 = .ok (.iload 5, 2) := by decide +kernel
theorem d_S_takePayment_37 : decode b_S_takePayment 37 = .ok (.bipush 8, 2) := by decide +kernel
theorem d_S_takePayment_39 : decode b_S_takePayment 39 = .ok (.if_icmp .ge 25, 3) := by decide +kernel
theorem d_S_takePayment_42 : decode b_S_takePayment 42 = .ok (.aload_n 0, 1) := by decide +kernel
theorem d_S_takePayment_43 : decode b_S_takePayment 43 = .ok (.getfield 11, 3) := by decide +kernel
theorem d_S_takePayment_46 : decode b_S_takePayment 46 = .ok (.bipush 27, 2) := by decide +kernel
theorem d_S_takePayment_48 : decode b_S_takePayment 48 = .ok (.iload 5, 2) := by decide +kernel
theorem d_S_takePayment_50 : decode b_S_takePayment 50 = .ok (.iadd, 1) := by decide +kernel
theorem d_S_takePayment_51 : decode b_S_takePayment 51 = .ok (.iload_n 2, 1) := by decide +kernel
theorem d_S_takePayment_52 : decode b_S_takePayment 52 = .ok (.iload 5, 2) := by decide +kernel
theorem d_S_takePayment_54 : decode b_S_takePayment 54 = .ok (.ishr, 1) := by decide +kernel
theorem d_S_takePayment_55 : decode b_S_takePayment 55 = .ok (.iconst 1, 1) := by decide +kernel
theorem d_S_takePayment_56 : decode b_S_takePayment 56 = .ok (.iand, 1) := by decide +kernel
theorem d_S_takePayment_57 : decode b_S_takePayment 57 = .ok (.iastore, 1) := by decide +kernel
theorem d_S_takePayment_58 : decode b_S_takePayment 58 = .ok (.iinc 5 1, 3) := by decide +kernel
theorem d_S_takePayment_61 : decode b_S_takePayment 61 = .ok (.goto (-26), 3) := by decide +kernel
theorem d_S_takePayment_64 : decode b_S_takePayment 64 = .ok (.return_, 1) := by decide +kernel
theorem d_S_takePath_0 : decode b_S_takePath 0 = .ok (.iconst 0, 1) := by decide +kernel
theorem d_S_takePath_1 : decode b_S_takePath 1 = .ok (.istore_n 3, 1) := by decide +kernel
theorem d_S_takePath_2 : decode b_S_takePath 2 = .ok (.iload_n 3, 1) := by decide +kernel
theorem d_S_takePath_3 : decode b_S_takePath 3 = .ok (.iconst 4, 1) := by decide +kernel
theorem d_S_takePath_4 : decode b_S_takePath 4 = .ok (.if_icmp .ge 42, 3) := by decide +kernel
theorem d_S_takePath_7 : decode b_S_takePath 7 = .ok (.aload_n 0, 1) := by decide +kernel
theorem d_S_takePath_8 : decode b_S_takePath 8 = .ok (.getfield 11, 3) := by decide +kernel
theorem d_S_takePath_11 : decode b_S_takePath 11 = .ok (.bipush 15, 2) := by decide +kernel
theorem d_S_takePath_13 : decode b_S_takePath 13 = .ok (.iload_n 3, 1) := by decide +kernel
theorem d_S_takePath_14 : decode b_S_takePath 14 = .ok (.iadd, 1) := by decide +kernel
theorem d_S_takePath_15 : decode b_S_takePath 15 = .ok (.iload_n 1, 1) := by decide +kernel
theorem d_S_takePath_16 : decode b_S_takePath 16 = .ok (.iload_n 3, 1) := by decide +kernel
theorem d_S_takePath_17 : decode b_S_takePath 17 = .ok (.ishr, 1) := by decide +kernel
theorem d_S_takePath_18 : decode b_S_takePath 18 = .ok (.iconst 1, 1) := by decide +kernel
theorem d_S_takePath_19 : decode b_S_takePath 19 = .ok (.iand, 1) := by decide +kernel
theorem d_S_takePath_20 : decode b_S_takePath 20 = .ok (.iastore, 1) := by decide +kernel
theorem d_S_takePath_21 : decode b_S_takePath 21 = .ok (.aload_n 0, 1) := by decide +kernel
theorem d_S_takePath_22 : decode b_S_takePath 22 = .ok (.getfield 11, 3) := by decide +kernel
theorem d_S_takePath_25 : decode b_S_takePath 25 = .ok (.bipush 11, 2) := by decide +kernel
theorem d_S_takePath_27 : decode b_S_takePath 27 = .ok (.iload_n 3, 1) := by decide +kernel
theorem d_S_takePath_28 : decode b_S_takePath 28 = .ok (.iadd, 1) := by decide +kernel
theorem d_S_takePath_29 : decode b_S_takePath 29 = .ok (.aload_n 2, 1) := by decide +kernel
theorem d_S_takePath_30 : decode b_S_takePath 30 = .ok (.iload_n 3, 1) := by decide +kernel
theorem d_S_takePath_31 : decode b_S_takePath 31 = .ok (.iload_n 1, 1) := by decide +kernel
theorem d_S_takePath_32 : decode b_S_takePath 32 = .ok (.iload_n 3, 1) := by decide +kernel
theorem d_S_takePath_33 : decode b_S_takePath 33 = .ok (.ishr, 1) := by decide +kernel
theorem d_S_takePath_34 : decode b_S_takePath 34 = .ok (.iconst 1, 1) := by decide +kernel
theorem d_S_takePath_35 : decode b_S_takePath 35 = .ok (.ixor, 1) := by decide +kernel
theorem d_S_takePath_36 : decode b_S_takePath 36 = .ok (.invokevirtual 15, 3) := by decide +kernel
theorem d_S_takePath_39 : decode b_S_takePath 39 = .ok (.iastore, 1) := by decide +kernel
theorem d_S_takePath_40 : decode b_S_takePath 40 = .ok (.iinc 3 1, 3) := by decide +kernel
theorem d_S_takePath_43 : decode b_S_takePath 43 = .ok (.goto (-41), 3) := by decide +kernel
theorem d_S_takePath_46 : decode b_S_takePath 46 = .ok (.return_, 1) := by decide +kernel
theorem d_S_complete_0 : decode b_S_complete 0 = .ok (.bipush 14, 2) := by decide +kernel
theorem d_S_complete_2 : decode b_S_complete 2 = .ok (.istore_n 1, 1) := by decide +kernel
theorem d_S_complete_3 : decode b_S_complete 3 = .ok (.iload_n 1, 1) := by decide +kernel
theorem d_S_complete_4 : decode b_S_complete 4 = .ok (.bipush 115, 2) := by decide +kernel
theorem d_S_complete_6 : decode b_S_complete 6 = .ok (.if_icmp .ge 25, 3) := by decide +kernel
theorem d_S_complete_9 : decode b_S_complete 9 = .ok (.iload_n 1, 1) := by decide +kernel
theorem d_S_complete_10 : decode b_S_complete 10 = .ok (.invokestatic 21, 3) := by decide +kernel
theorem d_S_complete_13 : decode b_S_complete 13 = .ok (.istore_n 2, 1) := by decide +kernel
theorem d_S_complete_14 : decode b_S_complete 14 = .ok (.aload_n 0, 1) := by decide +kernel
theorem d_S_complete_15 : decode b_S_complete 15 = .ok (.getfield 11, 3) := by decide +kernel
theorem d_S_complete_18 : decode b_S_complete 18 = .ok (.iload_n 2, 1) := by decide +kernel
theorem d_S_complete_19 : decode b_S_complete 19 = .ok (.aload_n 0, 1) := by decide +kernel
theorem d_S_complete_20 : decode b_S_complete 20 = .ok (.iload_n 2, 1) := by decide +kernel
theorem d_S_complete_21 : decode b_S_complete 21 = .ok (.invokevirtual 25, 3) := by decide +kernel
theorem d_S_complete_24 : decode b_S_complete 24 = .ok (.iastore, 1) := by decide +kernel
theorem d_S_complete_25 : decode b_S_complete 25 = .ok (.iinc 1 1, 3) := by decide +kernel
theorem d_S_complete_28 : decode b_S_complete 28 = .ok (.goto (-25), 3) := by decide +kernel
theorem d_S_complete_31 : decode b_S_complete 31 = .ok (.return_, 1) := by decide +kernel
theorem d_S_cellOf_0 : decode b_S_cellOf 0 = .ok (.iload_n 0, 1) := by decide +kernel
theorem d_S_cellOf_1 : decode b_S_cellOf 1 = .ok (.iconst 4, 1) := by decide +kernel
theorem d_S_cellOf_2 : decode b_S_cellOf 2 = .ok (.if_icmp .ge 8, 3) := by decide +kernel
theorem d_S_cellOf_5 : decode b_S_cellOf 5 = .ok (.bipush 15, 2) := by decide +kernel
theorem d_S_cellOf_7 : decode b_S_cellOf 7 = .ok (.iload_n 0, 1) := by decide +kernel
theorem d_S_cellOf_8 : decode b_S_cellOf 8 = .ok (.iadd, 1) := by decide +kernel
theorem d_S_cellOf_9 : decode b_S_cellOf 9 = .ok (.ireturn, 1) := by decide +kernel
theorem d_S_cellOf_10 : decode b_S_cellOf 10 = .ok (.iload_n 0, 1) := by decide +kernel
theorem d_S_cellOf_11 : decode b_S_cellOf 11 = .ok (.bipush 12, 2) := by decide +kernel
theorem d_S_cellOf_13 : decode b_S_cellOf 13 = .ok (.if_icmp .ge 10, 3) := by decide +kernel
theorem d_S_cellOf_16 : decode b_S_cellOf 16 = .ok (.bipush 27, 2) := by decide +kernel
theorem d_S_cellOf_18 : decode b_S_cellOf 18 = .ok (.iload_n 0, 1) := by decide +kernel
theorem d_S_cellOf_19 : decode b_S_cellOf 19 = .ok (.iadd, 1) := by decide +kernel
theorem d_S_cellOf_20 : decode b_S_cellOf 20 = .ok (.iconst 4, 1) := by decide +kernel
theorem d_S_cellOf_21 : decode b_S_cellOf 21 = .ok (.isub, 1) := by decide +kernel
theorem d_S_cellOf_22 : decode b_S_cellOf 22 = .ok (.ireturn, 1) := by decide +kernel
theorem d_S_cellOf_23 : decode b_S_cellOf 23 = .ok (.iload_n 0, 1) := by decide +kernel
theorem d_S_cellOf_24 : decode b_S_cellOf 24 = .ok (.bipush 12, 2) := by decide +kernel
theorem d_S_cellOf_26 : decode b_S_cellOf 26 = .ok (.if_icmp .ne 6, 3) := by decide +kernel
theorem d_S_cellOf_29 : decode b_S_cellOf 29 = .ok (.bipush 9, 2) := by decide +kernel
theorem d_S_cellOf_31 : decode b_S_cellOf 31 = .ok (.ireturn, 1) := by decide +kernel
theorem d_S_cellOf_32 : decode b_S_cellOf 32 = .ok (.iload_n 0, 1) := by decide +kernel
theorem d_S_cellOf_33 : decode b_S_cellOf 33 = .ok (.bipush 13, 2) := by decide +kernel
theorem d_S_cellOf_35 : decode b_S_cellOf 35 = .ok (.if_icmp .ne 6, 3) := by decide +kernel
theorem d_S_cellOf_38 : decode b_S_cellOf 38 = .ok (.bipush 6, 2) := by decide +kernel
theorem d_S_cellOf_40 : decode b_S_cellOf 40 = .ok (.ireturn, 1) := by decide +kernel
theorem d_S_cellOf_41 : decode b_S_cellOf 41 = .ok (.iload_n 0, 1) := by decide +kernel
theorem d_S_cellOf_42 : decode b_S_cellOf 42 = .ok (.bipush 41, 2) := by decide +kernel
theorem d_S_cellOf_44 : decode b_S_cellOf 44 = .ok (.if_icmp .ge 11, 3) := by decide +kernel
theorem d_S_cellOf_47 : decode b_S_cellOf 47 = .ok (.bipush 35, 2) := by decide +kernel
theorem d_S_cellOf_49 : decode b_S_cellOf 49 = .ok (.iload_n 0, 1) := by decide +kernel
theorem d_S_cellOf_50 : decode b_S_cellOf 50 = .ok (.iadd, 1) := by decide +kernel
theorem d_S_cellOf_51 : decode b_S_cellOf 51 = .ok (.bipush 14, 2) := by decide +kernel
theorem d_S_cellOf_53 : decode b_S_cellOf 53 = .ok (.isub, 1) := by decide +kernel
theorem d_S_cellOf_54 : decode b_S_cellOf 54 = .ok (.ireturn, 1) := by decide +kernel
theorem d_S_cellOf_55 : decode b_S_cellOf 55 = .ok (.iload_n 0, 1) := by decide +kernel
theorem d_S_cellOf_56 : decode b_S_cellOf 56 = .ok (.bipush 85, 2) := by decide +kernel
theorem d_S_cellOf_58 : decode b_S_cellOf 58 = .ok (.if_icmp .ge 21, 3) := by decide +kernel
theorem d_S_cellOf_61 : decode b_S_cellOf 61 = .ok (.iload_n 0, 1) := by decide +kernel
theorem d_S_cellOf_62 : decode b_S_cellOf 62 = .ok (.bipush 41, 2) := by decide +kernel
theorem d_S_cellOf_64 : decode b_S_cellOf 64 = .ok (.isub, 1) := by decide +kernel
theorem d_S_cellOf_65 : decode b_S_cellOf 65 = .ok (.bipush 11, 2) := by decide +kernel
theorem d_S_cellOf_67 : decode b_S_cellOf 67 = .ok (.idiv, 1) := by decide +kernel
theorem d_S_cellOf_68 : decode b_S_cellOf 68 = .ok (.iload_n 0, 1) := by decide +kernel
theorem d_S_cellOf_69 : decode b_S_cellOf 69 = .ok (.bipush 41, 2) := by decide +kernel
theorem d_S_cellOf_71 : decode b_S_cellOf 71 = .ok (.isub, 1) := by decide +kernel
theorem d_S_cellOf_72 : decode b_S_cellOf 72 = .ok (.bipush 11, 2) := by decide +kernel
theorem d_S_cellOf_74 : decode b_S_cellOf 74 = .ok (.irem, 1) := by decide +kernel
theorem d_S_cellOf_75 : decode b_S_cellOf 75 = .ok (.invokestatic 28, 3) := by decide +kernel
theorem d_S_cellOf_78 : decode b_S_cellOf 78 = .ok (.ireturn, 1) := by decide +kernel
theorem d_S_cellOf_79 : decode b_S_cellOf 79 = .ok (.iload_n 0, 1) := by decide +kernel
theorem d_S_cellOf_80 : decode b_S_cellOf 80 = .ok (.bipush 112, 2) := by decide +kernel
theorem d_S_cellOf_82 : decode b_S_cellOf 82 = .ok (.if_icmp .ge 11, 3) := by decide +kernel
theorem d_S_cellOf_85 : decode b_S_cellOf 85 = .ok (.bipush 98, 2) := by decide +kernel
theorem d_S_cellOf_87 : decode b_S_cellOf 87 = .ok (.iload_n 0, 1) := by decide +kernel
theorem d_S_cellOf_88 : decode b_S_cellOf 88 = .ok (.iadd, 1) := by decide +kernel
theorem d_S_cellOf_89 : decode b_S_cellOf 89 = .ok (.bipush 85, 2) := by decide +kernel
theorem d_S_cellOf_91 : decode b_S_cellOf 91 = .ok (.isub, 1) := by decide +kernel
theorem d_S_cellOf_92 : decode b_S_cellOf 92 = .ok (.ireturn, 1) := by decide +kernel
theorem d_S_cellOf_93 : decode b_S_cellOf 93 = .ok (.iconst 1, 1) := by decide +kernel
theorem d_S_cellOf_94 : decode b_S_cellOf 94 = .ok (.iload_n 0, 1) := by decide +kernel
theorem d_S_cellOf_95 : decode b_S_cellOf 95 = .ok (.iadd, 1) := by decide +kernel
theorem d_S_cellOf_96 : decode b_S_cellOf 96 = .ok (.bipush 112, 2) := by decide +kernel
theorem d_S_cellOf_98 : decode b_S_cellOf 98 = .ok (.isub, 1) := by decide +kernel
theorem d_S_cellOf_99 : decode b_S_cellOf 99 = .ok (.ireturn, 1) := by decide +kernel
theorem d_S_cellOnLevel_0 : decode b_S_cellOnLevel 0 = .ok (.iload_n 1, 1) := by decide +kernel
theorem d_S_cellOnLevel_1 : decode b_S_cellOnLevel 1 = .ok (.ifCond .ne 8, 3) := by decide +kernel
theorem d_S_cellOnLevel_4 : decode b_S_cellOnLevel 4 = .ok (.bipush 19, 2) := by decide +kernel
theorem d_S_cellOnLevel_6 : decode b_S_cellOnLevel 6 = .ok (.iload_n 0, 1) := by decide +kernel
theorem d_S_cellOnLevel_7 : decode b_S_cellOnLevel 7 = .ok (.iadd, 1) := by decide +kernel
theorem d_S_cellOnLevel_8 : decode b_S_cellOnLevel 8 = .ok (.ireturn, 1) := by decide +kernel
theorem d_S_cellOnLevel_9 : decode b_S_cellOnLevel 9 = .ok (.iload_n 1, 1) := by decide +kernel
theorem d_S_cellOnLevel_10 : decode b_S_cellOnLevel 10 = .ok (.iconst 1, 1) := by decide +kernel
theorem d_S_cellOnLevel_11 : decode b_S_cellOnLevel 11 = .ok (.if_icmp .ne 8, 3) := by decide +kernel
theorem d_S_cellOnLevel_14 : decode b_S_cellOnLevel 14 = .ok (.bipush 23, 2) := by decide +kernel
theorem d_S_cellOnLevel_16 : decode b_S_cellOnLevel 16 = .ok (.iload_n 0, 1) := by decide +kernel
theorem d_S_cellOnLevel_17 : decode b_S_cellOnLevel 17 = .ok (.iadd, 1) := by decide +kernel
theorem d_S_cellOnLevel_18 : decode b_S_cellOnLevel 18 = .ok (.ireturn, 1) := by decide +kernel
theorem d_S_cellOnLevel_19 : decode b_S_cellOnLevel 19 = .ok (.bipush 35, 2) := by decide +kernel
theorem d_S_cellOnLevel_21 : decode b_S_cellOnLevel 21 = .ok (.iconst 3, 1) := by decide +kernel
theorem d_S_cellOnLevel_22 : decode b_S_cellOnLevel 22 = .ok (.iload_n 0, 1) := by decide +kernel
theorem d_S_cellOnLevel_23 : decode b_S_cellOnLevel 23 = .ok (.iadd, 1) := by decide +kernel
theorem d_S_cellOnLevel_24 : decode b_S_cellOnLevel 24 = .ok (.bipush 9, 2) := by decide +kernel
theorem d_S_cellOnLevel_26 : decode b_S_cellOnLevel 26 = .ok (.imul, 1) := by decide +kernel
theorem d_S_cellOnLevel_27 : decode b_S_cellOnLevel 27 = .ok (.iadd, 1) := by decide +kernel
theorem d_S_cellOnLevel_28 : decode b_S_cellOnLevel 28 = .ok (.iload_n 1, 1) := by decide +kernel
theorem d_S_cellOnLevel_29 : decode b_S_cellOnLevel 29 = .ok (.iadd, 1) := by decide +kernel
theorem d_S_cellOnLevel_30 : decode b_S_cellOnLevel 30 = .ok (.iconst 2, 1) := by decide +kernel
theorem d_S_cellOnLevel_31 : decode b_S_cellOnLevel 31 = .ok (.isub, 1) := by decide +kernel
theorem d_S_cellOnLevel_32 : decode b_S_cellOnLevel 32 = .ok (.ireturn, 1) := by decide +kernel
theorem d_S_dueIn_0 : decode b_S_dueIn 0 = .ok (.iload_n 1, 1) := by decide +kernel
theorem d_S_dueIn_1 : decode b_S_dueIn 1 = .ok (.bipush 35, 2) := by decide +kernel
theorem d_S_dueIn_3 : decode b_S_dueIn 3 = .ok (.if_icmp .lt 22, 3) := by decide +kernel
theorem d_S_dueIn_6 : decode b_S_dueIn 6 = .ok (.aload_n 0, 1) := by decide +kernel
theorem d_S_dueIn_7 : decode b_S_dueIn 7 = .ok (.iload_n 1, 1) := by decide +kernel
theorem d_S_dueIn_8 : decode b_S_dueIn 8 = .ok (.bipush 35, 2) := by decide +kernel
theorem d_S_dueIn_10 : decode b_S_dueIn 10 = .ok (.isub, 1) := by decide +kernel
theorem d_S_dueIn_11 : decode b_S_dueIn 11 = .ok (.bipush 9, 2) := by decide +kernel
theorem d_S_dueIn_13 : decode b_S_dueIn 13 = .ok (.idiv, 1) := by decide +kernel
theorem d_S_dueIn_14 : decode b_S_dueIn 14 = .ok (.iload_n 1, 1) := by decide +kernel
theorem d_S_dueIn_15 : decode b_S_dueIn 15 = .ok (.bipush 35, 2) := by decide +kernel
theorem d_S_dueIn_17 : decode b_S_dueIn 17 = .ok (.isub, 1) := by decide +kernel
theorem d_S_dueIn_18 : decode b_S_dueIn 18 = .ok (.bipush 9, 2) := by decide +kernel
theorem d_S_dueIn_20 : decode b_S_dueIn 20 = .ok (.irem, 1) := by decide +kernel
theorem d_S_dueIn_21 : decode b_S_dueIn 21 = .ok (.invokevirtual 31, 3) := by decide +kernel
theorem d_S_dueIn_24 : decode b_S_dueIn 24 = .ok (.ireturn, 1) := by decide +kernel
theorem d_S_dueIn_25 : decode b_S_dueIn 25 = .ok (.iload_n 1, 1) := by decide +kernel
theorem d_S_dueIn_26 : decode b_S_dueIn 26 = .ok (.bipush 27, 2) := by decide +kernel
theorem d_S_dueIn_28 : decode b_S_dueIn 28 = .ok (.if_icmp .lt 19, 3) := by decide +kernel
theorem d_S_dueIn_31 : decode b_S_dueIn 31 = .ok (.aload_n 0, 1) := by decide +kernel
theorem d_S_dueIn_32 : decode b_S_dueIn 32 = .ok (.getfield 11, 3) := by decide +kernel
theorem d_S_dueIn_35 : decode b_S_dueIn 35 = .ok (.iload_n 1, 1) := by decide +kernel
theorem d_S_dueIn_36 : decode b_S_dueIn 36 = .ok (.iaload, 1) := by decide +kernel
theorem d_S_dueIn_37 : decode b_S_dueIn 37 = .ok (.aload_n 0, 1) := by decide +kernel
theorem d_S_dueIn_38 : decode b_S_dueIn 38 = .ok (.getfield 11, 3) := by decide +kernel
theorem d_S_dueIn_41 : decode b_S_dueIn 41 = .ok (.iload_n 1, 1) := by decide +kernel
theorem d_S_dueIn_42 : decode b_S_dueIn 42 = .ok (.iaload, 1) := by decide +kernel
theorem d_S_dueIn_43 : decode b_S_dueIn 43 = .ok (.invokestatic 34, 3) := by decide +kernel
theorem d_S_dueIn_46 : decode b_S_dueIn 46 = .ok (.ireturn, 1) := by decide +kernel
theorem d_S_dueIn_47 : decode b_S_dueIn 47 = .ok (.iload_n 1, 1) := by decide +kernel
theorem d_S_dueIn_48 : decode b_S_dueIn 48 = .ok (.bipush 23, 2) := by decide +kernel
theorem d_S_dueIn_50 : decode b_S_dueIn 50 = .ok (.if_icmp .lt 12, 3) := by decide +kernel
theorem d_S_dueIn_53 : decode b_S_dueIn 53 = .ok (.aload_n 0, 1) := by decide +kernel
theorem d_S_dueIn_54 : decode b_S_dueIn 54 = .ok (.iload_n 1, 1) := by decide +kernel
theorem d_S_dueIn_55 : decode b_S_dueIn 55 = .ok (.bipush 23, 2) := by decide +kernel
theorem d_S_dueIn_57 : decode b_S_dueIn 57 = .ok (.isub, 1) := by decide +kernel
theorem d_S_dueIn_58 : decode b_S_dueIn 58 = .ok (.invokevirtual 37, 3) := by decide +kernel
theorem d_S_dueIn_61 : decode b_S_dueIn 61 = .ok (.ireturn, 1) := by decide +kernel
theorem d_S_dueIn_62 : decode b_S_dueIn 62 = .ok (.iload_n 1, 1) := by decide +kernel
theorem d_S_dueIn_63 : decode b_S_dueIn 63 = .ok (.bipush 19, 2) := by decide +kernel
theorem d_S_dueIn_65 : decode b_S_dueIn 65 = .ok (.if_icmp .lt 12, 3) := by decide +kernel
theorem d_S_dueIn_68 : decode b_S_dueIn 68 = .ok (.aload_n 0, 1) := by decide +kernel
theorem d_S_dueIn_69 : decode b_S_dueIn 69 = .ok (.iload_n 1, 1) := by decide +kernel
theorem d_S_dueIn_70 : decode b_S_dueIn 70 = .ok (.bipush 19, 2) := by decide +kernel
theorem d_S_dueIn_72 : decode b_S_dueIn 72 = .ok (.isub, 1) := by decide +kernel
theorem d_S_dueIn_73 : decode b_S_dueIn 73 = .ok (.invokevirtual 40, 3) := by decide +kernel
theorem d_S_dueIn_76 : decode b_S_dueIn 76 = .ok (.ireturn, 1) := by decide +kernel
theorem d_S_dueIn_77 : decode b_S_dueIn 77 = .ok (.iload_n 1, 1) := by decide +kernel
theorem d_S_dueIn_78 : decode b_S_dueIn 78 = .ok (.bipush 15, 2) := by decide +kernel
theorem d_S_dueIn_80 : decode b_S_dueIn 80 = .ok (.if_icmp .lt 19, 3) := by decide +kernel
theorem d_S_dueIn_83 : decode b_S_dueIn 83 = .ok (.aload_n 0, 1) := by decide +kernel
theorem d_S_dueIn_84 : decode b_S_dueIn 84 = .ok (.getfield 11, 3) := by decide +kernel
theorem d_S_dueIn_87 : decode b_S_dueIn 87 = .ok (.iload_n 1, 1) := by decide +kernel
theorem d_S_dueIn_88 : decode b_S_dueIn 88 = .ok (.iaload, 1) := by decide +kernel
theorem d_S_dueIn_89 : decode b_S_dueIn 89 = .ok (.aload_n 0, 1) := by decide +kernel
theorem d_S_dueIn_90 : decode b_S_dueIn 90 = .ok (.getfield 11, 3) := by decide +kernel
theorem d_S_dueIn_93 : decode b_S_dueIn 93 = .ok (.iload_n 1, 1) := by decide +kernel
theorem d_S_dueIn_94 : decode b_S_dueIn 94 = .ok (.iaload, 1) := by decide +kernel
theorem d_S_dueIn_95 : decode b_S_dueIn 95 = .ok (.invokestatic 34, 3) := by decide +kernel
theorem d_S_dueIn_98 : decode b_S_dueIn 98 = .ok (.ireturn, 1) := by decide +kernel
theorem d_S_dueIn_99 : decode b_S_dueIn 99 = .ok (.iload_n 1, 1) := by decide +kernel
theorem d_S_dueIn_100 : decode b_S_dueIn 100 = .ok (.tableswitch 95 1 9 #[74, 81, 88, 95, 95, 57, 95, 95, 52], 52) := by decide +kernel
theorem d_S_dueIn_152 : decode b_S_dueIn 152 = .ok (.aload_n 0, 1) := by decide +kernel
theorem d_S_dueIn_153 : decode b_S_dueIn 153 = .ok (.invokevirtual 43, 3) := by decide +kernel
theorem d_S_dueIn_156 : decode b_S_dueIn 156 = .ok (.ireturn, 1) := by decide +kernel
theorem d_S_dueIn_157 : decode b_S_dueIn 157 = .ok (.aload_n 0, 1) := by decide +kernel
theorem d_S_dueIn_158 : decode b_S_dueIn 158 = .ok (.getfield 11, 3) := by decide +kernel
theorem d_S_dueIn_161 : decode b_S_dueIn 161 = .ok (.bipush 9, 2) := by decide +kernel
theorem d_S_dueIn_163 : decode b_S_dueIn 163 = .ok (.iaload, 1) := by decide +kernel
theorem d_S_dueIn_164 : decode b_S_dueIn 164 = .ok (.aload_n 0, 1) := by decide +kernel
theorem d_S_dueIn_165 : decode b_S_dueIn 165 = .ok (.getfield 11, 3) := by decide +kernel
theorem d_S_dueIn_168 : decode b_S_dueIn 168 = .ok (.iconst 4, 1) := by decide +kernel
theorem d_S_dueIn_169 : decode b_S_dueIn 169 = .ok (.iaload, 1) := by decide +kernel
theorem d_S_dueIn_170 : decode b_S_dueIn 170 = .ok (.invokestatic 47, 3) := by decide +kernel
theorem d_S_dueIn_173 : decode b_S_dueIn 173 = .ok (.ireturn, 1) := by decide +kernel
theorem d_S_dueIn_174 : decode b_S_dueIn 174 = .ok (.aload_n 0, 1) := by decide +kernel
theorem d_S_dueIn_175 : decode b_S_dueIn 175 = .ok (.bipush 6, 2) := by decide +kernel
theorem d_S_dueIn_177 : decode b_S_dueIn 177 = .ok (.invokevirtual 50, 3) := by decide +kernel
theorem d_S_dueIn_180 : decode b_S_dueIn 180 = .ok (.ireturn, 1) := by decide +kernel
theorem d_S_dueIn_181 : decode b_S_dueIn 181 = .ok (.aload_n 0, 1) := by decide +kernel
theorem d_S_dueIn_182 : decode b_S_dueIn 182 = .ok (.bipush 7, 2) := by decide +kernel
theorem d_S_dueIn_184 : decode b_S_dueIn 184 = .ok (.invokevirtual 50, 3) := by decide +kernel
theorem d_S_dueIn_187 : decode b_S_dueIn 187 = .ok (.ireturn, 1) := by decide +kernel
theorem d_S_dueIn_188 : decode b_S_dueIn 188 = .ok (.aload_n 0, 1) := by decide +kernel
theorem d_S_dueIn_189 : decode b_S_dueIn 189 = .ok (.bipush 9, 2) := by decide +kernel
theorem d_S_dueIn_191 : decode b_S_dueIn 191 = .ok (.invokevirtual 50, 3) := by decide +kernel
theorem d_S_dueIn_194 : decode b_S_dueIn 194 = .ok (.ireturn, 1) := by decide +kernel
theorem d_S_dueIn_195 : decode b_S_dueIn 195 = .ok (.aload_n 0, 1) := by decide +kernel
theorem d_S_dueIn_196 : decode b_S_dueIn 196 = .ok (.getfield 11, 3) := by decide +kernel
theorem d_S_dueIn_199 : decode b_S_dueIn 199 = .ok (.iload_n 1, 1) := by decide +kernel
theorem d_S_dueIn_200 : decode b_S_dueIn 200 = .ok (.iaload, 1) := by decide +kernel
theorem d_S_dueIn_201 : decode b_S_dueIn 201 = .ok (.ireturn, 1) := by decide +kernel
theorem d_S_dueInBlock_0 : decode b_S_dueInBlock 0 = .ok (.bipush 35, 2) := by decide +kernel
theorem d_S_dueInBlock_2 : decode b_S_dueInBlock 2 = .ok (.iload_n 1, 1) := by decide +kernel
theorem d_S_dueInBlock_3 : decode b_S_dueInBlock 3 = .ok (.bipush 9, 2) := by decide +kernel
theorem d_S_dueInBlock_5 : decode b_S_dueInBlock 5 = .ok (.imul, 1) := by decide +kernel
theorem d_S_dueInBlock_6 : decode b_S_dueInBlock 6 = .ok (.iadd, 1) := by decide +kernel
theorem d_S_dueInBlock_7 : decode b_S_dueInBlock 7 = .ok (.istore_n 3, 1) := by decide +kernel
theorem d_S_dueInBlock_8 : decode b_S_dueInBlock 8 = .ok (.aload_n 0, 1) := by decide +kernel
theorem d_S_dueInBlock_9 : decode b_S_dueInBlock 9 = .ok (.getfield 11, 3) := by decide +kernel
theorem d_S_dueInBlock_12 : decode b_S_dueInBlock 12 = .ok (.getstatic 56, 3) := by decide +kernel
theorem d_S_dueInBlock_15 : decode b_S_dueInBlock 15 = .ok (.iload_n 1, 1) := by decide +kernel
theorem d_S_dueInBlock_16 : decode b_S_dueInBlock 16 = .ok (.iaload, 1) := by decide +kernel
theorem d_S_dueInBlock_17 : decode b_S_dueInBlock 17 = .ok (.iaload, 1) := by decide +kernel
theorem d_S_dueInBlock_18 : decode b_S_dueInBlock 18 = .ok (.istore 4, 2) := by decide +kernel
theorem d_S_dueInBlock_20 : decode b_S_dueInBlock 20 = .ok (.iload_n 1, 1) := by decide +kernel
theorem d_S_dueInBlock_21 : decode b_S_dueInBlock 21 = .ok (.ifCond .ne 7, 3) := by decide +kernel
theorem d_S_dueInBlock_24 : decode b_S_dueInBlock 24 = .ok (.iconst 0, 1) := by decide +kernel
theorem d_S_dueInBlock_25 : decode b_S_dueInBlock 25 = .ok (.goto 13, 3) := by decide +kernel
theorem d_S_dueInBlock_28 : decode b_S_dueInBlock 28 = .ok (.aload_n 0, 1) := by decide +kernel
theorem d_S_dueInBlock_29 : decode b_S_dueInBlock 29 = .ok (.getfield 11, 3) := by decide +kernel
theorem d_S_dueInBlock_32 : decode b_S_dueInBlock 32 = .ok (.getstatic 59, 3) := by decide +kernel
theorem d_S_dueInBlock_35 : decode b_S_dueInBlock 35 = .ok (.iload_n 1, 1) := by decide +kernel
theorem d_S_dueInBlock_36 : decode b_S_dueInBlock 36 = .ok (.iaload, 1) := by decide +kernel
theorem d_S_dueInBlock_37 : decode b_S_dueInBlock 37 = .ok (.iaload, 1) := by decide +kernel
theorem d_S_dueInBlock_38 : decode b_S_dueInBlock 38 = .ok (.istore 5, 2) := by decide +kernel
theorem d_S_dueInBlock_40 : decode b_S_dueInBlock 40 = .ok (.iload_n 2, 1) := by decide +kernel
theorem d_S_dueInBlock_41 : decode b_S_dueInBlock 41 = .ok (.bipush 8, 2) := by decide +kernel
theorem d_S_dueInBlock_43 : decode b_S_dueInBlock 43 = .ok (.if_icmp .ne 24, 3) := by decide +kernel
theorem d_S_dueInBlock_46 : decode b_S_dueInBlock 46 = .ok (.aload_n 0, 1) := by decide +kernel
theorem d_S_dueInBlock_47 : decode b_S_dueInBlock 47 = .ok (.getfield 11, 3) := by decide +kernel
theorem d_S_dueInBlock_50 : decode b_S_dueInBlock 50 = .ok (.iload_n 3, 1) := by decide +kernel
theorem d_S_dueInBlock_51 : decode b_S_dueInBlock 51 = .ok (.iload_n 2, 1) := by decide +kernel
theorem d_S_dueInBlock_52 : decode b_S_dueInBlock 52 = .ok (.iadd, 1) := by decide +kernel
theorem d_S_dueInBlock_53 : decode b_S_dueInBlock 53 = .ok (.iconst 1, 1) := by decide +kernel
theorem d_S_dueInBlock_54 : decode b_S_dueInBlock 54 = .ok (.isub, 1) := by decide +kernel
theorem d_S_dueInBlock_55 : decode b_S_dueInBlock 55 = .ok (.iaload, 1) := by decide +kernel
theorem d_S_dueInBlock_56 : decode b_S_dueInBlock 56 = .ok (.iload 4, 2) := by decide +kernel
theorem d_S_dueInBlock_58 : decode b_S_dueInBlock 58 = .ok (.invokestatic 47, 3) := by decide +kernel
theorem d_S_dueInBlock_61 : decode b_S_dueInBlock 61 = .ok (.iload 5, 2) := by decide +kernel
theorem d_S_dueInBlock_63 : decode b_S_dueInBlock 63 = .ok (.invokestatic 47, 3) := by decide +kernel
theorem d_S_dueInBlock_66 : decode b_S_dueInBlock 66 = .ok (.ireturn, 1) := by decide +kernel
theorem d_S_dueInBlock_67 : decode b_S_dueInBlock 67 = .ok (.iload_n 2, 1) := by decide +kernel
theorem d_S_dueInBlock_68 : decode b_S_dueInBlock 68 = .ok (.iconst 2, 1) := by decide +kernel
theorem d_S_dueInBlock_69 : decode b_S_dueInBlock 69 = .ok (.idiv, 1) := by decide +kernel
theorem d_S_dueInBlock_70 : decode b_S_dueInBlock 70 = .ok (.istore 6, 2) := by decide +kernel
theorem d_S_dueInBlock_72 : decode b_S_dueInBlock 72 = .ok (.iload 6, 2) := by decide +kernel
theorem d_S_dueInBlock_74 : decode b_S_dueInBlock 74 = .ok (.ifCond .ne 8, 3) := by decide +kernel
theorem d_S_dueInBlock_77 : decode b_S_dueInBlock 77 = .ok (.iload 4, 2) := by decide +kernel
theorem d_S_dueInBlock_79 : decode b_S_dueInBlock 79 = .ok (.goto 16, 3) := by decide +kernel
theorem d_S_dueInBlock_82 : decode b_S_dueInBlock 82 = .ok (.aload_n 0, 1) := by decide +kernel
theorem d_S_dueInBlock_83 : decode b_S_dueInBlock 83 = .ok (.getfield 11, 3) := by decide +kernel
theorem d_S_dueInBlock_86 : decode b_S_dueInBlock 86 = .ok (.iload_n 3, 1) := by decide +kernel
theorem d_S_dueInBlock_87 : decode b_S_dueInBlock 87 = .ok (.iconst 2, 1) := by decide +kernel
theorem d_S_dueInBlock_88 : decode b_S_dueInBlock 88 = .ok (.iload 6, 2) := by decide +kernel
theorem d_S_dueInBlock_90 : decode b_S_dueInBlock 90 = .ok (.imul, 1) := by decide +kernel
theorem d_S_dueInBlock_91 : decode b_S_dueInBlock 91 = .ok (.iadd, 1) := by decide +kernel
theorem d_S_dueInBlock_92 : decode b_S_dueInBlock 92 = .ok (.iconst 1, 1) := by decide +kernel
theorem d_S_dueInBlock_93 : decode b_S_dueInBlock 93 = .ok (.isub, 1) := by decide +kernel
theorem d_S_dueInBlock_94 : decode b_S_dueInBlock 94 = .ok (.iaload, 1) := by decide +kernel
theorem d_S_dueInBlock_95 : decode b_S_dueInBlock 95 = .ok (.istore 7, 2) := by decide +kernel
theorem d_S_dueInBlock_97 : decode b_S_dueInBlock 97 = .ok (.iload 7, 2) := by decide +kernel
theorem d_S_dueInBlock_99 : decode b_S_dueInBlock 99 = .ok (.iload 5, 2) := by decide +kernel
theorem d_S_dueInBlock_101 : decode b_S_dueInBlock 101 = .ok (.invokestatic 47, 3) := by decide +kernel
theorem d_S_dueInBlock_104 : decode b_S_dueInBlock 104 = .ok (.getstatic 62, 3) := by decide +kernel
theorem d_S_dueInBlock_107 : decode b_S_dueInBlock 107 = .ok (.iload 6, 2) := by decide +kernel
theorem d_S_dueInBlock_109 : decode b_S_dueInBlock 109 = .ok (.iaload, 1) := by decide +kernel
theorem d_S_dueInBlock_110 : decode b_S_dueInBlock 110 = .ok (.invokestatic 47, 3) := by decide +kernel
theorem d_S_dueInBlock_113 : decode b_S_dueInBlock 113 = .ok (.istore 8, 2) := by decide +kernel
theorem d_S_dueInBlock_115 : decode b_S_dueInBlock 115 = .ok (.iload_n 2, 1) := by decide +kernel
theorem d_S_dueInBlock_116 : decode b_S_dueInBlock 116 = .ok (.iconst 2, 1) := by decide +kernel
theorem d_S_dueInBlock_117 : decode b_S_dueInBlock 117 = .ok (.irem, 1) := by decide +kernel
theorem d_S_dueInBlock_118 : decode b_S_dueInBlock 118 = .ok (.ifCond .ne 8, 3) := by decide +kernel
theorem d_S_dueInBlock_121 : decode b_S_dueInBlock 121 = .ok (.iload 8, 2) := by decide +kernel
theorem d_S_dueInBlock_123 : decode b_S_dueInBlock 123 = .ok (.goto 13, 3) := by decide +kernel
theorem d_S_dueInBlock_126 : decode b_S_dueInBlock 126 = .ok (.aload_n 0, 1) := by decide +kernel
theorem d_S_dueInBlock_127 : decode b_S_dueInBlock 127 = .ok (.getfield 11, 3) := by decide +kernel
theorem d_S_dueInBlock_130 : decode b_S_dueInBlock 130 = .ok (.iload_n 3, 1) := by decide +kernel
theorem d_S_dueInBlock_131 : decode b_S_dueInBlock 131 = .ok (.iload_n 2, 1) := by decide +kernel
theorem d_S_dueInBlock_132 : decode b_S_dueInBlock 132 = .ok (.iadd, 1) := by decide +kernel
theorem d_S_dueInBlock_133 : decode b_S_dueInBlock 133 = .ok (.iconst 1, 1) := by decide +kernel
theorem d_S_dueInBlock_134 : decode b_S_dueInBlock 134 = .ok (.isub, 1) := by decide +kernel
theorem d_S_dueInBlock_135 : decode b_S_dueInBlock 135 = .ok (.iaload, 1) := by decide +kernel
theorem d_S_dueInBlock_136 : decode b_S_dueInBlock 136 = .ok (.iload 8, 2) := by decide +kernel
theorem d_S_dueInBlock_138 : decode b_S_dueInBlock 138 = .ok (.invokestatic 34, 3) := by decide +kernel
theorem d_S_dueInBlock_141 : decode b_S_dueInBlock 141 = .ok (.ireturn, 1) := by decide +kernel
theorem d_S_dueRight_0 : decode b_S_dueRight 0 = .ok (.aload_n 0, 1) := by decide +kernel
theorem d_S_dueRight_1 : decode b_S_dueRight 1 = .ok (.iconst 2, 1) := by decide +kernel
theorem d_S_dueRight_2 : decode b_S_dueRight 2 = .ok (.iload_n 1, 1) := by decide +kernel
theorem d_S_dueRight_3 : decode b_S_dueRight 3 = .ok (.iadd, 1) := by decide +kernel
theorem d_S_dueRight_4 : decode b_S_dueRight 4 = .ok (.invokevirtual 50, 3) := by decide +kernel
theorem d_S_dueRight_7 : decode b_S_dueRight 7 = .ok (.aload_n 0, 1) := by decide +kernel
theorem d_S_dueRight_8 : decode b_S_dueRight 8 = .ok (.getfield 11, 3) := by decide +kernel
theorem d_S_dueRight_11 : decode b_S_dueRight 11 = .ok (.bipush 11, 2) := by decide +kernel
theorem d_S_dueRight_13 : decode b_S_dueRight 13 = .ok (.iload_n 1, 1) := by decide +kernel
theorem d_S_dueRight_14 : decode b_S_dueRight 14 = .ok (.iadd, 1) := by decide +kernel
theorem d_S_dueRight_15 : decode b_S_dueRight 15 = .ok (.iaload, 1) := by decide +kernel
theorem d_S_dueRight_16 : decode b_S_dueRight 16 = .ok (.invokestatic 47, 3) := by decide +kernel
theorem d_S_dueRight_19 : decode b_S_dueRight 19 = .ok (.istore_n 2, 1) := by decide +kernel
theorem d_S_dueRight_20 : decode b_S_dueRight 20 = .ok (.iload_n 2, 1) := by decide +kernel
theorem d_S_dueRight_21 : decode b_S_dueRight 21 = .ok (.aload_n 0, 1) := by decide +kernel
theorem d_S_dueRight_22 : decode b_S_dueRight 22 = .ok (.getfield 11, 3) := by decide +kernel
theorem d_S_dueRight_25 : decode b_S_dueRight 25 = .ok (.bipush 19, 2) := by decide +kernel
theorem d_S_dueRight_27 : decode b_S_dueRight 27 = .ok (.iload_n 1, 1) := by decide +kernel
theorem d_S_dueRight_28 : decode b_S_dueRight 28 = .ok (.iadd, 1) := by decide +kernel
theorem d_S_dueRight_29 : decode b_S_dueRight 29 = .ok (.iaload, 1) := by decide +kernel
theorem d_S_dueRight_30 : decode b_S_dueRight 30 = .ok (.invokestatic 53, 3) := by decide +kernel
theorem d_S_dueRight_33 : decode b_S_dueRight 33 = .ok (.ireturn, 1) := by decide +kernel
theorem d_S_resultOf_0 : decode b_S_resultOf 0 = .ok (.aload_n 0, 1) := by decide +kernel
theorem d_S_resultOf_1 : decode b_S_resultOf 1 = .ok (.getfield 11, 3) := by decide +kernel
theorem d_S_resultOf_4 : decode b_S_resultOf 4 = .ok (.bipush 35, 2) := by decide +kernel
theorem d_S_resultOf_6 : decode b_S_resultOf 6 = .ok (.iload_n 1, 1) := by decide +kernel
theorem d_S_resultOf_7 : decode b_S_resultOf 7 = .ok (.bipush 9, 2) := by decide +kernel
theorem d_S_resultOf_9 : decode b_S_resultOf 9 = .ok (.imul, 1) := by decide +kernel
theorem d_S_resultOf_10 : decode b_S_resultOf 10 = .ok (.iadd, 1) := by decide +kernel
theorem d_S_resultOf_11 : decode b_S_resultOf 11 = .ok (.bipush 9, 2) := by decide +kernel
theorem d_S_resultOf_13 : decode b_S_resultOf 13 = .ok (.iadd, 1) := by decide +kernel
theorem d_S_resultOf_14 : decode b_S_resultOf 14 = .ok (.iconst 1, 1) := by decide +kernel
theorem d_S_resultOf_15 : decode b_S_resultOf 15 = .ok (.isub, 1) := by decide +kernel
theorem d_S_resultOf_16 : decode b_S_resultOf 16 = .ok (.iaload, 1) := by decide +kernel
theorem d_S_resultOf_17 : decode b_S_resultOf 17 = .ok (.ireturn, 1) := by decide +kernel
theorem d_S_dueLeft_0 : decode b_S_dueLeft 0 = .ok (.aload_n 0, 1) := by decide +kernel
theorem d_S_dueLeft_1 : decode b_S_dueLeft 1 = .ok (.iconst 2, 1) := by decide +kernel
theorem d_S_dueLeft_2 : decode b_S_dueLeft 2 = .ok (.iload_n 1, 1) := by decide +kernel
theorem d_S_dueLeft_3 : decode b_S_dueLeft 3 = .ok (.iadd, 1) := by decide +kernel
theorem d_S_dueLeft_4 : decode b_S_dueLeft 4 = .ok (.invokevirtual 50, 3) := by decide +kernel
theorem d_S_dueLeft_7 : decode b_S_dueLeft 7 = .ok (.istore_n 2, 1) := by decide +kernel
theorem d_S_dueLeft_8 : decode b_S_dueLeft 8 = .ok (.aload_n 0, 1) := by decide +kernel
theorem d_S_dueLeft_9 : decode b_S_dueLeft 9 = .ok (.getfield 11, 3) := by decide +kernel
theorem d_S_dueLeft_12 : decode b_S_dueLeft 12 = .ok (.bipush 11, 2) := by decide +kernel
theorem d_S_dueLeft_14 : decode b_S_dueLeft 14 = .ok (.iload_n 1, 1) := by decide +kernel
theorem d_S_dueLeft_15 : decode b_S_dueLeft 15 = .ok (.iadd, 1) := by decide +kernel
theorem d_S_dueLeft_16 : decode b_S_dueLeft 16 = .ok (.iaload, 1) := by decide +kernel
theorem d_S_dueLeft_17 : decode b_S_dueLeft 17 = .ok (.iload_n 2, 1) := by decide +kernel
theorem d_S_dueLeft_18 : decode b_S_dueLeft 18 = .ok (.invokestatic 53, 3) := by decide +kernel
theorem d_S_dueLeft_21 : decode b_S_dueLeft 21 = .ok (.istore_n 3, 1) := by decide +kernel
theorem d_S_dueLeft_22 : decode b_S_dueLeft 22 = .ok (.iload_n 2, 1) := by decide +kernel
theorem d_S_dueLeft_23 : decode b_S_dueLeft 23 = .ok (.aload_n 0, 1) := by decide +kernel
theorem d_S_dueLeft_24 : decode b_S_dueLeft 24 = .ok (.getfield 11, 3) := by decide +kernel
theorem d_S_dueLeft_27 : decode b_S_dueLeft 27 = .ok (.bipush 15, 2) := by decide +kernel
theorem d_S_dueLeft_29 : decode b_S_dueLeft 29 = .ok (.iload_n 1, 1) := by decide +kernel
theorem d_S_dueLeft_30 : decode b_S_dueLeft 30 = .ok (.iadd, 1) := by decide +kernel
theorem d_S_dueLeft_31 : decode b_S_dueLeft 31 = .ok (.iaload, 1) := by decide +kernel
theorem d_S_dueLeft_32 : decode b_S_dueLeft 32 = .ok (.iload_n 3, 1) := by decide +kernel
theorem d_S_dueLeft_33 : decode b_S_dueLeft 33 = .ok (.invokestatic 34, 3) := by decide +kernel
theorem d_S_dueLeft_36 : decode b_S_dueLeft 36 = .ok (.invokestatic 47, 3) := by decide +kernel
theorem d_S_dueLeft_39 : decode b_S_dueLeft 39 = .ok (.ireturn, 1) := by decide +kernel
theorem d_S_sumOfBits_0 : decode b_S_sumOfBits 0 = .ok (.iconst 0, 1) := by decide +kernel
theorem d_S_sumOfBits_1 : decode b_S_sumOfBits 1 = .ok (.istore_n 1, 1) := by decide +kernel
theorem d_S_sumOfBits_2 : decode b_S_sumOfBits 2 = .ok (.iconst 0, 1) := by decide +kernel
theorem d_S_sumOfBits_3 : decode b_S_sumOfBits 3 = .ok (.istore_n 2, 1) := by decide +kernel
theorem d_S_sumOfBits_4 : decode b_S_sumOfBits 4 = .ok (.iload_n 2, 1) := by decide +kernel
theorem d_S_sumOfBits_5 : decode b_S_sumOfBits 5 = .ok (.bipush 8, 2) := by decide +kernel
theorem d_S_sumOfBits_7 : decode b_S_sumOfBits 7 = .ok (.if_icmp .ge 29, 3) := by decide +kernel
theorem d_S_sumOfBits_10 : decode b_S_sumOfBits 10 = .ok (.iload_n 1, 1) := by decide +kernel
theorem d_S_sumOfBits_11 : decode b_S_sumOfBits 11 = .ok (.iconst 1, 1) := by decide +kernel
theorem d_S_sumOfBits_12 : decode b_S_sumOfBits 12 = .ok (.iload_n 2, 1) := by decide +kernel
theorem d_S_sumOfBits_13 : decode b_S_sumOfBits 13 = .ok (.ishl, 1) := by decide +kernel
theorem d_S_sumOfBits_14 : decode b_S_sumOfBits 14 = .ok (.aload_n 0, 1) := by decide +kernel
theorem d_S_sumOfBits_15 : decode b_S_sumOfBits 15 = .ok (.getfield 11, 3) := by decide +kernel
theorem d_S_sumOfBits_18 : decode b_S_sumOfBits 18 = .ok (.bipush 27, 2) := by decide +kernel
theorem d_S_sumOfBits_20 : decode b_S_sumOfBits 20 = .ok (.iload_n 2, 1) := by decide +kernel
theorem d_S_sumOfBits_21 : decode b_S_sumOfBits 21 = .ok (.iadd, 1) := by decide +kernel
theorem d_S_sumOfBits_22 : decode b_S_sumOfBits 22 = .ok (.iaload, 1) := by decide +kernel
theorem d_S_sumOfBits_23 : decode b_S_sumOfBits 23 = .ok (.invokestatic 34, 3) := by decide +kernel
theorem d_S_sumOfBits_26 : decode b_S_sumOfBits 26 = .ok (.invokestatic 47, 3) := by decide +kernel
theorem d_S_sumOfBits_29 : decode b_S_sumOfBits 29 = .ok (.istore_n 1, 1) := by decide +kernel
theorem d_S_sumOfBits_30 : decode b_S_sumOfBits 30 = .ok (.iinc 2 1, 3) := by decide +kernel
theorem d_S_sumOfBits_33 : decode b_S_sumOfBits 33 = .ok (.goto (-29), 3) := by decide +kernel
theorem d_S_sumOfBits_36 : decode b_S_sumOfBits 36 = .ok (.iload_n 1, 1) := by decide +kernel
theorem d_S_sumOfBits_37 : decode b_S_sumOfBits 37 = .ok (.ireturn, 1) := by decide +kernel
theorem d_S_firstFault_0 : decode b_S_firstFault 0 = .ok (.iconst 0, 1) := by decide +kernel
theorem d_S_firstFault_1 : decode b_S_firstFault 1 = .ok (.istore_n 1, 1) := by decide +kernel
theorem d_S_firstFault_2 : decode b_S_firstFault 2 = .ok (.iload_n 1, 1) := by decide +kernel
theorem d_S_firstFault_3 : decode b_S_firstFault 3 = .ok (.bipush 115, 2) := by decide +kernel
theorem d_S_firstFault_5 : decode b_S_firstFault 5 = .ok (.if_icmp .ge 30, 3) := by decide +kernel
theorem d_S_firstFault_8 : decode b_S_firstFault 8 = .ok (.iload_n 1, 1) := by decide +kernel
theorem d_S_firstFault_9 : decode b_S_firstFault 9 = .ok (.invokestatic 21, 3) := by decide +kernel
theorem d_S_firstFault_12 : decode b_S_firstFault 12 = .ok (.istore_n 2, 1) := by decide +kernel
theorem d_S_firstFault_13 : decode b_S_firstFault 13 = .ok (.aload_n 0, 1) := by decide +kernel
theorem d_S_firstFault_14 : decode b_S_firstFault 14 = .ok (.getfield 11, 3) := by decide +kernel
theorem d_S_firstFault_17 : decode b_S_firstFault 17 = .ok (.iload_n 2, 1) := by decide +kernel
theorem d_S_firstFault_18 : decode b_S_firstFault 18 = .ok (.iaload, 1) := by decide +kernel
theorem d_S_firstFault_19 : decode b_S_firstFault 19 = .ok (.aload_n 0, 1) := by decide +kernel
theorem d_S_firstFault_20 : decode b_S_firstFault 20 = .ok (.iload_n 2, 1) := by decide +kernel
theorem d_S_firstFault_21 : decode b_S_firstFault 21 = .ok (.invokevirtual 25, 3) := by decide +kernel
theorem d_S_firstFault_24 : decode b_S_firstFault 24 = .ok (.if_icmp .eq 5, 3) := by decide +kernel
theorem d_S_firstFault_27 : decode b_S_firstFault 27 = .ok (.iload_n 1, 1) := by decide +kernel
theorem d_S_firstFault_28 : decode b_S_firstFault 28 = .ok (.ireturn, 1) := by decide +kernel
theorem d_S_firstFault_29 : decode b_S_firstFault 29 = .ok (.iinc 1 1, 3) := by decide +kernel
theorem d_S_firstFault_32 : decode b_S_firstFault 32 = .ok (.goto (-30), 3) := by decide +kernel
theorem d_S_firstFault_35 : decode b_S_firstFault 35 = .ok (.iconst (-1), 1) := by decide +kernel
theorem d_S_firstFault_36 : decode b_S_firstFault 36 = .ok (.ireturn, 1) := by decide +kernel
theorem d_S_isCell_0 : decode b_S_isCell 0 = .ok (.iload_n 0, 1) := by decide +kernel
theorem d_S_isCell_1 : decode b_S_isCell 1 = .ok (.ifCond .lt 13, 3) := by decide +kernel
theorem d_S_isCell_4 : decode b_S_isCell 4 = .ok (.iload_n 0, 1) := by decide +kernel
theorem d_S_isCell_5 : decode b_S_isCell 5 = .ok (.bipush 125, 2) := by decide +kernel
theorem d_S_isCell_7 : decode b_S_isCell 7 = .ok (.if_icmp .ge 7, 3) := by decide +kernel
theorem d_S_isCell_10 : decode b_S_isCell 10 = .ok (.iconst 1, 1) := by decide +kernel
theorem d_S_isCell_11 : decode b_S_isCell 11 = .ok (.goto 4, 3) := by decide +kernel
theorem d_S_isCell_14 : decode b_S_isCell 14 = .ok (.iconst 0, 1) := by decide +kernel
theorem d_S_isCell_15 : decode b_S_isCell 15 = .ok (.ireturn, 1) := by decide +kernel
