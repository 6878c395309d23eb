theorem d_W_next_0 : decode b_W_next 0 = .ok (.aload_n 3, 1) := by decide +kernel
theorem d_W_next_1 : decode b_W_next 1 = .ok (.iconst 0, 1) := by decide +kernel
theorem d_W_next_2 : decode b_W_next 2 = .ok (.aload_n 0, 1) := by decide +kernel
theorem d_W_next_3 : decode b_W_next 3 = .ok (.iload_n 1, 1) := by decide +kernel
theorem d_W_next_4 : decode b_W_next 4 = .ok (.iload_n 2, 1) := by decide +kernel
theorem d_W_next_5 : decode b_W_next 5 = .ok (.invokevirtual 23, 3) := by decide +kernel
theorem d_W_next_8 : decode b_W_next 8 = .ok (.i2l, 1) := by decide +kernel
theorem d_W_next_9 : decode b_W_next 9 = .ok (.lastore, 1) := by decide +kernel
theorem d_W_next_10 : decode b_W_next 10 = .ok (.goto 11, 3) := by decide +kernel
theorem d_W_next_13 : decode b_W_next 13 = .ok (.astore 4, 2) := by decide +kernel
theorem d_W_next_15 : decode b_W_next 15 = .ok (.iconst 1, 1) := by decide +kernel
theorem d_W_next_16 : decode b_W_next 16 = .ok (.ireturn, 1) := by decide +kernel
theorem d_W_next_17 : decode b_W_next 17 = .ok (.astore 4, 2) := by decide +kernel
theorem d_W_next_19 : decode b_W_next 19 = .ok (.iconst 2, 1) := by decide +kernel
theorem d_W_next_20 : decode b_W_next 20 = .ok (.ireturn, 1) := by decide +kernel
theorem d_W_next_21 : decode b_W_next 21 = .ok (.iconst 0, 1) := by decide +kernel
theorem d_W_next_22 : decode b_W_next 22 = .ok (.ireturn, 1) := by decide +kernel
theorem d_R_next_0 : decode b_R_next 0 = .ok (.iload_n 1, 1) := by decide +kernel
theorem d_R_next_1 : decode b_R_next 1 = .ok (.invokestatic 55, 3) := by decide +kernel
theorem d_R_next_4 : decode b_R_next 4 = .ok (.iload_n 2, 1) := by decide +kernel
theorem d_R_next_5 : decode b_R_next 5 = .ok (.ifCond .ge 13, 3) := by decide +kernel
theorem d_R_next_8 : decode b_R_next 8 = .ok (.new 65, 3) := by decide +kernel
theorem d_R_next_11 : decode b_R_next 11 = .ok (.dup, 1) := by decide +kernel
theorem d_R_next_12 : decode b_R_next 12 = .ok (.ldc 67, 2) := by decide +kernel
theorem d_R_next_14 : decode b_R_next 14 = .ok (.invokespecial 69, 3) := by decide +kernel
theorem d_R_next_17 : decode b_R_next 17 = .ok (.athrow, 1) := by decide +kernel
theorem d_R_next_18 : decode b_R_next 18 = .ok (.iload_n 1, 1) := by decide +kernel
theorem d_R_next_19 : decode b_R_next 19 = .ok (.istore_n 3, 1) := by decide +kernel
theorem d_R_next_20 : decode b_R_next 20 = .ok (.iconst 0, 1) := by decide +kernel
theorem d_R_next_21 : decode b_R_next 21 = .ok (.istore 4, 2) := by decide +kernel
theorem d_R_next_23 : decode b_R_next 23 = .ok (.iload 4, 2) := by decide +kernel
theorem d_R_next_25 : decode b_R_next 25 = .ok (.iload_n 2, 1) := by decide +kernel
theorem d_R_next_26 : decode b_R_next 26 = .ok (.if_icmp .ge 24, 3) := by decide +kernel
theorem d_R_next_29 : decode b_R_next 29 = .ok (.iload_n 3, 1) := by decide +kernel
theorem d_R_next_30 : decode b_R_next 30 = .ok (.sipush 254, 3) := by decide +kernel
theorem d_R_next_33 : decode b_R_next 33 = .ok (.if_icmp .gt 17, 3) := by decide +kernel
theorem d_R_next_36 : decode b_R_next 36 = .ok (.iload_n 3, 1) := by decide +kernel
theorem d_R_next_37 : decode b_R_next 37 = .ok (.aload_n 0, 1) := by decide +kernel
theorem d_R_next_38 : decode b_R_next 38 = .ok (.iload_n 3, 1) := by decide +kernel
theorem d_R_next_39 : decode b_R_next 39 = .ok (.invokevirtual 70, 3) := by decide +kernel
theorem d_R_next_42 : decode b_R_next 42 = .ok (.iadd, 1) := by decide +kernel
theorem d_R_next_43 : decode b_R_next 43 = .ok (.istore_n 3, 1) := by decide +kernel
theorem d_R_next_44 : decode b_R_next 44 = .ok (.iinc 4 1, 3) := by decide +kernel
theorem d_R_next_47 : decode b_R_next 47 = .ok (.goto (-24), 3) := by decide +kernel
theorem d_R_next_50 : decode b_R_next 50 = .ok (.iload_n 3, 1) := by decide +kernel
theorem d_R_next_51 : decode b_R_next 51 = .ok (.sipush 254, 3) := by decide +kernel
theorem d_R_next_54 : decode b_R_next 54 = .ok (.if_icmp .gt 7, 3) := by decide +kernel
theorem d_R_next_57 : decode b_R_next 57 = .ok (.iload_n 3, 1) := by decide +kernel
theorem d_R_next_58 : decode b_R_next 58 = .ok (.goto 4, 3) := by decide +kernel
theorem d_R_next_61 : decode b_R_next 61 = .ok (.iconst (-1), 1) := by decide +kernel
theorem d_R_next_62 : decode b_R_next 62 = .ok (.ireturn, 1) := by decide +kernel
theorem d_W_before_0 : decode b_W_before 0 = .ok (.aload_n 3, 1) := by decide +kernel
theorem d_W_before_1 : decode b_W_before 1 = .ok (.iconst 0, 1) := by decide +kernel
theorem d_W_before_2 : decode b_W_before 2 = .ok (.aload_n 0, 1) := by decide +kernel
theorem d_W_before_3 : decode b_W_before 3 = .ok (.iload_n 1, 1) := by decide +kernel
theorem d_W_before_4 : decode b_W_before 4 = .ok (.iload_n 2, 1) := by decide +kernel
theorem d_W_before_5 : decode b_W_before 5 = .ok (.invokevirtual 29, 3) := by decide +kernel
theorem d_W_before_8 : decode b_W_before 8 = .ok (.i2l, 1) := by decide +kernel
theorem d_W_before_9 : decode b_W_before 9 = .ok (.lastore, 1) := by decide +kernel
theorem d_W_before_10 : decode b_W_before 10 = .ok (.goto 7, 3) := by decide +kernel
theorem d_W_before_13 : decode b_W_before 13 = .ok (.astore 4, 2) := by decide +kernel
theorem d_W_before_15 : decode b_W_before 15 = .ok (.iconst 1, 1) := by decide +kernel
theorem d_W_before_16 : decode b_W_before 16 = .ok (.ireturn, 1) := by decide +kernel
theorem d_W_before_17 : decode b_W_before 17 = .ok (.iconst 0, 1) := by decide +kernel
theorem d_W_before_18 : decode b_W_before 18 = .ok (.ireturn, 1) := by decide +kernel
theorem d_R_before_0 : decode b_R_before 0 = .ok (.iload_n 1, 1) := by decide +kernel
theorem d_R_before_1 : decode b_R_before 1 = .ok (.invokestatic 55, 3) := by decide +kernel
theorem d_R_before_4 : decode b_R_before 4 = .ok (.iload_n 2, 1) := by decide +kernel
theorem d_R_before_5 : decode b_R_before 5 = .ok (.invokestatic 55, 3) := by decide +kernel
theorem d_R_before_8 : decode b_R_before 8 = .ok (.iconst (-1), 1) := by decide +kernel
theorem d_R_before_9 : decode b_R_before 9 = .ok (.istore_n 3, 1) := by decide +kernel
theorem d_R_before_10 : decode b_R_before 10 = .ok (.iload_n 1, 1) := by decide +kernel
theorem d_R_before_11 : decode b_R_before 11 = .ok (.istore 4, 2) := by decide +kernel
theorem d_R_before_13 : decode b_R_before 13 = .ok (.iload 4, 2) := by decide +kernel
theorem d_R_before_15 : decode b_R_before 15 = .ok (.iload_n 2, 1) := by decide +kernel
theorem d_R_before_16 : decode b_R_before 16 = .ok (.if_icmp .ge 36, 3) := by decide +kernel
theorem d_R_before_19 : decode b_R_before 19 = .ok (.iload 4, 2) := by decide +kernel
theorem d_R_before_21 : decode b_R_before 21 = .ok (.sipush 254, 3) := by decide +kernel
theorem d_R_before_24 : decode b_R_before 24 = .ok (.if_icmp .gt 28, 3) := by decide +kernel
theorem d_R_before_27 : decode b_R_before 27 = .ok (.iload 4, 2) := by decide +kernel
theorem d_R_before_29 : decode b_R_before 29 = .ok (.istore_n 3, 1) := by decide +kernel
theorem d_R_before_30 : decode b_R_before 30 = .ok (.iload 4, 2) := by decide +kernel
theorem d_R_before_32 : decode b_R_before 32 = .ok (.aload_n 0, 1) := by decide +kernel
theorem d_R_before_33 : decode b_R_before 33 = .ok (.iload 4, 2) := by decide +kernel
theorem d_R_before_35 : decode b_R_before 35 = .ok (.invokevirtual 73, 3) := by decide +kernel
theorem d_R_before_38 : decode b_R_before 38 = .ok (.ifCond .eq 7, 3) := by decide +kernel
theorem d_R_before_41 : decode b_R_before 41 = .ok (.iconst 4, 1) := by decide +kernel
theorem d_R_before_42 : decode b_R_before 42 = .ok (.goto 4, 3) := by decide +kernel
theorem d_R_before_45 : decode b_R_before 45 = .ok (.iconst 2, 1) := by decide +kernel
theorem d_R_before_46 : decode b_R_before 46 = .ok (.iadd, 1) := by decide +kernel
theorem d_R_before_47 : decode b_R_before 47 = .ok (.istore 4, 2) := by decide +kernel
theorem d_R_before_49 : decode b_R_before 49 = .ok (.goto (-36), 3) := by decide +kernel
theorem d_R_before_52 : decode b_R_before 52 = .ok (.iload_n 3, 1) := by decide +kernel
theorem d_R_before_53 : decode b_R_before 53 = .ok (.ireturn, 1) := by decide +kernel
theorem d_W_numbers_0 : decode b_W_numbers 0 = .ok (.aload_n 2, 1) := by decide +kernel
theorem d_W_numbers_1 : decode b_W_numbers 1 = .ok (.iconst 0, 1) := by decide +kernel
theorem d_W_numbers_2 : decode b_W_numbers 2 = .ok (.aload_n 0, 1) := by decide +kernel
theorem d_W_numbers_3 : decode b_W_numbers 3 = .ok (.iload_n 1, 1) := by decide +kernel
theorem d_W_numbers_4 : decode b_W_numbers 4 = .ok (.invokevirtual 32, 3) := by decide +kernel
theorem d_W_numbers_7 : decode b_W_numbers 7 = .ok (.i2l, 1) := by decide +kernel
theorem d_W_numbers_8 : decode b_W_numbers 8 = .ok (.lastore, 1) := by decide +kernel
theorem d_W_numbers_9 : decode b_W_numbers 9 = .ok (.goto 6, 3) := by decide +kernel
theorem d_W_numbers_12 : decode b_W_numbers 12 = .ok (.astore_n 3, 1) := by decide +kernel
theorem d_W_numbers_13 : decode b_W_numbers 13 = .ok (.iconst 1, 1) := by decide +kernel
theorem d_W_numbers_14 : decode b_W_numbers 14 = .ok (.ireturn, 1) := by decide +kernel
theorem d_W_numbers_15 : decode b_W_numbers 15 = .ok (.iconst 0, 1) := by decide +kernel
theorem d_W_numbers_16 : decode b_W_numbers 16 = .ok (.ireturn, 1) := by decide +kernel
theorem d_R_numbers_0 : decode b_R_numbers 0 = .ok (.iload_n 1, 1) := by decide +kernel
theorem d_R_numbers_1 : decode b_R_numbers 1 = .ok (.invokestatic 55, 3) := by decide +kernel
theorem d_R_numbers_4 : decode b_R_numbers 4 = .ok (.iconst 0, 1) := by decide +kernel
theorem d_R_numbers_5 : decode b_R_numbers 5 = .ok (.istore_n 2, 1) := by decide +kernel
theorem d_R_numbers_6 : decode b_R_numbers 6 = .ok (.iload_n 1, 1) := by decide +kernel
theorem d_R_numbers_7 : decode b_R_numbers 7 = .ok (.istore_n 3, 1) := by decide +kernel
theorem d_R_numbers_8 : decode b_R_numbers 8 = .ok (.iload_n 3, 1) := by decide +kernel
theorem d_R_numbers_9 : decode b_R_numbers 9 = .ok (.sipush 254, 3) := by decide +kernel
theorem d_R_numbers_12 : decode b_R_numbers 12 = .ok (.if_icmp .gt 47, 3) := by decide +kernel
theorem d_R_numbers_15 : decode b_R_numbers 15 = .ok (.aload_n 0, 1) := by decide +kernel
theorem d_R_numbers_16 : decode b_R_numbers 16 = .ok (.iload_n 3, 1) := by decide +kernel
theorem d_R_numbers_17 : decode b_R_numbers 17 = .ok (.invokevirtual 58, 3) := by decide +kernel
theorem d_R_numbers_20 : decode b_R_numbers 20 = .ok (.ifCond .eq 20, 3) := by decide +kernel
theorem d_R_numbers_23 : decode b_R_numbers 23 = .ok (.aload_n 0, 1) := by decide +kernel
theorem d_R_numbers_24 : decode b_R_numbers 24 = .ok (.iload_n 3, 1) := by decide +kernel
theorem d_R_numbers_25 : decode b_R_numbers 25 = .ok (.invokevirtual 61, 3) := by decide +kernel
theorem d_R_numbers_28 : decode b_R_numbers 28 = .ok (.invokestatic 76, 3) := by decide +kernel
theorem d_R_numbers_31 : decode b_R_numbers 31 = .ok (.invokevirtual 80, 3) := by decide +kernel
theorem d_R_numbers_34 : decode b_R_numbers 34 = .ok (.ifCond .ne 6, 3) := by decide +kernel
theorem d_R_numbers_37 : decode b_R_numbers 37 = .ok (.iinc 2 1, 3) := by decide +kernel
theorem d_R_numbers_40 : decode b_R_numbers 40 = .ok (.iload_n 3, 1) := by decide +kernel
theorem d_R_numbers_41 : decode b_R_numbers 41 = .ok (.aload_n 0, 1) := by decide +kernel
theorem d_R_numbers_42 : decode b_R_numbers 42 = .ok (.iload_n 3, 1) := by decide +kernel
theorem d_R_numbers_43 : decode b_R_numbers 43 = .ok (.invokevirtual 73, 3) := by decide +kernel
theorem d_R_numbers_46 : decode b_R_numbers 46 = .ok (.ifCond .eq 7, 3) := by decide +kernel
theorem d_R_numbers_49 : decode b_R_numbers 49 = .ok (.iconst 4, 1) := by decide +kernel
theorem d_R_numbers_50 : decode b_R_numbers 50 = .ok (.goto 4, 3) := by decide +kernel
theorem d_R_numbers_53 : decode b_R_numbers 53 = .ok (.iconst 2, 1) := by decide +kernel
theorem d_R_numbers_54 : decode b_R_numbers 54 = .ok (.iadd, 1) := by decide +kernel
theorem d_R_numbers_55 : decode b_R_numbers 55 = .ok (.istore_n 3, 1) := by decide +kernel
theorem d_R_numbers_56 : decode b_R_numbers 56 = .ok (.goto (-48), 3) := by decide +kernel
theorem d_R_numbers_59 : decode b_R_numbers 59 = .ok (.iload_n 2, 1) := by decide +kernel
theorem d_R_numbers_60 : decode b_R_numbers 60 = .ok (.ireturn, 1) := by decide +kernel
theorem d_M_init_0 : decode b_M_init 0 = .ok (.aload_n 0, 1) := by decide +kernel
theorem d_M_init_1 : decode b_M_init 1 = .ok (.invokespecial 1, 3) := by decide +kernel
theorem d_M_init_4 : decode b_M_init 4 = .ok (.aload_n 0, 1) := by decide +kernel
theorem d_M_init_5 : decode b_M_init 5 = .ok (.bipush 64, 2) := by decide +kernel
theorem d_M_init_7 : decode b_M_init 7 = .ok (.newarray .char, 2) := by decide +kernel
theorem d_M_init_9 : decode b_M_init 9 = .ok (.putfield 7, 3) := by decide +kernel
theorem d_M_init_12 : decode b_M_init 12 = .ok (.aload_n 0, 1) := by decide +kernel
theorem d_M_init_13 : decode b_M_init 13 = .ok (.sipush 256, 3) := by decide +kernel
theorem d_M_init_16 : decode b_M_init 16 = .ok (.newarray .int, 2) := by decide +kernel
theorem d_M_init_18 : decode b_M_init 18 = .ok (.putfield 13, 3) := by decide +kernel
theorem d_M_init_21 : decode b_M_init 21 = .ok (.aload_n 0, 1) := by decide +kernel
theorem d_M_init_22 : decode b_M_init 22 = .ok (.bipush 32, 2) := by decide +kernel
theorem d_M_init_24 : decode b_M_init 24 = .ok (.newarray .int, 2) := by decide +kernel
theorem d_M_init_26 : decode b_M_init 26 = .ok (.dup, 1) := by decide +kernel
theorem d_M_init_27 : decode b_M_init 27 = .ok (.iconst 0, 1) := by decide +kernel
theorem d_M_init_28 : decode b_M_init 28 = .ok (.ldc 17, 2) := by decide +kernel
theorem d_M_init_30 : decode b_M_init 30 = .ok (.iastore, 1) := by decide +kernel
theorem d_M_init_31 : decode b_M_init 31 = .ok (.dup, 1) := by decide +kernel
theorem d_M_init_32 : decode b_M_init 32 = .ok (.iconst 1, 1) := by decide +kernel
theorem d_M_init_33 : decode b_M_init 33 = .ok (.sipush 24946, 3) := by decide +kernel
theorem d_M_init_36 : decode b_M_init 36 = .ok (.iastore, 1) := by decide +kernel
theorem d_M_init_37 : decode b_M_init 37 = .ok (.dup, 1) := by decide +kernel
theorem d_M_init_38 : decode b_M_init 38 = .ok (.iconst 2, 1) := by decide +kernel
theorem d_M_init_39 : decode b_M_init 39 = .ok (.sipush 28787, 3) := by decide +kernel
theorem d_M_init_42 : decode b_M_init 42 = .ok (.iastore, 1) := by decide +kernel
theorem d_M_init_43 : decode b_M_init 43 = .ok (.dup, 1) := by decide +kernel
theorem d_M_init_44 : decode b_M_init 44 = .ok (.iconst 3, 1) := by decide +kernel
theorem d_M_init_45 : decode b_M_init 45 = .ok (.sipush 28775, 3) := by decide +kernel
theorem d_M_init_48 : decode b_M_init 48 = .ok (.iastore, 1) := by decide +kernel
theorem d_M_init_49 : decode b_M_init 49 = .ok (.dup, 1) := by decide +kernel
theorem d_M_init_50 : decode b_M_init 50 = .ok (.iconst 4, 1) := by decide +kernel
theorem d_M_init_51 : decode b_M_init 51 = .ok (.sipush 28788, 3) := by decide +kernel
theorem d_M_init_54 : decode b_M_init 54 = .ok (.iastore, 1) := by decide +kernel
theorem d_M_init_55 : decode b_M_init 55 = .ok (.dup, 1) := by decide +kernel
theorem d_M_init_56 : decode b_M_init 56 = .ok (.iconst 5, 1) := by decide +kernel
theorem d_M_init_57 : decode b_M_init 57 = .ok (.sipush 12404, 3) := by decide +kernel
theorem d_M_init_60 : decode b_M_init 60 = .ok (.iastore, 1) := by decide +kernel
theorem d_M_init_61 : decode b_M_init 61 = .ok (.dup, 1) := by decide +kernel
theorem d_M_init_62 : decode b_M_init 62 = .ok (.bipush 6, 2) := by decide +kernel
theorem d_M_init_64 : decode b_M_init 64 = .ok (.sipush 12660, 3) := by decide +kernel
theorem d_M_init_67 : decode b_M_init 67 = .ok (.iastore, 1) := by decide +kernel
theorem d_M_init_68 : decode b_M_init 68 = .ok (.dup, 1) := by decide +kernel
theorem d_M_init_69 : decode b_M_init 69 = .ok (.bipush 7, 2) := by decide +kernel
theorem d_M_init_71 : decode b_M_init 71 = .ok (.sipush 12916, 3) := by decide +kernel
theorem d_M_init_74 : decode b_M_init 74 = .ok (.iastore, 1) := by decide +kernel
theorem d_M_init_75 : decode b_M_init 75 = .ok (.dup, 1) := by decide +kernel
theorem d_M_init_76 : decode b_M_init 76 = .ok (.bipush 8, 2) := by decide +kernel
theorem d_M_init_78 : decode b_M_init 78 = .ok (.sipush 12403, 3) := by decide +kernel
theorem d_M_init_81 : decode b_M_init 81 = .ok (.iastore, 1) := by decide +kernel
theorem d_M_init_82 : decode b_M_init 82 = .ok (.dup, 1) := by decide +kernel
theorem d_M_init_83 : decode b_M_init 83 = .ok (.bipush 9, 2) := by decide +kernel
theorem d_M_init_85 : decode b_M_init 85 = .ok (.sipush 12659, 3) := by decide +kernel
theorem d_M_init_88 : decode b_M_init 88 = .ok (.iastore, 1) := by decide +kernel
theorem d_M_init_89 : decode b_M_init 89 = .ok (.dup, 1) := by decide +kernel
theorem d_M_init_90 : decode b_M_init 90 = .ok (.bipush 10, 2) := by decide +kernel
theorem d_M_init_92 : decode b_M_init 92 = .ok (.sipush 12385, 3) := by decide +kernel
theorem d_M_init_95 : decode b_M_init 95 = .ok (.iastore, 1) := by decide +kernel
theorem d_M_init_96 : decode b_M_init 96 = .ok (.dup, 1) := by decide +kernel
theorem d_M_init_97 : decode b_M_init 97 = .ok (.bipush 11, 2) := by decide +kernel
theorem d_M_init_99 : decode b_M_init 99 = .ok (.sipush 12641, 3) := by decide +kernel
theorem d_M_init_102 : decode b_M_init 102 = .ok (.iastore, 1) := by decide +kernel
theorem d_M_init_103 : decode b_M_init 103 = .ok (.dup, 1) := by decide +kernel
theorem d_M_init_104 : decode b_M_init 104 = .ok (.bipush 12, 2) := by decide +kernel
theorem d_M_init_106 : decode b_M_init 106 = .ok (.sipush 12897, 3) := by decide +kernel
theorem d_M_init_109 : decode b_M_init 109 = .ok (.iastore, 1) := by decide +kernel
theorem d_M_init_110 : decode b_M_init 110 = .ok (.dup, 1) := by decide +kernel
theorem d_M_init_111 : decode b_M_init 111 = .ok (.bipush 13, 2) := by decide +kernel
theorem d_M_init_113 : decode b_M_init 113 = .ok (.sipush 13153, 3) := by decide +kernel
theorem d_M_init_116 : decode b_M_init 116 = .ok (.iastore, 1) := by decide +kernel
theorem d_M_init_117 : decode b_M_init 117 = .ok (.dup, 1) := by decide +kernel
theorem d_M_init_118 : decode b_M_init 118 = .ok (.bipush 14, 2) := by decide +kernel
theorem d_M_init_120 : decode b_M_init 120 = .ok (.sipush 13409, 3) := by decide +kernel
theorem d_M_init_123 : decode b_M_init 123 = .ok (.iastore, 1) := by decide +kernel
theorem d_M_init_124 : decode b_M_init 124 = .ok (.dup, 1) := by decide +kernel
theorem d_M_init_125 : decode b_M_init 125 = .ok (.bipush 15, 2) := by decide +kernel
theorem d_M_init_127 : decode b_M_init 127 = .ok (.sipush 13665, 3) := by decide +kernel
theorem d_M_init_130 : decode b_M_init 130 = .ok (.iastore, 1) := by decide +kernel
theorem d_M_init_131 : decode b_M_init 131 = .ok (.dup, 1) := by decide +kernel
theorem d_M_init_132 : decode b_M_init 132 = .ok (.bipush 16, 2) := by decide +kernel
theorem d_M_init_134 : decode b_M_init 134 = .ok (.sipush 13921, 3) := by decide +kernel
theorem d_M_init_137 : decode b_M_init 137 = .ok (.iastore, 1) := by decide +kernel
theorem d_M_init_138 : decode b_M_init 138 = .ok (.dup, 1) := by decide +kernel
theorem d_M_init_139 : decode b_M_init 139 = .ok (.bipush 17, 2) := by decide +kernel
theorem d_M_init_141 : decode b_M_init 141 = .ok (.sipush 14177, 3) := by decide +kernel
theorem d_M_init_144 : decode b_M_init 144 = .ok (.iastore, 1) := by decide +kernel
theorem d_M_init_145 : decode b_M_init 145 = .ok (.dup, 1) := by decide +kernel
theorem d_M_init_146 : decode b_M_init 146 = .ok (.bipush 18, 2) := by decide +kernel
theorem d_M_init_148 : decode b_M_init 148 = .ok (.sipush 12915, 3) := by decide +kernel
theorem d_M_init_151 : decode b_M_init 151 = .ok (.iastore, 1) := by decide +kernel
theorem d_M_init_152 : decode b_M_init 152 = .ok (.dup, 1) := by decide +kernel
theorem d_M_init_153 : decode b_M_init 153 = .ok (.bipush 19, 2) := by decide +kernel
theorem d_M_init_155 : decode b_M_init 155 = .ok (.sipush 13171, 3) := by decide +kernel
theorem d_M_init_158 : decode b_M_init 158 = .ok (.iastore, 1) := by decide +kernel
theorem d_M_init_159 : decode b_M_init 159 = .ok (.dup, 1) := by decide +kernel
theorem d_M_init_160 : decode b_M_init 160 = .ok (.bipush 20, 2) := by decide +kernel
theorem d_M_init_162 : decode b_M_init 162 = .ok (.sipush 13427, 3) := by decide +kernel
theorem d_M_init_165 : decode b_M_init 165 = .ok (.iastore, 1) := by decide +kernel
theorem d_M_init_166 : decode b_M_init 166 = .ok (.dup, 1) := by decide +kernel
theorem d_M_init_167 : decode b_M_init 167 = .ok (.bipush 21, 2) := by decide +kernel
theorem d_M_init_169 : decode b_M_init 169 = .ok (.sipush 13683, 3) := by decide +kernel
theorem d_M_init_172 : decode b_M_init 172 = .ok (.iastore, 1) := by decide +kernel
theorem d_M_init_173 : decode b_M_init 173 = .ok (.dup, 1) := by decide +kernel
theorem d_M_init_174 : decode b_M_init 174 = .ok (.bipush 22, 2) := by decide +kernel
theorem d_M_init_176 : decode b_M_init 176 = .ok (.sipush 13939, 3) := by decide +kernel
theorem d_M_init_179 : decode b_M_init 179 = .ok (.iastore, 1) := by decide +kernel
theorem d_M_init_180 : decode b_M_init 180 = .ok (.dup, 1) := by decide +kernel
theorem d_M_init_181 : decode b_M_init 181 = .ok (.bipush 23, 2) := by decide +kernel
theorem d_M_init_183 : decode b_M_init 183 = .ok (.sipush 14195, 3) := by decide +kernel
theorem d_M_init_186 : decode b_M_init 186 = .ok (.iastore, 1) := by decide +kernel
theorem d_M_init_187 : decode b_M_init 187 = .ok (.dup, 1) := by decide +kernel
theorem d_M_init_188 : decode b_M_init 188 = .ok (.bipush 24, 2) := by decide +kernel
theorem d_M_init_190 : decode b_M_init 190 = .ok (.sipush 14451, 3) := by decide +kernel
theorem d_M_init_193 : decode b_M_init 193 = .ok (.iastore, 1) := by decide +kernel
theorem d_M_init_194 : decode b_M_init 194 = .ok (.dup, 1) := by decide +kernel
theorem d_M_init_195 : decode b_M_init 195 = .ok (.bipush 25, 2) := by decide +kernel
theorem d_M_init_197 : decode b_M_init 197 = .ok (.sipush 14707, 3) := by decide +kernel
theorem d_M_init_200 : decode b_M_init 200 = .ok (.iastore, 1) := by decide +kernel
theorem d_M_init_201 : decode b_M_init 201 = .ok (.dup, 1) := by decide +kernel
theorem d_M_init_202 : decode b_M_init 202 = .ok (.bipush 26, 2) := by decide +kernel
theorem d_M_init_204 : decode b_M_init 204 = .ok (.ldc 18, 2) := by decide +kernel
theorem d_M_init_206 : decode b_M_init 206 = .ok (.iastore, 1) := by decide +kernel
theorem d_M_init_207 : decode b_M_init 207 = .ok (.dup, 1) := by decide +kernel
theorem d_M_init_208 : decode b_M_init 208 = .ok (.bipush 27, 2) := by decide +kernel
theorem d_M_init_210 : decode b_M_init 210 = .ok (.ldc 19, 2) := by decide +kernel
theorem d_M_init_212 : decode b_M_init 212 = .ok (.iastore, 1) := by decide +kernel
theorem d_M_init_213 : decode b_M_init 213 = .ok (.dup, 1) := by decide +kernel
theorem d_M_init_214 : decode b_M_init 214 = .ok (.bipush 28, 2) := by decide +kernel
theorem d_M_init_216 : decode b_M_init 216 = .ok (.sipush 13172, 3) := by decide +kernel
theorem d_M_init_219 : decode b_M_init 219 = .ok (.iastore, 1) := by decide +kernel
theorem d_M_init_220 : decode b_M_init 220 = .ok (.dup, 1) := by decide +kernel
theorem d_M_init_221 : decode b_M_init 221 = .ok (.bipush 29, 2) := by decide +kernel
theorem d_M_init_223 : decode b_M_init 223 = .ok (.sipush 13428, 3) := by decide +kernel
theorem d_M_init_226 : decode b_M_init 226 = .ok (.iastore, 1) := by decide +kernel
theorem d_M_init_227 : decode b_M_init 227 = .ok (.dup, 1) := by decide +kernel
theorem d_M_init_228 : decode b_M_init 228 = .ok (.bipush 30, 2) := by decide +kernel
theorem d_M_init_230 : decode b_M_init 230 = .ok (.sipush 13684, 3) := by decide +kernel
theorem d_M_init_233 : decode b_M_init 233 = .ok (.iastore, 1) := by decide +kernel
theorem d_M_init_234 : decode b_M_init 234 = .ok (.dup, 1) := by decide +kernel
theorem d_M_init_235 : decode b_M_init 235 = .ok (.bipush 31, 2) := by decide +kernel
theorem d_M_init_237 : decode b_M_init 237 = .ok (.sipush 13940, 3) := by decide +kernel
theorem d_M_init_240 : decode b_M_init 240 = .ok (.iastore, 1) := by decide +kernel
theorem d_M_init_241 : decode b_M_init 241 = .ok (.putfield 20, 3) := by decide +kernel
theorem d_M_init_244 : decode b_M_init 244 = .ok (.aload_n 0, 1) := by decide +kernel
theorem d_M_init_245 : decode b_M_init 245 = .ok (.bipush 64, 2) := by decide +kernel
theorem d_M_init_247 : decode b_M_init 247 = .ok (.newarray .char, 2) := by decide +kernel
theorem d_M_init_249 : decode b_M_init 249 = .ok (.putfield 23, 3) := by decide +kernel
theorem d_M_init_252 : decode b_M_init 252 = .ok (.return_, 1) := by decide +kernel
theorem d_M_thrown_0 : decode b_M_thrown 0 = .ok (.aload_n 0, 1) := by decide +kernel
theorem d_M_thrown_1 : decode b_M_thrown 1 = .ok (.getfield 26, 3) := by decide +kernel
theorem d_M_thrown_4 : decode b_M_thrown 4 = .ok (.ireturn, 1) := by decide +kernel
theorem d_M_read_0 : decode b_M_read 0 = .ok (.aload_n 0, 1) := by decide +kernel
theorem d_M_read_1 : decode b_M_read 1 = .ok (.iconst 0, 1) := by decide +kernel
theorem d_M_read_2 : decode b_M_read 2 = .ok (.putfield 26, 3) := by decide +kernel
theorem d_M_read_5 : decode b_M_read 5 = .ok (.aload_n 0, 1) := by decide +kernel
theorem d_M_read_6 : decode b_M_read 6 = .ok (.iload_n 1, 1) := by decide +kernel
theorem d_M_read_7 : decode b_M_read 7 = .ok (.iconst 3, 1) := by decide +kernel
theorem d_M_read_8 : decode b_M_read 8 = .ok (.iand, 1) := by decide +kernel
theorem d_M_read_9 : decode b_M_read 9 = .ok (.iconst 3, 1) := by decide +kernel
theorem d_M_read_10 : decode b_M_read 10 = .ok (.if_icmp .ne 7, 3) := by decide +kernel
theorem d_M_read_13 : decode b_M_read 13 = .ok (.iload_n 1, 1) := by decide +kernel
theorem d_M_read_14 : decode b_M_read 14 = .ok (.goto 8, 3) := by decide +kernel
theorem d_M_read_17 : decode b_M_read 17 = .ok (.iload_n 1, 1) := by decide +kernel
theorem d_M_read_18 : decode b_M_read 18 = .ok (.ldc_w 354, 3) := by decide +kernel
theorem d_M_read_21 : decode b_M_read 21 = .ok (.iand, 1) := by decide +kernel
theorem d_M_read_22 : decode b_M_read 22 = .ok (.putfield 30, 3) := by decide +kernel
theorem d_M_read_25 : decode b_M_read 25 = .ok (.aload_n 0, 1) := by decide +kernel
theorem d_M_read_26 : decode b_M_read 26 = .ok (.invokevirtual 355, 3) := by decide +kernel
theorem d_M_read_29 : decode b_M_read 29 = .ok (.aload_n 0, 1) := by decide +kernel
theorem d_M_read_30 : decode b_M_read 30 = .ok (.getfield 33, 3) := by decide +kernel
theorem d_M_read_33 : decode b_M_read 33 = .ok (.ireturn, 1) := by decide +kernel
theorem d_M_understand_0 : decode b_M_understand 0 = .ok (.aload_n 0, 1) := by decide +kernel
theorem d_M_understand_1 : decode b_M_understand 1 = .ok (.getfield 30, 3) := by decide +kernel
theorem d_M_understand_4 : decode b_M_understand 4 = .ok (.iconst 3, 1) := by decide +kernel
theorem d_M_understand_5 : decode b_M_understand 5 = .ok (.iand, 1) := by decide +kernel
theorem d_M_understand_6 : decode b_M_understand 6 = .ok (.iconst 3, 1) := by decide +kernel
theorem d_M_understand_7 : decode b_M_understand 7 = .ok (.if_icmp .ne 7, 3) := by decide +kernel
theorem d_M_understand_10 : decode b_M_understand 10 = .ok (.iconst 1, 1) := by decide +kernel
theorem d_M_understand_11 : decode b_M_understand 11 = .ok (.goto 4, 3) := by decide +kernel
theorem d_M_understand_14 : decode b_M_understand 14 = .ok (.iconst 0, 1) := by decide +kernel
theorem d_M_understand_15 : decode b_M_understand 15 = .ok (.istore_n 1, 1) := by decide +kernel
theorem d_M_understand_16 : decode b_M_understand 16 = .ok (.aload_n 0, 1) := by decide +kernel
theorem d_M_understand_17 : decode b_M_understand 17 = .ok (.iconst 0, 1) := by decide +kernel
theorem d_M_understand_18 : decode b_M_understand 18 = .ok (.putfield 33, 3) := by decide +kernel
theorem d_M_understand_21 : decode b_M_understand 21 = .ok (.aload_n 0, 1) := by decide +kernel
theorem d_M_understand_22 : decode b_M_understand 22 = .ok (.iconst 0, 1) := by decide +kernel
theorem d_M_understand_23 : decode b_M_understand 23 = .ok (.putfield 52, 3) := by decide +kernel
theorem d_M_understand_26 : decode b_M_understand 26 = .ok (.aload_n 0, 1) := by decide +kernel
theorem d_M_understand_27 : decode b_M_understand 27 = .ok (.iconst 0, 1) := by decide +kernel
theorem d_M_understand_28 : decode b_M_understand 28 = .ok (.putfield 56, 3) := by decide +kernel
theorem d_M_understand_31 : decode b_M_understand 31 = .ok (.aload_n 0, 1) := by decide +kernel
theorem d_M_understand_32 : decode b_M_understand 32 = .ok (.iload_n 1, 1) := by decide +kernel
theorem d_M_understand_33 : decode b_M_understand 33 = .ok (.ifCond .eq 7, 3) := by decide +kernel
theorem d_M_understand_36 : decode b_M_understand 36 = .ok (.iconst 4, 1) := by decide +kernel
theorem d_M_understand_37 : decode b_M_understand 37 = .ok (.goto 4, 3) := by decide +kernel
theorem d_M_understand_40 : decode b_M_understand 40 = .ok (.iconst 2, 1) := by decide +kernel
theorem d_M_understand_41 : decode b_M_understand 41 = .ok (.putfield 333, 3) := by decide +kernel
theorem d_M_understand_44 : decode b_M_understand 44 = .ok (.aload_n 0, 1) := by decide +kernel
theorem d_M_understand_45 : decode b_M_understand 45 = .ok (.aload_n 0, 1) := by decide +kernel
theorem d_M_understand_46 : decode b_M_understand 46 = .ok (.bipush 7, 2) := by decide +kernel
theorem d_M_understand_48 : decode b_M_understand 48 = .ok (.iconst 5, 1) := by decide +kernel
theorem d_M_understand_49 : decode b_M_understand 49 = .ok (.invokevirtual 181, 3) := by decide +kernel
theorem d_M_understand_52 : decode b_M_understand 52 = .ok (.putfield 77, 3) := by decide +kernel
theorem d_M_understand_55 : decode b_M_understand 55 = .ok (.aload_n 0, 1) := by decide +kernel
theorem d_M_understand_56 : decode b_M_understand 56 = .ok (.aload_n 0, 1) := by decide +kernel
theorem d_M_understand_57 : decode b_M_understand 57 = .ok (.bipush 13, 2) := by decide +kernel
theorem d_M_understand_59 : decode b_M_understand 59 = .ok (.iconst 3, 1) := by decide +kernel
theorem d_M_understand_60 : decode b_M_understand 60 = .ok (.invokevirtual 181, 3) := by decide +kernel
theorem d_M_understand_63 : decode b_M_understand 63 = .ok (.putfield 89, 3) := by decide +kernel
theorem d_M_understand_66 : decode b_M_understand 66 = .ok (.iload_n 1, 1) := by decide +kernel
theorem d_M_understand_67 : decode b_M_understand 67 = .ok (.ifCond .eq 10, 3) := by decide +kernel
theorem d_M_understand_70 : decode b_M_understand 70 = .ok (.aload_n 0, 1) := by decide +kernel
theorem d_M_understand_71 : decode b_M_understand 71 = .ok (.invokevirtual 336, 3) := by decide +kernel
theorem d_M_understand_74 : decode b_M_understand 74 = .ok (.goto 40, 3) := by decide +kernel
theorem d_M_understand_77 : decode b_M_understand 77 = .ok (.aload_n 0, 1) := by decide +kernel
theorem d_M_understand_78 : decode b_M_understand 78 = .ok (.getfield 30, 3) := by decide +kernel
theorem d_M_understand_81 : decode b_M_understand 81 = .ok (.iconst 3, 1) := by decide +kernel
theorem d_M_understand_82 : decode b_M_understand 82 = .ok (.iand, 1) := by decide +kernel
theorem d_M_understand_83 : decode b_M_understand 83 = .ok (.ifCond .ne 10, 3) := by decide +kernel
theorem d_M_understand_86 : decode b_M_understand 86 = .ok (.aload_n 0, 1) := by decide +kernel
theorem d_M_understand_87 : decode b_M_understand 87 = .ok (.invokevirtual 339, 3) := by decide +kernel
theorem d_M_understand_90 : decode b_M_understand 90 = .ok (.goto 24, 3) := by decide +kernel
theorem d_M_understand_93 : decode b_M_understand 93 = .ok (.aload_n 0, 1) := by decide +kernel
theorem d_M_understand_94 : decode b_M_understand 94 = .ok (.getfield 30, 3) := by decide +kernel
theorem d_M_understand_97 : decode b_M_understand 97 = .ok (.iconst 3, 1) := by decide +kernel
theorem d_M_understand_98 : decode b_M_understand 98 = .ok (.iand, 1) := by decide +kernel
theorem d_M_understand_99 : decode b_M_understand 99 = .ok (.iconst 1, 1) := by decide +kernel
theorem d_M_understand_100 : decode b_M_understand 100 = .ok (.if_icmp .ne 10, 3) := by decide +kernel
theorem d_M_understand_103 : decode b_M_understand 103 = .ok (.aload_n 0, 1) := by decide +kernel
theorem d_M_understand_104 : decode b_M_understand 104 = .ok (.invokevirtual 342, 3) := by decide +kernel
theorem d_M_understand_107 : decode b_M_understand 107 = .ok (.goto 7, 3) := by decide +kernel
theorem d_M_understand_110 : decode b_M_understand 110 = .ok (.aload_n 0, 1) := by decide +kernel
theorem d_M_understand_111 : decode b_M_understand 111 = .ok (.invokevirtual 345, 3) := by decide +kernel
theorem d_M_understand_114 : decode b_M_understand 114 = .ok (.aload_n 0, 1) := by decide +kernel
theorem d_M_understand_115 : decode b_M_understand 115 = .ok (.getfield 52, 3) := by decide +kernel
theorem d_M_understand_118 : decode b_M_understand 118 = .ok (.ifCond .eq 4, 3) := by decide +kernel
theorem d_M_understand_121 : decode b_M_understand 121 = .ok (.return_, 1) := by decide +kernel
theorem d_M_understand_122 : decode b_M_understand 122 = .ok (.aload_n 0, 1) := by decide +kernel
theorem d_M_understand_123 : decode b_M_understand 123 = .ok (.iload_n 1, 1) := by decide +kernel
theorem d_M_understand_124 : decode b_M_understand 124 = .ok (.ifCond .eq 9, 3) := by decide +kernel
theorem d_M_understand_127 : decode b_M_understand 127 = .ok (.ldc2_w 348, 3) := by decide +kernel
theorem d_M_understand_130 : decode b_M_understand 130 = .ok (.goto 6, 3) := by decide +kernel
theorem d_M_understand_133 : decode b_M_understand 133 = .ok (.ldc2_w 350, 3) := by decide +kernel
theorem d_M_understand_136 : decode b_M_understand 136 = .ok (.invokevirtual 59, 3) := by decide +kernel
theorem d_M_understand_139 : decode b_M_understand 139 = .ok (.aload_n 0, 1) := by decide +kernel
theorem d_M_understand_140 : decode b_M_understand 140 = .ok (.invokevirtual 62, 3) := by decide +kernel
theorem d_M_understand_143 : decode b_M_understand 143 = .ok (.aload_n 0, 1) := by decide +kernel
theorem d_M_understand_144 : decode b_M_understand 144 = .ok (.aload_n 0, 1) := by decide +kernel
theorem d_M_understand_145 : decode b_M_understand 145 = .ok (.getfield 30, 3) := by decide +kernel
theorem d_M_understand_148 : decode b_M_understand 148 = .ok (.i2l, 1) := by decide +kernel
theorem d_M_understand_149 : decode b_M_understand 149 = .ok (.ldc2_w 352, 3) := by decide +kernel
theorem d_M_understand_152 : decode b_M_understand 152 = .ok (.land, 1) := by decide +kernel
theorem d_M_understand_153 : decode b_M_understand 153 = .ok (.invokevirtual 48, 3) := by decide +kernel
theorem d_M_understand_156 : decode b_M_understand 156 = .ok (.return_, 1) := by decide +kernel
theorem d_M_part_0 : decode b_M_part 0 = .ok (.aload_n 0, 1) := by decide +kernel
theorem d_M_part_1 : decode b_M_part 1 = .ok (.getfield 30, 3) := by decide +kernel
theorem d_M_part_4 : decode b_M_part 4 = .ok (.iload_n 1, 1) := by decide +kernel
theorem d_M_part_5 : decode b_M_part 5 = .ok (.iushr, 1) := by decide +kernel
theorem d_M_part_6 : decode b_M_part 6 = .ok (.iconst 1, 1) := by decide +kernel
theorem d_M_part_7 : decode b_M_part 7 = .ok (.iload_n 2, 1) := by decide +kernel
theorem d_M_part_8 : decode b_M_part 8 = .ok (.ishl, 1) := by decide +kernel
theorem d_M_part_9 : decode b_M_part 9 = .ok (.iconst 1, 1) := by decide +kernel
theorem d_M_part_10 : decode b_M_part 10 = .ok (.isub, 1) := by decide +kernel
theorem d_M_part_11 : decode b_M_part 11 = .ok (.iand, 1) := by decide +kernel
theorem d_M_part_12 : decode b_M_part 12 = .ok (.ireturn, 1) := by decide +kernel
theorem d_M_longOne_0 : decode b_M_longOne 0 = .ok (.aload_n 0, 1) := by decide +kernel
theorem d_M_longOne_1 : decode b_M_longOne 1 = .ok (.aload_n 0, 1) := by decide +kernel
theorem d_M_longOne_2 : decode b_M_longOne 2 = .ok (.bipush 7, 2) := by decide +kernel
theorem d_M_longOne_4 : decode b_M_longOne 4 = .ok (.iconst 5, 1) := by decide +kernel
theorem d_M_longOne_5 : decode b_M_longOne 5 = .ok (.invokevirtual 181, 3) := by decide +kernel
theorem d_M_longOne_8 : decode b_M_longOne 8 = .ok (.putfield 77, 3) := by decide +kernel
theorem d_M_longOne_11 : decode b_M_longOne 11 = .ok (.aload_n 0, 1) := by decide +kernel
theorem d_M_longOne_12 : decode b_M_longOne 12 = .ok (.aload_n 0, 1) := by decide +kernel
theorem d_M_longOne_13 : decode b_M_longOne 13 = .ok (.bipush 12, 2) := by decide +kernel
theorem d_M_longOne_15 : decode b_M_longOne 15 = .ok (.iconst 3, 1) := by decide +kernel
theorem d_M_longOne_16 : decode b_M_longOne 16 = .ok (.invokevirtual 181, 3) := by decide +kernel
theorem d_M_longOne_19 : decode b_M_longOne 19 = .ok (.putfield 89, 3) := by decide +kernel
theorem d_M_longOne_22 : decode b_M_longOne 22 = .ok (.aload_n 0, 1) := by decide +kernel
theorem d_M_longOne_23 : decode b_M_longOne 23 = .ok (.aload_n 0, 1) := by decide +kernel
theorem d_M_longOne_24 : decode b_M_longOne 24 = .ok (.bipush 15, 2) := by decide +kernel
theorem d_M_longOne_26 : decode b_M_longOne 26 = .ok (.iconst 5, 1) := by decide +kernel
theorem d_M_longOne_27 : decode b_M_longOne 27 = .ok (.invokevirtual 181, 3) := by decide +kernel
theorem d_M_longOne_30 : decode b_M_longOne 30 = .ok (.putfield 83, 3) := by decide +kernel
theorem d_M_longOne_33 : decode b_M_longOne 33 = .ok (.aload_n 0, 1) := by decide +kernel
theorem d_M_longOne_34 : decode b_M_longOne 34 = .ok (.aload_n 0, 1) := by decide +kernel
theorem d_M_longOne_35 : decode b_M_longOne 35 = .ok (.bipush 20, 2) := by decide +kernel
theorem d_M_longOne_37 : decode b_M_longOne 37 = .ok (.iconst 5, 1) := by decide +kernel
theorem d_M_longOne_38 : decode b_M_longOne 38 = .ok (.invokevirtual 181, 3) := by decide +kernel
theorem d_M_longOne_41 : decode b_M_longOne 41 = .ok (.putfield 86, 3) := by decide +kernel
theorem d_M_longOne_44 : decode b_M_longOne 44 = .ok (.aload_n 0, 1) := by decide +kernel
theorem d_M_longOne_45 : decode b_M_longOne 45 = .ok (.bipush 25, 2) := by decide +kernel
theorem d_M_longOne_47 : decode b_M_longOne 47 = .ok (.bipush 7, 2) := by decide +kernel
theorem d_M_longOne_49 : decode b_M_longOne 49 = .ok (.invokevirtual 181, 3) := by decide +kernel
theorem d_M_longOne_52 : decode b_M_longOne 52 = .ok (.istore_n 1, 1) := by decide +kernel
theorem d_M_longOne_53 : decode b_M_longOne 53 = .ok (.aload_n 0, 1) := by decide +kernel
theorem d_M_longOne_54 : decode b_M_longOne 54 = .ok (.getfield 30, 3) := by decide +kernel
theorem d_M_longOne_57 : decode b_M_longOne 57 = .ok (.bipush 127, 2) := by decide +kernel
theorem d_M_longOne_59 : decode b_M_longOne 59 = .ok (.iand, 1) := by decide +kernel
theorem d_M_longOne_60 : decode b_M_longOne 60 = .ok (.lookupswitch 126 #[(3, 84), (19, 76), (35, 91), (47, 105), (51, 68), (99, 98), (115, 119)], 68) := by decide +kernel
theorem d_M_longOne_128 : decode b_M_longOne 128 = .ok (.aload_n 0, 1) := by decide +kernel
theorem d_M_longOne_129 : decode b_M_longOne 129 = .ok (.iload_n 1, 1) := by decide +kernel
theorem d_M_longOne_130 : decode b_M_longOne 130 = .ok (.invokevirtual 225, 3) := by decide +kernel
theorem d_M_longOne_133 : decode b_M_longOne 133 = .ok (.goto 57, 3) := by decide +kernel
theorem d_M_longOne_136 : decode b_M_longOne 136 = .ok (.aload_n 0, 1) := by decide +kernel
theorem d_M_longOne_137 : decode b_M_longOne 137 = .ok (.iload_n 1, 1) := by decide +kernel
theorem d_M_longOne_138 : decode b_M_longOne 138 = .ok (.invokevirtual 228, 3) := by decide +kernel
theorem d_M_longOne_141 : decode b_M_longOne 141 = .ok (.goto 49, 3) := by decide +kernel
theorem d_M_longOne_144 : decode b_M_longOne 144 = .ok (.aload_n 0, 1) := by decide +kernel
theorem d_M_longOne_145 : decode b_M_longOne 145 = .ok (.invokevirtual 231, 3) := by decide +kernel
theorem d_M_longOne_148 : decode b_M_longOne 148 = .ok (.goto 42, 3) := by decide +kernel
theorem d_M_longOne_151 : decode b_M_longOne 151 = .ok (.aload_n 0, 1) := by decide +kernel
theorem d_M_longOne_152 : decode b_M_longOne 152 = .ok (.invokevirtual 234, 3) := by decide +kernel
theorem d_M_longOne_155 : decode b_M_longOne 155 = .ok (.goto 35, 3) := by decide +kernel
theorem d_M_longOne_158 : decode b_M_longOne 158 = .ok (.aload_n 0, 1) := by decide +kernel
theorem d_M_longOne_159 : decode b_M_longOne 159 = .ok (.invokevirtual 237, 3) := by decide +kernel
theorem d_M_longOne_162 : decode b_M_longOne 162 = .ok (.goto 28, 3) := by decide +kernel
theorem d_M_longOne_165 : decode b_M_longOne 165 = .ok (.aload_n 0, 1) := by decide +kernel
theorem d_M_longOne_166 : decode b_M_longOne 166 = .ok (.aload_n 0, 1) := by decide +kernel
theorem d_M_longOne_167 : decode b_M_longOne 167 = .ok (.bipush 27, 2) := by decide +kernel
theorem d_M_longOne_169 : decode b_M_longOne 169 = .ok (.iconst 5, 1) := by decide +kernel
theorem d_M_longOne_170 : decode b_M_longOne 170 = .ok (.invokevirtual 181, 3) := by decide +kernel
theorem d_M_longOne_173 : decode b_M_longOne 173 = .ok (.invokevirtual 240, 3) := by decide +kernel
theorem d_M_longOne_176 : decode b_M_longOne 176 = .ok (.goto 14, 3) := by decide +kernel
theorem d_M_longOne_179 : decode b_M_longOne 179 = .ok (.aload_n 0, 1) := by decide +kernel
theorem d_M_longOne_180 : decode b_M_longOne 180 = .ok (.invokevirtual 243, 3) := by decide +kernel
theorem d_M_longOne_183 : decode b_M_longOne 183 = .ok (.goto 7, 3) := by decide +kernel
theorem d_M_longOne_186 : decode b_M_longOne 186 = .ok (.aload_n 0, 1) := by decide +kernel
theorem d_M_longOne_187 : decode b_M_longOne 187 = .ok (.invokevirtual 246, 3) := by decide +kernel
theorem d_M_longOne_190 : decode b_M_longOne 190 = .ok (.return_, 1) := by decide +kernel
theorem d_M_plain_0 : decode b_M_plain 0 = .ok (.iload_n 1, 1) := by decide +kernel
theorem d_M_plain_1 : decode b_M_plain 1 = .ok (.ifCond .ne 111, 3) := by decide +kernel
theorem d_M_plain_4 : decode b_M_plain 4 = .ok (.aload_n 0, 1) := by decide +kernel
theorem d_M_plain_5 : decode b_M_plain 5 = .ok (.aload_n 0, 1) := by decide +kernel
theorem d_M_plain_6 : decode b_M_plain 6 = .ok (.getfield 89, 3) := by decide +kernel
theorem d_M_plain_9 : decode b_M_plain 9 = .ok (.ifCond .ne 9, 3) := by decide +kernel
theorem d_M_plain_12 : decode b_M_plain 12 = .ok (.ldc2_w 92, 3) := by decide +kernel
theorem d_M_plain_15 : decode b_M_plain 15 = .ok (.goto 91, 3) := by decide +kernel
theorem d_M_plain_18 : decode b_M_plain 18 = .ok (.aload_n 0, 1) := by decide +kernel
theorem d_M_plain_19 : decode b_M_plain 19 = .ok (.getfield 89, 3) := by decide +kernel
theorem d_M_plain_22 : decode b_M_plain 22 = .ok (.iconst 1, 1) := by decide +kernel
theorem d_M_plain_23 : decode b_M_plain 23 = .ok (.if_icmp .ne 9, 3) := by decide +kernel
theorem d_M_plain_26 : decode b_M_plain 26 = .ok (.ldc2_w 94, 3) := by decide +kernel
theorem d_M_plain_29 : decode b_M_plain 29 = .ok (.goto 77, 3) := by decide +kernel
theorem d_M_plain_32 : decode b_M_plain 32 = .ok (.aload_n 0, 1) := by decide +kernel
theorem d_M_plain_33 : decode b_M_plain 33 = .ok (.getfield 89, 3) := by decide +kernel
theorem d_M_plain_36 : decode b_M_plain 36 = .ok (.iconst 2, 1) := by decide +kernel
theorem d_M_plain_37 : decode b_M_plain 37 = .ok (.if_icmp .ne 9, 3) := by decide +kernel
theorem d_M_plain_40 : decode b_M_plain 40 = .ok (.ldc2_w 96, 3) := by decide +kernel
theorem d_M_plain_43 : decode b_M_plain 43 = .ok (.goto 63, 3) := by decide +kernel
theorem d_M_plain_46 : decode b_M_plain 46 = .ok (.aload_n 0, 1) := by decide +kernel
theorem d_M_plain_47 : decode b_M_plain 47 = .ok (.getfield 89, 3) := by decide +kernel
theorem d_M_plain_50 : decode b_M_plain 50 = .ok (.iconst 3, 1) := by decide +kernel
theorem d_M_plain_51 : decode b_M_plain 51 = .ok (.if_icmp .ne 9, 3) := by decide +kernel
theorem d_M_plain_54 : decode b_M_plain 54 = .ok (.ldc2_w 98, 3) := by decide +kernel
theorem d_M_plain_57 : decode b_M_plain 57 = .ok (.goto 49, 3) := by decide +kernel
theorem d_M_plain_60 : decode b_M_plain 60 = .ok (.aload_n 0, 1) := by decide +kernel
theorem d_M_plain_61 : decode b_M_plain 61 = .ok (.getfield 89, 3) := by decide +kernel
theorem d_M_plain_64 : decode b_M_plain 64 = .ok (.iconst 4, 1) := by decide +kernel
theorem d_M_plain_65 : decode b_M_plain 65 = .ok (.if_icmp .ne 9, 3) := by decide +kernel
theorem d_M_plain_68 : decode b_M_plain 68 = .ok (.ldc2_w 100, 3) := by decide +kernel
theorem d_M_plain_71 : decode b_M_plain 71 = .ok (.goto 35, 3) := by decide +kernel
