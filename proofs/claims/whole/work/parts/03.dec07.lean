theorem d_M_about_33 : decode b_M_about 33 = .ok (.aload_n 0, 1) := by decide +kernel
theorem d_M_about_34 : decode b_M_about 34 = .ok (.getfield 52, 3) := by decide +kernel
theorem d_M_about_37 : decode b_M_about 37 = .ok (.ifCond .eq 7, 3) := by decide +kernel
theorem d_M_about_40 : decode b_M_about 40 = .ok (.iconst 1, 1) := by decide +kernel
theorem d_M_about_41 : decode b_M_about 41 = .ok (.goto 20, 3) := by decide +kernel
theorem d_M_about_44 : decode b_M_about 44 = .ok (.iconst 0, 1) := by decide +kernel
theorem d_M_about_45 : decode b_M_about 45 = .ok (.goto 16, 3) := by decide +kernel
theorem d_M_about_48 : decode b_M_about 48 = .ok (.iload_n 1, 1) := by decide +kernel
theorem d_M_about_49 : decode b_M_about 49 = .ok (.iconst 3, 1) := by decide +kernel
theorem d_M_about_50 : decode b_M_about 50 = .ok (.if_icmp .ne 10, 3) := by decide +kernel
theorem d_M_about_53 : decode b_M_about 53 = .ok (.aload_n 0, 1) := by decide +kernel
theorem d_M_about_54 : decode b_M_about 54 = .ok (.getfield 56, 3) := by decide +kernel
theorem d_M_about_57 : decode b_M_about 57 = .ok (.goto 4, 3) := by decide +kernel
theorem d_M_about_60 : decode b_M_about 60 = .ok (.iconst (-1), 1) := by decide +kernel
theorem d_M_about_61 : decode b_M_about 61 = .ok (.ireturn, 1) := by decide +kernel
theorem d_M_poke_0 : decode b_M_poke 0 = .ok (.aload_n 0, 1) := by decide +kernel
theorem d_M_poke_1 : decode b_M_poke 1 = .ok (.iload_n 1, 1) := by decide +kernel
theorem d_M_poke_2 : decode b_M_poke 2 = .ok (.invokevirtual 358, 3) := by decide +kernel
theorem d_M_poke_5 : decode b_M_poke 5 = .ok (.ifCond .ne 14, 3) := by decide +kernel
theorem d_M_poke_8 : decode b_M_poke 8 = .ok (.aload_n 0, 1) := by decide +kernel
theorem d_M_poke_9 : decode b_M_poke 9 = .ok (.getfield 13, 3) := by decide +kernel
theorem d_M_poke_12 : decode b_M_poke 12 = .ok (.iload_n 1, 1) := by decide +kernel
theorem d_M_poke_13 : decode b_M_poke 13 = .ok (.iload_n 2, 1) := by decide +kernel
theorem d_M_poke_14 : decode b_M_poke 14 = .ok (.sipush 255, 3) := by decide +kernel
theorem d_M_poke_17 : decode b_M_poke 17 = .ok (.iand, 1) := by decide +kernel
theorem d_M_poke_18 : decode b_M_poke 18 = .ok (.iastore, 1) := by decide +kernel
theorem d_M_poke_19 : decode b_M_poke 19 = .ok (.return_, 1) := by decide +kernel
theorem d_M_refuses_0 : decode b_M_refuses 0 = .ok (.aload_n 0, 1) := by decide +kernel
theorem d_M_refuses_1 : decode b_M_refuses 1 = .ok (.iload_n 1, 1) := by decide +kernel
theorem d_M_refuses_2 : decode b_M_refuses 2 = .ok (.ifCond .lt 10, 3) := by decide +kernel
theorem d_M_refuses_5 : decode b_M_refuses 5 = .ok (.iload_n 1, 1) := by decide +kernel
theorem d_M_refuses_6 : decode b_M_refuses 6 = .ok (.sipush 255, 3) := by decide +kernel
theorem d_M_refuses_9 : decode b_M_refuses 9 = .ok (.if_icmp .le 7, 3) := by decide +kernel
theorem d_M_refuses_12 : decode b_M_refuses 12 = .ok (.iconst 1, 1) := by decide +kernel
theorem d_M_refuses_13 : decode b_M_refuses 13 = .ok (.goto 4, 3) := by decide +kernel
theorem d_M_refuses_16 : decode b_M_refuses 16 = .ok (.iconst 0, 1) := by decide +kernel
theorem d_M_refuses_17 : decode b_M_refuses 17 = .ok (.putfield 26, 3) := by decide +kernel
theorem d_M_refuses_20 : decode b_M_refuses 20 = .ok (.aload_n 0, 1) := by decide +kernel
theorem d_M_refuses_21 : decode b_M_refuses 21 = .ok (.getfield 26, 3) := by decide +kernel
theorem d_M_refuses_24 : decode b_M_refuses 24 = .ok (.ifCond .le 7, 3) := by decide +kernel
theorem d_M_refuses_27 : decode b_M_refuses 27 = .ok (.iconst 1, 1) := by decide +kernel
theorem d_M_refuses_28 : decode b_M_refuses 28 = .ok (.goto 4, 3) := by decide +kernel
theorem d_M_refuses_31 : decode b_M_refuses 31 = .ok (.iconst 0, 1) := by decide +kernel
theorem d_M_refuses_32 : decode b_M_refuses 32 = .ok (.ireturn, 1) := by decide +kernel
theorem d_M_at_0 : decode b_M_at 0 = .ok (.aload_n 0, 1) := by decide +kernel
theorem d_M_at_1 : decode b_M_at 1 = .ok (.iload_n 1, 1) := by decide +kernel
theorem d_M_at_2 : decode b_M_at 2 = .ok (.invokevirtual 358, 3) := by decide +kernel
theorem d_M_at_5 : decode b_M_at 5 = .ok (.ifCond .ne 16, 3) := by decide +kernel
theorem d_M_at_8 : decode b_M_at 8 = .ok (.iload_n 1, 1) := by decide +kernel
theorem d_M_at_9 : decode b_M_at 9 = .ok (.aload_n 0, 1) := by decide +kernel
theorem d_M_at_10 : decode b_M_at 10 = .ok (.iload_n 1, 1) := by decide +kernel
theorem d_M_at_11 : decode b_M_at 11 = .ok (.invokevirtual 362, 3) := by decide +kernel
theorem d_M_at_14 : decode b_M_at 14 = .ok (.iadd, 1) := by decide +kernel
theorem d_M_at_15 : decode b_M_at 15 = .ok (.sipush 256, 3) := by decide +kernel
theorem d_M_at_18 : decode b_M_at 18 = .ok (.if_icmp .le 5, 3) := by decide +kernel
theorem d_M_at_21 : decode b_M_at 21 = .ok (.iconst 0, 1) := by decide +kernel
theorem d_M_at_22 : decode b_M_at 22 = .ok (.ireturn, 1) := by decide +kernel
theorem d_M_at_23 : decode b_M_at 23 = .ok (.aload_n 0, 1) := by decide +kernel
theorem d_M_at_24 : decode b_M_at 24 = .ok (.aload_n 0, 1) := by decide +kernel
theorem d_M_at_25 : decode b_M_at 25 = .ok (.iload_n 1, 1) := by decide +kernel
theorem d_M_at_26 : decode b_M_at 26 = .ok (.invokevirtual 366, 3) := by decide +kernel
theorem d_M_at_29 : decode b_M_at 29 = .ok (.putfield 30, 3) := by decide +kernel
theorem d_M_at_32 : decode b_M_at 32 = .ok (.aload_n 0, 1) := by decide +kernel
theorem d_M_at_33 : decode b_M_at 33 = .ok (.invokevirtual 355, 3) := by decide +kernel
theorem d_M_at_36 : decode b_M_at 36 = .ok (.aload_n 0, 1) := by decide +kernel
theorem d_M_at_37 : decode b_M_at 37 = .ok (.getfield 333, 3) := by decide +kernel
theorem d_M_at_40 : decode b_M_at 40 = .ok (.ireturn, 1) := by decide +kernel
theorem d_M_long4_0 : decode b_M_long4 0 = .ok (.aload_n 0, 1) := by decide +kernel
theorem d_M_long4_1 : decode b_M_long4 1 = .ok (.getfield 13, 3) := by decide +kernel
theorem d_M_long4_4 : decode b_M_long4 4 = .ok (.iload_n 1, 1) := by decide +kernel
theorem d_M_long4_5 : decode b_M_long4 5 = .ok (.iaload, 1) := by decide +kernel
theorem d_M_long4_6 : decode b_M_long4 6 = .ok (.iconst 3, 1) := by decide +kernel
theorem d_M_long4_7 : decode b_M_long4 7 = .ok (.iand, 1) := by decide +kernel
theorem d_M_long4_8 : decode b_M_long4 8 = .ok (.iconst 3, 1) := by decide +kernel
theorem d_M_long4_9 : decode b_M_long4 9 = .ok (.if_icmp .ne 7, 3) := by decide +kernel
theorem d_M_long4_12 : decode b_M_long4 12 = .ok (.iconst 4, 1) := by decide +kernel
theorem d_M_long4_13 : decode b_M_long4 13 = .ok (.goto 4, 3) := by decide +kernel
theorem d_M_long4_16 : decode b_M_long4 16 = .ok (.iconst 2, 1) := by decide +kernel
theorem d_M_long4_17 : decode b_M_long4 17 = .ok (.ireturn, 1) := by decide +kernel
theorem d_M_take_0 : decode b_M_take 0 = .ok (.aload_n 0, 1) := by decide +kernel
theorem d_M_take_1 : decode b_M_take 1 = .ok (.getfield 13, 3) := by decide +kernel
theorem d_M_take_4 : decode b_M_take 4 = .ok (.iload_n 1, 1) := by decide +kernel
theorem d_M_take_5 : decode b_M_take 5 = .ok (.iaload, 1) := by decide +kernel
theorem d_M_take_6 : decode b_M_take 6 = .ok (.aload_n 0, 1) := by decide +kernel
theorem d_M_take_7 : decode b_M_take 7 = .ok (.getfield 13, 3) := by decide +kernel
theorem d_M_take_10 : decode b_M_take 10 = .ok (.iload_n 1, 1) := by decide +kernel
theorem d_M_take_11 : decode b_M_take 11 = .ok (.iconst 1, 1) := by decide +kernel
theorem d_M_take_12 : decode b_M_take 12 = .ok (.iadd, 1) := by decide +kernel
theorem d_M_take_13 : decode b_M_take 13 = .ok (.iaload, 1) := by decide +kernel
theorem d_M_take_14 : decode b_M_take 14 = .ok (.bipush 8, 2) := by decide +kernel
theorem d_M_take_16 : decode b_M_take 16 = .ok (.ishl, 1) := by decide +kernel
theorem d_M_take_17 : decode b_M_take 17 = .ok (.ior, 1) := by decide +kernel
theorem d_M_take_18 : decode b_M_take 18 = .ok (.istore_n 2, 1) := by decide +kernel
theorem d_M_take_19 : decode b_M_take 19 = .ok (.aload_n 0, 1) := by decide +kernel
theorem d_M_take_20 : decode b_M_take 20 = .ok (.iload_n 1, 1) := by decide +kernel
theorem d_M_take_21 : decode b_M_take 21 = .ok (.invokevirtual 362, 3) := by decide +kernel
theorem d_M_take_24 : decode b_M_take 24 = .ok (.iconst 2, 1) := by decide +kernel
theorem d_M_take_25 : decode b_M_take 25 = .ok (.if_icmp .ne 7, 3) := by decide +kernel
theorem d_M_take_28 : decode b_M_take 28 = .ok (.iload_n 2, 1) := by decide +kernel
theorem d_M_take_29 : decode b_M_take 29 = .ok (.goto 28, 3) := by decide +kernel
theorem d_M_take_32 : decode b_M_take 32 = .ok (.iload_n 2, 1) := by decide +kernel
theorem d_M_take_33 : decode b_M_take 33 = .ok (.aload_n 0, 1) := by decide +kernel
theorem d_M_take_34 : decode b_M_take 34 = .ok (.getfield 13, 3) := by decide +kernel
theorem d_M_take_37 : decode b_M_take 37 = .ok (.iload_n 1, 1) := by decide +kernel
theorem d_M_take_38 : decode b_M_take 38 = .ok (.iconst 2, 1) := by decide +kernel
theorem d_M_take_39 : decode b_M_take 39 = .ok (.iadd, 1) := by decide +kernel
theorem d_M_take_40 : decode b_M_take 40 = .ok (.iaload, 1) := by decide +kernel
theorem d_M_take_41 : decode b_M_take 41 = .ok (.bipush 16, 2) := by decide +kernel
theorem d_M_take_43 : decode b_M_take 43 = .ok (.ishl, 1) := by decide +kernel
theorem d_M_take_44 : decode b_M_take 44 = .ok (.ior, 1) := by decide +kernel
theorem d_M_take_45 : decode b_M_take 45 = .ok (.aload_n 0, 1) := by decide +kernel
theorem d_M_take_46 : decode b_M_take 46 = .ok (.getfield 13, 3) := by decide +kernel
theorem d_M_take_49 : decode b_M_take 49 = .ok (.iload_n 1, 1) := by decide +kernel
theorem d_M_take_50 : decode b_M_take 50 = .ok (.iconst 3, 1) := by decide +kernel
theorem d_M_take_51 : decode b_M_take 51 = .ok (.iadd, 1) := by decide +kernel
theorem d_M_take_52 : decode b_M_take 52 = .ok (.iaload, 1) := by decide +kernel
theorem d_M_take_53 : decode b_M_take 53 = .ok (.bipush 24, 2) := by decide +kernel
theorem d_M_take_55 : decode b_M_take 55 = .ok (.ishl, 1) := by decide +kernel
theorem d_M_take_56 : decode b_M_take 56 = .ok (.ior, 1) := by decide +kernel
theorem d_M_take_57 : decode b_M_take 57 = .ok (.ireturn, 1) := by decide +kernel
theorem d_M_next2_0 : decode b_M_next2 0 = .ok (.aload_n 0, 1) := by decide +kernel
theorem d_M_next2_1 : decode b_M_next2 1 = .ok (.iload_n 1, 1) := by decide +kernel
theorem d_M_next2_2 : decode b_M_next2 2 = .ok (.invokevirtual 358, 3) := by decide +kernel
theorem d_M_next2_5 : decode b_M_next2 5 = .ok (.ifCond .eq 5, 3) := by decide +kernel
theorem d_M_next2_8 : decode b_M_next2 8 = .ok (.iconst 0, 1) := by decide +kernel
theorem d_M_next2_9 : decode b_M_next2 9 = .ok (.ireturn, 1) := by decide +kernel
theorem d_M_next2_10 : decode b_M_next2 10 = .ok (.aload_n 0, 1) := by decide +kernel
theorem d_M_next2_11 : decode b_M_next2 11 = .ok (.iload_n 2, 1) := by decide +kernel
theorem d_M_next2_12 : decode b_M_next2 12 = .ok (.ifCond .ge 7, 3) := by decide +kernel
theorem d_M_next2_15 : decode b_M_next2 15 = .ok (.iconst 2, 1) := by decide +kernel
theorem d_M_next2_16 : decode b_M_next2 16 = .ok (.goto 4, 3) := by decide +kernel
theorem d_M_next2_19 : decode b_M_next2 19 = .ok (.iconst 0, 1) := by decide +kernel
theorem d_M_next2_20 : decode b_M_next2 20 = .ok (.putfield 26, 3) := by decide +kernel
theorem d_M_next2_23 : decode b_M_next2 23 = .ok (.iload_n 2, 1) := by decide +kernel
theorem d_M_next2_24 : decode b_M_next2 24 = .ok (.ifCond .ge 5, 3) := by decide +kernel
theorem d_M_next2_27 : decode b_M_next2 27 = .ok (.iconst 0, 1) := by decide +kernel
theorem d_M_next2_28 : decode b_M_next2 28 = .ok (.ireturn, 1) := by decide +kernel
theorem d_M_next2_29 : decode b_M_next2 29 = .ok (.iload_n 1, 1) := by decide +kernel
theorem d_M_next2_30 : decode b_M_next2 30 = .ok (.istore_n 3, 1) := by decide +kernel
theorem d_M_next2_31 : decode b_M_next2 31 = .ok (.iconst 0, 1) := by decide +kernel
theorem d_M_next2_32 : decode b_M_next2 32 = .ok (.istore 4, 2) := by decide +kernel
theorem d_M_next2_34 : decode b_M_next2 34 = .ok (.iload 4, 2) := by decide +kernel
theorem d_M_next2_36 : decode b_M_next2 36 = .ok (.iload_n 2, 1) := by decide +kernel
theorem d_M_next2_37 : decode b_M_next2 37 = .ok (.if_icmp .ge 24, 3) := by decide +kernel
theorem d_M_next2_40 : decode b_M_next2 40 = .ok (.iload_n 3, 1) := by decide +kernel
theorem d_M_next2_41 : decode b_M_next2 41 = .ok (.sipush 255, 3) := by decide +kernel
theorem d_M_next2_44 : decode b_M_next2 44 = .ok (.if_icmp .ge 17, 3) := by decide +kernel
theorem d_M_next2_47 : decode b_M_next2 47 = .ok (.iload_n 3, 1) := by decide +kernel
theorem d_M_next2_48 : decode b_M_next2 48 = .ok (.aload_n 0, 1) := by decide +kernel
theorem d_M_next2_49 : decode b_M_next2 49 = .ok (.iload_n 3, 1) := by decide +kernel
theorem d_M_next2_50 : decode b_M_next2 50 = .ok (.invokevirtual 362, 3) := by decide +kernel
theorem d_M_next2_53 : decode b_M_next2 53 = .ok (.iadd, 1) := by decide +kernel
theorem d_M_next2_54 : decode b_M_next2 54 = .ok (.istore_n 3, 1) := by decide +kernel
theorem d_M_next2_55 : decode b_M_next2 55 = .ok (.iinc 4 1, 3) := by decide +kernel
theorem d_M_next2_58 : decode b_M_next2 58 = .ok (.goto (-24), 3) := by decide +kernel
theorem d_M_next2_61 : decode b_M_next2 61 = .ok (.iload_n 3, 1) := by decide +kernel
theorem d_M_next2_62 : decode b_M_next2 62 = .ok (.sipush 255, 3) := by decide +kernel
theorem d_M_next2_65 : decode b_M_next2 65 = .ok (.if_icmp .ge 7, 3) := by decide +kernel
theorem d_M_next2_68 : decode b_M_next2 68 = .ok (.iload_n 3, 1) := by decide +kernel
theorem d_M_next2_69 : decode b_M_next2 69 = .ok (.goto 4, 3) := by decide +kernel
theorem d_M_next2_72 : decode b_M_next2 72 = .ok (.iconst (-1), 1) := by decide +kernel
theorem d_M_next2_73 : decode b_M_next2 73 = .ok (.ireturn, 1) := by decide +kernel
theorem d_M_before_0 : decode b_M_before 0 = .ok (.aload_n 0, 1) := by decide +kernel
theorem d_M_before_1 : decode b_M_before 1 = .ok (.iload_n 1, 1) := by decide +kernel
theorem d_M_before_2 : decode b_M_before 2 = .ok (.invokevirtual 358, 3) := by decide +kernel
theorem d_M_before_5 : decode b_M_before 5 = .ok (.ifCond .ne 11, 3) := by decide +kernel
theorem d_M_before_8 : decode b_M_before 8 = .ok (.aload_n 0, 1) := by decide +kernel
theorem d_M_before_9 : decode b_M_before 9 = .ok (.iload_n 2, 1) := by decide +kernel
theorem d_M_before_10 : decode b_M_before 10 = .ok (.invokevirtual 358, 3) := by decide +kernel
theorem d_M_before_13 : decode b_M_before 13 = .ok (.ifCond .eq 5, 3) := by decide +kernel
theorem d_M_before_16 : decode b_M_before 16 = .ok (.iconst 0, 1) := by decide +kernel
theorem d_M_before_17 : decode b_M_before 17 = .ok (.ireturn, 1) := by decide +kernel
theorem d_M_before_18 : decode b_M_before 18 = .ok (.iconst (-1), 1) := by decide +kernel
theorem d_M_before_19 : decode b_M_before 19 = .ok (.istore_n 3, 1) := by decide +kernel
theorem d_M_before_20 : decode b_M_before 20 = .ok (.iload_n 1, 1) := by decide +kernel
theorem d_M_before_21 : decode b_M_before 21 = .ok (.istore 4, 2) := by decide +kernel
theorem d_M_before_23 : decode b_M_before 23 = .ok (.iload 4, 2) := by decide +kernel
theorem d_M_before_25 : decode b_M_before 25 = .ok (.iload_n 2, 1) := by decide +kernel
theorem d_M_before_26 : decode b_M_before 26 = .ok (.if_icmp .ge 28, 3) := by decide +kernel
theorem d_M_before_29 : decode b_M_before 29 = .ok (.iload 4, 2) := by decide +kernel
theorem d_M_before_31 : decode b_M_before 31 = .ok (.sipush 255, 3) := by decide +kernel
theorem d_M_before_34 : decode b_M_before 34 = .ok (.if_icmp .ge 20, 3) := by decide +kernel
theorem d_M_before_37 : decode b_M_before 37 = .ok (.iload 4, 2) := by decide +kernel
theorem d_M_before_39 : decode b_M_before 39 = .ok (.istore_n 3, 1) := by decide +kernel
theorem d_M_before_40 : decode b_M_before 40 = .ok (.iload 4, 2) := by decide +kernel
theorem d_M_before_42 : decode b_M_before 42 = .ok (.aload_n 0, 1) := by decide +kernel
theorem d_M_before_43 : decode b_M_before 43 = .ok (.iload 4, 2) := by decide +kernel
theorem d_M_before_45 : decode b_M_before 45 = .ok (.invokevirtual 362, 3) := by decide +kernel
theorem d_M_before_48 : decode b_M_before 48 = .ok (.iadd, 1) := by decide +kernel
theorem d_M_before_49 : decode b_M_before 49 = .ok (.istore 4, 2) := by decide +kernel
theorem d_M_before_51 : decode b_M_before 51 = .ok (.goto (-28), 3) := by decide +kernel
theorem d_M_before_54 : decode b_M_before 54 = .ok (.iload_n 3, 1) := by decide +kernel
theorem d_M_before_55 : decode b_M_before 55 = .ok (.ireturn, 1) := by decide +kernel
theorem d_M_numbers_0 : decode b_M_numbers 0 = .ok (.aload_n 0, 1) := by decide +kernel
theorem d_M_numbers_1 : decode b_M_numbers 1 = .ok (.iload_n 1, 1) := by decide +kernel
theorem d_M_numbers_2 : decode b_M_numbers 2 = .ok (.invokevirtual 358, 3) := by decide +kernel
theorem d_M_numbers_5 : decode b_M_numbers 5 = .ok (.ifCond .eq 5, 3) := by decide +kernel
theorem d_M_numbers_8 : decode b_M_numbers 8 = .ok (.iconst 0, 1) := by decide +kernel
theorem d_M_numbers_9 : decode b_M_numbers 9 = .ok (.ireturn, 1) := by decide +kernel
theorem d_M_numbers_10 : decode b_M_numbers 10 = .ok (.iconst 0, 1) := by decide +kernel
theorem d_M_numbers_11 : decode b_M_numbers 11 = .ok (.istore_n 2, 1) := by decide +kernel
theorem d_M_numbers_12 : decode b_M_numbers 12 = .ok (.iload_n 1, 1) := by decide +kernel
theorem d_M_numbers_13 : decode b_M_numbers 13 = .ok (.istore_n 3, 1) := by decide +kernel
theorem d_M_numbers_14 : decode b_M_numbers 14 = .ok (.aload_n 0, 1) := by decide +kernel
theorem d_M_numbers_15 : decode b_M_numbers 15 = .ok (.getfield 33, 3) := by decide +kernel
theorem d_M_numbers_18 : decode b_M_numbers 18 = .ok (.istore 4, 2) := by decide +kernel
theorem d_M_numbers_20 : decode b_M_numbers 20 = .ok (.aload_n 0, 1) := by decide +kernel
theorem d_M_numbers_21 : decode b_M_numbers 21 = .ok (.getfield 333, 3) := by decide +kernel
theorem d_M_numbers_24 : decode b_M_numbers 24 = .ok (.istore 5, 2) := by decide +kernel
theorem d_M_numbers_26 : decode b_M_numbers 26 = .ok (.aload_n 0, 1) := by decide +kernel
theorem d_M_numbers_27 : decode b_M_numbers 27 = .ok (.getfield 56, 3) := by decide +kernel
theorem d_M_numbers_30 : decode b_M_numbers 30 = .ok (.istore 6, 2) := by decide +kernel
theorem d_M_numbers_32 : decode b_M_numbers 32 = .ok (.aload_n 0, 1) := by decide +kernel
theorem d_M_numbers_33 : decode b_M_numbers 33 = .ok (.getfield 52, 3) := by decide +kernel
theorem d_M_numbers_36 : decode b_M_numbers 36 = .ok (.istore 7, 2) := by decide +kernel
theorem d_M_numbers_38 : decode b_M_numbers 38 = .ok (.iconst 0, 1) := by decide +kernel
theorem d_M_numbers_39 : decode b_M_numbers 39 = .ok (.istore 8, 2) := by decide +kernel
theorem d_M_numbers_41 : decode b_M_numbers 41 = .ok (.iload 8, 2) := by decide +kernel
theorem d_M_numbers_43 : decode b_M_numbers 43 = .ok (.aload_n 0, 1) := by decide +kernel
theorem d_M_numbers_44 : decode b_M_numbers 44 = .ok (.getfield 33, 3) := by decide +kernel
theorem d_M_numbers_47 : decode b_M_numbers 47 = .ok (.if_icmp .ge 23, 3) := by decide +kernel
theorem d_M_numbers_50 : decode b_M_numbers 50 = .ok (.aload_n 0, 1) := by decide +kernel
theorem d_M_numbers_51 : decode b_M_numbers 51 = .ok (.getfield 23, 3) := by decide +kernel
theorem d_M_numbers_54 : decode b_M_numbers 54 = .ok (.iload 8, 2) := by decide +kernel
theorem d_M_numbers_56 : decode b_M_numbers 56 = .ok (.aload_n 0, 1) := by decide +kernel
theorem d_M_numbers_57 : decode b_M_numbers 57 = .ok (.getfield 7, 3) := by decide +kernel
theorem d_M_numbers_60 : decode b_M_numbers 60 = .ok (.iload 8, 2) := by decide +kernel
theorem d_M_numbers_62 : decode b_M_numbers 62 = .ok (.caload, 1) := by decide +kernel
theorem d_M_numbers_63 : decode b_M_numbers 63 = .ok (.castore, 1) := by decide +kernel
theorem d_M_numbers_64 : decode b_M_numbers 64 = .ok (.iinc 8 1, 3) := by decide +kernel
theorem d_M_numbers_67 : decode b_M_numbers 67 = .ok (.goto (-26), 3) := by decide +kernel
theorem d_M_numbers_70 : decode b_M_numbers 70 = .ok (.iload_n 3, 1) := by decide +kernel
theorem d_M_numbers_71 : decode b_M_numbers 71 = .ok (.sipush 255, 3) := by decide +kernel
theorem d_M_numbers_74 : decode b_M_numbers 74 = .ok (.if_icmp .ge 54, 3) := by decide +kernel
theorem d_M_numbers_77 : decode b_M_numbers 77 = .ok (.iload_n 3, 1) := by decide +kernel
theorem d_M_numbers_78 : decode b_M_numbers 78 = .ok (.aload_n 0, 1) := by decide +kernel
theorem d_M_numbers_79 : decode b_M_numbers 79 = .ok (.iload_n 3, 1) := by decide +kernel
theorem d_M_numbers_80 : decode b_M_numbers 80 = .ok (.invokevirtual 362, 3) := by decide +kernel
theorem d_M_numbers_83 : decode b_M_numbers 83 = .ok (.iadd, 1) := by decide +kernel
theorem d_M_numbers_84 : decode b_M_numbers 84 = .ok (.sipush 256, 3) := by decide +kernel
theorem d_M_numbers_87 : decode b_M_numbers 87 = .ok (.if_icmp .gt 41, 3) := by decide +kernel
theorem d_M_numbers_90 : decode b_M_numbers 90 = .ok (.aload_n 0, 1) := by decide +kernel
theorem d_M_numbers_91 : decode b_M_numbers 91 = .ok (.aload_n 0, 1) := by decide +kernel
theorem d_M_numbers_92 : decode b_M_numbers 92 = .ok (.iload_n 3, 1) := by decide +kernel
theorem d_M_numbers_93 : decode b_M_numbers 93 = .ok (.invokevirtual 366, 3) := by decide +kernel
theorem d_M_numbers_96 : decode b_M_numbers 96 = .ok (.putfield 30, 3) := by decide +kernel
theorem d_M_numbers_99 : decode b_M_numbers 99 = .ok (.aload_n 0, 1) := by decide +kernel
theorem d_M_numbers_100 : decode b_M_numbers 100 = .ok (.invokevirtual 355, 3) := by decide +kernel
theorem d_M_numbers_103 : decode b_M_numbers 103 = .ok (.iload_n 2, 1) := by decide +kernel
theorem d_M_numbers_104 : decode b_M_numbers 104 = .ok (.aload_n 0, 1) := by decide +kernel
theorem d_M_numbers_105 : decode b_M_numbers 105 = .ok (.getfield 52, 3) := by decide +kernel
theorem d_M_numbers_108 : decode b_M_numbers 108 = .ok (.ifCond .eq 7, 3) := by decide +kernel
theorem d_M_numbers_111 : decode b_M_numbers 111 = .ok (.iconst 0, 1) := by decide +kernel
theorem d_M_numbers_112 : decode b_M_numbers 112 = .ok (.goto 4, 3) := by decide +kernel
theorem d_M_numbers_115 : decode b_M_numbers 115 = .ok (.iconst 1, 1) := by decide +kernel
theorem d_M_numbers_116 : decode b_M_numbers 116 = .ok (.iadd, 1) := by decide +kernel
theorem d_M_numbers_117 : decode b_M_numbers 117 = .ok (.istore_n 2, 1) := by decide +kernel
theorem d_M_numbers_118 : decode b_M_numbers 118 = .ok (.iload_n 3, 1) := by decide +kernel
theorem d_M_numbers_119 : decode b_M_numbers 119 = .ok (.aload_n 0, 1) := by decide +kernel
theorem d_M_numbers_120 : decode b_M_numbers 120 = .ok (.getfield 333, 3) := by decide +kernel
theorem d_M_numbers_123 : decode b_M_numbers 123 = .ok (.iadd, 1) := by decide +kernel
theorem d_M_numbers_124 : decode b_M_numbers 124 = .ok (.istore_n 3, 1) := by decide +kernel
theorem d_M_numbers_125 : decode b_M_numbers 125 = .ok (.goto (-55), 3) := by decide +kernel
theorem d_M_numbers_128 : decode b_M_numbers 128 = .ok (.aload_n 0, 1) := by decide +kernel
theorem d_M_numbers_129 : decode b_M_numbers 129 = .ok (.iload 4, 2) := by decide +kernel
theorem d_M_numbers_131 : decode b_M_numbers 131 = .ok (.putfield 33, 3) := by decide +kernel
theorem d_M_numbers_134 : decode b_M_numbers 134 = .ok (.aload_n 0, 1) := by decide +kernel
theorem d_M_numbers_135 : decode b_M_numbers 135 = .ok (.iload 5, 2) := by decide +kernel
theorem d_M_numbers_137 : decode b_M_numbers 137 = .ok (.putfield 333, 3) := by decide +kernel
theorem d_M_numbers_140 : decode b_M_numbers 140 = .ok (.aload_n 0, 1) := by decide +kernel
theorem d_M_numbers_141 : decode b_M_numbers 141 = .ok (.iload 6, 2) := by decide +kernel
theorem d_M_numbers_143 : decode b_M_numbers 143 = .ok (.putfield 56, 3) := by decide +kernel
theorem d_M_numbers_146 : decode b_M_numbers 146 = .ok (.aload_n 0, 1) := by decide +kernel
theorem d_M_numbers_147 : decode b_M_numbers 147 = .ok (.iload 7, 2) := by decide +kernel
theorem d_M_numbers_149 : decode b_M_numbers 149 = .ok (.putfield 52, 3) := by decide +kernel
theorem d_M_numbers_152 : decode b_M_numbers 152 = .ok (.iconst 0, 1) := by decide +kernel
theorem d_M_numbers_153 : decode b_M_numbers 153 = .ok (.istore 8, 2) := by decide +kernel
theorem d_M_numbers_155 : decode b_M_numbers 155 = .ok (.iload 8, 2) := by decide +kernel
theorem d_M_numbers_157 : decode b_M_numbers 157 = .ok (.aload_n 0, 1) := by decide +kernel
theorem d_M_numbers_158 : decode b_M_numbers 158 = .ok (.getfield 33, 3) := by decide +kernel
theorem d_M_numbers_161 : decode b_M_numbers 161 = .ok (.if_icmp .ge 23, 3) := by decide +kernel
theorem d_M_numbers_164 : decode b_M_numbers 164 = .ok (.aload_n 0, 1) := by decide +kernel
theorem d_M_numbers_165 : decode b_M_numbers 165 = .ok (.getfield 7, 3) := by decide +kernel
theorem d_M_numbers_168 : decode b_M_numbers 168 = .ok (.iload 8, 2) := by decide +kernel
theorem d_M_numbers_170 : decode b_M_numbers 170 = .ok (.aload_n 0, 1) := by decide +kernel
theorem d_M_numbers_171 : decode b_M_numbers 171 = .ok (.getfield 23, 3) := by decide +kernel
theorem d_M_numbers_174 : decode b_M_numbers 174 = .ok (.iload 8, 2) := by decide +kernel
theorem d_M_numbers_176 : decode b_M_numbers 176 = .ok (.caload, 1) := by decide +kernel
theorem d_M_numbers_177 : decode b_M_numbers 177 = .ok (.castore, 1) := by decide +kernel
theorem d_M_numbers_178 : decode b_M_numbers 178 = .ok (.iinc 8 1, 3) := by decide +kernel
theorem d_M_numbers_181 : decode b_M_numbers 181 = .ok (.goto (-26), 3) := by decide +kernel
theorem d_M_numbers_184 : decode b_M_numbers 184 = .ok (.iload_n 2, 1) := by decide +kernel
theorem d_M_numbers_185 : decode b_M_numbers 185 = .ok (.ireturn, 1) := by decide +kernel
theorem d_W_law_0 : decode code 0 = .ok (.new 8, 3) := by decide +kernel
theorem d_W_law_3 : decode code 3 = .ok (.dup, 1) := by decide +kernel
theorem d_W_law_4 : decode code 4 = .ok (.invokespecial 35, 3) := by decide +kernel
theorem d_W_law_7 : decode code 7 = .ok (.astore_n 1, 1) := by decide +kernel
theorem d_W_law_8 : decode code 8 = .ok (.new 36, 3) := by decide +kernel
theorem d_W_law_11 : decode code 11 = .ok (.dup, 1) := by decide +kernel
theorem d_W_law_12 : decode code 12 = .ok (.invokespecial 38, 3) := by decide +kernel
theorem d_W_law_15 : decode code 15 = .ok (.astore_n 2, 1) := by decide +kernel
theorem d_W_law_16 : decode code 16 = .ok (.iconst 1, 1) := by decide +kernel
theorem d_W_law_17 : decode code 17 = .ok (.newarray .long, 2) := by decide +kernel
theorem d_W_law_19 : decode code 19 = .ok (.astore_n 3, 1) := by decide +kernel
theorem d_W_law_20 : decode code 20 = .ok (.iconst 0, 1) := by decide +kernel
theorem d_W_law_21 : decode code 21 = .ok (.istore 4, 2) := by decide +kernel
theorem d_W_law_23 : decode code 23 = .ok (.iload 4, 2) := by decide +kernel
theorem d_W_law_25 : decode code 25 = .ok (.aload_n 0, 1) := by decide +kernel
theorem d_W_law_26 : decode code 26 = .ok (.arraylength, 1) := by decide +kernel
theorem d_W_law_27 : decode code 27 = .ok (.iconst 3, 1) := by decide +kernel
theorem d_W_law_28 : decode code 28 = .ok (.isub, 1) := by decide +kernel
theorem d_W_law_29 : decode code 29 = .ok (.if_icmp .gt 463, 3) := by decide +kernel
theorem d_W_law_32 : decode code 32 = .ok (.aload_n 0, 1) := by decide +kernel
theorem d_W_law_33 : decode code 33 = .ok (.iload 4, 2) := by decide +kernel
theorem d_W_law_35 : decode code 35 = .ok (.iaload, 1) := by decide +kernel
theorem d_W_law_36 : decode code 36 = .ok (.bipush 7, 2) := by decide +kernel
theorem d_W_law_38 : decode code 38 = .ok (.iand, 1) := by decide +kernel
theorem d_W_law_39 : decode code 39 = .ok (.tableswitch 447 0 7 #[45, 70, 126, 151, 199, 255, 323, 391], 45) := by decide +kernel
theorem d_W_law_84 : decode code 84 = .ok (.aload_n 1, 1) := by decide +kernel
theorem d_W_law_85 : decode code 85 = .ok (.aload_n 0, 1) := by decide +kernel
theorem d_W_law_86 : decode code 86 = .ok (.iload 4, 2) := by decide +kernel
theorem d_W_law_88 : decode code 88 = .ok (.iconst 1, 1) := by decide +kernel
theorem d_W_law_89 : decode code 89 = .ok (.iadd, 1) := by decide +kernel
theorem d_W_law_90 : decode code 90 = .ok (.iaload, 1) := by decide +kernel
theorem d_W_law_91 : decode code 91 = .ok (.invokevirtual 39, 3) := by decide +kernel
theorem d_W_law_94 : decode code 94 = .ok (.aload_n 2, 1) := by decide +kernel
theorem d_W_law_95 : decode code 95 = .ok (.aload_n 0, 1) := by decide +kernel
theorem d_W_law_96 : decode code 96 = .ok (.iload 4, 2) := by decide +kernel
theorem d_W_law_98 : decode code 98 = .ok (.iconst 1, 1) := by decide +kernel
theorem d_W_law_99 : decode code 99 = .ok (.iadd, 1) := by decide +kernel
theorem d_W_law_100 : decode code 100 = .ok (.iaload, 1) := by decide +kernel
theorem d_W_law_101 : decode code 101 = .ok (.invokevirtual 42, 3) := by decide +kernel
theorem d_W_law_104 : decode code 104 = .ok (.if_icmp .eq 382, 3) := by decide +kernel
theorem d_W_law_107 : decode code 107 = .ok (.iconst 0, 1) := by decide +kernel
theorem d_W_law_108 : decode code 108 = .ok (.ireturn, 1) := by decide +kernel
theorem d_W_law_109 : decode code 109 = .ok (.aload_n 1, 1) := by decide +kernel
theorem d_W_law_110 : decode code 110 = .ok (.aload_n 0, 1) := by decide +kernel
theorem d_W_law_111 : decode code 111 = .ok (.iload 4, 2) := by decide +kernel
theorem d_W_law_113 : decode code 113 = .ok (.iconst 1, 1) := by decide +kernel
theorem d_W_law_114 : decode code 114 = .ok (.iadd, 1) := by decide +kernel
theorem d_W_law_115 : decode code 115 = .ok (.iaload, 1) := by decide +kernel
theorem d_W_law_116 : decode code 116 = .ok (.aload_n 3, 1) := by decide +kernel
theorem d_W_law_117 : decode code 117 = .ok (.invokestatic 43, 3) := by decide +kernel
theorem d_W_law_120 : decode code 120 = .ok (.istore 5, 2) := by decide +kernel
theorem d_W_law_122 : decode code 122 = .ok (.aload_n 2, 1) := by decide +kernel
theorem d_W_law_123 : decode code 123 = .ok (.aload_n 0, 1) := by decide +kernel
theorem d_W_law_124 : decode code 124 = .ok (.iload 4, 2) := by decide +kernel
theorem d_W_law_126 : decode code 126 = .ok (.iconst 1, 1) := by decide +kernel
theorem d_W_law_127 : decode code 127 = .ok (.iadd, 1) := by decide +kernel
theorem d_W_law_128 : decode code 128 = .ok (.iaload, 1) := by decide +kernel
theorem d_W_law_129 : decode code 129 = .ok (.invokevirtual 48, 3) := by decide +kernel
theorem d_W_law_132 : decode code 132 = .ok (.istore 6, 2) := by decide +kernel
theorem d_W_law_134 : decode code 134 = .ok (.aload_n 2, 1) := by decide +kernel
theorem d_W_law_135 : decode code 135 = .ok (.invokevirtual 49, 3) := by decide +kernel
theorem d_W_law_138 : decode code 138 = .ok (.iload 5, 2) := by decide +kernel
theorem d_W_law_140 : decode code 140 = .ok (.if_icmp .eq 5, 3) := by decide +kernel
theorem d_W_law_143 : decode code 143 = .ok (.iconst 0, 1) := by decide +kernel
theorem d_W_law_144 : decode code 144 = .ok (.ireturn, 1) := by decide +kernel
theorem d_W_law_145 : decode code 145 = .ok (.iload 5, 2) := by decide +kernel
theorem d_W_law_147 : decode code 147 = .ok (.ifCond .ne 15, 3) := by decide +kernel
theorem d_W_law_150 : decode code 150 = .ok (.aload_n 3, 1) := by decide +kernel
theorem d_W_law_151 : decode code 151 = .ok (.iconst 0, 1) := by decide +kernel
theorem d_W_law_152 : decode code 152 = .ok (.laload, 1) := by decide +kernel
theorem d_W_law_153 : decode code 153 = .ok (.iload 6, 2) := by decide +kernel
theorem d_W_law_155 : decode code 155 = .ok (.i2l, 1) := by decide +kernel
theorem d_W_law_156 : decode code 156 = .ok (.lcmp, 1) := by decide +kernel
theorem d_W_law_157 : decode code 157 = .ok (.ifCond .eq 5, 3) := by decide +kernel
theorem d_W_law_160 : decode code 160 = .ok (.iconst 0, 1) := by decide +kernel
theorem d_W_law_161 : decode code 161 = .ok (.ireturn, 1) := by decide +kernel
theorem d_W_law_162 : decode code 162 = .ok (.goto 324, 3) := by decide +kernel
theorem d_W_law_165 : decode code 165 = .ok (.aload_n 1, 1) := by decide +kernel
theorem d_W_law_166 : decode code 166 = .ok (.aload_n 0, 1) := by decide +kernel
theorem d_W_law_167 : decode code 167 = .ok (.iload 4, 2) := by decide +kernel
theorem d_W_law_169 : decode code 169 = .ok (.iconst 1, 1) := by decide +kernel
theorem d_W_law_170 : decode code 170 = .ok (.iadd, 1) := by decide +kernel
theorem d_W_law_171 : decode code 171 = .ok (.iaload, 1) := by decide +kernel
theorem d_W_law_172 : decode code 172 = .ok (.invokevirtual 53, 3) := by decide +kernel
theorem d_W_law_175 : decode code 175 = .ok (.aload_n 2, 1) := by decide +kernel
theorem d_W_law_176 : decode code 176 = .ok (.aload_n 0, 1) := by decide +kernel
theorem d_W_law_177 : decode code 177 = .ok (.iload 4, 2) := by decide +kernel
theorem d_W_law_179 : decode code 179 = .ok (.iconst 1, 1) := by decide +kernel
theorem d_W_law_180 : decode code 180 = .ok (.iadd, 1) := by decide +kernel
theorem d_W_law_181 : decode code 181 = .ok (.iaload, 1) := by decide +kernel
theorem d_W_law_182 : decode code 182 = .ok (.invokevirtual 56, 3) := by decide +kernel
theorem d_W_law_185 : decode code 185 = .ok (.if_icmp .eq 301, 3) := by decide +kernel
theorem d_W_law_188 : decode code 188 = .ok (.iconst 0, 1) := by decide +kernel
theorem d_W_law_189 : decode code 189 = .ok (.ireturn, 1) := by decide +kernel
theorem d_W_law_190 : decode code 190 = .ok (.aload_n 1, 1) := by decide +kernel
theorem d_W_law_191 : decode code 191 = .ok (.aload_n 0, 1) := by decide +kernel
theorem d_W_law_192 : decode code 192 = .ok (.iload 4, 2) := by decide +kernel
theorem d_W_law_194 : decode code 194 = .ok (.iconst 1, 1) := by decide +kernel
theorem d_W_law_195 : decode code 195 = .ok (.iadd, 1) := by decide +kernel
theorem d_W_law_196 : decode code 196 = .ok (.iaload, 1) := by decide +kernel
theorem d_W_law_197 : decode code 197 = .ok (.aload_n 0, 1) := by decide +kernel
theorem d_W_law_198 : decode code 198 = .ok (.iload 4, 2) := by decide +kernel
theorem d_W_law_200 : decode code 200 = .ok (.iconst 2, 1) := by decide +kernel
theorem d_W_law_201 : decode code 201 = .ok (.iadd, 1) := by decide +kernel
theorem d_W_law_202 : decode code 202 = .ok (.iaload, 1) := by decide +kernel
theorem d_W_law_203 : decode code 203 = .ok (.invokestatic 57, 3) := by decide +kernel
theorem d_W_law_206 : decode code 206 = .ok (.istore 5, 2) := by decide +kernel
theorem d_W_law_208 : decode code 208 = .ok (.aload_n 2, 1) := by decide +kernel
theorem d_W_law_209 : decode code 209 = .ok (.aload_n 0, 1) := by decide +kernel
theorem d_W_law_210 : decode code 210 = .ok (.iload 4, 2) := by decide +kernel
theorem d_W_law_212 : decode code 212 = .ok (.iconst 1, 1) := by decide +kernel
theorem d_W_law_213 : decode code 213 = .ok (.iadd, 1) := by decide +kernel
theorem d_W_law_214 : decode code 214 = .ok (.iaload, 1) := by decide +kernel
theorem d_W_law_215 : decode code 215 = .ok (.aload_n 0, 1) := by decide +kernel
theorem d_W_law_216 : decode code 216 = .ok (.iload 4, 2) := by decide +kernel
theorem d_W_law_218 : decode code 218 = .ok (.iconst 2, 1) := by decide +kernel
theorem d_W_law_219 : decode code 219 = .ok (.iadd, 1) := by decide +kernel
theorem d_W_law_220 : decode code 220 = .ok (.iaload, 1) := by decide +kernel
theorem d_W_law_221 : decode code 221 = .ok (.invokevirtual 60, 3) := by decide +kernel
theorem d_W_law_224 : decode code 224 = .ok (.aload_n 2, 1) := by decide +kernel
theorem d_W_law_225 : decode code 225 = .ok (.invokevirtual 49, 3) := by decide +kernel
theorem d_W_law_228 : decode code 228 = .ok (.iload 5, 2) := by decide +kernel
theorem d_W_law_230 : decode code 230 = .ok (.if_icmp .eq 5, 3) := by decide +kernel
theorem d_W_law_233 : decode code 233 = .ok (.iconst 0, 1) := by decide +kernel
theorem d_W_law_234 : decode code 234 = .ok (.ireturn, 1) := by decide +kernel
theorem d_W_law_235 : decode code 235 = .ok (.goto 251, 3) := by decide +kernel
theorem d_W_law_238 : decode code 238 = .ok (.aload_n 1, 1) := by decide +kernel
theorem d_W_law_239 : decode code 239 = .ok (.aload_n 0, 1) := by decide +kernel
theorem d_W_law_240 : decode code 240 = .ok (.iload 4, 2) := by decide +kernel
theorem d_W_law_242 : decode code 242 = .ok (.iconst 1, 1) := by decide +kernel
theorem d_W_law_243 : decode code 243 = .ok (.iadd, 1) := by decide +kernel
theorem d_W_law_244 : decode code 244 = .ok (.iaload, 1) := by decide +kernel
theorem d_W_law_245 : decode code 245 = .ok (.aload_n 3, 1) := by decide +kernel
theorem d_W_law_246 : decode code 246 = .ok (.invokestatic 61, 3) := by decide +kernel
theorem d_W_law_249 : decode code 249 = .ok (.istore 5, 2) := by decide +kernel
theorem d_W_law_251 : decode code 251 = .ok (.aload_n 2, 1) := by decide +kernel
theorem d_W_law_252 : decode code 252 = .ok (.aload_n 0, 1) := by decide +kernel
theorem d_W_law_253 : decode code 253 = .ok (.iload 4, 2) := by decide +kernel
theorem d_W_law_255 : decode code 255 = .ok (.iconst 1, 1) := by decide +kernel
theorem d_W_law_256 : decode code 256 = .ok (.iadd, 1) := by decide +kernel
theorem d_W_law_257 : decode code 257 = .ok (.iaload, 1) := by decide +kernel
theorem d_W_law_258 : decode code 258 = .ok (.invokevirtual 63, 3) := by decide +kernel
theorem d_W_law_261 : decode code 261 = .ok (.istore 6, 2) := by decide +kernel
theorem d_W_law_263 : decode code 263 = .ok (.aload_n 2, 1) := by decide +kernel
theorem d_W_law_264 : decode code 264 = .ok (.invokevirtual 49, 3) := by decide +kernel
theorem d_W_law_267 : decode code 267 = .ok (.iload 5, 2) := by decide +kernel
theorem d_W_law_269 : decode code 269 = .ok (.if_icmp .eq 5, 3) := by decide +kernel
theorem d_W_law_272 : decode code 272 = .ok (.iconst 0, 1) := by decide +kernel
theorem d_W_law_273 : decode code 273 = .ok (.ireturn, 1) := by decide +kernel
theorem d_W_law_274 : decode code 274 = .ok (.iload 5, 2) := by decide +kernel
theorem d_W_law_276 : decode code 276 = .ok (.ifCond .ne 15, 3) := by decide +kernel
theorem d_W_law_279 : decode code 279 = .ok (.aload_n 3, 1) := by decide +kernel
theorem d_W_law_280 : decode code 280 = .ok (.iconst 0, 1) := by decide +kernel
theorem d_W_law_281 : decode code 281 = .ok (.laload, 1) := by decide +kernel
theorem d_W_law_282 : decode code 282 = .ok (.iload 6, 2) := by decide +kernel
theorem d_W_law_284 : decode code 284 = .ok (.i2l, 1) := by decide +kernel
theorem d_W_law_285 : decode code 285 = .ok (.lcmp, 1) := by decide +kernel
theorem d_W_law_286 : decode code 286 = .ok (.ifCond .eq 5, 3) := by decide +kernel
theorem d_W_law_289 : decode code 289 = .ok (.iconst 0, 1) := by decide +kernel
theorem d_W_law_290 : decode code 290 = .ok (.ireturn, 1) := by decide +kernel
theorem d_W_law_291 : decode code 291 = .ok (.goto 195, 3) := by decide +kernel
theorem d_W_law_294 : decode code 294 = .ok (.aload_n 1, 1) := by decide +kernel
theorem d_W_law_295 : decode code 295 = .ok (.aload_n 0, 1) := by decide +kernel
theorem d_W_law_296 : decode code 296 = .ok (.iload 4, 2) := by decide +kernel
theorem d_W_law_298 : decode code 298 = .ok (.iconst 1, 1) := by decide +kernel
theorem d_W_law_299 : decode code 299 = .ok (.iadd, 1) := by decide +kernel
theorem d_W_law_300 : decode code 300 = .ok (.iaload, 1) := by decide +kernel
theorem d_W_law_301 : decode code 301 = .ok (.aload_n 0, 1) := by decide +kernel
theorem d_W_law_302 : decode code 302 = .ok (.iload 4, 2) := by decide +kernel
theorem d_W_law_304 : decode code 304 = .ok (.iconst 2, 1) := by decide +kernel
theorem d_W_law_305 : decode code 305 = .ok (.iadd, 1) := by decide +kernel
theorem d_W_law_306 : decode code 306 = .ok (.iaload, 1) := by decide +kernel
theorem d_W_law_307 : decode code 307 = .ok (.aload_n 3, 1) := by decide +kernel
theorem d_W_law_308 : decode code 308 = .ok (.invokestatic 64, 3) := by decide +kernel
theorem d_W_law_311 : decode code 311 = .ok (.istore 5, 2) := by decide +kernel
theorem d_W_law_313 : decode code 313 = .ok (.aload_n 2, 1) := by decide +kernel
theorem d_W_law_314 : decode code 314 = .ok (.aload_n 0, 1) := by decide +kernel
theorem d_W_law_315 : decode code 315 = .ok (.iload 4, 2) := by decide +kernel
theorem d_W_law_317 : decode code 317 = .ok (.iconst 1, 1) := by decide +kernel
theorem d_W_law_318 : decode code 318 = .ok (.iadd, 1) := by decide +kernel
theorem d_W_law_319 : decode code 319 = .ok (.iaload, 1) := by decide +kernel
theorem d_W_law_320 : decode code 320 = .ok (.aload_n 0, 1) := by decide +kernel
theorem d_W_law_321 : decode code 321 = .ok (.iload 4, 2) := by decide +kernel
theorem d_W_law_323 : decode code 323 = .ok (.iconst 2, 1) := by decide +kernel
theorem d_W_law_324 : decode code 324 = .ok (.iadd, 1) := by decide +kernel
theorem d_W_law_325 : decode code 325 = .ok (.iaload, 1) := by decide +kernel
theorem d_W_law_326 : decode code 326 = .ok (.invokevirtual 67, 3) := by decide +kernel
theorem d_W_law_329 : decode code 329 = .ok (.istore 6, 2) := by decide +kernel
theorem d_W_law_331 : decode code 331 = .ok (.aload_n 2, 1) := by decide +kernel
theorem d_W_law_332 : decode code 332 = .ok (.invokevirtual 49, 3) := by decide +kernel
theorem d_W_law_335 : decode code 335 = .ok (.iload 5, 2) := by decide +kernel
theorem d_W_law_337 : decode code 337 = .ok (.if_icmp .eq 5, 3) := by decide +kernel
theorem d_W_law_340 : decode code 340 = .ok (.iconst 0, 1) := by decide +kernel
theorem d_W_law_341 : decode code 341 = .ok (.ireturn, 1) := by decide +kernel
theorem d_W_law_342 : decode code 342 = .ok (.iload 5, 2) := by decide +kernel
theorem d_W_law_344 : decode code 344 = .ok (.ifCond .ne 15, 3) := by decide +kernel
theorem d_W_law_347 : decode code 347 = .ok (.aload_n 3, 1) := by decide +kernel
theorem d_W_law_348 : decode code 348 = .ok (.iconst 0, 1) := by decide +kernel
theorem d_W_law_349 : decode code 349 = .ok (.laload, 1) := by decide +kernel
theorem d_W_law_350 : decode code 350 = .ok (.iload 6, 2) := by decide +kernel
theorem d_W_law_352 : decode code 352 = .ok (.i2l, 1) := by decide +kernel
theorem d_W_law_353 : decode code 353 = .ok (.lcmp, 1) := by decide +kernel
theorem d_W_law_354 : decode code 354 = .ok (.ifCond .eq 5, 3) := by decide +kernel
theorem d_W_law_357 : decode code 357 = .ok (.iconst 0, 1) := by decide +kernel
theorem d_W_law_358 : decode code 358 = .ok (.ireturn, 1) := by decide +kernel
theorem d_W_law_359 : decode code 359 = .ok (.goto 127, 3) := by decide +kernel
theorem d_W_law_362 : decode code 362 = .ok (.aload_n 1, 1) := by decide +kernel
