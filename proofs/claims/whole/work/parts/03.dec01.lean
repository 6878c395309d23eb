theorem d_S_onLesserRegister_3 : decode b_S_onLesserRegister 3 = .ok (.ishr, 1) := by decide +kernel
theorem d_S_onLesserRegister_4 : decode b_S_onLesserRegister 4 = .ok (.iconst 3, 1) := by decide +kernel
theorem d_S_onLesserRegister_5 : decode b_S_onLesserRegister 5 = .ok (.iand, 1) := by decide +kernel
theorem d_S_onLesserRegister_6 : decode b_S_onLesserRegister 6 = .ok (.istore_n 1, 1) := by decide +kernel
theorem d_S_onLesserRegister_7 : decode b_S_onLesserRegister 7 = .ok (.iload_n 1, 1) := by decide +kernel
theorem d_S_onLesserRegister_8 : decode b_S_onLesserRegister 8 = .ok (.iconst 2, 1) := by decide +kernel
theorem d_S_onLesserRegister_9 : decode b_S_onLesserRegister 9 = .ok (.if_icmp .ne 7, 3) := by decide +kernel
theorem d_S_onLesserRegister_12 : decode b_S_onLesserRegister 12 = .ok (.getstatic 80, 3) := by decide +kernel
theorem d_S_onLesserRegister_15 : decode b_S_onLesserRegister 15 = .ok (.areturn, 1) := by decide +kernel
theorem d_S_onLesserRegister_16 : decode b_S_onLesserRegister 16 = .ok (.iload_n 0, 1) := by decide +kernel
theorem d_S_onLesserRegister_17 : decode b_S_onLesserRegister 17 = .ok (.invokestatic 83, 3) := by decide +kernel
theorem d_S_onLesserRegister_20 : decode b_S_onLesserRegister 20 = .ok (.ifCond .eq 7, 3) := by decide +kernel
theorem d_S_onLesserRegister_23 : decode b_S_onLesserRegister 23 = .ok (.getstatic 19, 3) := by decide +kernel
theorem d_S_onLesserRegister_26 : decode b_S_onLesserRegister 26 = .ok (.areturn, 1) := by decide +kernel
theorem d_S_onLesserRegister_27 : decode b_S_onLesserRegister 27 = .ok (.iload_n 1, 1) := by decide +kernel
theorem d_S_onLesserRegister_28 : decode b_S_onLesserRegister 28 = .ok (.lookupswitch 36 #[(0, 28), (1, 32)], 28) := by decide +kernel
theorem d_S_onLesserRegister_56 : decode b_S_onLesserRegister 56 = .ok (.getstatic 87, 3) := by decide +kernel
theorem d_S_onLesserRegister_59 : decode b_S_onLesserRegister 59 = .ok (.areturn, 1) := by decide +kernel
theorem d_S_onLesserRegister_60 : decode b_S_onLesserRegister 60 = .ok (.getstatic 90, 3) := by decide +kernel
theorem d_S_onLesserRegister_63 : decode b_S_onLesserRegister 63 = .ok (.areturn, 1) := by decide +kernel
theorem d_S_onLesserRegister_64 : decode b_S_onLesserRegister 64 = .ok (.iload_n 0, 1) := by decide +kernel
theorem d_S_onLesserRegister_65 : decode b_S_onLesserRegister 65 = .ok (.iconst 5, 1) := by decide +kernel
theorem d_S_onLesserRegister_66 : decode b_S_onLesserRegister 66 = .ok (.ishr, 1) := by decide +kernel
theorem d_S_onLesserRegister_67 : decode b_S_onLesserRegister 67 = .ok (.iconst 3, 1) := by decide +kernel
theorem d_S_onLesserRegister_68 : decode b_S_onLesserRegister 68 = .ok (.iand, 1) := by decide +kernel
theorem d_S_onLesserRegister_69 : decode b_S_onLesserRegister 69 = .ok (.invokestatic 93, 3) := by decide +kernel
theorem d_S_onLesserRegister_72 : decode b_S_onLesserRegister 72 = .ok (.areturn, 1) := by decide +kernel
theorem d_S_hasBit12_0 : decode b_S_hasBit12 0 = .ok (.iload_n 0, 1) := by decide +kernel
theorem d_S_hasBit12_1 : decode b_S_hasBit12 1 = .ok (.bipush 12, 2) := by decide +kernel
theorem d_S_hasBit12_3 : decode b_S_hasBit12 3 = .ok (.ishr, 1) := by decide +kernel
theorem d_S_hasBit12_4 : decode b_S_hasBit12 4 = .ok (.iconst 1, 1) := by decide +kernel
theorem d_S_hasBit12_5 : decode b_S_hasBit12 5 = .ok (.iand, 1) := by decide +kernel
theorem d_S_hasBit12_6 : decode b_S_hasBit12 6 = .ok (.iconst 1, 1) := by decide +kernel
theorem d_S_hasBit12_7 : decode b_S_hasBit12 7 = .ok (.if_icmp .ne 7, 3) := by decide +kernel
theorem d_S_hasBit12_10 : decode b_S_hasBit12 10 = .ok (.iconst 1, 1) := by decide +kernel
theorem d_S_hasBit12_11 : decode b_S_hasBit12 11 = .ok (.goto 4, 3) := by decide +kernel
theorem d_S_hasBit12_14 : decode b_S_hasBit12 14 = .ok (.iconst 0, 1) := by decide +kernel
theorem d_S_hasBit12_15 : decode b_S_hasBit12 15 = .ok (.ireturn, 1) := by decide +kernel
theorem d_S_ofLesserRegisters_0 : decode b_S_ofLesserRegisters 0 = .ok (.iload_n 0, 1) := by decide +kernel
theorem d_S_ofLesserRegisters_1 : decode b_S_ofLesserRegisters 1 = .ok (.tableswitch 39 0 2 #[27, 31, 35], 27) := by decide +kernel
theorem d_S_ofLesserRegisters_28 : decode b_S_ofLesserRegisters 28 = .ok (.getstatic 96, 3) := by decide +kernel
theorem d_S_ofLesserRegisters_31 : decode b_S_ofLesserRegisters 31 = .ok (.areturn, 1) := by decide +kernel
theorem d_S_ofLesserRegisters_32 : decode b_S_ofLesserRegisters 32 = .ok (.getstatic 99, 3) := by decide +kernel
theorem d_S_ofLesserRegisters_35 : decode b_S_ofLesserRegisters 35 = .ok (.areturn, 1) := by decide +kernel
theorem d_S_ofLesserRegisters_36 : decode b_S_ofLesserRegisters 36 = .ok (.getstatic 102, 3) := by decide +kernel
theorem d_S_ofLesserRegisters_39 : decode b_S_ofLesserRegisters 39 = .ok (.areturn, 1) := by decide +kernel
theorem d_S_ofLesserRegisters_40 : decode b_S_ofLesserRegisters 40 = .ok (.getstatic 105, 3) := by decide +kernel
theorem d_S_ofLesserRegisters_43 : decode b_S_ofLesserRegisters 43 = .ok (.areturn, 1) := by decide +kernel
theorem d_S_ofQ2_0 : decode b_S_ofQ2 0 = .ok (.iload_n 0, 1) := by decide +kernel
theorem d_S_ofQ2_1 : decode b_S_ofQ2 1 = .ok (.tableswitch 100 0 6 #[43, 100, 60, 100, 77, 100, 96], 43) := by decide +kernel
theorem d_S_ofQ2_44 : decode b_S_ofQ2 44 = .ok (.iload_n 1, 1) := by decide +kernel
theorem d_S_ofQ2_45 : decode b_S_ofQ2 45 = .ok (.invokestatic 83, 3) := by decide +kernel
theorem d_S_ofQ2_48 : decode b_S_ofQ2 48 = .ok (.ifCond .eq 9, 3) := by decide +kernel
theorem d_S_ofQ2_51 : decode b_S_ofQ2 51 = .ok (.getstatic 19, 3) := by decide +kernel
theorem d_S_ofQ2_54 : decode b_S_ofQ2 54 = .ok (.goto 6, 3) := by decide +kernel
theorem d_S_ofQ2_57 : decode b_S_ofQ2 57 = .ok (.getstatic 108, 3) := by decide +kernel
theorem d_S_ofQ2_60 : decode b_S_ofQ2 60 = .ok (.areturn, 1) := by decide +kernel
theorem d_S_ofQ2_61 : decode b_S_ofQ2 61 = .ok (.iload_n 1, 1) := by decide +kernel
theorem d_S_ofQ2_62 : decode b_S_ofQ2 62 = .ok (.invokestatic 71, 3) := by decide +kernel
theorem d_S_ofQ2_65 : decode b_S_ofQ2 65 = .ok (.ifCond .eq 9, 3) := by decide +kernel
theorem d_S_ofQ2_68 : decode b_S_ofQ2 68 = .ok (.getstatic 111, 3) := by decide +kernel
theorem d_S_ofQ2_71 : decode b_S_ofQ2 71 = .ok (.goto 6, 3) := by decide +kernel
theorem d_S_ofQ2_74 : decode b_S_ofQ2 74 = .ok (.getstatic 19, 3) := by decide +kernel
theorem d_S_ofQ2_77 : decode b_S_ofQ2 77 = .ok (.areturn, 1) := by decide +kernel
theorem d_S_ofQ2_78 : decode b_S_ofQ2 78 = .ok (.iload_n 1, 1) := by decide +kernel
theorem d_S_ofQ2_79 : decode b_S_ofQ2 79 = .ok (.invokestatic 83, 3) := by decide +kernel
theorem d_S_ofQ2_82 : decode b_S_ofQ2 82 = .ok (.ifCond .eq 10, 3) := by decide +kernel
theorem d_S_ofQ2_85 : decode b_S_ofQ2 85 = .ok (.iload_n 1, 1) := by decide +kernel
theorem d_S_ofQ2_86 : decode b_S_ofQ2 86 = .ok (.invokestatic 114, 3) := by decide +kernel
theorem d_S_ofQ2_89 : decode b_S_ofQ2 89 = .ok (.goto 7, 3) := by decide +kernel
theorem d_S_ofQ2_92 : decode b_S_ofQ2 92 = .ok (.iload_n 1, 1) := by decide +kernel
theorem d_S_ofQ2_93 : decode b_S_ofQ2 93 = .ok (.invokestatic 117, 3) := by decide +kernel
theorem d_S_ofQ2_96 : decode b_S_ofQ2 96 = .ok (.areturn, 1) := by decide +kernel
theorem d_S_ofQ2_97 : decode b_S_ofQ2 97 = .ok (.getstatic 120, 3) := by decide +kernel
theorem d_S_ofQ2_100 : decode b_S_ofQ2 100 = .ok (.areturn, 1) := by decide +kernel
theorem d_S_ofQ2_101 : decode b_S_ofQ2 101 = .ok (.getstatic 19, 3) := by decide +kernel
theorem d_S_ofQ2_104 : decode b_S_ofQ2 104 = .ok (.areturn, 1) := by decide +kernel
theorem d_S_addOrJump_0 : decode b_S_addOrJump 0 = .ok (.iload_n 0, 1) := by decide +kernel
theorem d_S_addOrJump_1 : decode b_S_addOrJump 1 = .ok (.invokestatic 123, 3) := by decide +kernel
theorem d_S_addOrJump_4 : decode b_S_addOrJump 4 = .ok (.ifCond .eq 7, 3) := by decide +kernel
theorem d_S_addOrJump_7 : decode b_S_addOrJump 7 = .ok (.getstatic 132, 3) := by decide +kernel
theorem d_S_addOrJump_10 : decode b_S_addOrJump 10 = .ok (.areturn, 1) := by decide +kernel
theorem d_S_addOrJump_11 : decode b_S_addOrJump 11 = .ok (.iload_n 0, 1) := by decide +kernel
theorem d_S_addOrJump_12 : decode b_S_addOrJump 12 = .ok (.invokestatic 71, 3) := by decide +kernel
theorem d_S_addOrJump_15 : decode b_S_addOrJump 15 = .ok (.ifCond .eq 9, 3) := by decide +kernel
theorem d_S_addOrJump_18 : decode b_S_addOrJump 18 = .ok (.getstatic 135, 3) := by decide +kernel
theorem d_S_addOrJump_21 : decode b_S_addOrJump 21 = .ok (.goto 6, 3) := by decide +kernel
theorem d_S_addOrJump_24 : decode b_S_addOrJump 24 = .ok (.getstatic 138, 3) := by decide +kernel
theorem d_S_addOrJump_27 : decode b_S_addOrJump 27 = .ok (.areturn, 1) := by decide +kernel
theorem d_S_secondRegister_0 : decode b_S_secondRegister 0 = .ok (.iload_n 0, 1) := by decide +kernel
theorem d_S_secondRegister_1 : decode b_S_secondRegister 1 = .ok (.iconst 2, 1) := by decide +kernel
theorem d_S_secondRegister_2 : decode b_S_secondRegister 2 = .ok (.ishr, 1) := by decide +kernel
theorem d_S_secondRegister_3 : decode b_S_secondRegister 3 = .ok (.bipush 31, 2) := by decide +kernel
theorem d_S_secondRegister_5 : decode b_S_secondRegister 5 = .ok (.iand, 1) := by decide +kernel
theorem d_S_secondRegister_6 : decode b_S_secondRegister 6 = .ok (.ireturn, 1) := by decide +kernel
theorem d_S_moveOrJump_0 : decode b_S_moveOrJump 0 = .ok (.iload_n 0, 1) := by decide +kernel
theorem d_S_moveOrJump_1 : decode b_S_moveOrJump 1 = .ok (.invokestatic 123, 3) := by decide +kernel
theorem d_S_moveOrJump_4 : decode b_S_moveOrJump 4 = .ok (.ifCond .eq 7, 3) := by decide +kernel
theorem d_S_moveOrJump_7 : decode b_S_moveOrJump 7 = .ok (.getstatic 126, 3) := by decide +kernel
theorem d_S_moveOrJump_10 : decode b_S_moveOrJump 10 = .ok (.areturn, 1) := by decide +kernel
theorem d_S_moveOrJump_11 : decode b_S_moveOrJump 11 = .ok (.iload_n 0, 1) := by decide +kernel
theorem d_S_moveOrJump_12 : decode b_S_moveOrJump 12 = .ok (.invokestatic 71, 3) := by decide +kernel
theorem d_S_moveOrJump_15 : decode b_S_moveOrJump 15 = .ok (.ifCond .eq 9, 3) := by decide +kernel
theorem d_S_moveOrJump_18 : decode b_S_moveOrJump 18 = .ok (.getstatic 129, 3) := by decide +kernel
theorem d_S_moveOrJump_21 : decode b_S_moveOrJump 21 = .ok (.goto 6, 3) := by decide +kernel
theorem d_S_moveOrJump_24 : decode b_S_moveOrJump 24 = .ok (.getstatic 19, 3) := by decide +kernel
theorem d_S_moveOrJump_27 : decode b_S_moveOrJump 27 = .ok (.areturn, 1) := by decide +kernel
theorem d_T_write_0 : decode b_T_write 0 = .ok (.aload_n 0, 1) := by decide +kernel
theorem d_T_write_1 : decode b_T_write 1 = .ok (.iconst 0, 1) := by decide +kernel
theorem d_T_write_2 : decode b_T_write 2 = .ok (.putfield 13, 3) := by decide +kernel
theorem d_T_write_5 : decode b_T_write 5 = .ok (.aload_n 0, 1) := by decide +kernel
theorem d_T_write_6 : decode b_T_write 6 = .ok (.aload_n 1, 1) := by decide +kernel
theorem d_T_write_7 : decode b_T_write 7 = .ok (.getfield 17, 3) := by decide +kernel
theorem d_T_write_10 : decode b_T_write 10 = .ok (.invokevirtual 23, 3) := by decide +kernel
theorem d_T_write_13 : decode b_T_write 13 = .ok (.aload_n 1, 1) := by decide +kernel
theorem d_T_write_14 : decode b_T_write 14 = .ok (.getfield 26, 3) := by decide +kernel
theorem d_T_write_17 : decode b_T_write 17 = .ok (.ifCond .eq 13, 3) := by decide +kernel
theorem d_T_write_20 : decode b_T_write 20 = .ok (.aload_n 0, 1) := by decide +kernel
theorem d_T_write_21 : decode b_T_write 21 = .ok (.iload_n 2, 1) := by decide +kernel
theorem d_T_write_22 : decode b_T_write 22 = .ok (.bipush 25, 2) := by decide +kernel
theorem d_T_write_24 : decode b_T_write 24 = .ok (.ishr, 1) := by decide +kernel
theorem d_T_write_25 : decode b_T_write 25 = .ok (.iconst 3, 1) := by decide +kernel
theorem d_T_write_26 : decode b_T_write 26 = .ok (.iand, 1) := by decide +kernel
theorem d_T_write_27 : decode b_T_write 27 = .ok (.invokevirtual 30, 3) := by decide +kernel
theorem d_T_write_30 : decode b_T_write 30 = .ok (.aload_n 1, 1) := by decide +kernel
theorem d_T_write_31 : decode b_T_write 31 = .ok (.getfield 34, 3) := by decide +kernel
theorem d_T_write_34 : decode b_T_write 34 = .ok (.astore_n 3, 1) := by decide +kernel
theorem d_T_write_35 : decode b_T_write 35 = .ok (.aload_n 3, 1) := by decide +kernel
theorem d_T_write_36 : decode b_T_write 36 = .ok (.invokevirtual 37, 3) := by decide +kernel
theorem d_T_write_39 : decode b_T_write 39 = .ok (.ifCond .ne 9, 3) := by decide +kernel
theorem d_T_write_42 : decode b_T_write 42 = .ok (.aload_n 0, 1) := by decide +kernel
theorem d_T_write_43 : decode b_T_write 43 = .ok (.bipush 32, 2) := by decide +kernel
theorem d_T_write_45 : decode b_T_write 45 = .ok (.invokevirtual 43, 3) := by decide +kernel
theorem d_T_write_48 : decode b_T_write 48 = .ok (.iconst 0, 1) := by decide +kernel
theorem d_T_write_49 : decode b_T_write 49 = .ok (.istore 4, 2) := by decide +kernel
theorem d_T_write_51 : decode b_T_write 51 = .ok (.iload 4, 2) := by decide +kernel
theorem d_T_write_53 : decode b_T_write 53 = .ok (.aload_n 3, 1) := by decide +kernel
theorem d_T_write_54 : decode b_T_write 54 = .ok (.invokevirtual 47, 3) := by decide +kernel
theorem d_T_write_57 : decode b_T_write 57 = .ok (.if_icmp .ge 20, 3) := by decide +kernel
theorem d_T_write_60 : decode b_T_write 60 = .ok (.aload_n 0, 1) := by decide +kernel
theorem d_T_write_61 : decode b_T_write 61 = .ok (.aload_n 3, 1) := by decide +kernel
theorem d_T_write_62 : decode b_T_write 62 = .ok (.iload 4, 2) := by decide +kernel
theorem d_T_write_64 : decode b_T_write 64 = .ok (.invokevirtual 50, 3) := by decide +kernel
theorem d_T_write_67 : decode b_T_write 67 = .ok (.iload_n 2, 1) := by decide +kernel
theorem d_T_write_68 : decode b_T_write 68 = .ok (.invokevirtual 54, 3) := by decide +kernel
theorem d_T_write_71 : decode b_T_write 71 = .ok (.iinc 4 1, 3) := by decide +kernel
theorem d_T_write_74 : decode b_T_write 74 = .ok (.goto (-23), 3) := by decide +kernel
theorem d_T_write_77 : decode b_T_write 77 = .ok (.return_, 1) := by decide +kernel
theorem d_T_word_0 : decode b_T_word 0 = .ok (.iconst 0, 1) := by decide +kernel
theorem d_T_word_1 : decode b_T_word 1 = .ok (.istore_n 2, 1) := by decide +kernel
theorem d_T_word_2 : decode b_T_word 2 = .ok (.iload_n 2, 1) := by decide +kernel
theorem d_T_word_3 : decode b_T_word 3 = .ok (.aload_n 1, 1) := by decide +kernel
theorem d_T_word_4 : decode b_T_word 4 = .ok (.invokevirtual 47, 3) := by decide +kernel
theorem d_T_word_7 : decode b_T_word 7 = .ok (.if_icmp .ge 18, 3) := by decide +kernel
theorem d_T_word_10 : decode b_T_word 10 = .ok (.aload_n 0, 1) := by decide +kernel
theorem d_T_word_11 : decode b_T_word 11 = .ok (.aload_n 1, 1) := by decide +kernel
theorem d_T_word_12 : decode b_T_word 12 = .ok (.iload_n 2, 1) := by decide +kernel
theorem d_T_word_13 : decode b_T_word 13 = .ok (.invokevirtual 50, 3) := by decide +kernel
theorem d_T_word_16 : decode b_T_word 16 = .ok (.invokevirtual 43, 3) := by decide +kernel
theorem d_T_word_19 : decode b_T_word 19 = .ok (.iinc 2 1, 3) := by decide +kernel
theorem d_T_word_22 : decode b_T_word 22 = .ok (.goto (-20), 3) := by decide +kernel
theorem d_T_word_25 : decode b_T_word 25 = .ok (.return_, 1) := by decide +kernel
theorem d_JS_length_0 : decode b_JS_length 0 = .ok (.aload_n 0, 1) := by decide +kernel
theorem d_JS_length_1 : decode b_JS_length 1 = .ok (.getfield 9, 3) := by decide +kernel
theorem d_JS_length_4 : decode b_JS_length 4 = .ok (.arraylength, 1) := by decide +kernel
theorem d_JS_length_5 : decode b_JS_length 5 = .ok (.aload_n 0, 1) := by decide +kernel
theorem d_JS_length_6 : decode b_JS_length 6 = .ok (.invokevirtual 335, 3) := by decide +kernel
theorem d_JS_length_9 : decode b_JS_length 9 = .ok (.ishr, 1) := by decide +kernel
theorem d_JS_length_10 : decode b_JS_length 10 = .ok (.ireturn, 1) := by decide +kernel
theorem d_JS_coder_0 : decode b_JS_coder 0 = .ok (.getstatic 38, 3) := by decide +kernel
theorem d_JS_coder_3 : decode b_JS_coder 3 = .ok (.ifCond .eq 10, 3) := by decide +kernel
theorem d_JS_coder_6 : decode b_JS_coder 6 = .ok (.aload_n 0, 1) := by decide +kernel
theorem d_JS_coder_7 : decode b_JS_coder 7 = .ok (.getfield 15, 3) := by decide +kernel
theorem d_JS_coder_10 : decode b_JS_coder 10 = .ok (.goto 4, 3) := by decide +kernel
theorem d_JS_coder_13 : decode b_JS_coder 13 = .ok (.iconst 1, 1) := by decide +kernel
theorem d_JS_coder_14 : decode b_JS_coder 14 = .ok (.ireturn, 1) := by decide +kernel
theorem d_JS_charAt_0 : decode b_JS_charAt 0 = .ok (.aload_n 0, 1) := by decide +kernel
theorem d_JS_charAt_1 : decode b_JS_charAt 1 = .ok (.invokevirtual 492, 3) := by decide +kernel
theorem d_JS_charAt_4 : decode b_JS_charAt 4 = .ok (.ifCond .eq 12, 3) := by decide +kernel
theorem d_JS_charAt_7 : decode b_JS_charAt 7 = .ok (.aload_n 0, 1) := by decide +kernel
theorem d_JS_charAt_8 : decode b_JS_charAt 8 = .ok (.getfield 9, 3) := by decide +kernel
theorem d_JS_charAt_11 : decode b_JS_charAt 11 = .ok (.iload_n 1, 1) := by decide +kernel
theorem d_JS_charAt_12 : decode b_JS_charAt 12 = .ok (.invokestatic 495, 3) := by decide +kernel
theorem d_JS_charAt_15 : decode b_JS_charAt 15 = .ok (.ireturn, 1) := by decide +kernel
theorem d_JS_charAt_16 : decode b_JS_charAt 16 = .ok (.aload_n 0, 1) := by decide +kernel
theorem d_JS_charAt_17 : decode b_JS_charAt 17 = .ok (.getfield 9, 3) := by decide +kernel
theorem d_JS_charAt_20 : decode b_JS_charAt 20 = .ok (.iload_n 1, 1) := by decide +kernel
theorem d_JS_charAt_21 : decode b_JS_charAt 21 = .ok (.invokestatic 498, 3) := by decide +kernel
theorem d_JS_charAt_24 : decode b_JS_charAt 24 = .ok (.ireturn, 1) := by decide +kernel
theorem d_JS_isLatin1_0 : decode b_JS_isLatin1 0 = .ok (.getstatic 38, 3) := by decide +kernel
theorem d_JS_isLatin1_3 : decode b_JS_isLatin1 3 = .ok (.ifCond .eq 14, 3) := by decide +kernel
theorem d_JS_isLatin1_6 : decode b_JS_isLatin1 6 = .ok (.aload_n 0, 1) := by decide +kernel
theorem d_JS_isLatin1_7 : decode b_JS_isLatin1 7 = .ok (.getfield 15, 3) := by decide +kernel
theorem d_JS_isLatin1_10 : decode b_JS_isLatin1 10 = .ok (.ifCond .ne 7, 3) := by decide +kernel
theorem d_JS_isLatin1_13 : decode b_JS_isLatin1 13 = .ok (.iconst 1, 1) := by decide +kernel
theorem d_JS_isLatin1_14 : decode b_JS_isLatin1 14 = .ok (.goto 4, 3) := by decide +kernel
theorem d_JS_isLatin1_17 : decode b_JS_isLatin1 17 = .ok (.iconst 0, 1) := by decide +kernel
theorem d_JS_isLatin1_18 : decode b_JS_isLatin1 18 = .ok (.ireturn, 1) := by decide +kernel
theorem d_JL_charAt_0 : decode b_JL_charAt 0 = .ok (.iload_n 1, 1) := by decide +kernel
theorem d_JL_charAt_1 : decode b_JL_charAt 1 = .ok (.aload_n 0, 1) := by decide +kernel
theorem d_JL_charAt_2 : decode b_JL_charAt 2 = .ok (.arraylength, 1) := by decide +kernel
theorem d_JL_charAt_3 : decode b_JL_charAt 3 = .ok (.invokestatic 9, 3) := by decide +kernel
theorem d_JL_charAt_6 : decode b_JL_charAt 6 = .ok (.aload_n 0, 1) := by decide +kernel
theorem d_JL_charAt_7 : decode b_JL_charAt 7 = .ok (.iload_n 1, 1) := by decide +kernel
theorem d_JL_charAt_8 : decode b_JL_charAt 8 = .ok (.baload, 1) := by decide +kernel
theorem d_JL_charAt_9 : decode b_JL_charAt 9 = .ok (.sipush 255, 3) := by decide +kernel
theorem d_JL_charAt_12 : decode b_JL_charAt 12 = .ok (.iand, 1) := by decide +kernel
theorem d_JL_charAt_13 : decode b_JL_charAt 13 = .ok (.i2c, 1) := by decide +kernel
theorem d_JL_charAt_14 : decode b_JL_charAt 14 = .ok (.ireturn, 1) := by decide +kernel
theorem d_JS_checkIndex_0 : decode b_JS_checkIndex 0 = .ok (.iload_n 0, 1) := by decide +kernel
theorem d_JS_checkIndex_1 : decode b_JS_checkIndex 1 = .ok (.iload_n 1, 1) := by decide +kernel
theorem d_JS_checkIndex_2 : decode b_JS_checkIndex 2 = .ok (.getstatic 1053, 3) := by decide +kernel
theorem d_JS_checkIndex_5 : decode b_JS_checkIndex 5 = .ok (.invokestatic 1059, 3) := by decide +kernel
theorem d_JS_checkIndex_8 : decode b_JS_checkIndex 8 = .ok (.pop, 1) := by decide +kernel
theorem d_JS_checkIndex_9 : decode b_JS_checkIndex 9 = .ok (.return_, 1) := by decide +kernel
theorem d_JP_checkIndex_0 : decode b_JP_checkIndex 0 = .ok (.iload_n 0, 1) := by decide +kernel
theorem d_JP_checkIndex_1 : decode b_JP_checkIndex 1 = .ok (.ifCond .lt 8, 3) := by decide +kernel
theorem d_JP_checkIndex_4 : decode b_JP_checkIndex 4 = .ok (.iload_n 0, 1) := by decide +kernel
theorem d_JP_checkIndex_5 : decode b_JP_checkIndex 5 = .ok (.iload_n 1, 1) := by decide +kernel
theorem d_JP_checkIndex_6 : decode b_JP_checkIndex 6 = .ok (.if_icmp .lt 10, 3) := by decide +kernel
theorem d_JP_checkIndex_9 : decode b_JP_checkIndex 9 = .ok (.aload_n 2, 1) := by decide +kernel
theorem d_JP_checkIndex_10 : decode b_JP_checkIndex 10 = .ok (.iload_n 0, 1) := by decide +kernel
theorem d_JP_checkIndex_11 : decode b_JP_checkIndex 11 = .ok (.iload_n 1, 1) := by decide +kernel
theorem d_JP_checkIndex_12 : decode b_JP_checkIndex 12 = .ok (.invokestatic 95, 3) := by decide +kernel
theorem d_JP_checkIndex_15 : decode b_JP_checkIndex 15 = .ok (.athrow, 1) := by decide +kernel
theorem d_JP_checkIndex_16 : decode b_JP_checkIndex 16 = .ok (.iload_n 0, 1) := by decide +kernel
theorem d_JP_checkIndex_17 : decode b_JP_checkIndex 17 = .ok (.ireturn, 1) := by decide +kernel
theorem d_T_put_0 : decode b_T_put 0 = .ok (.aload_n 0, 1) := by decide +kernel
theorem d_T_put_1 : decode b_T_put 1 = .ok (.getfield 13, 3) := by decide +kernel
theorem d_T_put_4 : decode b_T_put 4 = .ok (.ifCond .lt 35, 3) := by decide +kernel
theorem d_T_put_7 : decode b_T_put 7 = .ok (.aload_n 0, 1) := by decide +kernel
theorem d_T_put_8 : decode b_T_put 8 = .ok (.getfield 13, 3) := by decide +kernel
theorem d_T_put_11 : decode b_T_put 11 = .ok (.aload_n 0, 1) := by decide +kernel
theorem d_T_put_12 : decode b_T_put 12 = .ok (.getfield 9, 3) := by decide +kernel
theorem d_T_put_15 : decode b_T_put 15 = .ok (.arraylength, 1) := by decide +kernel
theorem d_T_put_16 : decode b_T_put 16 = .ok (.if_icmp .ge 23, 3) := by decide +kernel
theorem d_T_put_19 : decode b_T_put 19 = .ok (.aload_n 0, 1) := by decide +kernel
theorem d_T_put_20 : decode b_T_put 20 = .ok (.getfield 9, 3) := by decide +kernel
theorem d_T_put_23 : decode b_T_put 23 = .ok (.aload_n 0, 1) := by decide +kernel
theorem d_T_put_24 : decode b_T_put 24 = .ok (.getfield 13, 3) := by decide +kernel
theorem d_T_put_27 : decode b_T_put 27 = .ok (.iload_n 1, 1) := by decide +kernel
theorem d_T_put_28 : decode b_T_put 28 = .ok (.castore, 1) := by decide +kernel
theorem d_T_put_29 : decode b_T_put 29 = .ok (.aload_n 0, 1) := by decide +kernel
theorem d_T_put_30 : decode b_T_put 30 = .ok (.dup, 1) := by decide +kernel
theorem d_T_put_31 : decode b_T_put 31 = .ok (.getfield 13, 3) := by decide +kernel
theorem d_T_put_34 : decode b_T_put 34 = .ok (.iconst 1, 1) := by decide +kernel
theorem d_T_put_35 : decode b_T_put 35 = .ok (.iadd, 1) := by decide +kernel
theorem d_T_put_36 : decode b_T_put 36 = .ok (.putfield 13, 3) := by decide +kernel
theorem d_T_put_39 : decode b_T_put 39 = .ok (.return_, 1) := by decide +kernel
theorem d_T_order_0 : decode b_T_order 0 = .ok (.iload_n 1, 1) := by decide +kernel
theorem d_T_order_1 : decode b_T_order 1 = .ok (.tableswitch 54 1 3 #[27, 36, 45], 27) := by decide +kernel
theorem d_T_order_28 : decode b_T_order 28 = .ok (.aload_n 0, 1) := by decide +kernel
theorem d_T_order_29 : decode b_T_order 29 = .ok (.ldc 58, 2) := by decide +kernel
theorem d_T_order_31 : decode b_T_order 31 = .ok (.invokevirtual 23, 3) := by decide +kernel
theorem d_T_order_34 : decode b_T_order 34 = .ok (.goto 21, 3) := by decide +kernel
theorem d_T_order_37 : decode b_T_order 37 = .ok (.aload_n 0, 1) := by decide +kernel
theorem d_T_order_38 : decode b_T_order 38 = .ok (.ldc 60, 2) := by decide +kernel
theorem d_T_order_40 : decode b_T_order 40 = .ok (.invokevirtual 23, 3) := by decide +kernel
theorem d_T_order_43 : decode b_T_order 43 = .ok (.goto 12, 3) := by decide +kernel
theorem d_T_order_46 : decode b_T_order 46 = .ok (.aload_n 0, 1) := by decide +kernel
theorem d_T_order_47 : decode b_T_order 47 = .ok (.ldc 62, 2) := by decide +kernel
theorem d_T_order_49 : decode b_T_order 49 = .ok (.invokevirtual 23, 3) := by decide +kernel
theorem d_T_order_52 : decode b_T_order 52 = .ok (.goto 3, 3) := by decide +kernel
theorem d_T_order_55 : decode b_T_order 55 = .ok (.return_, 1) := by decide +kernel
theorem d_JS_isEmpty_0 : decode b_JS_isEmpty 0 = .ok (.aload_n 0, 1) := by decide +kernel
theorem d_JS_isEmpty_1 : decode b_JS_isEmpty 1 = .ok (.getfield 9, 3) := by decide +kernel
theorem d_JS_isEmpty_4 : decode b_JS_isEmpty 4 = .ok (.arraylength, 1) := by decide +kernel
theorem d_JS_isEmpty_5 : decode b_JS_isEmpty 5 = .ok (.ifCond .ne 7, 3) := by decide +kernel
theorem d_JS_isEmpty_8 : decode b_JS_isEmpty 8 = .ok (.iconst 1, 1) := by decide +kernel
theorem d_JS_isEmpty_9 : decode b_JS_isEmpty 9 = .ok (.goto 4, 3) := by decide +kernel
theorem d_JS_isEmpty_12 : decode b_JS_isEmpty 12 = .ok (.iconst 0, 1) := by decide +kernel
theorem d_JS_isEmpty_13 : decode b_JS_isEmpty 13 = .ok (.ireturn, 1) := by decide +kernel
theorem d_T_operand_0 : decode b_T_operand 0 = .ok (.iload_n 1, 1) := by decide +kernel
theorem d_T_operand_1 : decode b_T_operand 1 = .ok (.tableswitch 510 66 121 #[453, 475, 510, 510, 510, 510, 510, 510, 464, 510, 510, 510, 510, 510, 510, 510, 510, 510, 510, 510, 510, 510, 510, 510, 486, 510, 510, 510, 510, 510, 510, 253, 267, 510, 239, 510, 398, 510, 338, 327, 510, 442, 431, 385, 374, 510, 409, 510, 281, 352, 510, 363, 497, 420, 294, 311], 239) := by decide +kernel
theorem d_T_operand_240 : decode b_T_operand 240 = .ok (.aload_n 0, 1) := by decide +kernel
theorem d_T_operand_241 : decode b_T_operand 241 = .ok (.iload_n 2, 1) := by decide +kernel
theorem d_T_operand_242 : decode b_T_operand 242 = .ok (.bipush 7, 2) := by decide +kernel
theorem d_T_operand_244 : decode b_T_operand 244 = .ok (.ishr, 1) := by decide +kernel
theorem d_T_operand_245 : decode b_T_operand 245 = .ok (.bipush 31, 2) := by decide +kernel
theorem d_T_operand_247 : decode b_T_operand 247 = .ok (.iand, 1) := by decide +kernel
theorem d_T_operand_248 : decode b_T_operand 248 = .ok (.invokevirtual 64, 3) := by decide +kernel
theorem d_T_operand_251 : decode b_T_operand 251 = .ok (.goto 265, 3) := by decide +kernel
theorem d_T_operand_254 : decode b_T_operand 254 = .ok (.aload_n 0, 1) := by decide +kernel
theorem d_T_operand_255 : decode b_T_operand 255 = .ok (.iload_n 2, 1) := by decide +kernel
theorem d_T_operand_256 : decode b_T_operand 256 = .ok (.bipush 15, 2) := by decide +kernel
theorem d_T_operand_258 : decode b_T_operand 258 = .ok (.ishr, 1) := by decide +kernel
theorem d_T_operand_259 : decode b_T_operand 259 = .ok (.bipush 31, 2) := by decide +kernel
theorem d_T_operand_261 : decode b_T_operand 261 = .ok (.iand, 1) := by decide +kernel
theorem d_T_operand_262 : decode b_T_operand 262 = .ok (.invokevirtual 64, 3) := by decide +kernel
theorem d_T_operand_265 : decode b_T_operand 265 = .ok (.goto 251, 3) := by decide +kernel
theorem d_T_operand_268 : decode b_T_operand 268 = .ok (.aload_n 0, 1) := by decide +kernel
theorem d_T_operand_269 : decode b_T_operand 269 = .ok (.iload_n 2, 1) := by decide +kernel
theorem d_T_operand_270 : decode b_T_operand 270 = .ok (.bipush 20, 2) := by decide +kernel
theorem d_T_operand_272 : decode b_T_operand 272 = .ok (.ishr, 1) := by decide +kernel
theorem d_T_operand_273 : decode b_T_operand 273 = .ok (.bipush 31, 2) := by decide +kernel
theorem d_T_operand_275 : decode b_T_operand 275 = .ok (.iand, 1) := by decide +kernel
theorem d_T_operand_276 : decode b_T_operand 276 = .ok (.invokevirtual 64, 3) := by decide +kernel
theorem d_T_operand_279 : decode b_T_operand 279 = .ok (.goto 237, 3) := by decide +kernel
theorem d_T_operand_282 : decode b_T_operand 282 = .ok (.aload_n 0, 1) := by decide +kernel
theorem d_T_operand_283 : decode b_T_operand 283 = .ok (.iload_n 2, 1) := by decide +kernel
theorem d_T_operand_284 : decode b_T_operand 284 = .ok (.iconst 2, 1) := by decide +kernel
theorem d_T_operand_285 : decode b_T_operand 285 = .ok (.ishr, 1) := by decide +kernel
theorem d_T_operand_286 : decode b_T_operand 286 = .ok (.bipush 31, 2) := by decide +kernel
theorem d_T_operand_288 : decode b_T_operand 288 = .ok (.iand, 1) := by decide +kernel
theorem d_T_operand_289 : decode b_T_operand 289 = .ok (.invokevirtual 64, 3) := by decide +kernel
theorem d_T_operand_292 : decode b_T_operand 292 = .ok (.goto 224, 3) := by decide +kernel
theorem d_T_operand_295 : decode b_T_operand 295 = .ok (.aload_n 0, 1) := by decide +kernel
theorem d_T_operand_296 : decode b_T_operand 296 = .ok (.bipush 8, 2) := by decide +kernel
theorem d_T_operand_298 : decode b_T_operand 298 = .ok (.iload_n 2, 1) := by decide +kernel
theorem d_T_operand_299 : decode b_T_operand 299 = .ok (.bipush 7, 2) := by decide +kernel
theorem d_T_operand_301 : decode b_T_operand 301 = .ok (.ishr, 1) := by decide +kernel
theorem d_T_operand_302 : decode b_T_operand 302 = .ok (.bipush 7, 2) := by decide +kernel
theorem d_T_operand_304 : decode b_T_operand 304 = .ok (.iand, 1) := by decide +kernel
theorem d_T_operand_305 : decode b_T_operand 305 = .ok (.iadd, 1) := by decide +kernel
theorem d_T_operand_306 : decode b_T_operand 306 = .ok (.invokevirtual 64, 3) := by decide +kernel
theorem d_T_operand_309 : decode b_T_operand 309 = .ok (.goto 207, 3) := by decide +kernel
theorem d_T_operand_312 : decode b_T_operand 312 = .ok (.aload_n 0, 1) := by decide +kernel
theorem d_T_operand_313 : decode b_T_operand 313 = .ok (.bipush 8, 2) := by decide +kernel
theorem d_T_operand_315 : decode b_T_operand 315 = .ok (.iload_n 2, 1) := by decide +kernel
theorem d_T_operand_316 : decode b_T_operand 316 = .ok (.iconst 2, 1) := by decide +kernel
theorem d_T_operand_317 : decode b_T_operand 317 = .ok (.ishr, 1) := by decide +kernel
theorem d_T_operand_318 : decode b_T_operand 318 = .ok (.bipush 7, 2) := by decide +kernel
theorem d_T_operand_320 : decode b_T_operand 320 = .ok (.iand, 1) := by decide +kernel
theorem d_T_operand_321 : decode b_T_operand 321 = .ok (.iadd, 1) := by decide +kernel
theorem d_T_operand_322 : decode b_T_operand 322 = .ok (.invokevirtual 64, 3) := by decide +kernel
theorem d_T_operand_325 : decode b_T_operand 325 = .ok (.goto 191, 3) := by decide +kernel
theorem d_T_operand_328 : decode b_T_operand 328 = .ok (.aload_n 0, 1) := by decide +kernel
theorem d_T_operand_329 : decode b_T_operand 329 = .ok (.iload_n 2, 1) := by decide +kernel
theorem d_T_operand_330 : decode b_T_operand 330 = .ok (.bipush 20, 2) := by decide +kernel
theorem d_T_operand_332 : decode b_T_operand 332 = .ok (.ishr, 1) := by decide +kernel
theorem d_T_operand_333 : decode b_T_operand 333 = .ok (.invokevirtual 67, 3) := by decide +kernel
theorem d_T_operand_336 : decode b_T_operand 336 = .ok (.goto 180, 3) := by decide +kernel
theorem d_T_operand_339 : decode b_T_operand 339 = .ok (.aload_n 0, 1) := by decide +kernel
theorem d_T_operand_340 : decode b_T_operand 340 = .ok (.iload_n 2, 1) := by decide +kernel
theorem d_T_operand_341 : decode b_T_operand 341 = .ok (.bipush 20, 2) := by decide +kernel
theorem d_T_operand_343 : decode b_T_operand 343 = .ok (.ishr, 1) := by decide +kernel
theorem d_T_operand_344 : decode b_T_operand 344 = .ok (.bipush 31, 2) := by decide +kernel
theorem d_T_operand_346 : decode b_T_operand 346 = .ok (.iand, 1) := by decide +kernel
theorem d_T_operand_347 : decode b_T_operand 347 = .ok (.invokevirtual 67, 3) := by decide +kernel
theorem d_T_operand_350 : decode b_T_operand 350 = .ok (.goto 166, 3) := by decide +kernel
theorem d_T_operand_353 : decode b_T_operand 353 = .ok (.aload_n 0, 1) := by decide +kernel
theorem d_T_operand_354 : decode b_T_operand 354 = .ok (.iload_n 2, 1) := by decide +kernel
theorem d_T_operand_355 : decode b_T_operand 355 = .ok (.invokestatic 70, 3) := by decide +kernel
theorem d_T_operand_358 : decode b_T_operand 358 = .ok (.invokevirtual 67, 3) := by decide +kernel
theorem d_T_operand_361 : decode b_T_operand 361 = .ok (.goto 155, 3) := by decide +kernel
theorem d_T_operand_364 : decode b_T_operand 364 = .ok (.aload_n 0, 1) := by decide +kernel
theorem d_T_operand_365 : decode b_T_operand 365 = .ok (.iload_n 2, 1) := by decide +kernel
theorem d_T_operand_366 : decode b_T_operand 366 = .ok (.bipush 12, 2) := by decide +kernel
theorem d_T_operand_368 : decode b_T_operand 368 = .ok (.iushr, 1) := by decide +kernel
theorem d_T_operand_369 : decode b_T_operand 369 = .ok (.invokevirtual 67, 3) := by decide +kernel
theorem d_T_operand_372 : decode b_T_operand 372 = .ok (.goto 144, 3) := by decide +kernel
theorem d_T_operand_375 : decode b_T_operand 375 = .ok (.aload_n 0, 1) := by decide +kernel
theorem d_T_operand_376 : decode b_T_operand 376 = .ok (.iload_n 2, 1) := by decide +kernel
theorem d_T_operand_377 : decode b_T_operand 377 = .ok (.invokestatic 76, 3) := by decide +kernel
theorem d_T_operand_380 : decode b_T_operand 380 = .ok (.invokevirtual 67, 3) := by decide +kernel
theorem d_T_operand_383 : decode b_T_operand 383 = .ok (.goto 133, 3) := by decide +kernel
theorem d_T_operand_386 : decode b_T_operand 386 = .ok (.aload_n 0, 1) := by decide +kernel
theorem d_T_operand_387 : decode b_T_operand 387 = .ok (.iload_n 2, 1) := by decide +kernel
theorem d_T_operand_388 : decode b_T_operand 388 = .ok (.iconst 2, 1) := by decide +kernel
theorem d_T_operand_389 : decode b_T_operand 389 = .ok (.ishr, 1) := by decide +kernel
theorem d_T_operand_390 : decode b_T_operand 390 = .ok (.bipush 31, 2) := by decide +kernel
theorem d_T_operand_392 : decode b_T_operand 392 = .ok (.iand, 1) := by decide +kernel
theorem d_T_operand_393 : decode b_T_operand 393 = .ok (.invokevirtual 67, 3) := by decide +kernel
theorem d_T_operand_396 : decode b_T_operand 396 = .ok (.goto 120, 3) := by decide +kernel
theorem d_T_operand_399 : decode b_T_operand 399 = .ok (.aload_n 0, 1) := by decide +kernel
theorem d_T_operand_400 : decode b_T_operand 400 = .ok (.iload_n 2, 1) := by decide +kernel
theorem d_T_operand_401 : decode b_T_operand 401 = .ok (.invokestatic 79, 3) := by decide +kernel
theorem d_T_operand_404 : decode b_T_operand 404 = .ok (.invokevirtual 67, 3) := by decide +kernel
theorem d_T_operand_407 : decode b_T_operand 407 = .ok (.goto 109, 3) := by decide +kernel
theorem d_T_operand_410 : decode b_T_operand 410 = .ok (.aload_n 0, 1) := by decide +kernel
theorem d_T_operand_411 : decode b_T_operand 411 = .ok (.iload_n 2, 1) := by decide +kernel
theorem d_T_operand_412 : decode b_T_operand 412 = .ok (.invokestatic 82, 3) := by decide +kernel
theorem d_T_operand_415 : decode b_T_operand 415 = .ok (.invokevirtual 67, 3) := by decide +kernel
theorem d_T_operand_418 : decode b_T_operand 418 = .ok (.goto 98, 3) := by decide +kernel
theorem d_T_operand_421 : decode b_T_operand 421 = .ok (.aload_n 0, 1) := by decide +kernel
theorem d_T_operand_422 : decode b_T_operand 422 = .ok (.iload_n 2, 1) := by decide +kernel
theorem d_T_operand_423 : decode b_T_operand 423 = .ok (.invokestatic 85, 3) := by decide +kernel
theorem d_T_operand_426 : decode b_T_operand 426 = .ok (.invokevirtual 67, 3) := by decide +kernel
theorem d_T_operand_429 : decode b_T_operand 429 = .ok (.goto 87, 3) := by decide +kernel
theorem d_T_operand_432 : decode b_T_operand 432 = .ok (.aload_n 0, 1) := by decide +kernel
theorem d_T_operand_433 : decode b_T_operand 433 = .ok (.iload_n 2, 1) := by decide +kernel
theorem d_T_operand_434 : decode b_T_operand 434 = .ok (.invokestatic 88, 3) := by decide +kernel
theorem d_T_operand_437 : decode b_T_operand 437 = .ok (.invokevirtual 67, 3) := by decide +kernel
theorem d_T_operand_440 : decode b_T_operand 440 = .ok (.goto 76, 3) := by decide +kernel
theorem d_T_operand_443 : decode b_T_operand 443 = .ok (.aload_n 0, 1) := by decide +kernel
theorem d_T_operand_444 : decode b_T_operand 444 = .ok (.iload_n 2, 1) := by decide +kernel
theorem d_T_operand_445 : decode b_T_operand 445 = .ok (.invokestatic 91, 3) := by decide +kernel
theorem d_T_operand_448 : decode b_T_operand 448 = .ok (.invokevirtual 67, 3) := by decide +kernel
theorem d_T_operand_451 : decode b_T_operand 451 = .ok (.goto 65, 3) := by decide +kernel
theorem d_T_operand_454 : decode b_T_operand 454 = .ok (.aload_n 0, 1) := by decide +kernel
theorem d_T_operand_455 : decode b_T_operand 455 = .ok (.iload_n 2, 1) := by decide +kernel
theorem d_T_operand_456 : decode b_T_operand 456 = .ok (.invokestatic 94, 3) := by decide +kernel
theorem d_T_operand_459 : decode b_T_operand 459 = .ok (.invokevirtual 97, 3) := by decide +kernel
theorem d_T_operand_462 : decode b_T_operand 462 = .ok (.goto 54, 3) := by decide +kernel
theorem d_T_operand_465 : decode b_T_operand 465 = .ok (.aload_n 0, 1) := by decide +kernel
theorem d_T_operand_466 : decode b_T_operand 466 = .ok (.iload_n 2, 1) := by decide +kernel
theorem d_T_operand_467 : decode b_T_operand 467 = .ok (.invokestatic 100, 3) := by decide +kernel
theorem d_T_operand_470 : decode b_T_operand 470 = .ok (.invokevirtual 97, 3) := by decide +kernel
theorem d_T_operand_473 : decode b_T_operand 473 = .ok (.goto 43, 3) := by decide +kernel
theorem d_T_operand_476 : decode b_T_operand 476 = .ok (.aload_n 0, 1) := by decide +kernel
theorem d_T_operand_477 : decode b_T_operand 477 = .ok (.iload_n 2, 1) := by decide +kernel
theorem d_T_operand_478 : decode b_T_operand 478 = .ok (.invokestatic 103, 3) := by decide +kernel
theorem d_T_operand_481 : decode b_T_operand 481 = .ok (.invokevirtual 97, 3) := by decide +kernel
theorem d_T_operand_484 : decode b_T_operand 484 = .ok (.goto 32, 3) := by decide +kernel
theorem d_T_operand_487 : decode b_T_operand 487 = .ok (.aload_n 0, 1) := by decide +kernel
theorem d_T_operand_488 : decode b_T_operand 488 = .ok (.iload_n 2, 1) := by decide +kernel
theorem d_T_operand_489 : decode b_T_operand 489 = .ok (.invokestatic 106, 3) := by decide +kernel
theorem d_T_operand_492 : decode b_T_operand 492 = .ok (.invokevirtual 97, 3) := by decide +kernel
theorem d_T_operand_495 : decode b_T_operand 495 = .ok (.goto 21, 3) := by decide +kernel
theorem d_T_operand_498 : decode b_T_operand 498 = .ok (.aload_n 0, 1) := by decide +kernel
theorem d_T_operand_499 : decode b_T_operand 499 = .ok (.iload_n 2, 1) := by decide +kernel
theorem d_T_operand_500 : decode b_T_operand 500 = .ok (.i2l, 1) := by decide +kernel
theorem d_T_operand_501 : decode b_T_operand 501 = .ok (.ldc2_w 109, 3) := by decide +kernel
theorem d_T_operand_504 : decode b_T_operand 504 = .ok (.land, 1) := by decide +kernel
theorem d_T_operand_505 : decode b_T_operand 505 = .ok (.invokevirtual 111, 3) := by decide +kernel
theorem d_T_operand_508 : decode b_T_operand 508 = .ok (.goto 8, 3) := by decide +kernel
theorem d_T_operand_511 : decode b_T_operand 511 = .ok (.aload_n 0, 1) := by decide +kernel
theorem d_T_operand_512 : decode b_T_operand 512 = .ok (.iload_n 1, 1) := by decide +kernel
theorem d_T_operand_513 : decode b_T_operand 513 = .ok (.invokevirtual 43, 3) := by decide +kernel
theorem d_T_operand_516 : decode b_T_operand 516 = .ok (.return_, 1) := by decide +kernel
theorem d_T_register_0 : decode b_T_register 0 = .ok (.aload_n 0, 1) := by decide +kernel
theorem d_T_register_1 : decode b_T_register 1 = .ok (.iload_n 1, 1) := by decide +kernel
theorem d_T_register_2 : decode b_T_register 2 = .ok (.invokestatic 115, 3) := by decide +kernel
theorem d_T_register_5 : decode b_T_register 5 = .ok (.invokevirtual 23, 3) := by decide +kernel
theorem d_T_register_8 : decode b_T_register 8 = .ok (.return_, 1) := by decide +kernel
theorem d_T_registerName_0 : decode b_T_registerName 0 = .ok (.iload_n 0, 1) := by decide +kernel
theorem d_T_registerName_1 : decode b_T_registerName 1 = .ok (.tableswitch 232 0 30 #[139, 142, 145, 148, 151, 154, 157, 160, 163, 166, 169, 172, 175, 178, 181, 184, 187, 190, 193, 196, 199, 202, 205, 208, 211, 214, 217, 220, 223, 226, 229], 139) := by decide +kernel
theorem d_T_registerName_140 : decode b_T_registerName 140 = .ok (.ldc 119, 2) := by decide +kernel
theorem d_T_registerName_142 : decode b_T_registerName 142 = .ok (.areturn, 1) := by decide +kernel
theorem d_T_registerName_143 : decode b_T_registerName 143 = .ok (.ldc 121, 2) := by decide +kernel
theorem d_T_registerName_145 : decode b_T_registerName 145 = .ok (.areturn, 1) := by decide +kernel
theorem d_T_registerName_146 : decode b_T_registerName 146 = .ok (.ldc 123, 2) := by decide +kernel
theorem d_T_registerName_148 : decode b_T_registerName 148 = .ok (.areturn, 1) := by decide +kernel
theorem d_T_registerName_149 : decode b_T_registerName 149 = .ok (.ldc 125, 2) := by decide +kernel
theorem d_T_registerName_151 : decode b_T_registerName 151 = .ok (.areturn, 1) := by decide +kernel
theorem d_T_registerName_152 : decode b_T_registerName 152 = .ok (.ldc 127, 2) := by decide +kernel
theorem d_T_registerName_154 : decode b_T_registerName 154 = .ok (.areturn, 1) := by decide +kernel
theorem d_T_registerName_155 : decode b_T_registerName 155 = .ok (.ldc 129, 2) := by decide +kernel
theorem d_T_registerName_157 : decode b_T_registerName 157 = .ok (.areturn, 1) := by decide +kernel
theorem d_T_registerName_158 : decode b_T_registerName 158 = .ok (.ldc 131, 2) := by decide +kernel
theorem d_T_registerName_160 : decode b_T_registerName 160 = .ok (.areturn, 1) := by decide +kernel
theorem d_T_registerName_161 : decode b_T_registerName 161 = .ok (.ldc 133, 2) := by decide +kernel
theorem d_T_registerName_163 : decode b_T_registerName 163 = .ok (.areturn, 1) := by decide +kernel
theorem d_T_registerName_164 : decode b_T_registerName 164 = .ok (.ldc 135, 2) := by decide +kernel
theorem d_T_registerName_166 : decode b_T_registerName 166 = .ok (.areturn, 1) := by decide +kernel
theorem d_T_registerName_167 : decode b_T_registerName 167 = .ok (.ldc 137, 2) := by decide +kernel
theorem d_T_registerName_169 : decode b_T_registerName 169 = .ok (.areturn, 1) := by decide +kernel
theorem d_T_registerName_170 : decode b_T_registerName 170 = .ok (.ldc 139, 2) := by decide +kernel
theorem d_T_registerName_172 : decode b_T_registerName 172 = .ok (.areturn, 1) := by decide +kernel
theorem d_T_registerName_173 : decode b_T_registerName 173 = .ok (.ldc 141, 2) := by decide +kernel
theorem d_T_registerName_175 : decode b_T_registerName 175 = .ok (.areturn, 1) := by decide +kernel
theorem d_T_registerName_176 : decode b_T_registerName 176 = .ok (.ldc 143, 2) := by decide +kernel
theorem d_T_registerName_178 : decode b_T_registerName 178 = .ok (.areturn, 1) := by decide +kernel
theorem d_T_registerName_179 : decode b_T_registerName 179 = .ok (.ldc 145, 2) := by decide +kernel
theorem d_T_registerName_181 : decode b_T_registerName 181 = .ok (.areturn, 1) := by decide +kernel
theorem d_T_registerName_182 : decode b_T_registerName 182 = .ok (.ldc 147, 2) := by decide +kernel
theorem d_T_registerName_184 : decode b_T_registerName 184 = .ok (.areturn, 1) := by decide +kernel
theorem d_T_registerName_185 : decode b_T_registerName 185 = .ok (.ldc 149, 2) := by decide +kernel
theorem d_T_registerName_187 : decode b_T_registerName 187 = .ok (.areturn, 1) := by decide +kernel
theorem d_T_registerName_188 : decode b_T_registerName 188 = .ok (.ldc 151, 2) := by decide +kernel
theorem d_T_registerName_190 : decode b_T_registerName 190 = .ok (.areturn, 1) := by decide +kernel
theorem d_T_registerName_191 : decode b_T_registerName 191 = .ok (.ldc 153, 2) := by decide +kernel
theorem d_T_registerName_193 : decode b_T_registerName 193 = .ok (.areturn, 1) := by decide +kernel
theorem d_T_registerName_194 : decode b_T_registerName 194 = .ok (.ldc 155, 2) := by decide +kernel
theorem d_T_registerName_196 : decode b_T_registerName 196 = .ok (.areturn, 1) := by decide +kernel
theorem d_T_registerName_197 : decode b_T_registerName 197 = .ok (.ldc 157, 2) := by decide +kernel
theorem d_T_registerName_199 : decode b_T_registerName 199 = .ok (.areturn, 1) := by decide +kernel
theorem d_T_registerName_200 : decode b_T_registerName 200 = .ok (.ldc 159, 2) := by decide +kernel
theorem d_T_registerName_202 : decode b_T_registerName 202 = .ok (.areturn, 1) := by decide +kernel
theorem d_T_registerName_203 : decode b_T_registerName 203 = .ok (.ldc 161, 2) := by decide +kernel
theorem d_T_registerName_205 : decode b_T_registerName 205 = .ok (.areturn, 1) := by decide +kernel
theorem d_T_registerName_206 : decode b_T_registerName 206 = .ok (.ldc 163, 2) := by decide +kernel
theorem d_T_registerName_208 : decode b_T_registerName 208 = .ok (.areturn, 1) := by decide +kernel
theorem d_T_registerName_209 : decode b_T_registerName 209 = .ok (.ldc 165, 2) := by decide +kernel
theorem d_T_registerName_211 : decode b_T_registerName 211 = .ok (.areturn, 1) := by decide +kernel
theorem d_T_registerName_212 : decode b_T_registerName 212 = .ok (.ldc 167, 2) := by decide +kernel
theorem d_T_registerName_214 : decode b_T_registerName 214 = .ok (.areturn, 1) := by decide +kernel
theorem d_T_registerName_215 : decode b_T_registerName 215 = .ok (.ldc 169, 2) := by decide +kernel
theorem d_T_registerName_217 : decode b_T_registerName 217 = .ok (.areturn, 1) := by decide +kernel
theorem d_T_registerName_218 : decode b_T_registerName 218 = .ok (.ldc 171, 2) := by decide +kernel
theorem d_T_registerName_220 : decode b_T_registerName 220 = .ok (.areturn, 1) := by decide +kernel
theorem d_T_registerName_221 : decode b_T_registerName 221 = .ok (.ldc 173, 2) := by decide +kernel
theorem d_T_registerName_223 : decode b_T_registerName 223 = .ok (.areturn, 1) := by decide +kernel
theorem d_T_registerName_224 : decode b_T_registerName 224 = .ok (.ldc 175, 2) := by decide +kernel
theorem d_T_registerName_226 : decode b_T_registerName 226 = .ok (.areturn, 1) := by decide +kernel
theorem d_T_registerName_227 : decode b_T_registerName 227 = .ok (.ldc 177, 2) := by decide +kernel
theorem d_T_registerName_229 : decode b_T_registerName 229 = .ok (.areturn, 1) := by decide +kernel
theorem d_T_registerName_230 : decode b_T_registerName 230 = .ok (.ldc 179, 2) := by decide +kernel
theorem d_T_registerName_232 : decode b_T_registerName 232 = .ok (.areturn, 1) := by decide +kernel
theorem d_T_registerName_233 : decode b_T_registerName 233 = .ok (.ldc 181, 2) := by decide +kernel
theorem d_T_registerName_235 : decode b_T_registerName 235 = .ok (.areturn, 1) := by decide +kernel
theorem d_T_number_0 : decode b_T_number 0 = .ok (.iload_n 1, 1) := by decide +kernel
theorem d_T_number_1 : decode b_T_number 1 = .ok (.ifCond .ge 9, 3) := by decide +kernel
theorem d_T_number_4 : decode b_T_number 4 = .ok (.aload_n 0, 1) := by decide +kernel
theorem d_T_number_5 : decode b_T_number 5 = .ok (.bipush 45, 2) := by decide +kernel
theorem d_T_number_7 : decode b_T_number 7 = .ok (.invokevirtual 43, 3) := by decide +kernel
theorem d_T_number_10 : decode b_T_number 10 = .ok (.aload_n 0, 1) := by decide +kernel
theorem d_T_number_11 : decode b_T_number 11 = .ok (.iload_n 1, 1) := by decide +kernel
theorem d_T_number_12 : decode b_T_number 12 = .ok (.invokestatic 183, 3) := by decide +kernel
theorem d_T_number_15 : decode b_T_number 15 = .ok (.i2l, 1) := by decide +kernel
