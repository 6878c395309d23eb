theorem d_T_number_16 : decode b_T_number 16 = .ok (.invokevirtual 111, 3) := by decide +kernel
theorem d_T_number_19 : decode b_T_number 19 = .ok (.return_, 1) := by decide +kernel
theorem d_T_digits_0 : decode b_T_digits 0 = .ok (.ldc2_w 188, 3) := by decide +kernel
theorem d_T_digits_3 : decode b_T_digits 3 = .ok (.lstore_n 3, 1) := by decide +kernel
theorem d_T_digits_4 : decode b_T_digits 4 = .ok (.lload_n 3, 1) := by decide +kernel
theorem d_T_digits_5 : decode b_T_digits 5 = .ok (.lconst 0, 1) := by decide +kernel
theorem d_T_digits_6 : decode b_T_digits 6 = .ok (.lcmp, 1) := by decide +kernel
theorem d_T_digits_7 : decode b_T_digits 7 = .ok (.ifCond .le 41, 3) := by decide +kernel
theorem d_T_digits_10 : decode b_T_digits 10 = .ok (.lload_n 1, 1) := by decide +kernel
theorem d_T_digits_11 : decode b_T_digits 11 = .ok (.lload_n 3, 1) := by decide +kernel
theorem d_T_digits_12 : decode b_T_digits 12 = .ok (.lcmp, 1) := by decide +kernel
theorem d_T_digits_13 : decode b_T_digits 13 = .ok (.ifCond .ge 9, 3) := by decide +kernel
theorem d_T_digits_16 : decode b_T_digits 16 = .ok (.lload_n 3, 1) := by decide +kernel
theorem d_T_digits_17 : decode b_T_digits 17 = .ok (.lconst 1, 1) := by decide +kernel
theorem d_T_digits_18 : decode b_T_digits 18 = .ok (.lcmp, 1) := by decide +kernel
theorem d_T_digits_19 : decode b_T_digits 19 = .ok (.ifCond .ne 20, 3) := by decide +kernel
theorem d_T_digits_22 : decode b_T_digits 22 = .ok (.aload_n 0, 1) := by decide +kernel
theorem d_T_digits_23 : decode b_T_digits 23 = .ok (.ldc2_w 190, 3) := by decide +kernel
theorem d_T_digits_26 : decode b_T_digits 26 = .ok (.lload_n 1, 1) := by decide +kernel
theorem d_T_digits_27 : decode b_T_digits 27 = .ok (.lload_n 3, 1) := by decide +kernel
theorem d_T_digits_28 : decode b_T_digits 28 = .ok (.ldiv, 1) := by decide +kernel
theorem d_T_digits_29 : decode b_T_digits 29 = .ok (.ldc2_w 192, 3) := by decide +kernel
theorem d_T_digits_32 : decode b_T_digits 32 = .ok (.lrem, 1) := by decide +kernel
theorem d_T_digits_33 : decode b_T_digits 33 = .ok (.ladd, 1) := by decide +kernel
theorem d_T_digits_34 : decode b_T_digits 34 = .ok (.l2i, 1) := by decide +kernel
theorem d_T_digits_35 : decode b_T_digits 35 = .ok (.i2c, 1) := by decide +kernel
theorem d_T_digits_36 : decode b_T_digits 36 = .ok (.invokevirtual 43, 3) := by decide +kernel
theorem d_T_digits_39 : decode b_T_digits 39 = .ok (.lload_n 3, 1) := by decide +kernel
theorem d_T_digits_40 : decode b_T_digits 40 = .ok (.ldc2_w 192, 3) := by decide +kernel
theorem d_T_digits_43 : decode b_T_digits 43 = .ok (.ldiv, 1) := by decide +kernel
theorem d_T_digits_44 : decode b_T_digits 44 = .ok (.lstore_n 3, 1) := by decide +kernel
theorem d_T_digits_45 : decode b_T_digits 45 = .ok (.goto (-41), 3) := by decide +kernel
theorem d_T_digits_48 : decode b_T_digits 48 = .ok (.return_, 1) := by decide +kernel
theorem d_F_store_0 : decode b_F_store 0 = .ok (.iload_n 0, 1) := by decide +kernel
theorem d_F_store_1 : decode b_F_store 1 = .ok (.bipush 25, 2) := by decide +kernel
theorem d_F_store_3 : decode b_F_store 3 = .ok (.ishr, 1) := by decide +kernel
theorem d_F_store_4 : decode b_F_store 4 = .ok (.iconst 5, 1) := by decide +kernel
theorem d_F_store_5 : decode b_F_store 5 = .ok (.ishl, 1) := by decide +kernel
theorem d_F_store_6 : decode b_F_store 6 = .ok (.iload_n 0, 1) := by decide +kernel
theorem d_F_store_7 : decode b_F_store 7 = .ok (.bipush 7, 2) := by decide +kernel
theorem d_F_store_9 : decode b_F_store 9 = .ok (.ishr, 1) := by decide +kernel
theorem d_F_store_10 : decode b_F_store 10 = .ok (.bipush 31, 2) := by decide +kernel
theorem d_F_store_12 : decode b_F_store 12 = .ok (.iand, 1) := by decide +kernel
theorem d_F_store_13 : decode b_F_store 13 = .ok (.ior, 1) := by decide +kernel
theorem d_F_store_14 : decode b_F_store 14 = .ok (.ireturn, 1) := by decide +kernel
theorem d_F_times16_0 : decode b_F_times16 0 = .ok (.iload_n 0, 1) := by decide +kernel
theorem d_F_times16_1 : decode b_F_times16 1 = .ok (.bipush 12, 2) := by decide +kernel
theorem d_F_times16_3 : decode b_F_times16 3 = .ok (.bipush 9, 2) := by decide +kernel
theorem d_F_times16_5 : decode b_F_times16 5 = .ok (.invokestatic 7, 3) := by decide +kernel
theorem d_F_times16_8 : decode b_F_times16 8 = .ok (.iload_n 0, 1) := by decide +kernel
theorem d_F_times16_9 : decode b_F_times16 9 = .ok (.bipush 6, 2) := by decide +kernel
theorem d_F_times16_11 : decode b_F_times16 11 = .ok (.iconst 1, 1) := by decide +kernel
theorem d_F_times16_12 : decode b_F_times16 12 = .ok (.iconst 4, 1) := by decide +kernel
theorem d_F_times16_13 : decode b_F_times16 13 = .ok (.invokestatic 13, 3) := by decide +kernel
theorem d_F_times16_16 : decode b_F_times16 16 = .ok (.ior, 1) := by decide +kernel
theorem d_F_times16_17 : decode b_F_times16 17 = .ok (.iload_n 0, 1) := by decide +kernel
theorem d_F_times16_18 : decode b_F_times16 18 = .ok (.iconst 5, 1) := by decide +kernel
theorem d_F_times16_19 : decode b_F_times16 19 = .ok (.iconst 1, 1) := by decide +kernel
theorem d_F_times16_20 : decode b_F_times16 20 = .ok (.bipush 6, 2) := by decide +kernel
theorem d_F_times16_22 : decode b_F_times16 22 = .ok (.invokestatic 13, 3) := by decide +kernel
theorem d_F_times16_25 : decode b_F_times16 25 = .ok (.ior, 1) := by decide +kernel
theorem d_F_times16_26 : decode b_F_times16 26 = .ok (.iload_n 0, 1) := by decide +kernel
theorem d_F_times16_27 : decode b_F_times16 27 = .ok (.iconst 3, 1) := by decide +kernel
theorem d_F_times16_28 : decode b_F_times16 28 = .ok (.iconst 2, 1) := by decide +kernel
theorem d_F_times16_29 : decode b_F_times16 29 = .ok (.bipush 7, 2) := by decide +kernel
theorem d_F_times16_31 : decode b_F_times16 31 = .ok (.invokestatic 13, 3) := by decide +kernel
theorem d_F_times16_34 : decode b_F_times16 34 = .ok (.ior, 1) := by decide +kernel
theorem d_F_times16_35 : decode b_F_times16 35 = .ok (.iload_n 0, 1) := by decide +kernel
theorem d_F_times16_36 : decode b_F_times16 36 = .ok (.iconst 2, 1) := by decide +kernel
theorem d_F_times16_37 : decode b_F_times16 37 = .ok (.iconst 1, 1) := by decide +kernel
theorem d_F_times16_38 : decode b_F_times16 38 = .ok (.iconst 5, 1) := by decide +kernel
theorem d_F_times16_39 : decode b_F_times16 39 = .ok (.invokestatic 13, 3) := by decide +kernel
theorem d_F_times16_42 : decode b_F_times16 42 = .ok (.ior, 1) := by decide +kernel
theorem d_F_times16_43 : decode b_F_times16 43 = .ok (.ireturn, 1) := by decide +kernel
theorem d_F_shortWord_0 : decode b_F_shortWord 0 = .ok (.iload_n 0, 1) := by decide +kernel
theorem d_F_shortWord_1 : decode b_F_shortWord 1 = .ok (.bipush 10, 2) := by decide +kernel
theorem d_F_shortWord_3 : decode b_F_shortWord 3 = .ok (.iconst 3, 1) := by decide +kernel
theorem d_F_shortWord_4 : decode b_F_shortWord 4 = .ok (.iconst 3, 1) := by decide +kernel
theorem d_F_shortWord_5 : decode b_F_shortWord 5 = .ok (.invokestatic 13, 3) := by decide +kernel
theorem d_F_shortWord_8 : decode b_F_shortWord 8 = .ok (.iload_n 0, 1) := by decide +kernel
theorem d_F_shortWord_9 : decode b_F_shortWord 9 = .ok (.bipush 6, 2) := by decide +kernel
theorem d_F_shortWord_11 : decode b_F_shortWord 11 = .ok (.iconst 1, 1) := by decide +kernel
theorem d_F_shortWord_12 : decode b_F_shortWord 12 = .ok (.iconst 2, 1) := by decide +kernel
theorem d_F_shortWord_13 : decode b_F_shortWord 13 = .ok (.invokestatic 13, 3) := by decide +kernel
theorem d_F_shortWord_16 : decode b_F_shortWord 16 = .ok (.ior, 1) := by decide +kernel
theorem d_F_shortWord_17 : decode b_F_shortWord 17 = .ok (.iload_n 0, 1) := by decide +kernel
theorem d_F_shortWord_18 : decode b_F_shortWord 18 = .ok (.iconst 5, 1) := by decide +kernel
theorem d_F_shortWord_19 : decode b_F_shortWord 19 = .ok (.iconst 1, 1) := by decide +kernel
theorem d_F_shortWord_20 : decode b_F_shortWord 20 = .ok (.bipush 6, 2) := by decide +kernel
theorem d_F_shortWord_22 : decode b_F_shortWord 22 = .ok (.invokestatic 13, 3) := by decide +kernel
theorem d_F_shortWord_25 : decode b_F_shortWord 25 = .ok (.ior, 1) := by decide +kernel
theorem d_F_shortWord_26 : decode b_F_shortWord 26 = .ok (.ireturn, 1) := by decide +kernel
theorem d_F_stackLoad_0 : decode b_F_stackLoad 0 = .ok (.iload_n 0, 1) := by decide +kernel
theorem d_F_stackLoad_1 : decode b_F_stackLoad 1 = .ok (.bipush 12, 2) := by decide +kernel
theorem d_F_stackLoad_3 : decode b_F_stackLoad 3 = .ok (.iconst 1, 1) := by decide +kernel
theorem d_F_stackLoad_4 : decode b_F_stackLoad 4 = .ok (.iconst 5, 1) := by decide +kernel
theorem d_F_stackLoad_5 : decode b_F_stackLoad 5 = .ok (.invokestatic 13, 3) := by decide +kernel
theorem d_F_stackLoad_8 : decode b_F_stackLoad 8 = .ok (.iload_n 0, 1) := by decide +kernel
theorem d_F_stackLoad_9 : decode b_F_stackLoad 9 = .ok (.iconst 4, 1) := by decide +kernel
theorem d_F_stackLoad_10 : decode b_F_stackLoad 10 = .ok (.iconst 3, 1) := by decide +kernel
theorem d_F_stackLoad_11 : decode b_F_stackLoad 11 = .ok (.iconst 2, 1) := by decide +kernel
theorem d_F_stackLoad_12 : decode b_F_stackLoad 12 = .ok (.invokestatic 13, 3) := by decide +kernel
theorem d_F_stackLoad_15 : decode b_F_stackLoad 15 = .ok (.ior, 1) := by decide +kernel
theorem d_F_stackLoad_16 : decode b_F_stackLoad 16 = .ok (.iload_n 0, 1) := by decide +kernel
theorem d_F_stackLoad_17 : decode b_F_stackLoad 17 = .ok (.iconst 2, 1) := by decide +kernel
theorem d_F_stackLoad_18 : decode b_F_stackLoad 18 = .ok (.iconst 2, 1) := by decide +kernel
theorem d_F_stackLoad_19 : decode b_F_stackLoad 19 = .ok (.bipush 6, 2) := by decide +kernel
theorem d_F_stackLoad_21 : decode b_F_stackLoad 21 = .ok (.invokestatic 13, 3) := by decide +kernel
theorem d_F_stackLoad_24 : decode b_F_stackLoad 24 = .ok (.ior, 1) := by decide +kernel
theorem d_F_stackLoad_25 : decode b_F_stackLoad 25 = .ok (.ireturn, 1) := by decide +kernel
theorem d_F_stackStore_0 : decode b_F_stackStore 0 = .ok (.iload_n 0, 1) := by decide +kernel
theorem d_F_stackStore_1 : decode b_F_stackStore 1 = .ok (.bipush 9, 2) := by decide +kernel
theorem d_F_stackStore_3 : decode b_F_stackStore 3 = .ok (.iconst 4, 1) := by decide +kernel
theorem d_F_stackStore_4 : decode b_F_stackStore 4 = .ok (.iconst 2, 1) := by decide +kernel
theorem d_F_stackStore_5 : decode b_F_stackStore 5 = .ok (.invokestatic 13, 3) := by decide +kernel
theorem d_F_stackStore_8 : decode b_F_stackStore 8 = .ok (.iload_n 0, 1) := by decide +kernel
theorem d_F_stackStore_9 : decode b_F_stackStore 9 = .ok (.bipush 7, 2) := by decide +kernel
theorem d_F_stackStore_11 : decode b_F_stackStore 11 = .ok (.iconst 2, 1) := by decide +kernel
theorem d_F_stackStore_12 : decode b_F_stackStore 12 = .ok (.bipush 6, 2) := by decide +kernel
theorem d_F_stackStore_14 : decode b_F_stackStore 14 = .ok (.invokestatic 13, 3) := by decide +kernel
theorem d_F_stackStore_17 : decode b_F_stackStore 17 = .ok (.ior, 1) := by decide +kernel
theorem d_F_stackStore_18 : decode b_F_stackStore 18 = .ok (.ireturn, 1) := by decide +kernel
theorem d_F_branch_0 : decode b_F_branch 0 = .ok (.iload_n 0, 1) := by decide +kernel
theorem d_F_branch_1 : decode b_F_branch 1 = .ok (.bipush 31, 2) := by decide +kernel
theorem d_F_branch_3 : decode b_F_branch 3 = .ok (.bipush 12, 2) := by decide +kernel
theorem d_F_branch_5 : decode b_F_branch 5 = .ok (.invokestatic 7, 3) := by decide +kernel
theorem d_F_branch_8 : decode b_F_branch 8 = .ok (.iload_n 0, 1) := by decide +kernel
theorem d_F_branch_9 : decode b_F_branch 9 = .ok (.bipush 7, 2) := by decide +kernel
theorem d_F_branch_11 : decode b_F_branch 11 = .ok (.iconst 1, 1) := by decide +kernel
theorem d_F_branch_12 : decode b_F_branch 12 = .ok (.bipush 11, 2) := by decide +kernel
theorem d_F_branch_14 : decode b_F_branch 14 = .ok (.invokestatic 13, 3) := by decide +kernel
theorem d_F_branch_17 : decode b_F_branch 17 = .ok (.ior, 1) := by decide +kernel
theorem d_F_branch_18 : decode b_F_branch 18 = .ok (.iload_n 0, 1) := by decide +kernel
theorem d_F_branch_19 : decode b_F_branch 19 = .ok (.bipush 25, 2) := by decide +kernel
theorem d_F_branch_21 : decode b_F_branch 21 = .ok (.bipush 6, 2) := by decide +kernel
theorem d_F_branch_23 : decode b_F_branch 23 = .ok (.iconst 5, 1) := by decide +kernel
theorem d_F_branch_24 : decode b_F_branch 24 = .ok (.invokestatic 13, 3) := by decide +kernel
theorem d_F_branch_27 : decode b_F_branch 27 = .ok (.ior, 1) := by decide +kernel
theorem d_F_branch_28 : decode b_F_branch 28 = .ok (.iload_n 0, 1) := by decide +kernel
theorem d_F_branch_29 : decode b_F_branch 29 = .ok (.bipush 8, 2) := by decide +kernel
theorem d_F_branch_31 : decode b_F_branch 31 = .ok (.iconst 4, 1) := by decide +kernel
theorem d_F_branch_32 : decode b_F_branch 32 = .ok (.iconst 1, 1) := by decide +kernel
theorem d_F_branch_33 : decode b_F_branch 33 = .ok (.invokestatic 13, 3) := by decide +kernel
theorem d_F_branch_36 : decode b_F_branch 36 = .ok (.ior, 1) := by decide +kernel
theorem d_F_branch_37 : decode b_F_branch 37 = .ok (.ireturn, 1) := by decide +kernel
theorem d_T_offset_0 : decode b_T_offset 0 = .ok (.aload_n 0, 1) := by decide +kernel
theorem d_T_offset_1 : decode b_T_offset 1 = .ok (.bipush 46, 2) := by decide +kernel
theorem d_T_offset_3 : decode b_T_offset 3 = .ok (.invokevirtual 43, 3) := by decide +kernel
theorem d_T_offset_6 : decode b_T_offset 6 = .ok (.aload_n 0, 1) := by decide +kernel
theorem d_T_offset_7 : decode b_T_offset 7 = .ok (.iload_n 1, 1) := by decide +kernel
theorem d_T_offset_8 : decode b_T_offset 8 = .ok (.ifCond .ge 8, 3) := by decide +kernel
theorem d_T_offset_11 : decode b_T_offset 11 = .ok (.bipush 45, 2) := by decide +kernel
theorem d_T_offset_13 : decode b_T_offset 13 = .ok (.goto 5, 3) := by decide +kernel
theorem d_T_offset_16 : decode b_T_offset 16 = .ok (.bipush 43, 2) := by decide +kernel
theorem d_T_offset_18 : decode b_T_offset 18 = .ok (.invokevirtual 43, 3) := by decide +kernel
theorem d_T_offset_21 : decode b_T_offset 21 = .ok (.aload_n 0, 1) := by decide +kernel
theorem d_T_offset_22 : decode b_T_offset 22 = .ok (.iload_n 1, 1) := by decide +kernel
theorem d_T_offset_23 : decode b_T_offset 23 = .ok (.invokestatic 183, 3) := by decide +kernel
theorem d_T_offset_26 : decode b_T_offset 26 = .ok (.i2l, 1) := by decide +kernel
theorem d_T_offset_27 : decode b_T_offset 27 = .ok (.invokevirtual 111, 3) := by decide +kernel
theorem d_T_offset_30 : decode b_T_offset 30 = .ok (.return_, 1) := by decide +kernel
theorem d_F_jump_0 : decode b_F_jump 0 = .ok (.iload_n 0, 1) := by decide +kernel
theorem d_F_jump_1 : decode b_F_jump 1 = .ok (.bipush 31, 2) := by decide +kernel
theorem d_F_jump_3 : decode b_F_jump 3 = .ok (.bipush 20, 2) := by decide +kernel
theorem d_F_jump_5 : decode b_F_jump 5 = .ok (.invokestatic 7, 3) := by decide +kernel
theorem d_F_jump_8 : decode b_F_jump 8 = .ok (.iload_n 0, 1) := by decide +kernel
theorem d_F_jump_9 : decode b_F_jump 9 = .ok (.bipush 12, 2) := by decide +kernel
theorem d_F_jump_11 : decode b_F_jump 11 = .ok (.bipush 8, 2) := by decide +kernel
theorem d_F_jump_13 : decode b_F_jump 13 = .ok (.bipush 12, 2) := by decide +kernel
theorem d_F_jump_15 : decode b_F_jump 15 = .ok (.invokestatic 13, 3) := by decide +kernel
theorem d_F_jump_18 : decode b_F_jump 18 = .ok (.ior, 1) := by decide +kernel
theorem d_F_jump_19 : decode b_F_jump 19 = .ok (.iload_n 0, 1) := by decide +kernel
theorem d_F_jump_20 : decode b_F_jump 20 = .ok (.bipush 20, 2) := by decide +kernel
theorem d_F_jump_22 : decode b_F_jump 22 = .ok (.iconst 1, 1) := by decide +kernel
theorem d_F_jump_23 : decode b_F_jump 23 = .ok (.bipush 11, 2) := by decide +kernel
theorem d_F_jump_25 : decode b_F_jump 25 = .ok (.invokestatic 13, 3) := by decide +kernel
theorem d_F_jump_28 : decode b_F_jump 28 = .ok (.ior, 1) := by decide +kernel
theorem d_F_jump_29 : decode b_F_jump 29 = .ok (.iload_n 0, 1) := by decide +kernel
theorem d_F_jump_30 : decode b_F_jump 30 = .ok (.bipush 21, 2) := by decide +kernel
theorem d_F_jump_32 : decode b_F_jump 32 = .ok (.bipush 10, 2) := by decide +kernel
theorem d_F_jump_34 : decode b_F_jump 34 = .ok (.iconst 1, 1) := by decide +kernel
theorem d_F_jump_35 : decode b_F_jump 35 = .ok (.invokestatic 13, 3) := by decide +kernel
theorem d_F_jump_38 : decode b_F_jump 38 = .ok (.ior, 1) := by decide +kernel
theorem d_F_jump_39 : decode b_F_jump 39 = .ok (.ireturn, 1) := by decide +kernel
theorem d_F_shortJump_0 : decode b_F_shortJump 0 = .ok (.iload_n 0, 1) := by decide +kernel
theorem d_F_shortJump_1 : decode b_F_shortJump 1 = .ok (.bipush 12, 2) := by decide +kernel
theorem d_F_shortJump_3 : decode b_F_shortJump 3 = .ok (.bipush 11, 2) := by decide +kernel
theorem d_F_shortJump_5 : decode b_F_shortJump 5 = .ok (.invokestatic 7, 3) := by decide +kernel
theorem d_F_shortJump_8 : decode b_F_shortJump 8 = .ok (.iload_n 0, 1) := by decide +kernel
theorem d_F_shortJump_9 : decode b_F_shortJump 9 = .ok (.bipush 11, 2) := by decide +kernel
theorem d_F_shortJump_11 : decode b_F_shortJump 11 = .ok (.iconst 1, 1) := by decide +kernel
theorem d_F_shortJump_12 : decode b_F_shortJump 12 = .ok (.iconst 4, 1) := by decide +kernel
theorem d_F_shortJump_13 : decode b_F_shortJump 13 = .ok (.invokestatic 13, 3) := by decide +kernel
theorem d_F_shortJump_16 : decode b_F_shortJump 16 = .ok (.ior, 1) := by decide +kernel
theorem d_F_shortJump_17 : decode b_F_shortJump 17 = .ok (.iload_n 0, 1) := by decide +kernel
theorem d_F_shortJump_18 : decode b_F_shortJump 18 = .ok (.bipush 9, 2) := by decide +kernel
theorem d_F_shortJump_20 : decode b_F_shortJump 20 = .ok (.iconst 2, 1) := by decide +kernel
theorem d_F_shortJump_21 : decode b_F_shortJump 21 = .ok (.bipush 8, 2) := by decide +kernel
theorem d_F_shortJump_23 : decode b_F_shortJump 23 = .ok (.invokestatic 13, 3) := by decide +kernel
theorem d_F_shortJump_26 : decode b_F_shortJump 26 = .ok (.ior, 1) := by decide +kernel
theorem d_F_shortJump_27 : decode b_F_shortJump 27 = .ok (.iload_n 0, 1) := by decide +kernel
theorem d_F_shortJump_28 : decode b_F_shortJump 28 = .ok (.bipush 8, 2) := by decide +kernel
theorem d_F_shortJump_30 : decode b_F_shortJump 30 = .ok (.iconst 1, 1) := by decide +kernel
theorem d_F_shortJump_31 : decode b_F_shortJump 31 = .ok (.bipush 10, 2) := by decide +kernel
theorem d_F_shortJump_33 : decode b_F_shortJump 33 = .ok (.invokestatic 13, 3) := by decide +kernel
theorem d_F_shortJump_36 : decode b_F_shortJump 36 = .ok (.ior, 1) := by decide +kernel
theorem d_F_shortJump_37 : decode b_F_shortJump 37 = .ok (.iload_n 0, 1) := by decide +kernel
theorem d_F_shortJump_38 : decode b_F_shortJump 38 = .ok (.bipush 7, 2) := by decide +kernel
theorem d_F_shortJump_40 : decode b_F_shortJump 40 = .ok (.iconst 1, 1) := by decide +kernel
theorem d_F_shortJump_41 : decode b_F_shortJump 41 = .ok (.bipush 6, 2) := by decide +kernel
theorem d_F_shortJump_43 : decode b_F_shortJump 43 = .ok (.invokestatic 13, 3) := by decide +kernel
theorem d_F_shortJump_46 : decode b_F_shortJump 46 = .ok (.ior, 1) := by decide +kernel
theorem d_F_shortJump_47 : decode b_F_shortJump 47 = .ok (.iload_n 0, 1) := by decide +kernel
theorem d_F_shortJump_48 : decode b_F_shortJump 48 = .ok (.bipush 6, 2) := by decide +kernel
theorem d_F_shortJump_50 : decode b_F_shortJump 50 = .ok (.iconst 1, 1) := by decide +kernel
theorem d_F_shortJump_51 : decode b_F_shortJump 51 = .ok (.bipush 7, 2) := by decide +kernel
theorem d_F_shortJump_53 : decode b_F_shortJump 53 = .ok (.invokestatic 13, 3) := by decide +kernel
theorem d_F_shortJump_56 : decode b_F_shortJump 56 = .ok (.ior, 1) := by decide +kernel
theorem d_F_shortJump_57 : decode b_F_shortJump 57 = .ok (.iload_n 0, 1) := by decide +kernel
theorem d_F_shortJump_58 : decode b_F_shortJump 58 = .ok (.iconst 3, 1) := by decide +kernel
theorem d_F_shortJump_59 : decode b_F_shortJump 59 = .ok (.iconst 3, 1) := by decide +kernel
theorem d_F_shortJump_60 : decode b_F_shortJump 60 = .ok (.iconst 1, 1) := by decide +kernel
theorem d_F_shortJump_61 : decode b_F_shortJump 61 = .ok (.invokestatic 13, 3) := by decide +kernel
theorem d_F_shortJump_64 : decode b_F_shortJump 64 = .ok (.ior, 1) := by decide +kernel
theorem d_F_shortJump_65 : decode b_F_shortJump 65 = .ok (.iload_n 0, 1) := by decide +kernel
theorem d_F_shortJump_66 : decode b_F_shortJump 66 = .ok (.iconst 2, 1) := by decide +kernel
theorem d_F_shortJump_67 : decode b_F_shortJump 67 = .ok (.iconst 1, 1) := by decide +kernel
theorem d_F_shortJump_68 : decode b_F_shortJump 68 = .ok (.iconst 5, 1) := by decide +kernel
theorem d_F_shortJump_69 : decode b_F_shortJump 69 = .ok (.invokestatic 13, 3) := by decide +kernel
theorem d_F_shortJump_72 : decode b_F_shortJump 72 = .ok (.ior, 1) := by decide +kernel
theorem d_F_shortJump_73 : decode b_F_shortJump 73 = .ok (.ireturn, 1) := by decide +kernel
theorem d_F_shortBranch_0 : decode b_F_shortBranch 0 = .ok (.iload_n 0, 1) := by decide +kernel
theorem d_F_shortBranch_1 : decode b_F_shortBranch 1 = .ok (.bipush 12, 2) := by decide +kernel
theorem d_F_shortBranch_3 : decode b_F_shortBranch 3 = .ok (.bipush 8, 2) := by decide +kernel
theorem d_F_shortBranch_5 : decode b_F_shortBranch 5 = .ok (.invokestatic 7, 3) := by decide +kernel
theorem d_F_shortBranch_8 : decode b_F_shortBranch 8 = .ok (.iload_n 0, 1) := by decide +kernel
theorem d_F_shortBranch_9 : decode b_F_shortBranch 9 = .ok (.bipush 10, 2) := by decide +kernel
theorem d_F_shortBranch_11 : decode b_F_shortBranch 11 = .ok (.iconst 2, 1) := by decide +kernel
theorem d_F_shortBranch_12 : decode b_F_shortBranch 12 = .ok (.iconst 3, 1) := by decide +kernel
theorem d_F_shortBranch_13 : decode b_F_shortBranch 13 = .ok (.invokestatic 13, 3) := by decide +kernel
theorem d_F_shortBranch_16 : decode b_F_shortBranch 16 = .ok (.ior, 1) := by decide +kernel
theorem d_F_shortBranch_17 : decode b_F_shortBranch 17 = .ok (.iload_n 0, 1) := by decide +kernel
theorem d_F_shortBranch_18 : decode b_F_shortBranch 18 = .ok (.iconst 5, 1) := by decide +kernel
theorem d_F_shortBranch_19 : decode b_F_shortBranch 19 = .ok (.iconst 2, 1) := by decide +kernel
theorem d_F_shortBranch_20 : decode b_F_shortBranch 20 = .ok (.bipush 6, 2) := by decide +kernel
theorem d_F_shortBranch_22 : decode b_F_shortBranch 22 = .ok (.invokestatic 13, 3) := by decide +kernel
theorem d_F_shortBranch_25 : decode b_F_shortBranch 25 = .ok (.ior, 1) := by decide +kernel
theorem d_F_shortBranch_26 : decode b_F_shortBranch 26 = .ok (.iload_n 0, 1) := by decide +kernel
theorem d_F_shortBranch_27 : decode b_F_shortBranch 27 = .ok (.iconst 3, 1) := by decide +kernel
theorem d_F_shortBranch_28 : decode b_F_shortBranch 28 = .ok (.iconst 2, 1) := by decide +kernel
theorem d_F_shortBranch_29 : decode b_F_shortBranch 29 = .ok (.iconst 1, 1) := by decide +kernel
theorem d_F_shortBranch_30 : decode b_F_shortBranch 30 = .ok (.invokestatic 13, 3) := by decide +kernel
theorem d_F_shortBranch_33 : decode b_F_shortBranch 33 = .ok (.ior, 1) := by decide +kernel
theorem d_F_shortBranch_34 : decode b_F_shortBranch 34 = .ok (.iload_n 0, 1) := by decide +kernel
theorem d_F_shortBranch_35 : decode b_F_shortBranch 35 = .ok (.iconst 2, 1) := by decide +kernel
theorem d_F_shortBranch_36 : decode b_F_shortBranch 36 = .ok (.iconst 1, 1) := by decide +kernel
theorem d_F_shortBranch_37 : decode b_F_shortBranch 37 = .ok (.iconst 5, 1) := by decide +kernel
theorem d_F_shortBranch_38 : decode b_F_shortBranch 38 = .ok (.invokestatic 13, 3) := by decide +kernel
theorem d_F_shortBranch_41 : decode b_F_shortBranch 41 = .ok (.ior, 1) := by decide +kernel
theorem d_F_shortBranch_42 : decode b_F_shortBranch 42 = .ok (.ireturn, 1) := by decide +kernel
theorem d_K_isInstruction_0 : decode b_K_isInstruction 0 = .ok (.aload_n 0, 1) := by decide +kernel
theorem d_K_isInstruction_1 : decode b_K_isInstruction 1 = .ok (.getstatic 3, 3) := by decide +kernel
theorem d_K_isInstruction_4 : decode b_K_isInstruction 4 = .ok (.if_acmp .eq 14, 3) := by decide +kernel
theorem d_K_isInstruction_7 : decode b_K_isInstruction 7 = .ok (.aload_n 0, 1) := by decide +kernel
theorem d_K_isInstruction_8 : decode b_K_isInstruction 8 = .ok (.getstatic 7, 3) := by decide +kernel
theorem d_K_isInstruction_11 : decode b_K_isInstruction 11 = .ok (.if_acmp .eq 7, 3) := by decide +kernel
theorem d_K_isInstruction_14 : decode b_K_isInstruction 14 = .ok (.iconst 1, 1) := by decide +kernel
theorem d_K_isInstruction_15 : decode b_K_isInstruction 15 = .ok (.goto 4, 3) := by decide +kernel
theorem d_K_isInstruction_18 : decode b_K_isInstruction 18 = .ok (.iconst 0, 1) := by decide +kernel
theorem d_K_isInstruction_19 : decode b_K_isInstruction 19 = .ok (.ireturn, 1) := by decide +kernel
theorem d_K_operandCount_0 : decode b_K_operandCount 0 = .ok (.aload_n 0, 1) := by decide +kernel
theorem d_K_operandCount_1 : decode b_K_operandCount 1 = .ok (.getfield 312, 3) := by decide +kernel
theorem d_K_operandCount_4 : decode b_K_operandCount 4 = .ok (.invokevirtual 319, 3) := by decide +kernel
theorem d_K_operandCount_7 : decode b_K_operandCount 7 = .ok (.ifCond .eq 5, 3) := by decide +kernel
theorem d_K_operandCount_10 : decode b_K_operandCount 10 = .ok (.iconst 0, 1) := by decide +kernel
theorem d_K_operandCount_11 : decode b_K_operandCount 11 = .ok (.ireturn, 1) := by decide +kernel
theorem d_K_operandCount_12 : decode b_K_operandCount 12 = .ok (.iconst 1, 1) := by decide +kernel
theorem d_K_operandCount_13 : decode b_K_operandCount 13 = .ok (.istore_n 1, 1) := by decide +kernel
theorem d_K_operandCount_14 : decode b_K_operandCount 14 = .ok (.iconst 0, 1) := by decide +kernel
theorem d_K_operandCount_15 : decode b_K_operandCount 15 = .ok (.istore_n 2, 1) := by decide +kernel
theorem d_K_operandCount_16 : decode b_K_operandCount 16 = .ok (.iload_n 2, 1) := by decide +kernel
theorem d_K_operandCount_17 : decode b_K_operandCount 17 = .ok (.aload_n 0, 1) := by decide +kernel
theorem d_K_operandCount_18 : decode b_K_operandCount 18 = .ok (.getfield 312, 3) := by decide +kernel
theorem d_K_operandCount_21 : decode b_K_operandCount 21 = .ok (.invokevirtual 325, 3) := by decide +kernel
theorem d_K_operandCount_24 : decode b_K_operandCount 24 = .ok (.if_icmp .ge 25, 3) := by decide +kernel
theorem d_K_operandCount_27 : decode b_K_operandCount 27 = .ok (.aload_n 0, 1) := by decide +kernel
theorem d_K_operandCount_28 : decode b_K_operandCount 28 = .ok (.getfield 312, 3) := by decide +kernel
theorem d_K_operandCount_31 : decode b_K_operandCount 31 = .ok (.iload_n 2, 1) := by decide +kernel
theorem d_K_operandCount_32 : decode b_K_operandCount 32 = .ok (.invokevirtual 329, 3) := by decide +kernel
theorem d_K_operandCount_35 : decode b_K_operandCount 35 = .ok (.bipush 44, 2) := by decide +kernel
theorem d_K_operandCount_37 : decode b_K_operandCount 37 = .ok (.if_icmp .ne 6, 3) := by decide +kernel
theorem d_K_operandCount_40 : decode b_K_operandCount 40 = .ok (.iinc 1 1, 3) := by decide +kernel
theorem d_K_operandCount_43 : decode b_K_operandCount 43 = .ok (.iinc 2 1, 3) := by decide +kernel
theorem d_K_operandCount_46 : decode b_K_operandCount 46 = .ok (.goto (-30), 3) := by decide +kernel
theorem d_K_operandCount_49 : decode b_K_operandCount 49 = .ok (.iload_n 1, 1) := by decide +kernel
theorem d_K_operandCount_50 : decode b_K_operandCount 50 = .ok (.ireturn, 1) := by decide +kernel
theorem d_T_size_0 : decode b_T_size 0 = .ok (.aload_n 0, 1) := by decide +kernel
theorem d_T_size_1 : decode b_T_size 1 = .ok (.getfield 13, 3) := by decide +kernel
theorem d_T_size_4 : decode b_T_size 4 = .ok (.ireturn, 1) := by decide +kernel
theorem d_R_about_0 : decode b_R_about 0 = .ok (.iload_n 1, 1) := by decide +kernel
theorem d_R_about_1 : decode b_R_about 1 = .ok (.tableswitch 62 0 3 #[31, 39, 44, 57], 31) := by decide +kernel
theorem d_R_about_32 : decode b_R_about 32 = .ok (.aload_n 0, 1) := by decide +kernel
theorem d_R_about_33 : decode b_R_about 33 = .ok (.getfield 16, 3) := by decide +kernel
theorem d_R_about_36 : decode b_R_about 36 = .ok (.invokevirtual 40, 3) := by decide +kernel
theorem d_R_about_39 : decode b_R_about 39 = .ok (.ireturn, 1) := by decide +kernel
theorem d_R_about_40 : decode b_R_about 40 = .ok (.aload_n 0, 1) := by decide +kernel
theorem d_R_about_41 : decode b_R_about 41 = .ok (.getfield 20, 3) := by decide +kernel
theorem d_R_about_44 : decode b_R_about 44 = .ok (.ireturn, 1) := by decide +kernel
theorem d_R_about_45 : decode b_R_about 45 = .ok (.aload_n 0, 1) := by decide +kernel
theorem d_R_about_46 : decode b_R_about 46 = .ok (.getfield 24, 3) := by decide +kernel
theorem d_R_about_49 : decode b_R_about 49 = .ok (.ifCond .eq 7, 3) := by decide +kernel
theorem d_R_about_52 : decode b_R_about 52 = .ok (.iconst 1, 1) := by decide +kernel
theorem d_R_about_53 : decode b_R_about 53 = .ok (.goto 4, 3) := by decide +kernel
theorem d_R_about_56 : decode b_R_about 56 = .ok (.iconst 0, 1) := by decide +kernel
theorem d_R_about_57 : decode b_R_about 57 = .ok (.ireturn, 1) := by decide +kernel
theorem d_R_about_58 : decode b_R_about 58 = .ok (.aload_n 0, 1) := by decide +kernel
theorem d_R_about_59 : decode b_R_about 59 = .ok (.getfield 28, 3) := by decide +kernel
theorem d_R_about_62 : decode b_R_about 62 = .ok (.ireturn, 1) := by decide +kernel
theorem d_R_about_63 : decode b_R_about 63 = .ok (.iconst (-1), 1) := by decide +kernel
theorem d_R_about_64 : decode b_R_about 64 = .ok (.ireturn, 1) := by decide +kernel
theorem d_W_letter_0 : decode b_W_letter 0 = .ok (.aload_n 2, 1) := by decide +kernel
theorem d_W_letter_1 : decode b_W_letter 1 = .ok (.iconst 0, 1) := by decide +kernel
theorem d_W_letter_2 : decode b_W_letter 2 = .ok (.aload_n 0, 1) := by decide +kernel
theorem d_W_letter_3 : decode b_W_letter 3 = .ok (.iload_n 1, 1) := by decide +kernel
theorem d_W_letter_4 : decode b_W_letter 4 = .ok (.invokevirtual 7, 3) := by decide +kernel
theorem d_W_letter_7 : decode b_W_letter 7 = .ok (.i2l, 1) := by decide +kernel
theorem d_W_letter_8 : decode b_W_letter 8 = .ok (.lastore, 1) := by decide +kernel
theorem d_W_letter_9 : decode b_W_letter 9 = .ok (.goto 6, 3) := by decide +kernel
theorem d_W_letter_12 : decode b_W_letter 12 = .ok (.astore_n 3, 1) := by decide +kernel
theorem d_W_letter_13 : decode b_W_letter 13 = .ok (.iconst 1, 1) := by decide +kernel
theorem d_W_letter_14 : decode b_W_letter 14 = .ok (.ireturn, 1) := by decide +kernel
theorem d_W_letter_15 : decode b_W_letter 15 = .ok (.iconst 0, 1) := by decide +kernel
theorem d_W_letter_16 : decode b_W_letter 16 = .ok (.ireturn, 1) := by decide +kernel
theorem d_R_letter_0 : decode b_R_letter 0 = .ok (.iload_n 1, 1) := by decide +kernel
theorem d_R_letter_1 : decode b_R_letter 1 = .ok (.ifCond .lt 14, 3) := by decide +kernel
theorem d_R_letter_4 : decode b_R_letter 4 = .ok (.iload_n 1, 1) := by decide +kernel
theorem d_R_letter_5 : decode b_R_letter 5 = .ok (.aload_n 0, 1) := by decide +kernel
theorem d_R_letter_6 : decode b_R_letter 6 = .ok (.getfield 16, 3) := by decide +kernel
theorem d_R_letter_9 : decode b_R_letter 9 = .ok (.invokevirtual 40, 3) := by decide +kernel
theorem d_R_letter_12 : decode b_R_letter 12 = .ok (.if_icmp .lt 13, 3) := by decide +kernel
theorem d_R_letter_15 : decode b_R_letter 15 = .ok (.new 44, 3) := by decide +kernel
theorem d_R_letter_18 : decode b_R_letter 18 = .ok (.dup, 1) := by decide +kernel
theorem d_R_letter_19 : decode b_R_letter 19 = .ok (.ldc 46, 2) := by decide +kernel
theorem d_R_letter_21 : decode b_R_letter 21 = .ok (.invokespecial 48, 3) := by decide +kernel
theorem d_R_letter_24 : decode b_R_letter 24 = .ok (.athrow, 1) := by decide +kernel
theorem d_R_letter_25 : decode b_R_letter 25 = .ok (.aload_n 0, 1) := by decide +kernel
theorem d_R_letter_26 : decode b_R_letter 26 = .ok (.getfield 16, 3) := by decide +kernel
theorem d_R_letter_29 : decode b_R_letter 29 = .ok (.iload_n 1, 1) := by decide +kernel
theorem d_R_letter_30 : decode b_R_letter 30 = .ok (.invokevirtual 51, 3) := by decide +kernel
theorem d_R_letter_33 : decode b_R_letter 33 = .ok (.ireturn, 1) := by decide +kernel
theorem d_T_character_0 : decode b_T_character 0 = .ok (.iload_n 1, 1) := by decide +kernel
theorem d_T_character_1 : decode b_T_character 1 = .ok (.ifCond .lt 29, 3) := by decide +kernel
theorem d_T_character_4 : decode b_T_character 4 = .ok (.iload_n 1, 1) := by decide +kernel
theorem d_T_character_5 : decode b_T_character 5 = .ok (.aload_n 0, 1) := by decide +kernel
theorem d_T_character_6 : decode b_T_character 6 = .ok (.getfield 13, 3) := by decide +kernel
theorem d_T_character_9 : decode b_T_character 9 = .ok (.if_icmp .ge 21, 3) := by decide +kernel
theorem d_T_character_12 : decode b_T_character 12 = .ok (.iload_n 1, 1) := by decide +kernel
theorem d_T_character_13 : decode b_T_character 13 = .ok (.aload_n 0, 1) := by decide +kernel
theorem d_T_character_14 : decode b_T_character 14 = .ok (.getfield 9, 3) := by decide +kernel
theorem d_T_character_17 : decode b_T_character 17 = .ok (.arraylength, 1) := by decide +kernel
theorem d_T_character_18 : decode b_T_character 18 = .ok (.if_icmp .ge 12, 3) := by decide +kernel
theorem d_T_character_21 : decode b_T_character 21 = .ok (.aload_n 0, 1) := by decide +kernel
theorem d_T_character_22 : decode b_T_character 22 = .ok (.getfield 9, 3) := by decide +kernel
theorem d_T_character_25 : decode b_T_character 25 = .ok (.iload_n 1, 1) := by decide +kernel
theorem d_T_character_26 : decode b_T_character 26 = .ok (.caload, 1) := by decide +kernel
theorem d_T_character_27 : decode b_T_character 27 = .ok (.goto 5, 3) := by decide +kernel
theorem d_T_character_30 : decode b_T_character 30 = .ok (.bipush 32, 2) := by decide +kernel
theorem d_T_character_32 : decode b_T_character 32 = .ok (.ireturn, 1) := by decide +kernel
theorem d_W_poke_0 : decode b_W_poke 0 = .ok (.aload_n 0, 1) := by decide +kernel
theorem d_W_poke_1 : decode b_W_poke 1 = .ok (.iload_n 1, 1) := by decide +kernel
theorem d_W_poke_2 : decode b_W_poke 2 = .ok (.iload_n 2, 1) := by decide +kernel
theorem d_W_poke_3 : decode b_W_poke 3 = .ok (.invokevirtual 15, 3) := by decide +kernel
theorem d_W_poke_6 : decode b_W_poke 6 = .ok (.goto 6, 3) := by decide +kernel
theorem d_W_poke_9 : decode b_W_poke 9 = .ok (.astore_n 3, 1) := by decide +kernel
theorem d_W_poke_10 : decode b_W_poke 10 = .ok (.iconst 1, 1) := by decide +kernel
theorem d_W_poke_11 : decode b_W_poke 11 = .ok (.ireturn, 1) := by decide +kernel
theorem d_W_poke_12 : decode b_W_poke 12 = .ok (.iconst 0, 1) := by decide +kernel
theorem d_W_poke_13 : decode b_W_poke 13 = .ok (.ireturn, 1) := by decide +kernel
theorem d_R_poke_0 : decode b_R_poke 0 = .ok (.iload_n 1, 1) := by decide +kernel
theorem d_R_poke_1 : decode b_R_poke 1 = .ok (.invokestatic 55, 3) := by decide +kernel
theorem d_R_poke_4 : decode b_R_poke 4 = .ok (.aload_n 0, 1) := by decide +kernel
theorem d_R_poke_5 : decode b_R_poke 5 = .ok (.getfield 9, 3) := by decide +kernel
theorem d_R_poke_8 : decode b_R_poke 8 = .ok (.iload_n 1, 1) := by decide +kernel
theorem d_R_poke_9 : decode b_R_poke 9 = .ok (.iload_n 2, 1) := by decide +kernel
theorem d_R_poke_10 : decode b_R_poke 10 = .ok (.sipush 255, 3) := by decide +kernel
theorem d_R_poke_13 : decode b_R_poke 13 = .ok (.iand, 1) := by decide +kernel
theorem d_R_poke_14 : decode b_R_poke 14 = .ok (.iastore, 1) := by decide +kernel
theorem d_R_poke_15 : decode b_R_poke 15 = .ok (.return_, 1) := by decide +kernel
theorem d_R_demandAddress_0 : decode b_R_demandAddress 0 = .ok (.iload_n 0, 1) := by decide +kernel
theorem d_R_demandAddress_1 : decode b_R_demandAddress 1 = .ok (.invokestatic 86, 3) := by decide +kernel
theorem d_R_demandAddress_4 : decode b_R_demandAddress 4 = .ok (.ifCond .ne 13, 3) := by decide +kernel
theorem d_R_demandAddress_7 : decode b_R_demandAddress 7 = .ok (.new 44, 3) := by decide +kernel
theorem d_R_demandAddress_10 : decode b_R_demandAddress 10 = .ok (.dup, 1) := by decide +kernel
theorem d_R_demandAddress_11 : decode b_R_demandAddress 11 = .ok (.ldc 89, 2) := by decide +kernel
theorem d_R_demandAddress_13 : decode b_R_demandAddress 13 = .ok (.invokespecial 48, 3) := by decide +kernel
theorem d_R_demandAddress_16 : decode b_R_demandAddress 16 = .ok (.athrow, 1) := by decide +kernel
theorem d_R_demandAddress_17 : decode b_R_demandAddress 17 = .ok (.return_, 1) := by decide +kernel
theorem d_R_isAddress_0 : decode b_R_isAddress 0 = .ok (.iload_n 0, 1) := by decide +kernel
theorem d_R_isAddress_1 : decode b_R_isAddress 1 = .ok (.ifCond .lt 14, 3) := by decide +kernel
theorem d_R_isAddress_4 : decode b_R_isAddress 4 = .ok (.iload_n 0, 1) := by decide +kernel
theorem d_R_isAddress_5 : decode b_R_isAddress 5 = .ok (.sipush 256, 3) := by decide +kernel
theorem d_R_isAddress_8 : decode b_R_isAddress 8 = .ok (.if_icmp .ge 7, 3) := by decide +kernel
theorem d_R_isAddress_11 : decode b_R_isAddress 11 = .ok (.iconst 1, 1) := by decide +kernel
theorem d_R_isAddress_12 : decode b_R_isAddress 12 = .ok (.goto 4, 3) := by decide +kernel
theorem d_R_isAddress_15 : decode b_R_isAddress 15 = .ok (.iconst 0, 1) := by decide +kernel
theorem d_R_isAddress_16 : decode b_R_isAddress 16 = .ok (.ireturn, 1) := by decide +kernel
theorem d_W_at_0 : decode b_W_at 0 = .ok (.aload_n 2, 1) := by decide +kernel
theorem d_W_at_1 : decode b_W_at 1 = .ok (.iconst 0, 1) := by decide +kernel
theorem d_W_at_2 : decode b_W_at 2 = .ok (.aload_n 0, 1) := by decide +kernel
theorem d_W_at_3 : decode b_W_at 3 = .ok (.iload_n 1, 1) := by decide +kernel
theorem d_W_at_4 : decode b_W_at 4 = .ok (.invokevirtual 19, 3) := by decide +kernel
theorem d_W_at_7 : decode b_W_at 7 = .ok (.i2l, 1) := by decide +kernel
theorem d_W_at_8 : decode b_W_at 8 = .ok (.lastore, 1) := by decide +kernel
theorem d_W_at_9 : decode b_W_at 9 = .ok (.goto 6, 3) := by decide +kernel
theorem d_W_at_12 : decode b_W_at 12 = .ok (.astore_n 3, 1) := by decide +kernel
theorem d_W_at_13 : decode b_W_at 13 = .ok (.iconst 1, 1) := by decide +kernel
theorem d_W_at_14 : decode b_W_at 14 = .ok (.ireturn, 1) := by decide +kernel
theorem d_W_at_15 : decode b_W_at 15 = .ok (.iconst 0, 1) := by decide +kernel
theorem d_W_at_16 : decode b_W_at 16 = .ok (.ireturn, 1) := by decide +kernel
theorem d_R_at_0 : decode b_R_at 0 = .ok (.iload_n 1, 1) := by decide +kernel
theorem d_R_at_1 : decode b_R_at 1 = .ok (.invokestatic 55, 3) := by decide +kernel
theorem d_R_at_4 : decode b_R_at 4 = .ok (.aload_n 0, 1) := by decide +kernel
theorem d_R_at_5 : decode b_R_at 5 = .ok (.iload_n 1, 1) := by decide +kernel
theorem d_R_at_6 : decode b_R_at 6 = .ok (.invokevirtual 58, 3) := by decide +kernel
theorem d_R_at_9 : decode b_R_at 9 = .ok (.ifCond .ne 5, 3) := by decide +kernel
theorem d_R_at_12 : decode b_R_at 12 = .ok (.iconst 0, 1) := by decide +kernel
theorem d_R_at_13 : decode b_R_at 13 = .ok (.ireturn, 1) := by decide +kernel
theorem d_R_at_14 : decode b_R_at 14 = .ok (.aload_n 0, 1) := by decide +kernel
theorem d_R_at_15 : decode b_R_at 15 = .ok (.aload_n 0, 1) := by decide +kernel
theorem d_R_at_16 : decode b_R_at 16 = .ok (.iload_n 1, 1) := by decide +kernel
theorem d_R_at_17 : decode b_R_at 17 = .ok (.invokevirtual 61, 3) := by decide +kernel
theorem d_R_at_20 : decode b_R_at 20 = .ok (.invokevirtual 36, 3) := by decide +kernel
theorem d_R_at_23 : decode b_R_at 23 = .ok (.aload_n 0, 1) := by decide +kernel
theorem d_R_at_24 : decode b_R_at 24 = .ok (.getfield 20, 3) := by decide +kernel
theorem d_R_at_27 : decode b_R_at 27 = .ok (.ireturn, 1) := by decide +kernel
theorem d_R_isWholeAt_0 : decode b_R_isWholeAt 0 = .ok (.iload_n 1, 1) := by decide +kernel
theorem d_R_isWholeAt_1 : decode b_R_isWholeAt 1 = .ok (.aload_n 0, 1) := by decide +kernel
theorem d_R_isWholeAt_2 : decode b_R_isWholeAt 2 = .ok (.iload_n 1, 1) := by decide +kernel
theorem d_R_isWholeAt_3 : decode b_R_isWholeAt 3 = .ok (.invokevirtual 70, 3) := by decide +kernel
theorem d_R_isWholeAt_6 : decode b_R_isWholeAt 6 = .ok (.iadd, 1) := by decide +kernel
theorem d_R_isWholeAt_7 : decode b_R_isWholeAt 7 = .ok (.sipush 256, 3) := by decide +kernel
theorem d_R_isWholeAt_10 : decode b_R_isWholeAt 10 = .ok (.if_icmp .gt 7, 3) := by decide +kernel
theorem d_R_isWholeAt_13 : decode b_R_isWholeAt 13 = .ok (.iconst 1, 1) := by decide +kernel
theorem d_R_isWholeAt_14 : decode b_R_isWholeAt 14 = .ok (.goto 4, 3) := by decide +kernel
theorem d_R_isWholeAt_17 : decode b_R_isWholeAt 17 = .ok (.iconst 0, 1) := by decide +kernel
theorem d_R_isWholeAt_18 : decode b_R_isWholeAt 18 = .ok (.ireturn, 1) := by decide +kernel
theorem d_R_bytesAt_0 : decode b_R_bytesAt 0 = .ok (.aload_n 0, 1) := by decide +kernel
theorem d_R_bytesAt_1 : decode b_R_bytesAt 1 = .ok (.iload_n 1, 1) := by decide +kernel
theorem d_R_bytesAt_2 : decode b_R_bytesAt 2 = .ok (.invokevirtual 73, 3) := by decide +kernel
theorem d_R_bytesAt_5 : decode b_R_bytesAt 5 = .ok (.ifCond .eq 7, 3) := by decide +kernel
theorem d_R_bytesAt_8 : decode b_R_bytesAt 8 = .ok (.iconst 4, 1) := by decide +kernel
theorem d_R_bytesAt_9 : decode b_R_bytesAt 9 = .ok (.goto 4, 3) := by decide +kernel
theorem d_R_bytesAt_12 : decode b_R_bytesAt 12 = .ok (.iconst 2, 1) := by decide +kernel
theorem d_R_bytesAt_13 : decode b_R_bytesAt 13 = .ok (.ireturn, 1) := by decide +kernel
theorem d_R_isLongAt_0 : decode b_R_isLongAt 0 = .ok (.aload_n 0, 1) := by decide +kernel
theorem d_R_isLongAt_1 : decode b_R_isLongAt 1 = .ok (.iload_n 1, 1) := by decide +kernel
theorem d_R_isLongAt_2 : decode b_R_isLongAt 2 = .ok (.invokevirtual 108, 3) := by decide +kernel
theorem d_R_isLongAt_5 : decode b_R_isLongAt 5 = .ok (.invokestatic 31, 3) := by decide +kernel
theorem d_R_isLongAt_8 : decode b_R_isLongAt 8 = .ok (.ireturn, 1) := by decide +kernel
theorem d_R_byteAt_0 : decode b_R_byteAt 0 = .ok (.iload_n 1, 1) := by decide +kernel
theorem d_R_byteAt_1 : decode b_R_byteAt 1 = .ok (.invokestatic 86, 3) := by decide +kernel
theorem d_R_byteAt_4 : decode b_R_byteAt 4 = .ok (.ifCond .eq 12, 3) := by decide +kernel
theorem d_R_byteAt_7 : decode b_R_byteAt 7 = .ok (.aload_n 0, 1) := by decide +kernel
theorem d_R_byteAt_8 : decode b_R_byteAt 8 = .ok (.getfield 9, 3) := by decide +kernel
theorem d_R_byteAt_11 : decode b_R_byteAt 11 = .ok (.iload_n 1, 1) := by decide +kernel
theorem d_R_byteAt_12 : decode b_R_byteAt 12 = .ok (.iaload, 1) := by decide +kernel
theorem d_R_byteAt_13 : decode b_R_byteAt 13 = .ok (.goto 4, 3) := by decide +kernel
theorem d_R_byteAt_16 : decode b_R_byteAt 16 = .ok (.iconst 0, 1) := by decide +kernel
theorem d_R_byteAt_17 : decode b_R_byteAt 17 = .ok (.ireturn, 1) := by decide +kernel
theorem d_R_bitsAt_0 : decode b_R_bitsAt 0 = .ok (.aload_n 0, 1) := by decide +kernel
theorem d_R_bitsAt_1 : decode b_R_bitsAt 1 = .ok (.iload_n 1, 1) := by decide +kernel
theorem d_R_bitsAt_2 : decode b_R_bitsAt 2 = .ok (.invokevirtual 111, 3) := by decide +kernel
theorem d_R_bitsAt_5 : decode b_R_bitsAt 5 = .ok (.istore_n 2, 1) := by decide +kernel
theorem d_R_bitsAt_6 : decode b_R_bitsAt 6 = .ok (.iload_n 2, 1) := by decide +kernel
theorem d_R_bitsAt_7 : decode b_R_bitsAt 7 = .ok (.invokestatic 31, 3) := by decide +kernel
theorem d_R_bitsAt_10 : decode b_R_bitsAt 10 = .ok (.ifCond .eq 18, 3) := by decide +kernel
theorem d_R_bitsAt_13 : decode b_R_bitsAt 13 = .ok (.iload_n 2, 1) := by decide +kernel
theorem d_R_bitsAt_14 : decode b_R_bitsAt 14 = .ok (.aload_n 0, 1) := by decide +kernel
theorem d_R_bitsAt_15 : decode b_R_bitsAt 15 = .ok (.iload_n 1, 1) := by decide +kernel
theorem d_R_bitsAt_16 : decode b_R_bitsAt 16 = .ok (.iconst 2, 1) := by decide +kernel
theorem d_R_bitsAt_17 : decode b_R_bitsAt 17 = .ok (.iadd, 1) := by decide +kernel
theorem d_R_bitsAt_18 : decode b_R_bitsAt 18 = .ok (.invokevirtual 111, 3) := by decide +kernel
theorem d_R_bitsAt_21 : decode b_R_bitsAt 21 = .ok (.bipush 16, 2) := by decide +kernel
theorem d_R_bitsAt_23 : decode b_R_bitsAt 23 = .ok (.ishl, 1) := by decide +kernel
theorem d_R_bitsAt_24 : decode b_R_bitsAt 24 = .ok (.ior, 1) := by decide +kernel
theorem d_R_bitsAt_25 : decode b_R_bitsAt 25 = .ok (.goto 4, 3) := by decide +kernel
theorem d_R_bitsAt_28 : decode b_R_bitsAt 28 = .ok (.iload_n 2, 1) := by decide +kernel
theorem d_R_bitsAt_29 : decode b_R_bitsAt 29 = .ok (.ireturn, 1) := by decide +kernel
theorem d_R_halfAt_0 : decode b_R_halfAt 0 = .ok (.aload_n 0, 1) := by decide +kernel
theorem d_R_halfAt_1 : decode b_R_halfAt 1 = .ok (.iload_n 1, 1) := by decide +kernel
theorem d_R_halfAt_2 : decode b_R_halfAt 2 = .ok (.invokevirtual 108, 3) := by decide +kernel
theorem d_R_halfAt_5 : decode b_R_halfAt 5 = .ok (.aload_n 0, 1) := by decide +kernel
theorem d_R_halfAt_6 : decode b_R_halfAt 6 = .ok (.iload_n 1, 1) := by decide +kernel
theorem d_R_halfAt_7 : decode b_R_halfAt 7 = .ok (.iconst 1, 1) := by decide +kernel
theorem d_R_halfAt_8 : decode b_R_halfAt 8 = .ok (.iadd, 1) := by decide +kernel
theorem d_R_halfAt_9 : decode b_R_halfAt 9 = .ok (.invokevirtual 108, 3) := by decide +kernel
theorem d_R_halfAt_12 : decode b_R_halfAt 12 = .ok (.bipush 8, 2) := by decide +kernel
theorem d_R_halfAt_14 : decode b_R_halfAt 14 = .ok (.ishl, 1) := by decide +kernel
theorem d_R_halfAt_15 : decode b_R_halfAt 15 = .ok (.ior, 1) := by decide +kernel
theorem d_R_halfAt_16 : decode b_R_halfAt 16 = .ok (.ireturn, 1) := by decide +kernel
