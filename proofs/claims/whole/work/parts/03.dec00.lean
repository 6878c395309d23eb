theorem d_R_init_0 : decode b_R_init 0 = .ok (.aload_n 0, 1) := by decide +kernel
theorem d_R_init_1 : decode b_R_init 1 = .ok (.invokespecial 3, 3) := by decide +kernel
theorem d_R_init_4 : decode b_R_init 4 = .ok (.aload_n 0, 1) := by decide +kernel
theorem d_R_init_5 : decode b_R_init 5 = .ok (.sipush 256, 3) := by decide +kernel
theorem d_R_init_8 : decode b_R_init 8 = .ok (.newarray .int, 2) := by decide +kernel
theorem d_R_init_10 : decode b_R_init 10 = .ok (.putfield 9, 3) := by decide +kernel
theorem d_R_init_13 : decode b_R_init 13 = .ok (.aload_n 0, 1) := by decide +kernel
theorem d_R_init_14 : decode b_R_init 14 = .ok (.new 13, 3) := by decide +kernel
theorem d_R_init_17 : decode b_R_init 17 = .ok (.dup, 1) := by decide +kernel
theorem d_R_init_18 : decode b_R_init 18 = .ok (.invokespecial 15, 3) := by decide +kernel
theorem d_R_init_21 : decode b_R_init 21 = .ok (.putfield 16, 3) := by decide +kernel
theorem d_R_init_24 : decode b_R_init 24 = .ok (.aload_n 0, 1) := by decide +kernel
theorem d_R_init_25 : decode b_R_init 25 = .ok (.iconst 0, 1) := by decide +kernel
theorem d_R_init_26 : decode b_R_init 26 = .ok (.putfield 20, 3) := by decide +kernel
theorem d_R_init_29 : decode b_R_init 29 = .ok (.aload_n 0, 1) := by decide +kernel
theorem d_R_init_30 : decode b_R_init 30 = .ok (.iconst 0, 1) := by decide +kernel
theorem d_R_init_31 : decode b_R_init 31 = .ok (.putfield 24, 3) := by decide +kernel
theorem d_R_init_34 : decode b_R_init 34 = .ok (.aload_n 0, 1) := by decide +kernel
theorem d_R_init_35 : decode b_R_init 35 = .ok (.iconst 0, 1) := by decide +kernel
theorem d_R_init_36 : decode b_R_init 36 = .ok (.putfield 28, 3) := by decide +kernel
theorem d_R_init_39 : decode b_R_init 39 = .ok (.return_, 1) := by decide +kernel
theorem d_T_init_0 : decode b_T_init 0 = .ok (.aload_n 0, 1) := by decide +kernel
theorem d_T_init_1 : decode b_T_init 1 = .ok (.invokespecial 1, 3) := by decide +kernel
theorem d_T_init_4 : decode b_T_init 4 = .ok (.aload_n 0, 1) := by decide +kernel
theorem d_T_init_5 : decode b_T_init 5 = .ok (.bipush 40, 2) := by decide +kernel
theorem d_T_init_7 : decode b_T_init 7 = .ok (.newarray .char, 2) := by decide +kernel
theorem d_T_init_9 : decode b_T_init 9 = .ok (.putfield 9, 3) := by decide +kernel
theorem d_T_init_12 : decode b_T_init 12 = .ok (.aload_n 0, 1) := by decide +kernel
theorem d_T_init_13 : decode b_T_init 13 = .ok (.iconst 0, 1) := by decide +kernel
theorem d_T_init_14 : decode b_T_init 14 = .ok (.putfield 13, 3) := by decide +kernel
theorem d_T_init_17 : decode b_T_init 17 = .ok (.return_, 1) := by decide +kernel
theorem d_R_read_0 : decode b_R_read 0 = .ok (.aload_n 0, 1) := by decide +kernel
theorem d_R_read_1 : decode b_R_read 1 = .ok (.iload_n 1, 1) := by decide +kernel
theorem d_R_read_2 : decode b_R_read 2 = .ok (.invokestatic 31, 3) := by decide +kernel
theorem d_R_read_5 : decode b_R_read 5 = .ok (.ifCond .eq 7, 3) := by decide +kernel
theorem d_R_read_8 : decode b_R_read 8 = .ok (.iload_n 1, 1) := by decide +kernel
theorem d_R_read_9 : decode b_R_read 9 = .ok (.goto 7, 3) := by decide +kernel
theorem d_R_read_12 : decode b_R_read 12 = .ok (.iload_n 1, 1) := by decide +kernel
theorem d_R_read_13 : decode b_R_read 13 = .ok (.ldc 35, 2) := by decide +kernel
theorem d_R_read_15 : decode b_R_read 15 = .ok (.iand, 1) := by decide +kernel
theorem d_R_read_16 : decode b_R_read 16 = .ok (.invokevirtual 36, 3) := by decide +kernel
theorem d_R_read_19 : decode b_R_read 19 = .ok (.aload_n 0, 1) := by decide +kernel
theorem d_R_read_20 : decode b_R_read 20 = .ok (.getfield 16, 3) := by decide +kernel
theorem d_R_read_23 : decode b_R_read 23 = .ok (.invokevirtual 40, 3) := by decide +kernel
theorem d_R_read_26 : decode b_R_read 26 = .ok (.ireturn, 1) := by decide +kernel
theorem d_R_isLong_0 : decode b_R_isLong 0 = .ok (.iload_n 0, 1) := by decide +kernel
theorem d_R_isLong_1 : decode b_R_isLong 1 = .ok (.iconst 3, 1) := by decide +kernel
theorem d_R_isLong_2 : decode b_R_isLong 2 = .ok (.iand, 1) := by decide +kernel
theorem d_R_isLong_3 : decode b_R_isLong 3 = .ok (.iconst 3, 1) := by decide +kernel
theorem d_R_isLong_4 : decode b_R_isLong 4 = .ok (.if_icmp .ne 7, 3) := by decide +kernel
theorem d_R_isLong_7 : decode b_R_isLong 7 = .ok (.iconst 1, 1) := by decide +kernel
theorem d_R_isLong_8 : decode b_R_isLong 8 = .ok (.goto 4, 3) := by decide +kernel
theorem d_R_isLong_11 : decode b_R_isLong 11 = .ok (.iconst 0, 1) := by decide +kernel
theorem d_R_isLong_12 : decode b_R_isLong 12 = .ok (.ireturn, 1) := by decide +kernel
theorem d_R_show_0 : decode b_R_show 0 = .ok (.iload_n 1, 1) := by decide +kernel
theorem d_R_show_1 : decode b_R_show 1 = .ok (.invokestatic 76, 3) := by decide +kernel
theorem d_R_show_4 : decode b_R_show 4 = .ok (.astore_n 2, 1) := by decide +kernel
theorem d_R_show_5 : decode b_R_show 5 = .ok (.aload_n 0, 1) := by decide +kernel
theorem d_R_show_6 : decode b_R_show 6 = .ok (.getfield 16, 3) := by decide +kernel
theorem d_R_show_9 : decode b_R_show 9 = .ok (.aload_n 2, 1) := by decide +kernel
theorem d_R_show_10 : decode b_R_show 10 = .ok (.iload_n 1, 1) := by decide +kernel
theorem d_R_show_11 : decode b_R_show 11 = .ok (.invokevirtual 101, 3) := by decide +kernel
theorem d_R_show_14 : decode b_R_show 14 = .ok (.aload_n 0, 1) := by decide +kernel
theorem d_R_show_15 : decode b_R_show 15 = .ok (.iload_n 1, 1) := by decide +kernel
theorem d_R_show_16 : decode b_R_show 16 = .ok (.invokestatic 31, 3) := by decide +kernel
theorem d_R_show_19 : decode b_R_show 19 = .ok (.ifCond .eq 7, 3) := by decide +kernel
theorem d_R_show_22 : decode b_R_show 22 = .ok (.iconst 4, 1) := by decide +kernel
theorem d_R_show_23 : decode b_R_show 23 = .ok (.goto 4, 3) := by decide +kernel
theorem d_R_show_26 : decode b_R_show 26 = .ok (.iconst 2, 1) := by decide +kernel
theorem d_R_show_27 : decode b_R_show 27 = .ok (.putfield 20, 3) := by decide +kernel
theorem d_R_show_30 : decode b_R_show 30 = .ok (.aload_n 0, 1) := by decide +kernel
theorem d_R_show_31 : decode b_R_show 31 = .ok (.aload_n 2, 1) := by decide +kernel
theorem d_R_show_32 : decode b_R_show 32 = .ok (.invokevirtual 80, 3) := by decide +kernel
theorem d_R_show_35 : decode b_R_show 35 = .ok (.putfield 24, 3) := by decide +kernel
theorem d_R_show_38 : decode b_R_show 38 = .ok (.aload_n 0, 1) := by decide +kernel
theorem d_R_show_39 : decode b_R_show 39 = .ok (.aload_n 2, 1) := by decide +kernel
theorem d_R_show_40 : decode b_R_show 40 = .ok (.invokevirtual 105, 3) := by decide +kernel
theorem d_R_show_43 : decode b_R_show 43 = .ok (.putfield 28, 3) := by decide +kernel
theorem d_R_show_46 : decode b_R_show 46 = .ok (.return_, 1) := by decide +kernel
theorem d_R_kindOf_0 : decode b_R_kindOf 0 = .ok (.iload_n 0, 1) := by decide +kernel
theorem d_R_kindOf_1 : decode b_R_kindOf 1 = .ok (.invokestatic 31, 3) := by decide +kernel
theorem d_R_kindOf_4 : decode b_R_kindOf 4 = .ok (.ifCond .eq 10, 3) := by decide +kernel
theorem d_R_kindOf_7 : decode b_R_kindOf 7 = .ok (.iload_n 0, 1) := by decide +kernel
theorem d_R_kindOf_8 : decode b_R_kindOf 8 = .ok (.invokestatic 91, 3) := by decide +kernel
theorem d_R_kindOf_11 : decode b_R_kindOf 11 = .ok (.goto 7, 3) := by decide +kernel
theorem d_R_kindOf_14 : decode b_R_kindOf 14 = .ok (.iload_n 0, 1) := by decide +kernel
theorem d_R_kindOf_15 : decode b_R_kindOf 15 = .ok (.invokestatic 96, 3) := by decide +kernel
theorem d_R_kindOf_18 : decode b_R_kindOf 18 = .ok (.areturn, 1) := by decide +kernel
theorem d_L_ofWord_0 : decode b_L_ofWord 0 = .ok (.iload_n 0, 1) := by decide +kernel
theorem d_L_ofWord_1 : decode b_L_ofWord 1 = .ok (.bipush 12, 2) := by decide +kernel
theorem d_L_ofWord_3 : decode b_L_ofWord 3 = .ok (.ishr, 1) := by decide +kernel
theorem d_L_ofWord_4 : decode b_L_ofWord 4 = .ok (.bipush 7, 2) := by decide +kernel
theorem d_L_ofWord_6 : decode b_L_ofWord 6 = .ok (.iand, 1) := by decide +kernel
theorem d_L_ofWord_7 : decode b_L_ofWord 7 = .ok (.istore_n 1, 1) := by decide +kernel
theorem d_L_ofWord_8 : decode b_L_ofWord 8 = .ok (.iload_n 0, 1) := by decide +kernel
theorem d_L_ofWord_9 : decode b_L_ofWord 9 = .ok (.bipush 25, 2) := by decide +kernel
theorem d_L_ofWord_11 : decode b_L_ofWord 11 = .ok (.iushr, 1) := by decide +kernel
theorem d_L_ofWord_12 : decode b_L_ofWord 12 = .ok (.istore_n 2, 1) := by decide +kernel
theorem d_L_ofWord_13 : decode b_L_ofWord 13 = .ok (.iload_n 0, 1) := by decide +kernel
theorem d_L_ofWord_14 : decode b_L_ofWord 14 = .ok (.bipush 127, 2) := by decide +kernel
theorem d_L_ofWord_16 : decode b_L_ofWord 16 = .ok (.iand, 1) := by decide +kernel
theorem d_L_ofWord_17 : decode b_L_ofWord 17 = .ok (.lookupswitch 201 #[(3, 107), (15, 112), (19, 117), (23, 123), (35, 127), (47, 132), (51, 151), (55, 157), (99, 161), (103, 166), (111, 180), (115, 184)], 107) := by decide +kernel
theorem d_L_ofWord_124 : decode b_L_ofWord 124 = .ok (.iload_n 1, 1) := by decide +kernel
theorem d_L_ofWord_125 : decode b_L_ofWord 125 = .ok (.invokestatic 7, 3) := by decide +kernel
theorem d_L_ofWord_128 : decode b_L_ofWord 128 = .ok (.areturn, 1) := by decide +kernel
theorem d_L_ofWord_129 : decode b_L_ofWord 129 = .ok (.iload_n 0, 1) := by decide +kernel
theorem d_L_ofWord_130 : decode b_L_ofWord 130 = .ok (.invokestatic 13, 3) := by decide +kernel
theorem d_L_ofWord_133 : decode b_L_ofWord 133 = .ok (.areturn, 1) := by decide +kernel
theorem d_L_ofWord_134 : decode b_L_ofWord 134 = .ok (.iload_n 1, 1) := by decide +kernel
theorem d_L_ofWord_135 : decode b_L_ofWord 135 = .ok (.iload_n 2, 1) := by decide +kernel
theorem d_L_ofWord_136 : decode b_L_ofWord 136 = .ok (.invokestatic 16, 3) := by decide +kernel
theorem d_L_ofWord_139 : decode b_L_ofWord 139 = .ok (.areturn, 1) := by decide +kernel
theorem d_L_ofWord_140 : decode b_L_ofWord 140 = .ok (.getstatic 20, 3) := by decide +kernel
theorem d_L_ofWord_143 : decode b_L_ofWord 143 = .ok (.areturn, 1) := by decide +kernel
theorem d_L_ofWord_144 : decode b_L_ofWord 144 = .ok (.iload_n 1, 1) := by decide +kernel
theorem d_L_ofWord_145 : decode b_L_ofWord 145 = .ok (.invokestatic 26, 3) := by decide +kernel
theorem d_L_ofWord_148 : decode b_L_ofWord 148 = .ok (.areturn, 1) := by decide +kernel
theorem d_L_ofWord_149 : decode b_L_ofWord 149 = .ok (.iload_n 1, 1) := by decide +kernel
theorem d_L_ofWord_150 : decode b_L_ofWord 150 = .ok (.iconst 2, 1) := by decide +kernel
theorem d_L_ofWord_151 : decode b_L_ofWord 151 = .ok (.if_icmp .ne 13, 3) := by decide +kernel
theorem d_L_ofWord_154 : decode b_L_ofWord 154 = .ok (.iload_n 2, 1) := by decide +kernel
theorem d_L_ofWord_155 : decode b_L_ofWord 155 = .ok (.iconst 2, 1) := by decide +kernel
theorem d_L_ofWord_156 : decode b_L_ofWord 156 = .ok (.ishr, 1) := by decide +kernel
theorem d_L_ofWord_157 : decode b_L_ofWord 157 = .ok (.iload_n 0, 1) := by decide +kernel
theorem d_L_ofWord_158 : decode b_L_ofWord 158 = .ok (.invokestatic 29, 3) := by decide +kernel
theorem d_L_ofWord_161 : decode b_L_ofWord 161 = .ok (.goto 6, 3) := by decide +kernel
theorem d_L_ofWord_164 : decode b_L_ofWord 164 = .ok (.getstatic 32, 3) := by decide +kernel
theorem d_L_ofWord_167 : decode b_L_ofWord 167 = .ok (.areturn, 1) := by decide +kernel
theorem d_L_ofWord_168 : decode b_L_ofWord 168 = .ok (.iload_n 1, 1) := by decide +kernel
theorem d_L_ofWord_169 : decode b_L_ofWord 169 = .ok (.iload_n 2, 1) := by decide +kernel
theorem d_L_ofWord_170 : decode b_L_ofWord 170 = .ok (.invokestatic 35, 3) := by decide +kernel
theorem d_L_ofWord_173 : decode b_L_ofWord 173 = .ok (.areturn, 1) := by decide +kernel
theorem d_L_ofWord_174 : decode b_L_ofWord 174 = .ok (.getstatic 38, 3) := by decide +kernel
theorem d_L_ofWord_177 : decode b_L_ofWord 177 = .ok (.areturn, 1) := by decide +kernel
theorem d_L_ofWord_178 : decode b_L_ofWord 178 = .ok (.iload_n 1, 1) := by decide +kernel
theorem d_L_ofWord_179 : decode b_L_ofWord 179 = .ok (.invokestatic 41, 3) := by decide +kernel
theorem d_L_ofWord_182 : decode b_L_ofWord 182 = .ok (.areturn, 1) := by decide +kernel
theorem d_L_ofWord_183 : decode b_L_ofWord 183 = .ok (.iload_n 1, 1) := by decide +kernel
theorem d_L_ofWord_184 : decode b_L_ofWord 184 = .ok (.ifCond .ne 9, 3) := by decide +kernel
theorem d_L_ofWord_187 : decode b_L_ofWord 187 = .ok (.getstatic 44, 3) := by decide +kernel
theorem d_L_ofWord_190 : decode b_L_ofWord 190 = .ok (.goto 6, 3) := by decide +kernel
theorem d_L_ofWord_193 : decode b_L_ofWord 193 = .ok (.getstatic 32, 3) := by decide +kernel
theorem d_L_ofWord_196 : decode b_L_ofWord 196 = .ok (.areturn, 1) := by decide +kernel
theorem d_L_ofWord_197 : decode b_L_ofWord 197 = .ok (.getstatic 47, 3) := by decide +kernel
theorem d_L_ofWord_200 : decode b_L_ofWord 200 = .ok (.areturn, 1) := by decide +kernel
theorem d_L_ofWord_201 : decode b_L_ofWord 201 = .ok (.iload_n 1, 1) := by decide +kernel
theorem d_L_ofWord_202 : decode b_L_ofWord 202 = .ok (.iconst 2, 1) := by decide +kernel
theorem d_L_ofWord_203 : decode b_L_ofWord 203 = .ok (.if_icmp .ne 10, 3) := by decide +kernel
theorem d_L_ofWord_206 : decode b_L_ofWord 206 = .ok (.iload_n 0, 1) := by decide +kernel
theorem d_L_ofWord_207 : decode b_L_ofWord 207 = .ok (.invokestatic 50, 3) := by decide +kernel
theorem d_L_ofWord_210 : decode b_L_ofWord 210 = .ok (.goto 7, 3) := by decide +kernel
theorem d_L_ofWord_213 : decode b_L_ofWord 213 = .ok (.iload_n 0, 1) := by decide +kernel
theorem d_L_ofWord_214 : decode b_L_ofWord 214 = .ok (.invokestatic 13, 3) := by decide +kernel
theorem d_L_ofWord_217 : decode b_L_ofWord 217 = .ok (.areturn, 1) := by decide +kernel
theorem d_L_ofWord_218 : decode b_L_ofWord 218 = .ok (.getstatic 32, 3) := by decide +kernel
theorem d_L_ofWord_221 : decode b_L_ofWord 221 = .ok (.areturn, 1) := by decide +kernel
theorem d_L_load_0 : decode b_L_load 0 = .ok (.iload_n 0, 1) := by decide +kernel
theorem d_L_load_1 : decode b_L_load 1 = .ok (.tableswitch 59 0 5 #[39, 43, 47, 59, 51, 55], 39) := by decide +kernel
theorem d_L_load_40 : decode b_L_load 40 = .ok (.getstatic 53, 3) := by decide +kernel
theorem d_L_load_43 : decode b_L_load 43 = .ok (.areturn, 1) := by decide +kernel
theorem d_L_load_44 : decode b_L_load 44 = .ok (.getstatic 56, 3) := by decide +kernel
theorem d_L_load_47 : decode b_L_load 47 = .ok (.areturn, 1) := by decide +kernel
theorem d_L_load_48 : decode b_L_load 48 = .ok (.getstatic 59, 3) := by decide +kernel
theorem d_L_load_51 : decode b_L_load 51 = .ok (.areturn, 1) := by decide +kernel
theorem d_L_load_52 : decode b_L_load 52 = .ok (.getstatic 62, 3) := by decide +kernel
theorem d_L_load_55 : decode b_L_load 55 = .ok (.areturn, 1) := by decide +kernel
theorem d_L_load_56 : decode b_L_load 56 = .ok (.getstatic 65, 3) := by decide +kernel
theorem d_L_load_59 : decode b_L_load 59 = .ok (.areturn, 1) := by decide +kernel
theorem d_L_load_60 : decode b_L_load 60 = .ok (.getstatic 32, 3) := by decide +kernel
theorem d_L_load_63 : decode b_L_load 63 = .ok (.areturn, 1) := by decide +kernel
theorem d_L_alone_0 : decode b_L_alone 0 = .ok (.iload_n 0, 1) := by decide +kernel
theorem d_L_alone_1 : decode b_L_alone 1 = .ok (.lookupswitch 59 #[(115, 51), (4111, 47), (1048691, 55), (267386895, 43)], 43) := by decide +kernel
theorem d_L_alone_44 : decode b_L_alone 44 = .ok (.getstatic 68, 3) := by decide +kernel
theorem d_L_alone_47 : decode b_L_alone 47 = .ok (.areturn, 1) := by decide +kernel
theorem d_L_alone_48 : decode b_L_alone 48 = .ok (.getstatic 71, 3) := by decide +kernel
theorem d_L_alone_51 : decode b_L_alone 51 = .ok (.areturn, 1) := by decide +kernel
theorem d_L_alone_52 : decode b_L_alone 52 = .ok (.getstatic 74, 3) := by decide +kernel
theorem d_L_alone_55 : decode b_L_alone 55 = .ok (.areturn, 1) := by decide +kernel
theorem d_L_alone_56 : decode b_L_alone 56 = .ok (.getstatic 77, 3) := by decide +kernel
theorem d_L_alone_59 : decode b_L_alone 59 = .ok (.areturn, 1) := by decide +kernel
theorem d_L_alone_60 : decode b_L_alone 60 = .ok (.getstatic 32, 3) := by decide +kernel
theorem d_L_alone_63 : decode b_L_alone 63 = .ok (.areturn, 1) := by decide +kernel
theorem d_L_withNumber_0 : decode b_L_withNumber 0 = .ok (.iload_n 0, 1) := by decide +kernel
theorem d_L_withNumber_1 : decode b_L_withNumber 1 = .ok (.tableswitch 82 0 6 #[43, 47, 61, 65, 69, 73, 78], 43) := by decide +kernel
theorem d_L_withNumber_44 : decode b_L_withNumber 44 = .ok (.getstatic 80, 3) := by decide +kernel
theorem d_L_withNumber_47 : decode b_L_withNumber 47 = .ok (.areturn, 1) := by decide +kernel
theorem d_L_withNumber_48 : decode b_L_withNumber 48 = .ok (.iload_n 1, 1) := by decide +kernel
theorem d_L_withNumber_49 : decode b_L_withNumber 49 = .ok (.ifCond .ne 9, 3) := by decide +kernel
theorem d_L_withNumber_52 : decode b_L_withNumber 52 = .ok (.getstatic 83, 3) := by decide +kernel
theorem d_L_withNumber_55 : decode b_L_withNumber 55 = .ok (.goto 6, 3) := by decide +kernel
theorem d_L_withNumber_58 : decode b_L_withNumber 58 = .ok (.getstatic 32, 3) := by decide +kernel
theorem d_L_withNumber_61 : decode b_L_withNumber 61 = .ok (.areturn, 1) := by decide +kernel
theorem d_L_withNumber_62 : decode b_L_withNumber 62 = .ok (.getstatic 86, 3) := by decide +kernel
theorem d_L_withNumber_65 : decode b_L_withNumber 65 = .ok (.areturn, 1) := by decide +kernel
theorem d_L_withNumber_66 : decode b_L_withNumber 66 = .ok (.getstatic 89, 3) := by decide +kernel
theorem d_L_withNumber_69 : decode b_L_withNumber 69 = .ok (.areturn, 1) := by decide +kernel
theorem d_L_withNumber_70 : decode b_L_withNumber 70 = .ok (.getstatic 92, 3) := by decide +kernel
theorem d_L_withNumber_73 : decode b_L_withNumber 73 = .ok (.areturn, 1) := by decide +kernel
theorem d_L_withNumber_74 : decode b_L_withNumber 74 = .ok (.iload_n 1, 1) := by decide +kernel
theorem d_L_withNumber_75 : decode b_L_withNumber 75 = .ok (.invokestatic 95, 3) := by decide +kernel
theorem d_L_withNumber_78 : decode b_L_withNumber 78 = .ok (.areturn, 1) := by decide +kernel
theorem d_L_withNumber_79 : decode b_L_withNumber 79 = .ok (.getstatic 98, 3) := by decide +kernel
theorem d_L_withNumber_82 : decode b_L_withNumber 82 = .ok (.areturn, 1) := by decide +kernel
theorem d_L_withNumber_83 : decode b_L_withNumber 83 = .ok (.getstatic 101, 3) := by decide +kernel
theorem d_L_withNumber_86 : decode b_L_withNumber 86 = .ok (.areturn, 1) := by decide +kernel
theorem d_L_shiftRight_0 : decode b_L_shiftRight 0 = .ok (.iload_n 0, 1) := by decide +kernel
theorem d_L_shiftRight_1 : decode b_L_shiftRight 1 = .ok (.ifCond .ne 7, 3) := by decide +kernel
theorem d_L_shiftRight_4 : decode b_L_shiftRight 4 = .ok (.getstatic 104, 3) := by decide +kernel
theorem d_L_shiftRight_7 : decode b_L_shiftRight 7 = .ok (.areturn, 1) := by decide +kernel
theorem d_L_shiftRight_8 : decode b_L_shiftRight 8 = .ok (.iload_n 0, 1) := by decide +kernel
theorem d_L_shiftRight_9 : decode b_L_shiftRight 9 = .ok (.bipush 32, 2) := by decide +kernel
theorem d_L_shiftRight_11 : decode b_L_shiftRight 11 = .ok (.if_icmp .ne 9, 3) := by decide +kernel
theorem d_L_shiftRight_14 : decode b_L_shiftRight 14 = .ok (.getstatic 107, 3) := by decide +kernel
theorem d_L_shiftRight_17 : decode b_L_shiftRight 17 = .ok (.goto 6, 3) := by decide +kernel
theorem d_L_shiftRight_20 : decode b_L_shiftRight 20 = .ok (.getstatic 32, 3) := by decide +kernel
theorem d_L_shiftRight_23 : decode b_L_shiftRight 23 = .ok (.areturn, 1) := by decide +kernel
theorem d_L_store_0 : decode b_L_store 0 = .ok (.iload_n 0, 1) := by decide +kernel
theorem d_L_store_1 : decode b_L_store 1 = .ok (.tableswitch 39 0 2 #[27, 31, 35], 27) := by decide +kernel
theorem d_L_store_28 : decode b_L_store 28 = .ok (.getstatic 110, 3) := by decide +kernel
theorem d_L_store_31 : decode b_L_store 31 = .ok (.areturn, 1) := by decide +kernel
theorem d_L_store_32 : decode b_L_store 32 = .ok (.getstatic 113, 3) := by decide +kernel
theorem d_L_store_35 : decode b_L_store 35 = .ok (.areturn, 1) := by decide +kernel
theorem d_L_store_36 : decode b_L_store 36 = .ok (.getstatic 116, 3) := by decide +kernel
theorem d_L_store_39 : decode b_L_store 39 = .ok (.areturn, 1) := by decide +kernel
theorem d_L_store_40 : decode b_L_store 40 = .ok (.getstatic 32, 3) := by decide +kernel
theorem d_L_store_43 : decode b_L_store 43 = .ok (.areturn, 1) := by decide +kernel
theorem d_L_atomic_0 : decode b_L_atomic 0 = .ok (.iload_n 0, 1) := by decide +kernel
theorem d_L_atomic_1 : decode b_L_atomic 1 = .ok (.tableswitch 191 0 28 #[131, 135, 139, 159, 163, 191, 191, 191, 167, 191, 191, 191, 171, 191, 191, 191, 175, 191, 191, 191, 179, 191, 191, 191, 183, 191, 191, 191, 187], 131) := by decide +kernel
theorem d_L_atomic_132 : decode b_L_atomic 132 = .ok (.getstatic 119, 3) := by decide +kernel
theorem d_L_atomic_135 : decode b_L_atomic 135 = .ok (.areturn, 1) := by decide +kernel
theorem d_L_atomic_136 : decode b_L_atomic 136 = .ok (.getstatic 122, 3) := by decide +kernel
theorem d_L_atomic_139 : decode b_L_atomic 139 = .ok (.areturn, 1) := by decide +kernel
theorem d_L_atomic_140 : decode b_L_atomic 140 = .ok (.iload_n 1, 1) := by decide +kernel
theorem d_L_atomic_141 : decode b_L_atomic 141 = .ok (.bipush 20, 2) := by decide +kernel
theorem d_L_atomic_143 : decode b_L_atomic 143 = .ok (.ishr, 1) := by decide +kernel
theorem d_L_atomic_144 : decode b_L_atomic 144 = .ok (.bipush 31, 2) := by decide +kernel
theorem d_L_atomic_146 : decode b_L_atomic 146 = .ok (.iand, 1) := by decide +kernel
theorem d_L_atomic_147 : decode b_L_atomic 147 = .ok (.ifCond .ne 9, 3) := by decide +kernel
theorem d_L_atomic_150 : decode b_L_atomic 150 = .ok (.getstatic 125, 3) := by decide +kernel
theorem d_L_atomic_153 : decode b_L_atomic 153 = .ok (.goto 6, 3) := by decide +kernel
theorem d_L_atomic_156 : decode b_L_atomic 156 = .ok (.getstatic 32, 3) := by decide +kernel
theorem d_L_atomic_159 : decode b_L_atomic 159 = .ok (.areturn, 1) := by decide +kernel
theorem d_L_atomic_160 : decode b_L_atomic 160 = .ok (.getstatic 128, 3) := by decide +kernel
theorem d_L_atomic_163 : decode b_L_atomic 163 = .ok (.areturn, 1) := by decide +kernel
theorem d_L_atomic_164 : decode b_L_atomic 164 = .ok (.getstatic 131, 3) := by decide +kernel
theorem d_L_atomic_167 : decode b_L_atomic 167 = .ok (.areturn, 1) := by decide +kernel
theorem d_L_atomic_168 : decode b_L_atomic 168 = .ok (.getstatic 134, 3) := by decide +kernel
theorem d_L_atomic_171 : decode b_L_atomic 171 = .ok (.areturn, 1) := by decide +kernel
theorem d_L_atomic_172 : decode b_L_atomic 172 = .ok (.getstatic 137, 3) := by decide +kernel
theorem d_L_atomic_175 : decode b_L_atomic 175 = .ok (.areturn, 1) := by decide +kernel
theorem d_L_atomic_176 : decode b_L_atomic 176 = .ok (.getstatic 140, 3) := by decide +kernel
theorem d_L_atomic_179 : decode b_L_atomic 179 = .ok (.areturn, 1) := by decide +kernel
theorem d_L_atomic_180 : decode b_L_atomic 180 = .ok (.getstatic 143, 3) := by decide +kernel
theorem d_L_atomic_183 : decode b_L_atomic 183 = .ok (.areturn, 1) := by decide +kernel
theorem d_L_atomic_184 : decode b_L_atomic 184 = .ok (.getstatic 146, 3) := by decide +kernel
theorem d_L_atomic_187 : decode b_L_atomic 187 = .ok (.areturn, 1) := by decide +kernel
theorem d_L_atomic_188 : decode b_L_atomic 188 = .ok (.getstatic 149, 3) := by decide +kernel
theorem d_L_atomic_191 : decode b_L_atomic 191 = .ok (.areturn, 1) := by decide +kernel
theorem d_L_atomic_192 : decode b_L_atomic 192 = .ok (.getstatic 32, 3) := by decide +kernel
theorem d_L_atomic_195 : decode b_L_atomic 195 = .ok (.areturn, 1) := by decide +kernel
theorem d_L_ofRegisters_0 : decode b_L_ofRegisters 0 = .ok (.iload_n 1, 1) := by decide +kernel
theorem d_L_ofRegisters_1 : decode b_L_ofRegisters 1 = .ok (.lookupswitch 50 #[(0, 35), (1, 40), (32, 45)], 35) := by decide +kernel
theorem d_L_ofRegisters_36 : decode b_L_ofRegisters 36 = .ok (.iload_n 0, 1) := by decide +kernel
theorem d_L_ofRegisters_37 : decode b_L_ofRegisters 37 = .ok (.invokestatic 152, 3) := by decide +kernel
theorem d_L_ofRegisters_40 : decode b_L_ofRegisters 40 = .ok (.areturn, 1) := by decide +kernel
theorem d_L_ofRegisters_41 : decode b_L_ofRegisters 41 = .ok (.iload_n 0, 1) := by decide +kernel
theorem d_L_ofRegisters_42 : decode b_L_ofRegisters 42 = .ok (.invokestatic 155, 3) := by decide +kernel
theorem d_L_ofRegisters_45 : decode b_L_ofRegisters 45 = .ok (.areturn, 1) := by decide +kernel
theorem d_L_ofRegisters_46 : decode b_L_ofRegisters 46 = .ok (.iload_n 0, 1) := by decide +kernel
theorem d_L_ofRegisters_47 : decode b_L_ofRegisters 47 = .ok (.invokestatic 158, 3) := by decide +kernel
theorem d_L_ofRegisters_50 : decode b_L_ofRegisters 50 = .ok (.areturn, 1) := by decide +kernel
theorem d_L_ofRegisters_51 : decode b_L_ofRegisters 51 = .ok (.getstatic 32, 3) := by decide +kernel
theorem d_L_ofRegisters_54 : decode b_L_ofRegisters 54 = .ok (.areturn, 1) := by decide +kernel
theorem d_L_plain_0 : decode b_L_plain 0 = .ok (.iload_n 0, 1) := by decide +kernel
theorem d_L_plain_1 : decode b_L_plain 1 = .ok (.tableswitch 71 0 6 #[43, 47, 51, 55, 59, 63, 67], 43) := by decide +kernel
theorem d_L_plain_44 : decode b_L_plain 44 = .ok (.getstatic 161, 3) := by decide +kernel
theorem d_L_plain_47 : decode b_L_plain 47 = .ok (.areturn, 1) := by decide +kernel
theorem d_L_plain_48 : decode b_L_plain 48 = .ok (.getstatic 164, 3) := by decide +kernel
theorem d_L_plain_51 : decode b_L_plain 51 = .ok (.areturn, 1) := by decide +kernel
theorem d_L_plain_52 : decode b_L_plain 52 = .ok (.getstatic 167, 3) := by decide +kernel
theorem d_L_plain_55 : decode b_L_plain 55 = .ok (.areturn, 1) := by decide +kernel
theorem d_L_plain_56 : decode b_L_plain 56 = .ok (.getstatic 170, 3) := by decide +kernel
theorem d_L_plain_59 : decode b_L_plain 59 = .ok (.areturn, 1) := by decide +kernel
theorem d_L_plain_60 : decode b_L_plain 60 = .ok (.getstatic 173, 3) := by decide +kernel
theorem d_L_plain_63 : decode b_L_plain 63 = .ok (.areturn, 1) := by decide +kernel
theorem d_L_plain_64 : decode b_L_plain 64 = .ok (.getstatic 176, 3) := by decide +kernel
theorem d_L_plain_67 : decode b_L_plain 67 = .ok (.areturn, 1) := by decide +kernel
theorem d_L_plain_68 : decode b_L_plain 68 = .ok (.getstatic 179, 3) := by decide +kernel
theorem d_L_plain_71 : decode b_L_plain 71 = .ok (.areturn, 1) := by decide +kernel
theorem d_L_plain_72 : decode b_L_plain 72 = .ok (.getstatic 182, 3) := by decide +kernel
theorem d_L_plain_75 : decode b_L_plain 75 = .ok (.areturn, 1) := by decide +kernel
theorem d_L_product_0 : decode b_L_product 0 = .ok (.iload_n 0, 1) := by decide +kernel
theorem d_L_product_1 : decode b_L_product 1 = .ok (.tableswitch 71 0 6 #[43, 47, 51, 55, 59, 63, 67], 43) := by decide +kernel
theorem d_L_product_44 : decode b_L_product 44 = .ok (.getstatic 185, 3) := by decide +kernel
theorem d_L_product_47 : decode b_L_product 47 = .ok (.areturn, 1) := by decide +kernel
theorem d_L_product_48 : decode b_L_product 48 = .ok (.getstatic 188, 3) := by decide +kernel
theorem d_L_product_51 : decode b_L_product 51 = .ok (.areturn, 1) := by decide +kernel
theorem d_L_product_52 : decode b_L_product 52 = .ok (.getstatic 191, 3) := by decide +kernel
theorem d_L_product_55 : decode b_L_product 55 = .ok (.areturn, 1) := by decide +kernel
theorem d_L_product_56 : decode b_L_product 56 = .ok (.getstatic 194, 3) := by decide +kernel
theorem d_L_product_59 : decode b_L_product 59 = .ok (.areturn, 1) := by decide +kernel
theorem d_L_product_60 : decode b_L_product 60 = .ok (.getstatic 197, 3) := by decide +kernel
theorem d_L_product_63 : decode b_L_product 63 = .ok (.areturn, 1) := by decide +kernel
theorem d_L_product_64 : decode b_L_product 64 = .ok (.getstatic 200, 3) := by decide +kernel
theorem d_L_product_67 : decode b_L_product 67 = .ok (.areturn, 1) := by decide +kernel
theorem d_L_product_68 : decode b_L_product 68 = .ok (.getstatic 203, 3) := by decide +kernel
theorem d_L_product_71 : decode b_L_product 71 = .ok (.areturn, 1) := by decide +kernel
theorem d_L_product_72 : decode b_L_product 72 = .ok (.getstatic 206, 3) := by decide +kernel
theorem d_L_product_75 : decode b_L_product 75 = .ok (.areturn, 1) := by decide +kernel
theorem d_L_secondOfTwo_0 : decode b_L_secondOfTwo 0 = .ok (.iload_n 0, 1) := by decide +kernel
theorem d_L_secondOfTwo_1 : decode b_L_secondOfTwo 1 = .ok (.lookupswitch 35 #[(0, 27), (5, 31)], 27) := by decide +kernel
theorem d_L_secondOfTwo_28 : decode b_L_secondOfTwo 28 = .ok (.getstatic 209, 3) := by decide +kernel
theorem d_L_secondOfTwo_31 : decode b_L_secondOfTwo 31 = .ok (.areturn, 1) := by decide +kernel
theorem d_L_secondOfTwo_32 : decode b_L_secondOfTwo 32 = .ok (.getstatic 212, 3) := by decide +kernel
theorem d_L_secondOfTwo_35 : decode b_L_secondOfTwo 35 = .ok (.areturn, 1) := by decide +kernel
theorem d_L_secondOfTwo_36 : decode b_L_secondOfTwo 36 = .ok (.getstatic 32, 3) := by decide +kernel
theorem d_L_secondOfTwo_39 : decode b_L_secondOfTwo 39 = .ok (.areturn, 1) := by decide +kernel
theorem d_L_branch_0 : decode b_L_branch 0 = .ok (.iload_n 0, 1) := by decide +kernel
theorem d_L_branch_1 : decode b_L_branch 1 = .ok (.tableswitch 71 0 7 #[47, 51, 71, 71, 55, 59, 63, 67], 47) := by decide +kernel
theorem d_L_branch_48 : decode b_L_branch 48 = .ok (.getstatic 215, 3) := by decide +kernel
theorem d_L_branch_51 : decode b_L_branch 51 = .ok (.areturn, 1) := by decide +kernel
theorem d_L_branch_52 : decode b_L_branch 52 = .ok (.getstatic 218, 3) := by decide +kernel
theorem d_L_branch_55 : decode b_L_branch 55 = .ok (.areturn, 1) := by decide +kernel
theorem d_L_branch_56 : decode b_L_branch 56 = .ok (.getstatic 221, 3) := by decide +kernel
theorem d_L_branch_59 : decode b_L_branch 59 = .ok (.areturn, 1) := by decide +kernel
theorem d_L_branch_60 : decode b_L_branch 60 = .ok (.getstatic 224, 3) := by decide +kernel
theorem d_L_branch_63 : decode b_L_branch 63 = .ok (.areturn, 1) := by decide +kernel
theorem d_L_branch_64 : decode b_L_branch 64 = .ok (.getstatic 227, 3) := by decide +kernel
theorem d_L_branch_67 : decode b_L_branch 67 = .ok (.areturn, 1) := by decide +kernel
theorem d_L_branch_68 : decode b_L_branch 68 = .ok (.getstatic 230, 3) := by decide +kernel
theorem d_L_branch_71 : decode b_L_branch 71 = .ok (.areturn, 1) := by decide +kernel
theorem d_L_branch_72 : decode b_L_branch 72 = .ok (.getstatic 32, 3) := by decide +kernel
theorem d_L_branch_75 : decode b_L_branch 75 = .ok (.areturn, 1) := by decide +kernel
theorem d_L_counter_0 : decode b_L_counter 0 = .ok (.iload_n 0, 1) := by decide +kernel
theorem d_L_counter_1 : decode b_L_counter 1 = .ok (.bipush 15, 2) := by decide +kernel
theorem d_L_counter_3 : decode b_L_counter 3 = .ok (.ishr, 1) := by decide +kernel
theorem d_L_counter_4 : decode b_L_counter 4 = .ok (.bipush 31, 2) := by decide +kernel
theorem d_L_counter_6 : decode b_L_counter 6 = .ok (.iand, 1) := by decide +kernel
theorem d_L_counter_7 : decode b_L_counter 7 = .ok (.ifCond .eq 7, 3) := by decide +kernel
theorem d_L_counter_10 : decode b_L_counter 10 = .ok (.getstatic 32, 3) := by decide +kernel
theorem d_L_counter_13 : decode b_L_counter 13 = .ok (.areturn, 1) := by decide +kernel
theorem d_L_counter_14 : decode b_L_counter 14 = .ok (.iload_n 0, 1) := by decide +kernel
theorem d_L_counter_15 : decode b_L_counter 15 = .ok (.bipush 20, 2) := by decide +kernel
theorem d_L_counter_17 : decode b_L_counter 17 = .ok (.iushr, 1) := by decide +kernel
theorem d_L_counter_18 : decode b_L_counter 18 = .ok (.lookupswitch 82 #[(3072, 58), (3073, 62), (3074, 66), (3200, 70), (3201, 74), (3202, 78)], 58) := by decide +kernel
theorem d_L_counter_76 : decode b_L_counter 76 = .ok (.getstatic 233, 3) := by decide +kernel
theorem d_L_counter_79 : decode b_L_counter 79 = .ok (.areturn, 1) := by decide +kernel
theorem d_L_counter_80 : decode b_L_counter 80 = .ok (.getstatic 236, 3) := by decide +kernel
theorem d_L_counter_83 : decode b_L_counter 83 = .ok (.areturn, 1) := by decide +kernel
theorem d_L_counter_84 : decode b_L_counter 84 = .ok (.getstatic 239, 3) := by decide +kernel
theorem d_L_counter_87 : decode b_L_counter 87 = .ok (.areturn, 1) := by decide +kernel
theorem d_L_counter_88 : decode b_L_counter 88 = .ok (.getstatic 242, 3) := by decide +kernel
theorem d_L_counter_91 : decode b_L_counter 91 = .ok (.areturn, 1) := by decide +kernel
theorem d_L_counter_92 : decode b_L_counter 92 = .ok (.getstatic 245, 3) := by decide +kernel
theorem d_L_counter_95 : decode b_L_counter 95 = .ok (.areturn, 1) := by decide +kernel
theorem d_L_counter_96 : decode b_L_counter 96 = .ok (.getstatic 248, 3) := by decide +kernel
theorem d_L_counter_99 : decode b_L_counter 99 = .ok (.areturn, 1) := by decide +kernel
theorem d_L_counter_100 : decode b_L_counter 100 = .ok (.getstatic 32, 3) := by decide +kernel
theorem d_L_counter_103 : decode b_L_counter 103 = .ok (.areturn, 1) := by decide +kernel
theorem d_S_ofHalf_0 : decode b_S_ofHalf 0 = .ok (.iload_n 0, 1) := by decide +kernel
theorem d_S_ofHalf_1 : decode b_S_ofHalf 1 = .ok (.bipush 13, 2) := by decide +kernel
theorem d_S_ofHalf_3 : decode b_S_ofHalf 3 = .ok (.ishr, 1) := by decide +kernel
theorem d_S_ofHalf_4 : decode b_S_ofHalf 4 = .ok (.bipush 7, 2) := by decide +kernel
theorem d_S_ofHalf_6 : decode b_S_ofHalf 6 = .ok (.iand, 1) := by decide +kernel
theorem d_S_ofHalf_7 : decode b_S_ofHalf 7 = .ok (.istore_n 1, 1) := by decide +kernel
theorem d_S_ofHalf_8 : decode b_S_ofHalf 8 = .ok (.iload_n 0, 1) := by decide +kernel
theorem d_S_ofHalf_9 : decode b_S_ofHalf 9 = .ok (.iconst 3, 1) := by decide +kernel
theorem d_S_ofHalf_10 : decode b_S_ofHalf 10 = .ok (.iand, 1) := by decide +kernel
theorem d_S_ofHalf_11 : decode b_S_ofHalf 11 = .ok (.tableswitch 43 0 2 #[25, 31, 37], 25) := by decide +kernel
theorem d_S_ofHalf_36 : decode b_S_ofHalf 36 = .ok (.iload_n 1, 1) := by decide +kernel
theorem d_S_ofHalf_37 : decode b_S_ofHalf 37 = .ok (.iload_n 0, 1) := by decide +kernel
theorem d_S_ofHalf_38 : decode b_S_ofHalf 38 = .ok (.invokestatic 7, 3) := by decide +kernel
theorem d_S_ofHalf_41 : decode b_S_ofHalf 41 = .ok (.areturn, 1) := by decide +kernel
theorem d_S_ofHalf_42 : decode b_S_ofHalf 42 = .ok (.iload_n 1, 1) := by decide +kernel
theorem d_S_ofHalf_43 : decode b_S_ofHalf 43 = .ok (.iload_n 0, 1) := by decide +kernel
theorem d_S_ofHalf_44 : decode b_S_ofHalf 44 = .ok (.invokestatic 13, 3) := by decide +kernel
theorem d_S_ofHalf_47 : decode b_S_ofHalf 47 = .ok (.areturn, 1) := by decide +kernel
theorem d_S_ofHalf_48 : decode b_S_ofHalf 48 = .ok (.iload_n 1, 1) := by decide +kernel
theorem d_S_ofHalf_49 : decode b_S_ofHalf 49 = .ok (.iload_n 0, 1) := by decide +kernel
theorem d_S_ofHalf_50 : decode b_S_ofHalf 50 = .ok (.invokestatic 16, 3) := by decide +kernel
theorem d_S_ofHalf_53 : decode b_S_ofHalf 53 = .ok (.areturn, 1) := by decide +kernel
theorem d_S_ofHalf_54 : decode b_S_ofHalf 54 = .ok (.getstatic 19, 3) := by decide +kernel
theorem d_S_ofHalf_57 : decode b_S_ofHalf 57 = .ok (.areturn, 1) := by decide +kernel
theorem d_S_ofQ0_0 : decode b_S_ofQ0 0 = .ok (.iload_n 0, 1) := by decide +kernel
theorem d_S_ofQ0_1 : decode b_S_ofQ0 1 = .ok (.lookupswitch 60 #[(0, 35), (2, 52), (6, 56)], 35) := by decide +kernel
theorem d_S_ofQ0_36 : decode b_S_ofQ0 36 = .ok (.iload_n 1, 1) := by decide +kernel
theorem d_S_ofQ0_37 : decode b_S_ofQ0 37 = .ok (.invokestatic 25, 3) := by decide +kernel
theorem d_S_ofQ0_40 : decode b_S_ofQ0 40 = .ok (.ifCond .eq 9, 3) := by decide +kernel
theorem d_S_ofQ0_43 : decode b_S_ofQ0 43 = .ok (.getstatic 31, 3) := by decide +kernel
theorem d_S_ofQ0_46 : decode b_S_ofQ0 46 = .ok (.goto 6, 3) := by decide +kernel
theorem d_S_ofQ0_49 : decode b_S_ofQ0 49 = .ok (.getstatic 19, 3) := by decide +kernel
theorem d_S_ofQ0_52 : decode b_S_ofQ0 52 = .ok (.areturn, 1) := by decide +kernel
theorem d_S_ofQ0_53 : decode b_S_ofQ0 53 = .ok (.getstatic 34, 3) := by decide +kernel
theorem d_S_ofQ0_56 : decode b_S_ofQ0 56 = .ok (.areturn, 1) := by decide +kernel
theorem d_S_ofQ0_57 : decode b_S_ofQ0 57 = .ok (.getstatic 37, 3) := by decide +kernel
theorem d_S_ofQ0_60 : decode b_S_ofQ0 60 = .ok (.areturn, 1) := by decide +kernel
theorem d_S_ofQ0_61 : decode b_S_ofQ0 61 = .ok (.getstatic 19, 3) := by decide +kernel
theorem d_S_ofQ0_64 : decode b_S_ofQ0 64 = .ok (.areturn, 1) := by decide +kernel
theorem d_F_times4_0 : decode b_F_times4 0 = .ok (.iload_n 0, 1) := by decide +kernel
theorem d_F_times4_1 : decode b_F_times4 1 = .ok (.bipush 11, 2) := by decide +kernel
theorem d_F_times4_3 : decode b_F_times4 3 = .ok (.iconst 2, 1) := by decide +kernel
theorem d_F_times4_4 : decode b_F_times4 4 = .ok (.iconst 4, 1) := by decide +kernel
theorem d_F_times4_5 : decode b_F_times4 5 = .ok (.invokestatic 13, 3) := by decide +kernel
theorem d_F_times4_8 : decode b_F_times4 8 = .ok (.iload_n 0, 1) := by decide +kernel
theorem d_F_times4_9 : decode b_F_times4 9 = .ok (.bipush 7, 2) := by decide +kernel
theorem d_F_times4_11 : decode b_F_times4 11 = .ok (.iconst 4, 1) := by decide +kernel
theorem d_F_times4_12 : decode b_F_times4 12 = .ok (.bipush 6, 2) := by decide +kernel
theorem d_F_times4_14 : decode b_F_times4 14 = .ok (.invokestatic 13, 3) := by decide +kernel
theorem d_F_times4_17 : decode b_F_times4 17 = .ok (.ior, 1) := by decide +kernel
theorem d_F_times4_18 : decode b_F_times4 18 = .ok (.iload_n 0, 1) := by decide +kernel
theorem d_F_times4_19 : decode b_F_times4 19 = .ok (.bipush 6, 2) := by decide +kernel
theorem d_F_times4_21 : decode b_F_times4 21 = .ok (.iconst 1, 1) := by decide +kernel
theorem d_F_times4_22 : decode b_F_times4 22 = .ok (.iconst 2, 1) := by decide +kernel
theorem d_F_times4_23 : decode b_F_times4 23 = .ok (.invokestatic 13, 3) := by decide +kernel
theorem d_F_times4_26 : decode b_F_times4 26 = .ok (.ior, 1) := by decide +kernel
theorem d_F_times4_27 : decode b_F_times4 27 = .ok (.iload_n 0, 1) := by decide +kernel
theorem d_F_times4_28 : decode b_F_times4 28 = .ok (.iconst 5, 1) := by decide +kernel
theorem d_F_times4_29 : decode b_F_times4 29 = .ok (.iconst 1, 1) := by decide +kernel
theorem d_F_times4_30 : decode b_F_times4 30 = .ok (.iconst 3, 1) := by decide +kernel
theorem d_F_times4_31 : decode b_F_times4 31 = .ok (.invokestatic 13, 3) := by decide +kernel
theorem d_F_times4_34 : decode b_F_times4 34 = .ok (.ior, 1) := by decide +kernel
theorem d_F_times4_35 : decode b_F_times4 35 = .ok (.ireturn, 1) := by decide +kernel
theorem d_F_part_0 : decode b_F_part 0 = .ok (.iload_n 0, 1) := by decide +kernel
theorem d_F_part_1 : decode b_F_part 1 = .ok (.iload_n 1, 1) := by decide +kernel
theorem d_F_part_2 : decode b_F_part 2 = .ok (.iushr, 1) := by decide +kernel
theorem d_F_part_3 : decode b_F_part 3 = .ok (.iconst 1, 1) := by decide +kernel
theorem d_F_part_4 : decode b_F_part 4 = .ok (.iload_n 2, 1) := by decide +kernel
theorem d_F_part_5 : decode b_F_part 5 = .ok (.ishl, 1) := by decide +kernel
theorem d_F_part_6 : decode b_F_part 6 = .ok (.iconst 1, 1) := by decide +kernel
theorem d_F_part_7 : decode b_F_part 7 = .ok (.isub, 1) := by decide +kernel
theorem d_F_part_8 : decode b_F_part 8 = .ok (.iand, 1) := by decide +kernel
theorem d_F_part_9 : decode b_F_part 9 = .ok (.iload_n 3, 1) := by decide +kernel
theorem d_F_part_10 : decode b_F_part 10 = .ok (.ishl, 1) := by decide +kernel
theorem d_F_part_11 : decode b_F_part 11 = .ok (.ireturn, 1) := by decide +kernel
theorem d_S_ofQ1_0 : decode b_S_ofQ1 0 = .ok (.iload_n 0, 1) := by decide +kernel
theorem d_S_ofQ1_1 : decode b_S_ofQ1 1 = .ok (.tableswitch 84 0 6 #[43, 58, 62, 66, 71, 76, 80], 43) := by decide +kernel
theorem d_S_ofQ1_44 : decode b_S_ofQ1 44 = .ok (.iload_n 1, 1) := by decide +kernel
theorem d_S_ofQ1_45 : decode b_S_ofQ1 45 = .ok (.iconst 1, 1) := by decide +kernel
theorem d_S_ofQ1_46 : decode b_S_ofQ1 46 = .ok (.if_icmp .ne 9, 3) := by decide +kernel
theorem d_S_ofQ1_49 : decode b_S_ofQ1 49 = .ok (.getstatic 40, 3) := by decide +kernel
theorem d_S_ofQ1_52 : decode b_S_ofQ1 52 = .ok (.goto 6, 3) := by decide +kernel
theorem d_S_ofQ1_55 : decode b_S_ofQ1 55 = .ok (.getstatic 43, 3) := by decide +kernel
theorem d_S_ofQ1_58 : decode b_S_ofQ1 58 = .ok (.areturn, 1) := by decide +kernel
theorem d_S_ofQ1_59 : decode b_S_ofQ1 59 = .ok (.getstatic 46, 3) := by decide +kernel
theorem d_S_ofQ1_62 : decode b_S_ofQ1 62 = .ok (.areturn, 1) := by decide +kernel
theorem d_S_ofQ1_63 : decode b_S_ofQ1 63 = .ok (.getstatic 49, 3) := by decide +kernel
theorem d_S_ofQ1_66 : decode b_S_ofQ1 66 = .ok (.areturn, 1) := by decide +kernel
theorem d_S_ofQ1_67 : decode b_S_ofQ1 67 = .ok (.iload_n 1, 1) := by decide +kernel
theorem d_S_ofQ1_68 : decode b_S_ofQ1 68 = .ok (.invokestatic 52, 3) := by decide +kernel
theorem d_S_ofQ1_71 : decode b_S_ofQ1 71 = .ok (.areturn, 1) := by decide +kernel
theorem d_S_ofQ1_72 : decode b_S_ofQ1 72 = .ok (.iload_n 1, 1) := by decide +kernel
theorem d_S_ofQ1_73 : decode b_S_ofQ1 73 = .ok (.invokestatic 56, 3) := by decide +kernel
theorem d_S_ofQ1_76 : decode b_S_ofQ1 76 = .ok (.areturn, 1) := by decide +kernel
theorem d_S_ofQ1_77 : decode b_S_ofQ1 77 = .ok (.getstatic 59, 3) := by decide +kernel
theorem d_S_ofQ1_80 : decode b_S_ofQ1 80 = .ok (.areturn, 1) := by decide +kernel
theorem d_S_ofQ1_81 : decode b_S_ofQ1 81 = .ok (.getstatic 62, 3) := by decide +kernel
theorem d_S_ofQ1_84 : decode b_S_ofQ1 84 = .ok (.areturn, 1) := by decide +kernel
theorem d_S_ofQ1_85 : decode b_S_ofQ1 85 = .ok (.getstatic 65, 3) := by decide +kernel
theorem d_S_ofQ1_88 : decode b_S_ofQ1 88 = .ok (.areturn, 1) := by decide +kernel
theorem d_S_upperOrStack_0 : decode b_S_upperOrStack 0 = .ok (.iload_n 0, 1) := by decide +kernel
theorem d_S_upperOrStack_1 : decode b_S_upperOrStack 1 = .ok (.invokestatic 68, 3) := by decide +kernel
theorem d_S_upperOrStack_4 : decode b_S_upperOrStack 4 = .ok (.ifCond .ne 7, 3) := by decide +kernel
theorem d_S_upperOrStack_7 : decode b_S_upperOrStack 7 = .ok (.getstatic 19, 3) := by decide +kernel
theorem d_S_upperOrStack_10 : decode b_S_upperOrStack 10 = .ok (.areturn, 1) := by decide +kernel
theorem d_S_upperOrStack_11 : decode b_S_upperOrStack 11 = .ok (.iload_n 0, 1) := by decide +kernel
theorem d_S_upperOrStack_12 : decode b_S_upperOrStack 12 = .ok (.invokestatic 71, 3) := by decide +kernel
theorem d_S_upperOrStack_15 : decode b_S_upperOrStack 15 = .ok (.iconst 2, 1) := by decide +kernel
theorem d_S_upperOrStack_16 : decode b_S_upperOrStack 16 = .ok (.if_icmp .ne 9, 3) := by decide +kernel
theorem d_S_upperOrStack_19 : decode b_S_upperOrStack 19 = .ok (.getstatic 74, 3) := by decide +kernel
theorem d_S_upperOrStack_22 : decode b_S_upperOrStack 22 = .ok (.goto 6, 3) := by decide +kernel
theorem d_S_upperOrStack_25 : decode b_S_upperOrStack 25 = .ok (.getstatic 77, 3) := by decide +kernel
theorem d_S_upperOrStack_28 : decode b_S_upperOrStack 28 = .ok (.areturn, 1) := by decide +kernel
theorem d_F_six_0 : decode b_F_six 0 = .ok (.iload_n 0, 1) := by decide +kernel
theorem d_F_six_1 : decode b_F_six 1 = .ok (.bipush 12, 2) := by decide +kernel
theorem d_F_six_3 : decode b_F_six 3 = .ok (.iconst 5, 1) := by decide +kernel
theorem d_F_six_4 : decode b_F_six 4 = .ok (.invokestatic 7, 3) := by decide +kernel
theorem d_F_six_7 : decode b_F_six 7 = .ok (.iload_n 0, 1) := by decide +kernel
theorem d_F_six_8 : decode b_F_six 8 = .ok (.iconst 2, 1) := by decide +kernel
theorem d_F_six_9 : decode b_F_six 9 = .ok (.iconst 5, 1) := by decide +kernel
theorem d_F_six_10 : decode b_F_six 10 = .ok (.iconst 0, 1) := by decide +kernel
theorem d_F_six_11 : decode b_F_six 11 = .ok (.invokestatic 13, 3) := by decide +kernel
theorem d_F_six_14 : decode b_F_six 14 = .ok (.ior, 1) := by decide +kernel
theorem d_F_six_15 : decode b_F_six 15 = .ok (.ireturn, 1) := by decide +kernel
theorem d_F_signed_0 : decode b_F_signed 0 = .ok (.iload_n 0, 1) := by decide +kernel
theorem d_F_signed_1 : decode b_F_signed 1 = .ok (.iload_n 1, 1) := by decide +kernel
theorem d_F_signed_2 : decode b_F_signed 2 = .ok (.iushr, 1) := by decide +kernel
theorem d_F_signed_3 : decode b_F_signed 3 = .ok (.iconst 1, 1) := by decide +kernel
theorem d_F_signed_4 : decode b_F_signed 4 = .ok (.iand, 1) := by decide +kernel
theorem d_F_signed_5 : decode b_F_signed 5 = .ok (.ineg, 1) := by decide +kernel
theorem d_F_signed_6 : decode b_F_signed 6 = .ok (.iload_n 2, 1) := by decide +kernel
theorem d_F_signed_7 : decode b_F_signed 7 = .ok (.ishl, 1) := by decide +kernel
theorem d_F_signed_8 : decode b_F_signed 8 = .ok (.ireturn, 1) := by decide +kernel
theorem d_S_firstRegister_0 : decode b_S_firstRegister 0 = .ok (.iload_n 0, 1) := by decide +kernel
theorem d_S_firstRegister_1 : decode b_S_firstRegister 1 = .ok (.bipush 7, 2) := by decide +kernel
theorem d_S_firstRegister_3 : decode b_S_firstRegister 3 = .ok (.ishr, 1) := by decide +kernel
theorem d_S_firstRegister_4 : decode b_S_firstRegister 4 = .ok (.bipush 31, 2) := by decide +kernel
theorem d_S_firstRegister_6 : decode b_S_firstRegister 6 = .ok (.iand, 1) := by decide +kernel
theorem d_S_firstRegister_7 : decode b_S_firstRegister 7 = .ok (.ireturn, 1) := by decide +kernel
theorem d_S_onLesserRegister_0 : decode b_S_onLesserRegister 0 = .ok (.iload_n 0, 1) := by decide +kernel
theorem d_S_onLesserRegister_1 : decode b_S_onLesserRegister 1 = .ok (.bipush 10, 2) := by decide +kernel
