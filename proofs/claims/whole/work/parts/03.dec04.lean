theorem d_M_plain_74 : decode b_M_plain 74 = .ok (.aload_n 0, 1) := by decide +kernel
theorem d_M_plain_75 : decode b_M_plain 75 = .ok (.getfield 89, 3) := by decide +kernel
theorem d_M_plain_78 : decode b_M_plain 78 = .ok (.iconst 5, 1) := by decide +kernel
theorem d_M_plain_79 : decode b_M_plain 79 = .ok (.if_icmp .ne 9, 3) := by decide +kernel
theorem d_M_plain_82 : decode b_M_plain 82 = .ok (.ldc2_w 102, 3) := by decide +kernel
theorem d_M_plain_85 : decode b_M_plain 85 = .ok (.goto 21, 3) := by decide +kernel
theorem d_M_plain_88 : decode b_M_plain 88 = .ok (.aload_n 0, 1) := by decide +kernel
theorem d_M_plain_89 : decode b_M_plain 89 = .ok (.getfield 89, 3) := by decide +kernel
theorem d_M_plain_92 : decode b_M_plain 92 = .ok (.bipush 6, 2) := by decide +kernel
theorem d_M_plain_94 : decode b_M_plain 94 = .ok (.if_icmp .ne 9, 3) := by decide +kernel
theorem d_M_plain_97 : decode b_M_plain 97 = .ok (.ldc2_w 104, 3) := by decide +kernel
theorem d_M_plain_100 : decode b_M_plain 100 = .ok (.goto 6, 3) := by decide +kernel
theorem d_M_plain_103 : decode b_M_plain 103 = .ok (.ldc2_w 106, 3) := by decide +kernel
theorem d_M_plain_106 : decode b_M_plain 106 = .ok (.invokevirtual 108, 3) := by decide +kernel
theorem d_M_plain_109 : decode b_M_plain 109 = .ok (.goto 157, 3) := by decide +kernel
theorem d_M_plain_112 : decode b_M_plain 112 = .ok (.iload_n 1, 1) := by decide +kernel
theorem d_M_plain_113 : decode b_M_plain 113 = .ok (.iconst 1, 1) := by decide +kernel
theorem d_M_plain_114 : decode b_M_plain 114 = .ok (.if_icmp .ne 111, 3) := by decide +kernel
theorem d_M_plain_117 : decode b_M_plain 117 = .ok (.aload_n 0, 1) := by decide +kernel
theorem d_M_plain_118 : decode b_M_plain 118 = .ok (.aload_n 0, 1) := by decide +kernel
theorem d_M_plain_119 : decode b_M_plain 119 = .ok (.getfield 89, 3) := by decide +kernel
theorem d_M_plain_122 : decode b_M_plain 122 = .ok (.ifCond .ne 9, 3) := by decide +kernel
theorem d_M_plain_125 : decode b_M_plain 125 = .ok (.ldc2_w 111, 3) := by decide +kernel
theorem d_M_plain_128 : decode b_M_plain 128 = .ok (.goto 91, 3) := by decide +kernel
theorem d_M_plain_131 : decode b_M_plain 131 = .ok (.aload_n 0, 1) := by decide +kernel
theorem d_M_plain_132 : decode b_M_plain 132 = .ok (.getfield 89, 3) := by decide +kernel
theorem d_M_plain_135 : decode b_M_plain 135 = .ok (.iconst 1, 1) := by decide +kernel
theorem d_M_plain_136 : decode b_M_plain 136 = .ok (.if_icmp .ne 9, 3) := by decide +kernel
theorem d_M_plain_139 : decode b_M_plain 139 = .ok (.ldc2_w 113, 3) := by decide +kernel
theorem d_M_plain_142 : decode b_M_plain 142 = .ok (.goto 77, 3) := by decide +kernel
theorem d_M_plain_145 : decode b_M_plain 145 = .ok (.aload_n 0, 1) := by decide +kernel
theorem d_M_plain_146 : decode b_M_plain 146 = .ok (.getfield 89, 3) := by decide +kernel
theorem d_M_plain_149 : decode b_M_plain 149 = .ok (.iconst 2, 1) := by decide +kernel
theorem d_M_plain_150 : decode b_M_plain 150 = .ok (.if_icmp .ne 9, 3) := by decide +kernel
theorem d_M_plain_153 : decode b_M_plain 153 = .ok (.ldc2_w 115, 3) := by decide +kernel
theorem d_M_plain_156 : decode b_M_plain 156 = .ok (.goto 63, 3) := by decide +kernel
theorem d_M_plain_159 : decode b_M_plain 159 = .ok (.aload_n 0, 1) := by decide +kernel
theorem d_M_plain_160 : decode b_M_plain 160 = .ok (.getfield 89, 3) := by decide +kernel
theorem d_M_plain_163 : decode b_M_plain 163 = .ok (.iconst 3, 1) := by decide +kernel
theorem d_M_plain_164 : decode b_M_plain 164 = .ok (.if_icmp .ne 9, 3) := by decide +kernel
theorem d_M_plain_167 : decode b_M_plain 167 = .ok (.ldc2_w 117, 3) := by decide +kernel
theorem d_M_plain_170 : decode b_M_plain 170 = .ok (.goto 49, 3) := by decide +kernel
theorem d_M_plain_173 : decode b_M_plain 173 = .ok (.aload_n 0, 1) := by decide +kernel
theorem d_M_plain_174 : decode b_M_plain 174 = .ok (.getfield 89, 3) := by decide +kernel
theorem d_M_plain_177 : decode b_M_plain 177 = .ok (.iconst 4, 1) := by decide +kernel
theorem d_M_plain_178 : decode b_M_plain 178 = .ok (.if_icmp .ne 9, 3) := by decide +kernel
theorem d_M_plain_181 : decode b_M_plain 181 = .ok (.ldc2_w 119, 3) := by decide +kernel
theorem d_M_plain_184 : decode b_M_plain 184 = .ok (.goto 35, 3) := by decide +kernel
theorem d_M_plain_187 : decode b_M_plain 187 = .ok (.aload_n 0, 1) := by decide +kernel
theorem d_M_plain_188 : decode b_M_plain 188 = .ok (.getfield 89, 3) := by decide +kernel
theorem d_M_plain_191 : decode b_M_plain 191 = .ok (.iconst 5, 1) := by decide +kernel
theorem d_M_plain_192 : decode b_M_plain 192 = .ok (.if_icmp .ne 9, 3) := by decide +kernel
theorem d_M_plain_195 : decode b_M_plain 195 = .ok (.ldc2_w 121, 3) := by decide +kernel
theorem d_M_plain_198 : decode b_M_plain 198 = .ok (.goto 21, 3) := by decide +kernel
theorem d_M_plain_201 : decode b_M_plain 201 = .ok (.aload_n 0, 1) := by decide +kernel
theorem d_M_plain_202 : decode b_M_plain 202 = .ok (.getfield 89, 3) := by decide +kernel
theorem d_M_plain_205 : decode b_M_plain 205 = .ok (.bipush 6, 2) := by decide +kernel
theorem d_M_plain_207 : decode b_M_plain 207 = .ok (.if_icmp .ne 9, 3) := by decide +kernel
theorem d_M_plain_210 : decode b_M_plain 210 = .ok (.ldc2_w 123, 3) := by decide +kernel
theorem d_M_plain_213 : decode b_M_plain 213 = .ok (.goto 6, 3) := by decide +kernel
theorem d_M_plain_216 : decode b_M_plain 216 = .ok (.ldc2_w 125, 3) := by decide +kernel
theorem d_M_plain_219 : decode b_M_plain 219 = .ok (.invokevirtual 108, 3) := by decide +kernel
theorem d_M_plain_222 : decode b_M_plain 222 = .ok (.goto 44, 3) := by decide +kernel
theorem d_M_plain_225 : decode b_M_plain 225 = .ok (.iload_n 1, 1) := by decide +kernel
theorem d_M_plain_226 : decode b_M_plain 226 = .ok (.bipush 32, 2) := by decide +kernel
theorem d_M_plain_228 : decode b_M_plain 228 = .ok (.if_icmp .ne 38, 3) := by decide +kernel
theorem d_M_plain_231 : decode b_M_plain 231 = .ok (.aload_n 0, 1) := by decide +kernel
theorem d_M_plain_232 : decode b_M_plain 232 = .ok (.getfield 89, 3) := by decide +kernel
theorem d_M_plain_235 : decode b_M_plain 235 = .ok (.ifCond .eq 11, 3) := by decide +kernel
theorem d_M_plain_238 : decode b_M_plain 238 = .ok (.aload_n 0, 1) := by decide +kernel
theorem d_M_plain_239 : decode b_M_plain 239 = .ok (.getfield 89, 3) := by decide +kernel
theorem d_M_plain_242 : decode b_M_plain 242 = .ok (.iconst 5, 1) := by decide +kernel
theorem d_M_plain_243 : decode b_M_plain 243 = .ok (.if_icmp .ne 23, 3) := by decide +kernel
theorem d_M_plain_246 : decode b_M_plain 246 = .ok (.aload_n 0, 1) := by decide +kernel
theorem d_M_plain_247 : decode b_M_plain 247 = .ok (.aload_n 0, 1) := by decide +kernel
theorem d_M_plain_248 : decode b_M_plain 248 = .ok (.getfield 89, 3) := by decide +kernel
theorem d_M_plain_251 : decode b_M_plain 251 = .ok (.ifCond .ne 9, 3) := by decide +kernel
theorem d_M_plain_254 : decode b_M_plain 254 = .ok (.ldc2_w 127, 3) := by decide +kernel
theorem d_M_plain_257 : decode b_M_plain 257 = .ok (.goto 6, 3) := by decide +kernel
theorem d_M_plain_260 : decode b_M_plain 260 = .ok (.ldc2_w 129, 3) := by decide +kernel
theorem d_M_plain_263 : decode b_M_plain 263 = .ok (.invokevirtual 108, 3) := by decide +kernel
theorem d_M_plain_266 : decode b_M_plain 266 = .ok (.return_, 1) := by decide +kernel
theorem d_M_threes_0 : decode b_M_threes 0 = .ok (.aload_n 0, 1) := by decide +kernel
theorem d_M_threes_1 : decode b_M_threes 1 = .ok (.lload_n 1, 1) := by decide +kernel
theorem d_M_threes_2 : decode b_M_threes 2 = .ok (.invokevirtual 74, 3) := by decide +kernel
theorem d_M_threes_5 : decode b_M_threes 5 = .ok (.aload_n 0, 1) := by decide +kernel
theorem d_M_threes_6 : decode b_M_threes 6 = .ok (.aload_n 0, 1) := by decide +kernel
theorem d_M_threes_7 : decode b_M_threes 7 = .ok (.getfield 77, 3) := by decide +kernel
theorem d_M_threes_10 : decode b_M_threes 10 = .ok (.invokevirtual 80, 3) := by decide +kernel
theorem d_M_threes_13 : decode b_M_threes 13 = .ok (.aload_n 0, 1) := by decide +kernel
theorem d_M_threes_14 : decode b_M_threes 14 = .ok (.aload_n 0, 1) := by decide +kernel
theorem d_M_threes_15 : decode b_M_threes 15 = .ok (.getfield 83, 3) := by decide +kernel
theorem d_M_threes_18 : decode b_M_threes 18 = .ok (.invokevirtual 80, 3) := by decide +kernel
theorem d_M_threes_21 : decode b_M_threes 21 = .ok (.aload_n 0, 1) := by decide +kernel
theorem d_M_threes_22 : decode b_M_threes 22 = .ok (.aload_n 0, 1) := by decide +kernel
theorem d_M_threes_23 : decode b_M_threes 23 = .ok (.getfield 86, 3) := by decide +kernel
theorem d_M_threes_26 : decode b_M_threes 26 = .ok (.invokevirtual 80, 3) := by decide +kernel
theorem d_M_threes_29 : decode b_M_threes 29 = .ok (.return_, 1) := by decide +kernel
theorem d_M_name_0 : decode b_M_name 0 = .ok (.aload_n 0, 1) := by decide +kernel
theorem d_M_name_1 : decode b_M_name 1 = .ok (.iconst 1, 1) := by decide +kernel
theorem d_M_name_2 : decode b_M_name 2 = .ok (.putfield 52, 3) := by decide +kernel
theorem d_M_name_5 : decode b_M_name 5 = .ok (.aload_n 0, 1) := by decide +kernel
theorem d_M_name_6 : decode b_M_name 6 = .ok (.iconst 0, 1) := by decide +kernel
theorem d_M_name_7 : decode b_M_name 7 = .ok (.putfield 56, 3) := by decide +kernel
theorem d_M_name_10 : decode b_M_name 10 = .ok (.aload_n 0, 1) := by decide +kernel
theorem d_M_name_11 : decode b_M_name 11 = .ok (.lload_n 1, 1) := by decide +kernel
theorem d_M_name_12 : decode b_M_name 12 = .ok (.invokevirtual 59, 3) := by decide +kernel
theorem d_M_name_15 : decode b_M_name 15 = .ok (.return_, 1) := by decide +kernel
theorem d_M_say_0 : decode b_M_say 0 = .ok (.lload_n 1, 1) := by decide +kernel
theorem d_M_say_1 : decode b_M_say 1 = .ok (.lstore_n 3, 1) := by decide +kernel
theorem d_M_say_2 : decode b_M_say 2 = .ok (.lload_n 3, 1) := by decide +kernel
theorem d_M_say_3 : decode b_M_say 3 = .ok (.lconst 0, 1) := by decide +kernel
theorem d_M_say_4 : decode b_M_say 4 = .ok (.lcmp, 1) := by decide +kernel
theorem d_M_say_5 : decode b_M_say 5 = .ok (.ifCond .eq 21, 3) := by decide +kernel
theorem d_M_say_8 : decode b_M_say 8 = .ok (.aload_n 0, 1) := by decide +kernel
theorem d_M_say_9 : decode b_M_say 9 = .ok (.lload_n 3, 1) := by decide +kernel
theorem d_M_say_10 : decode b_M_say 10 = .ok (.ldc2_w 36, 3) := by decide +kernel
theorem d_M_say_13 : decode b_M_say 13 = .ok (.land, 1) := by decide +kernel
theorem d_M_say_14 : decode b_M_say 14 = .ok (.l2i, 1) := by decide +kernel
theorem d_M_say_15 : decode b_M_say 15 = .ok (.invokevirtual 38, 3) := by decide +kernel
theorem d_M_say_18 : decode b_M_say 18 = .ok (.lload_n 3, 1) := by decide +kernel
theorem d_M_say_19 : decode b_M_say 19 = .ok (.bipush 8, 2) := by decide +kernel
theorem d_M_say_21 : decode b_M_say 21 = .ok (.lushr, 1) := by decide +kernel
theorem d_M_say_22 : decode b_M_say 22 = .ok (.lstore_n 3, 1) := by decide +kernel
theorem d_M_say_23 : decode b_M_say 23 = .ok (.goto (-21), 3) := by decide +kernel
theorem d_M_say_26 : decode b_M_say 26 = .ok (.return_, 1) := by decide +kernel
theorem d_M_put_0 : decode b_M_put 0 = .ok (.aload_n 0, 1) := by decide +kernel
theorem d_M_put_1 : decode b_M_put 1 = .ok (.getfield 7, 3) := by decide +kernel
theorem d_M_put_4 : decode b_M_put 4 = .ok (.aload_n 0, 1) := by decide +kernel
theorem d_M_put_5 : decode b_M_put 5 = .ok (.getfield 33, 3) := by decide +kernel
theorem d_M_put_8 : decode b_M_put 8 = .ok (.iload_n 1, 1) := by decide +kernel
theorem d_M_put_9 : decode b_M_put 9 = .ok (.i2c, 1) := by decide +kernel
theorem d_M_put_10 : decode b_M_put 10 = .ok (.castore, 1) := by decide +kernel
theorem d_M_put_11 : decode b_M_put 11 = .ok (.aload_n 0, 1) := by decide +kernel
theorem d_M_put_12 : decode b_M_put 12 = .ok (.dup, 1) := by decide +kernel
theorem d_M_put_13 : decode b_M_put 13 = .ok (.getfield 33, 3) := by decide +kernel
theorem d_M_put_16 : decode b_M_put 16 = .ok (.iconst 1, 1) := by decide +kernel
theorem d_M_put_17 : decode b_M_put 17 = .ok (.iadd, 1) := by decide +kernel
theorem d_M_put_18 : decode b_M_put 18 = .ok (.putfield 33, 3) := by decide +kernel
theorem d_M_put_21 : decode b_M_put 21 = .ok (.return_, 1) := by decide +kernel
theorem d_M_register_0 : decode b_M_register 0 = .ok (.aload_n 0, 1) := by decide +kernel
theorem d_M_register_1 : decode b_M_register 1 = .ok (.invokevirtual 62, 3) := by decide +kernel
theorem d_M_register_4 : decode b_M_register 4 = .ok (.aload_n 0, 1) := by decide +kernel
theorem d_M_register_5 : decode b_M_register 5 = .ok (.aload_n 0, 1) := by decide +kernel
theorem d_M_register_6 : decode b_M_register 6 = .ok (.getfield 20, 3) := by decide +kernel
theorem d_M_register_9 : decode b_M_register 9 = .ok (.iload_n 1, 1) := by decide +kernel
theorem d_M_register_10 : decode b_M_register 10 = .ok (.iaload, 1) := by decide +kernel
theorem d_M_register_11 : decode b_M_register 11 = .ok (.i2l, 1) := by decide +kernel
theorem d_M_register_12 : decode b_M_register 12 = .ok (.invokevirtual 59, 3) := by decide +kernel
theorem d_M_register_15 : decode b_M_register 15 = .ok (.return_, 1) := by decide +kernel
theorem d_M_next_0 : decode b_M_next 0 = .ok (.aload_n 0, 1) := by decide +kernel
theorem d_M_next_1 : decode b_M_next 1 = .ok (.getfield 56, 3) := by decide +kernel
theorem d_M_next_4 : decode b_M_next 4 = .ok (.ifCond .le 9, 3) := by decide +kernel
theorem d_M_next_7 : decode b_M_next 7 = .ok (.aload_n 0, 1) := by decide +kernel
theorem d_M_next_8 : decode b_M_next 8 = .ok (.bipush 44, 2) := by decide +kernel
theorem d_M_next_10 : decode b_M_next 10 = .ok (.invokevirtual 38, 3) := by decide +kernel
theorem d_M_next_13 : decode b_M_next 13 = .ok (.aload_n 0, 1) := by decide +kernel
theorem d_M_next_14 : decode b_M_next 14 = .ok (.bipush 32, 2) := by decide +kernel
theorem d_M_next_16 : decode b_M_next 16 = .ok (.invokevirtual 38, 3) := by decide +kernel
theorem d_M_next_19 : decode b_M_next 19 = .ok (.aload_n 0, 1) := by decide +kernel
theorem d_M_next_20 : decode b_M_next 20 = .ok (.dup, 1) := by decide +kernel
theorem d_M_next_21 : decode b_M_next 21 = .ok (.getfield 56, 3) := by decide +kernel
theorem d_M_next_24 : decode b_M_next 24 = .ok (.iconst 1, 1) := by decide +kernel
theorem d_M_next_25 : decode b_M_next 25 = .ok (.iadd, 1) := by decide +kernel
theorem d_M_next_26 : decode b_M_next 26 = .ok (.putfield 56, 3) := by decide +kernel
theorem d_M_next_29 : decode b_M_next 29 = .ok (.return_, 1) := by decide +kernel
theorem d_M_twos_0 : decode b_M_twos 0 = .ok (.aload_n 0, 1) := by decide +kernel
theorem d_M_twos_1 : decode b_M_twos 1 = .ok (.getfield 89, 3) := by decide +kernel
theorem d_M_twos_4 : decode b_M_twos 4 = .ok (.iconst 1, 1) := by decide +kernel
theorem d_M_twos_5 : decode b_M_twos 5 = .ok (.if_icmp .eq 11, 3) := by decide +kernel
theorem d_M_twos_8 : decode b_M_twos 8 = .ok (.aload_n 0, 1) := by decide +kernel
theorem d_M_twos_9 : decode b_M_twos 9 = .ok (.getfield 89, 3) := by decide +kernel
theorem d_M_twos_12 : decode b_M_twos 12 = .ok (.iconst 5, 1) := by decide +kernel
theorem d_M_twos_13 : decode b_M_twos 13 = .ok (.if_icmp .ne 7, 3) := by decide +kernel
theorem d_M_twos_16 : decode b_M_twos 16 = .ok (.iconst 1, 1) := by decide +kernel
theorem d_M_twos_17 : decode b_M_twos 17 = .ok (.goto 4, 3) := by decide +kernel
theorem d_M_twos_20 : decode b_M_twos 20 = .ok (.iconst 0, 1) := by decide +kernel
theorem d_M_twos_21 : decode b_M_twos 21 = .ok (.istore_n 2, 1) := by decide +kernel
theorem d_M_twos_22 : decode b_M_twos 22 = .ok (.iload_n 2, 1) := by decide +kernel
theorem d_M_twos_23 : decode b_M_twos 23 = .ok (.ifCond .eq 22, 3) := by decide +kernel
theorem d_M_twos_26 : decode b_M_twos 26 = .ok (.iload_n 1, 1) := by decide +kernel
theorem d_M_twos_27 : decode b_M_twos 27 = .ok (.ifCond .eq 18, 3) := by decide +kernel
theorem d_M_twos_30 : decode b_M_twos 30 = .ok (.iload_n 1, 1) := by decide +kernel
theorem d_M_twos_31 : decode b_M_twos 31 = .ok (.bipush 32, 2) := by decide +kernel
theorem d_M_twos_33 : decode b_M_twos 33 = .ok (.if_icmp .ne 11, 3) := by decide +kernel
theorem d_M_twos_36 : decode b_M_twos 36 = .ok (.aload_n 0, 1) := by decide +kernel
theorem d_M_twos_37 : decode b_M_twos 37 = .ok (.getfield 89, 3) := by decide +kernel
theorem d_M_twos_40 : decode b_M_twos 40 = .ok (.iconst 1, 1) := by decide +kernel
theorem d_M_twos_41 : decode b_M_twos 41 = .ok (.if_icmp .ne 4, 3) := by decide +kernel
theorem d_M_twos_44 : decode b_M_twos 44 = .ok (.return_, 1) := by decide +kernel
theorem d_M_twos_45 : decode b_M_twos 45 = .ok (.aload_n 0, 1) := by decide +kernel
theorem d_M_twos_46 : decode b_M_twos 46 = .ok (.iload_n 1, 1) := by decide +kernel
theorem d_M_twos_47 : decode b_M_twos 47 = .ok (.bipush 32, 2) := by decide +kernel
theorem d_M_twos_49 : decode b_M_twos 49 = .ok (.if_icmp .ne 13, 3) := by decide +kernel
theorem d_M_twos_52 : decode b_M_twos 52 = .ok (.iload_n 2, 1) := by decide +kernel
theorem d_M_twos_53 : decode b_M_twos 53 = .ok (.ifCond .eq 9, 3) := by decide +kernel
theorem d_M_twos_56 : decode b_M_twos 56 = .ok (.ldc2_w 131, 3) := by decide +kernel
theorem d_M_twos_59 : decode b_M_twos 59 = .ok (.goto 104, 3) := by decide +kernel
theorem d_M_twos_62 : decode b_M_twos 62 = .ok (.aload_n 0, 1) := by decide +kernel
theorem d_M_twos_63 : decode b_M_twos 63 = .ok (.getfield 89, 3) := by decide +kernel
theorem d_M_twos_66 : decode b_M_twos 66 = .ok (.ifCond .ne 9, 3) := by decide +kernel
theorem d_M_twos_69 : decode b_M_twos 69 = .ok (.ldc2_w 133, 3) := by decide +kernel
theorem d_M_twos_72 : decode b_M_twos 72 = .ok (.goto 91, 3) := by decide +kernel
theorem d_M_twos_75 : decode b_M_twos 75 = .ok (.aload_n 0, 1) := by decide +kernel
theorem d_M_twos_76 : decode b_M_twos 76 = .ok (.getfield 89, 3) := by decide +kernel
theorem d_M_twos_79 : decode b_M_twos 79 = .ok (.iconst 1, 1) := by decide +kernel
theorem d_M_twos_80 : decode b_M_twos 80 = .ok (.if_icmp .ne 9, 3) := by decide +kernel
theorem d_M_twos_83 : decode b_M_twos 83 = .ok (.ldc2_w 135, 3) := by decide +kernel
theorem d_M_twos_86 : decode b_M_twos 86 = .ok (.goto 77, 3) := by decide +kernel
theorem d_M_twos_89 : decode b_M_twos 89 = .ok (.aload_n 0, 1) := by decide +kernel
theorem d_M_twos_90 : decode b_M_twos 90 = .ok (.getfield 89, 3) := by decide +kernel
theorem d_M_twos_93 : decode b_M_twos 93 = .ok (.iconst 2, 1) := by decide +kernel
theorem d_M_twos_94 : decode b_M_twos 94 = .ok (.if_icmp .ne 9, 3) := by decide +kernel
theorem d_M_twos_97 : decode b_M_twos 97 = .ok (.ldc2_w 137, 3) := by decide +kernel
theorem d_M_twos_100 : decode b_M_twos 100 = .ok (.goto 63, 3) := by decide +kernel
theorem d_M_twos_103 : decode b_M_twos 103 = .ok (.aload_n 0, 1) := by decide +kernel
theorem d_M_twos_104 : decode b_M_twos 104 = .ok (.getfield 89, 3) := by decide +kernel
theorem d_M_twos_107 : decode b_M_twos 107 = .ok (.iconst 3, 1) := by decide +kernel
theorem d_M_twos_108 : decode b_M_twos 108 = .ok (.if_icmp .ne 9, 3) := by decide +kernel
theorem d_M_twos_111 : decode b_M_twos 111 = .ok (.ldc2_w 139, 3) := by decide +kernel
theorem d_M_twos_114 : decode b_M_twos 114 = .ok (.goto 49, 3) := by decide +kernel
theorem d_M_twos_117 : decode b_M_twos 117 = .ok (.aload_n 0, 1) := by decide +kernel
theorem d_M_twos_118 : decode b_M_twos 118 = .ok (.getfield 89, 3) := by decide +kernel
theorem d_M_twos_121 : decode b_M_twos 121 = .ok (.iconst 4, 1) := by decide +kernel
theorem d_M_twos_122 : decode b_M_twos 122 = .ok (.if_icmp .ne 9, 3) := by decide +kernel
theorem d_M_twos_125 : decode b_M_twos 125 = .ok (.ldc2_w 141, 3) := by decide +kernel
theorem d_M_twos_128 : decode b_M_twos 128 = .ok (.goto 35, 3) := by decide +kernel
theorem d_M_twos_131 : decode b_M_twos 131 = .ok (.aload_n 0, 1) := by decide +kernel
theorem d_M_twos_132 : decode b_M_twos 132 = .ok (.getfield 89, 3) := by decide +kernel
theorem d_M_twos_135 : decode b_M_twos 135 = .ok (.iconst 5, 1) := by decide +kernel
theorem d_M_twos_136 : decode b_M_twos 136 = .ok (.if_icmp .ne 9, 3) := by decide +kernel
theorem d_M_twos_139 : decode b_M_twos 139 = .ok (.ldc2_w 143, 3) := by decide +kernel
theorem d_M_twos_142 : decode b_M_twos 142 = .ok (.goto 21, 3) := by decide +kernel
theorem d_M_twos_145 : decode b_M_twos 145 = .ok (.aload_n 0, 1) := by decide +kernel
theorem d_M_twos_146 : decode b_M_twos 146 = .ok (.getfield 89, 3) := by decide +kernel
theorem d_M_twos_149 : decode b_M_twos 149 = .ok (.bipush 6, 2) := by decide +kernel
theorem d_M_twos_151 : decode b_M_twos 151 = .ok (.if_icmp .ne 9, 3) := by decide +kernel
theorem d_M_twos_154 : decode b_M_twos 154 = .ok (.ldc2_w 145, 3) := by decide +kernel
theorem d_M_twos_157 : decode b_M_twos 157 = .ok (.goto 6, 3) := by decide +kernel
theorem d_M_twos_160 : decode b_M_twos 160 = .ok (.ldc2_w 147, 3) := by decide +kernel
theorem d_M_twos_163 : decode b_M_twos 163 = .ok (.invokevirtual 74, 3) := by decide +kernel
theorem d_M_twos_166 : decode b_M_twos 166 = .ok (.aload_n 0, 1) := by decide +kernel
theorem d_M_twos_167 : decode b_M_twos 167 = .ok (.aload_n 0, 1) := by decide +kernel
theorem d_M_twos_168 : decode b_M_twos 168 = .ok (.getfield 77, 3) := by decide +kernel
theorem d_M_twos_171 : decode b_M_twos 171 = .ok (.invokevirtual 80, 3) := by decide +kernel
theorem d_M_twos_174 : decode b_M_twos 174 = .ok (.aload_n 0, 1) := by decide +kernel
theorem d_M_twos_175 : decode b_M_twos 175 = .ok (.aload_n 0, 1) := by decide +kernel
theorem d_M_twos_176 : decode b_M_twos 176 = .ok (.getfield 83, 3) := by decide +kernel
theorem d_M_twos_179 : decode b_M_twos 179 = .ok (.invokevirtual 80, 3) := by decide +kernel
theorem d_M_twos_182 : decode b_M_twos 182 = .ok (.aload_n 0, 1) := by decide +kernel
theorem d_M_twos_183 : decode b_M_twos 183 = .ok (.iload_n 2, 1) := by decide +kernel
theorem d_M_twos_184 : decode b_M_twos 184 = .ok (.ifCond .eq 10, 3) := by decide +kernel
theorem d_M_twos_187 : decode b_M_twos 187 = .ok (.aload_n 0, 1) := by decide +kernel
theorem d_M_twos_188 : decode b_M_twos 188 = .ok (.getfield 86, 3) := by decide +kernel
theorem d_M_twos_191 : decode b_M_twos 191 = .ok (.goto 10, 3) := by decide +kernel
theorem d_M_twos_194 : decode b_M_twos 194 = .ok (.aload_n 0, 1) := by decide +kernel
theorem d_M_twos_195 : decode b_M_twos 195 = .ok (.getfield 30, 3) := by decide +kernel
theorem d_M_twos_198 : decode b_M_twos 198 = .ok (.bipush 20, 2) := by decide +kernel
theorem d_M_twos_200 : decode b_M_twos 200 = .ok (.ishr, 1) := by decide +kernel
theorem d_M_twos_201 : decode b_M_twos 201 = .ok (.invokevirtual 68, 3) := by decide +kernel
theorem d_M_twos_204 : decode b_M_twos 204 = .ok (.return_, 1) := by decide +kernel
theorem d_M_immediate_0 : decode b_M_immediate 0 = .ok (.aload_n 0, 1) := by decide +kernel
theorem d_M_immediate_1 : decode b_M_immediate 1 = .ok (.invokevirtual 62, 3) := by decide +kernel
theorem d_M_immediate_4 : decode b_M_immediate 4 = .ok (.aload_n 0, 1) := by decide +kernel
theorem d_M_immediate_5 : decode b_M_immediate 5 = .ok (.iload_n 1, 1) := by decide +kernel
theorem d_M_immediate_6 : decode b_M_immediate 6 = .ok (.invokevirtual 65, 3) := by decide +kernel
theorem d_M_immediate_9 : decode b_M_immediate 9 = .ok (.return_, 1) := by decide +kernel
theorem d_M_number_0 : decode b_M_number 0 = .ok (.iload_n 1, 1) := by decide +kernel
theorem d_M_number_1 : decode b_M_number 1 = .ok (.ifCond .ge 9, 3) := by decide +kernel
theorem d_M_number_4 : decode b_M_number 4 = .ok (.aload_n 0, 1) := by decide +kernel
theorem d_M_number_5 : decode b_M_number 5 = .ok (.bipush 45, 2) := by decide +kernel
theorem d_M_number_7 : decode b_M_number 7 = .ok (.invokevirtual 38, 3) := by decide +kernel
theorem d_M_number_10 : decode b_M_number 10 = .ok (.aload_n 0, 1) := by decide +kernel
theorem d_M_number_11 : decode b_M_number 11 = .ok (.iload_n 1, 1) := by decide +kernel
theorem d_M_number_12 : decode b_M_number 12 = .ok (.ifCond .ge 9, 3) := by decide +kernel
theorem d_M_number_15 : decode b_M_number 15 = .ok (.iload_n 1, 1) := by decide +kernel
theorem d_M_number_16 : decode b_M_number 16 = .ok (.i2l, 1) := by decide +kernel
theorem d_M_number_17 : decode b_M_number 17 = .ok (.lneg, 1) := by decide +kernel
theorem d_M_number_18 : decode b_M_number 18 = .ok (.goto 5, 3) := by decide +kernel
theorem d_M_number_21 : decode b_M_number 21 = .ok (.iload_n 1, 1) := by decide +kernel
theorem d_M_number_22 : decode b_M_number 22 = .ok (.i2l, 1) := by decide +kernel
theorem d_M_number_23 : decode b_M_number 23 = .ok (.invokevirtual 48, 3) := by decide +kernel
theorem d_M_number_26 : decode b_M_number 26 = .ok (.return_, 1) := by decide +kernel
theorem d_M_digits_0 : decode b_M_digits 0 = .ok (.lconst 1, 1) := by decide +kernel
theorem d_M_digits_1 : decode b_M_digits 1 = .ok (.lstore_n 3, 1) := by decide +kernel
theorem d_M_digits_2 : decode b_M_digits 2 = .ok (.lload_n 1, 1) := by decide +kernel
theorem d_M_digits_3 : decode b_M_digits 3 = .ok (.lload_n 3, 1) := by decide +kernel
theorem d_M_digits_4 : decode b_M_digits 4 = .ok (.ldiv, 1) := by decide +kernel
theorem d_M_digits_5 : decode b_M_digits 5 = .ok (.ldc2_w 42, 3) := by decide +kernel
theorem d_M_digits_8 : decode b_M_digits 8 = .ok (.lcmp, 1) := by decide +kernel
theorem d_M_digits_9 : decode b_M_digits 9 = .ok (.ifCond .le 12, 3) := by decide +kernel
theorem d_M_digits_12 : decode b_M_digits 12 = .ok (.ldc2_w 44, 3) := by decide +kernel
theorem d_M_digits_15 : decode b_M_digits 15 = .ok (.lload_n 3, 1) := by decide +kernel
theorem d_M_digits_16 : decode b_M_digits 16 = .ok (.lmul, 1) := by decide +kernel
theorem d_M_digits_17 : decode b_M_digits 17 = .ok (.lstore_n 3, 1) := by decide +kernel
theorem d_M_digits_18 : decode b_M_digits 18 = .ok (.goto (-16), 3) := by decide +kernel
theorem d_M_digits_21 : decode b_M_digits 21 = .ok (.lload_n 3, 1) := by decide +kernel
theorem d_M_digits_22 : decode b_M_digits 22 = .ok (.lstore 5, 2) := by decide +kernel
theorem d_M_digits_24 : decode b_M_digits 24 = .ok (.lload 5, 2) := by decide +kernel
theorem d_M_digits_26 : decode b_M_digits 26 = .ok (.lconst 0, 1) := by decide +kernel
theorem d_M_digits_27 : decode b_M_digits 27 = .ok (.lcmp, 1) := by decide +kernel
theorem d_M_digits_28 : decode b_M_digits 28 = .ok (.ifCond .le 31, 3) := by decide +kernel
theorem d_M_digits_31 : decode b_M_digits 31 = .ok (.aload_n 0, 1) := by decide +kernel
theorem d_M_digits_32 : decode b_M_digits 32 = .ok (.ldc2_w 46, 3) := by decide +kernel
theorem d_M_digits_35 : decode b_M_digits 35 = .ok (.lload_n 1, 1) := by decide +kernel
theorem d_M_digits_36 : decode b_M_digits 36 = .ok (.lload 5, 2) := by decide +kernel
theorem d_M_digits_38 : decode b_M_digits 38 = .ok (.ldiv, 1) := by decide +kernel
theorem d_M_digits_39 : decode b_M_digits 39 = .ok (.ldc2_w 44, 3) := by decide +kernel
theorem d_M_digits_42 : decode b_M_digits 42 = .ok (.lrem, 1) := by decide +kernel
theorem d_M_digits_43 : decode b_M_digits 43 = .ok (.ladd, 1) := by decide +kernel
theorem d_M_digits_44 : decode b_M_digits 44 = .ok (.l2i, 1) := by decide +kernel
theorem d_M_digits_45 : decode b_M_digits 45 = .ok (.invokevirtual 38, 3) := by decide +kernel
theorem d_M_digits_48 : decode b_M_digits 48 = .ok (.lload 5, 2) := by decide +kernel
theorem d_M_digits_50 : decode b_M_digits 50 = .ok (.ldc2_w 44, 3) := by decide +kernel
theorem d_M_digits_53 : decode b_M_digits 53 = .ok (.ldiv, 1) := by decide +kernel
theorem d_M_digits_54 : decode b_M_digits 54 = .ok (.lstore 5, 2) := by decide +kernel
theorem d_M_digits_56 : decode b_M_digits 56 = .ok (.goto (-32), 3) := by decide +kernel
theorem d_M_digits_59 : decode b_M_digits 59 = .ok (.return_, 1) := by decide +kernel
theorem d_M_loads_0 : decode b_M_loads 0 = .ok (.aload_n 0, 1) := by decide +kernel
theorem d_M_loads_1 : decode b_M_loads 1 = .ok (.getfield 89, 3) := by decide +kernel
theorem d_M_loads_4 : decode b_M_loads 4 = .ok (.iconst 3, 1) := by decide +kernel
theorem d_M_loads_5 : decode b_M_loads 5 = .ok (.if_icmp .eq 11, 3) := by decide +kernel
theorem d_M_loads_8 : decode b_M_loads 8 = .ok (.aload_n 0, 1) := by decide +kernel
theorem d_M_loads_9 : decode b_M_loads 9 = .ok (.getfield 89, 3) := by decide +kernel
theorem d_M_loads_12 : decode b_M_loads 12 = .ok (.iconst 5, 1) := by decide +kernel
theorem d_M_loads_13 : decode b_M_loads 13 = .ok (.if_icmp .le 4, 3) := by decide +kernel
theorem d_M_loads_16 : decode b_M_loads 16 = .ok (.return_, 1) := by decide +kernel
theorem d_M_loads_17 : decode b_M_loads 17 = .ok (.aload_n 0, 1) := by decide +kernel
theorem d_M_loads_18 : decode b_M_loads 18 = .ok (.aload_n 0, 1) := by decide +kernel
theorem d_M_loads_19 : decode b_M_loads 19 = .ok (.getfield 89, 3) := by decide +kernel
theorem d_M_loads_22 : decode b_M_loads 22 = .ok (.ifCond .ne 9, 3) := by decide +kernel
theorem d_M_loads_25 : decode b_M_loads 25 = .ok (.ldc2_w 149, 3) := by decide +kernel
theorem d_M_loads_28 : decode b_M_loads 28 = .ok (.goto 48, 3) := by decide +kernel
theorem d_M_loads_31 : decode b_M_loads 31 = .ok (.aload_n 0, 1) := by decide +kernel
theorem d_M_loads_32 : decode b_M_loads 32 = .ok (.getfield 89, 3) := by decide +kernel
theorem d_M_loads_35 : decode b_M_loads 35 = .ok (.iconst 1, 1) := by decide +kernel
theorem d_M_loads_36 : decode b_M_loads 36 = .ok (.if_icmp .ne 9, 3) := by decide +kernel
theorem d_M_loads_39 : decode b_M_loads 39 = .ok (.ldc2_w 151, 3) := by decide +kernel
theorem d_M_loads_42 : decode b_M_loads 42 = .ok (.goto 34, 3) := by decide +kernel
theorem d_M_loads_45 : decode b_M_loads 45 = .ok (.aload_n 0, 1) := by decide +kernel
theorem d_M_loads_46 : decode b_M_loads 46 = .ok (.getfield 89, 3) := by decide +kernel
theorem d_M_loads_49 : decode b_M_loads 49 = .ok (.iconst 2, 1) := by decide +kernel
theorem d_M_loads_50 : decode b_M_loads 50 = .ok (.if_icmp .ne 9, 3) := by decide +kernel
theorem d_M_loads_53 : decode b_M_loads 53 = .ok (.ldc2_w 153, 3) := by decide +kernel
theorem d_M_loads_56 : decode b_M_loads 56 = .ok (.goto 20, 3) := by decide +kernel
theorem d_M_loads_59 : decode b_M_loads 59 = .ok (.aload_n 0, 1) := by decide +kernel
theorem d_M_loads_60 : decode b_M_loads 60 = .ok (.getfield 89, 3) := by decide +kernel
theorem d_M_loads_63 : decode b_M_loads 63 = .ok (.iconst 4, 1) := by decide +kernel
theorem d_M_loads_64 : decode b_M_loads 64 = .ok (.if_icmp .ne 9, 3) := by decide +kernel
theorem d_M_loads_67 : decode b_M_loads 67 = .ok (.ldc2_w 155, 3) := by decide +kernel
theorem d_M_loads_70 : decode b_M_loads 70 = .ok (.goto 6, 3) := by decide +kernel
theorem d_M_loads_73 : decode b_M_loads 73 = .ok (.ldc2_w 157, 3) := by decide +kernel
theorem d_M_loads_76 : decode b_M_loads 76 = .ok (.invokevirtual 74, 3) := by decide +kernel
theorem d_M_loads_79 : decode b_M_loads 79 = .ok (.aload_n 0, 1) := by decide +kernel
theorem d_M_loads_80 : decode b_M_loads 80 = .ok (.aload_n 0, 1) := by decide +kernel
theorem d_M_loads_81 : decode b_M_loads 81 = .ok (.getfield 77, 3) := by decide +kernel
theorem d_M_loads_84 : decode b_M_loads 84 = .ok (.invokevirtual 80, 3) := by decide +kernel
theorem d_M_loads_87 : decode b_M_loads 87 = .ok (.aload_n 0, 1) := by decide +kernel
theorem d_M_loads_88 : decode b_M_loads 88 = .ok (.aload_n 0, 1) := by decide +kernel
theorem d_M_loads_89 : decode b_M_loads 89 = .ok (.getfield 30, 3) := by decide +kernel
theorem d_M_loads_92 : decode b_M_loads 92 = .ok (.bipush 20, 2) := by decide +kernel
theorem d_M_loads_94 : decode b_M_loads 94 = .ok (.ishr, 1) := by decide +kernel
theorem d_M_loads_95 : decode b_M_loads 95 = .ok (.aload_n 0, 1) := by decide +kernel
theorem d_M_loads_96 : decode b_M_loads 96 = .ok (.getfield 83, 3) := by decide +kernel
theorem d_M_loads_99 : decode b_M_loads 99 = .ok (.invokevirtual 159, 3) := by decide +kernel
theorem d_M_loads_102 : decode b_M_loads 102 = .ok (.return_, 1) := by decide +kernel
theorem d_M_memory_0 : decode b_M_memory 0 = .ok (.aload_n 0, 1) := by decide +kernel
theorem d_M_memory_1 : decode b_M_memory 1 = .ok (.iload_n 1, 1) := by decide +kernel
theorem d_M_memory_2 : decode b_M_memory 2 = .ok (.invokevirtual 68, 3) := by decide +kernel
theorem d_M_memory_5 : decode b_M_memory 5 = .ok (.aload_n 0, 1) := by decide +kernel
theorem d_M_memory_6 : decode b_M_memory 6 = .ok (.iload_n 2, 1) := by decide +kernel
theorem d_M_memory_7 : decode b_M_memory 7 = .ok (.invokevirtual 71, 3) := by decide +kernel
theorem d_M_memory_10 : decode b_M_memory 10 = .ok (.return_, 1) := by decide +kernel
theorem d_M_bracket_0 : decode b_M_bracket 0 = .ok (.aload_n 0, 1) := by decide +kernel
theorem d_M_bracket_1 : decode b_M_bracket 1 = .ok (.bipush 40, 2) := by decide +kernel
theorem d_M_bracket_3 : decode b_M_bracket 3 = .ok (.invokevirtual 38, 3) := by decide +kernel
theorem d_M_bracket_6 : decode b_M_bracket 6 = .ok (.aload_n 0, 1) := by decide +kernel
theorem d_M_bracket_7 : decode b_M_bracket 7 = .ok (.aload_n 0, 1) := by decide +kernel
theorem d_M_bracket_8 : decode b_M_bracket 8 = .ok (.getfield 20, 3) := by decide +kernel
theorem d_M_bracket_11 : decode b_M_bracket 11 = .ok (.iload_n 1, 1) := by decide +kernel
theorem d_M_bracket_12 : decode b_M_bracket 12 = .ok (.iaload, 1) := by decide +kernel
theorem d_M_bracket_13 : decode b_M_bracket 13 = .ok (.i2l, 1) := by decide +kernel
theorem d_M_bracket_14 : decode b_M_bracket 14 = .ok (.invokevirtual 59, 3) := by decide +kernel
theorem d_M_bracket_17 : decode b_M_bracket 17 = .ok (.aload_n 0, 1) := by decide +kernel
theorem d_M_bracket_18 : decode b_M_bracket 18 = .ok (.bipush 41, 2) := by decide +kernel
theorem d_M_bracket_20 : decode b_M_bracket 20 = .ok (.invokevirtual 38, 3) := by decide +kernel
theorem d_M_bracket_23 : decode b_M_bracket 23 = .ok (.return_, 1) := by decide +kernel
theorem d_M_stores_0 : decode b_M_stores 0 = .ok (.aload_n 0, 1) := by decide +kernel
theorem d_M_stores_1 : decode b_M_stores 1 = .ok (.getfield 89, 3) := by decide +kernel
theorem d_M_stores_4 : decode b_M_stores 4 = .ok (.iconst 2, 1) := by decide +kernel
theorem d_M_stores_5 : decode b_M_stores 5 = .ok (.if_icmp .le 4, 3) := by decide +kernel
theorem d_M_stores_8 : decode b_M_stores 8 = .ok (.return_, 1) := by decide +kernel
theorem d_M_stores_9 : decode b_M_stores 9 = .ok (.aload_n 0, 1) := by decide +kernel
theorem d_M_stores_10 : decode b_M_stores 10 = .ok (.aload_n 0, 1) := by decide +kernel
theorem d_M_stores_11 : decode b_M_stores 11 = .ok (.getfield 89, 3) := by decide +kernel
theorem d_M_stores_14 : decode b_M_stores 14 = .ok (.ifCond .ne 9, 3) := by decide +kernel
theorem d_M_stores_17 : decode b_M_stores 17 = .ok (.ldc2_w 163, 3) := by decide +kernel
theorem d_M_stores_20 : decode b_M_stores 20 = .ok (.goto 20, 3) := by decide +kernel
theorem d_M_stores_23 : decode b_M_stores 23 = .ok (.aload_n 0, 1) := by decide +kernel
theorem d_M_stores_24 : decode b_M_stores 24 = .ok (.getfield 89, 3) := by decide +kernel
theorem d_M_stores_27 : decode b_M_stores 27 = .ok (.iconst 1, 1) := by decide +kernel
theorem d_M_stores_28 : decode b_M_stores 28 = .ok (.if_icmp .ne 9, 3) := by decide +kernel
theorem d_M_stores_31 : decode b_M_stores 31 = .ok (.ldc2_w 165, 3) := by decide +kernel
theorem d_M_stores_34 : decode b_M_stores 34 = .ok (.goto 6, 3) := by decide +kernel
theorem d_M_stores_37 : decode b_M_stores 37 = .ok (.ldc2_w 167, 3) := by decide +kernel
theorem d_M_stores_40 : decode b_M_stores 40 = .ok (.invokevirtual 74, 3) := by decide +kernel
theorem d_M_stores_43 : decode b_M_stores 43 = .ok (.aload_n 0, 1) := by decide +kernel
theorem d_M_stores_44 : decode b_M_stores 44 = .ok (.aload_n 0, 1) := by decide +kernel
theorem d_M_stores_45 : decode b_M_stores 45 = .ok (.getfield 86, 3) := by decide +kernel
theorem d_M_stores_48 : decode b_M_stores 48 = .ok (.invokevirtual 80, 3) := by decide +kernel
theorem d_M_stores_51 : decode b_M_stores 51 = .ok (.aload_n 0, 1) := by decide +kernel
theorem d_M_stores_52 : decode b_M_stores 52 = .ok (.aload_n 0, 1) := by decide +kernel
theorem d_M_stores_53 : decode b_M_stores 53 = .ok (.getfield 30, 3) := by decide +kernel
theorem d_M_stores_56 : decode b_M_stores 56 = .ok (.bipush 25, 2) := by decide +kernel
theorem d_M_stores_58 : decode b_M_stores 58 = .ok (.ishr, 1) := by decide +kernel
theorem d_M_stores_59 : decode b_M_stores 59 = .ok (.iconst 5, 1) := by decide +kernel
theorem d_M_stores_60 : decode b_M_stores 60 = .ok (.ishl, 1) := by decide +kernel
theorem d_M_stores_61 : decode b_M_stores 61 = .ok (.aload_n 0, 1) := by decide +kernel
theorem d_M_stores_62 : decode b_M_stores 62 = .ok (.getfield 77, 3) := by decide +kernel
theorem d_M_stores_65 : decode b_M_stores 65 = .ok (.ior, 1) := by decide +kernel
theorem d_M_stores_66 : decode b_M_stores 66 = .ok (.aload_n 0, 1) := by decide +kernel
theorem d_M_stores_67 : decode b_M_stores 67 = .ok (.getfield 83, 3) := by decide +kernel
theorem d_M_stores_70 : decode b_M_stores 70 = .ok (.invokevirtual 159, 3) := by decide +kernel
theorem d_M_stores_73 : decode b_M_stores 73 = .ok (.return_, 1) := by decide +kernel
theorem d_M_branches_0 : decode b_M_branches 0 = .ok (.aload_n 0, 1) := by decide +kernel
theorem d_M_branches_1 : decode b_M_branches 1 = .ok (.getfield 89, 3) := by decide +kernel
theorem d_M_branches_4 : decode b_M_branches 4 = .ok (.iconst 2, 1) := by decide +kernel
theorem d_M_branches_5 : decode b_M_branches 5 = .ok (.if_icmp .eq 11, 3) := by decide +kernel
theorem d_M_branches_8 : decode b_M_branches 8 = .ok (.aload_n 0, 1) := by decide +kernel
theorem d_M_branches_9 : decode b_M_branches 9 = .ok (.getfield 89, 3) := by decide +kernel
theorem d_M_branches_12 : decode b_M_branches 12 = .ok (.iconst 3, 1) := by decide +kernel
theorem d_M_branches_13 : decode b_M_branches 13 = .ok (.if_icmp .ne 4, 3) := by decide +kernel
theorem d_M_branches_16 : decode b_M_branches 16 = .ok (.return_, 1) := by decide +kernel
theorem d_M_branches_17 : decode b_M_branches 17 = .ok (.aload_n 0, 1) := by decide +kernel
theorem d_M_branches_18 : decode b_M_branches 18 = .ok (.aload_n 0, 1) := by decide +kernel
theorem d_M_branches_19 : decode b_M_branches 19 = .ok (.getfield 89, 3) := by decide +kernel
theorem d_M_branches_22 : decode b_M_branches 22 = .ok (.ifCond .ne 9, 3) := by decide +kernel
theorem d_M_branches_25 : decode b_M_branches 25 = .ok (.ldc2_w 169, 3) := by decide +kernel
theorem d_M_branches_28 : decode b_M_branches 28 = .ok (.goto 63, 3) := by decide +kernel
theorem d_M_branches_31 : decode b_M_branches 31 = .ok (.aload_n 0, 1) := by decide +kernel
theorem d_M_branches_32 : decode b_M_branches 32 = .ok (.getfield 89, 3) := by decide +kernel
theorem d_M_branches_35 : decode b_M_branches 35 = .ok (.iconst 1, 1) := by decide +kernel
theorem d_M_branches_36 : decode b_M_branches 36 = .ok (.if_icmp .ne 9, 3) := by decide +kernel
theorem d_M_branches_39 : decode b_M_branches 39 = .ok (.ldc2_w 171, 3) := by decide +kernel
theorem d_M_branches_42 : decode b_M_branches 42 = .ok (.goto 49, 3) := by decide +kernel
theorem d_M_branches_45 : decode b_M_branches 45 = .ok (.aload_n 0, 1) := by decide +kernel
theorem d_M_branches_46 : decode b_M_branches 46 = .ok (.getfield 89, 3) := by decide +kernel
theorem d_M_branches_49 : decode b_M_branches 49 = .ok (.iconst 4, 1) := by decide +kernel
theorem d_M_branches_50 : decode b_M_branches 50 = .ok (.if_icmp .ne 9, 3) := by decide +kernel
theorem d_M_branches_53 : decode b_M_branches 53 = .ok (.ldc2_w 173, 3) := by decide +kernel
theorem d_M_branches_56 : decode b_M_branches 56 = .ok (.goto 35, 3) := by decide +kernel
theorem d_M_branches_59 : decode b_M_branches 59 = .ok (.aload_n 0, 1) := by decide +kernel
theorem d_M_branches_60 : decode b_M_branches 60 = .ok (.getfield 89, 3) := by decide +kernel
theorem d_M_branches_63 : decode b_M_branches 63 = .ok (.iconst 5, 1) := by decide +kernel
theorem d_M_branches_64 : decode b_M_branches 64 = .ok (.if_icmp .ne 9, 3) := by decide +kernel
theorem d_M_branches_67 : decode b_M_branches 67 = .ok (.ldc2_w 175, 3) := by decide +kernel
theorem d_M_branches_70 : decode b_M_branches 70 = .ok (.goto 21, 3) := by decide +kernel
theorem d_M_branches_73 : decode b_M_branches 73 = .ok (.aload_n 0, 1) := by decide +kernel
theorem d_M_branches_74 : decode b_M_branches 74 = .ok (.getfield 89, 3) := by decide +kernel
theorem d_M_branches_77 : decode b_M_branches 77 = .ok (.bipush 6, 2) := by decide +kernel
theorem d_M_branches_79 : decode b_M_branches 79 = .ok (.if_icmp .ne 9, 3) := by decide +kernel
theorem d_M_branches_82 : decode b_M_branches 82 = .ok (.ldc2_w 177, 3) := by decide +kernel
theorem d_M_branches_85 : decode b_M_branches 85 = .ok (.goto 6, 3) := by decide +kernel
theorem d_M_branches_88 : decode b_M_branches 88 = .ok (.ldc2_w 179, 3) := by decide +kernel
theorem d_M_branches_91 : decode b_M_branches 91 = .ok (.invokevirtual 74, 3) := by decide +kernel
theorem d_M_branches_94 : decode b_M_branches 94 = .ok (.aload_n 0, 1) := by decide +kernel
theorem d_M_branches_95 : decode b_M_branches 95 = .ok (.aload_n 0, 1) := by decide +kernel
theorem d_M_branches_96 : decode b_M_branches 96 = .ok (.getfield 83, 3) := by decide +kernel
theorem d_M_branches_99 : decode b_M_branches 99 = .ok (.invokevirtual 80, 3) := by decide +kernel
theorem d_M_branches_102 : decode b_M_branches 102 = .ok (.aload_n 0, 1) := by decide +kernel
theorem d_M_branches_103 : decode b_M_branches 103 = .ok (.aload_n 0, 1) := by decide +kernel
theorem d_M_branches_104 : decode b_M_branches 104 = .ok (.getfield 86, 3) := by decide +kernel
theorem d_M_branches_107 : decode b_M_branches 107 = .ok (.invokevirtual 80, 3) := by decide +kernel
theorem d_M_branches_110 : decode b_M_branches 110 = .ok (.aload_n 0, 1) := by decide +kernel
theorem d_M_branches_111 : decode b_M_branches 111 = .ok (.aload_n 0, 1) := by decide +kernel
theorem d_M_branches_112 : decode b_M_branches 112 = .ok (.getfield 30, 3) := by decide +kernel
theorem d_M_branches_115 : decode b_M_branches 115 = .ok (.bipush 31, 2) := by decide +kernel
theorem d_M_branches_117 : decode b_M_branches 117 = .ok (.ishr, 1) := by decide +kernel
theorem d_M_branches_118 : decode b_M_branches 118 = .ok (.bipush 12, 2) := by decide +kernel
theorem d_M_branches_120 : decode b_M_branches 120 = .ok (.ishl, 1) := by decide +kernel
theorem d_M_branches_121 : decode b_M_branches 121 = .ok (.aload_n 0, 1) := by decide +kernel
theorem d_M_branches_122 : decode b_M_branches 122 = .ok (.bipush 7, 2) := by decide +kernel
theorem d_M_branches_124 : decode b_M_branches 124 = .ok (.iconst 1, 1) := by decide +kernel
theorem d_M_branches_125 : decode b_M_branches 125 = .ok (.invokevirtual 181, 3) := by decide +kernel
theorem d_M_branches_128 : decode b_M_branches 128 = .ok (.bipush 11, 2) := by decide +kernel
theorem d_M_branches_130 : decode b_M_branches 130 = .ok (.ishl, 1) := by decide +kernel
theorem d_M_branches_131 : decode b_M_branches 131 = .ok (.ior, 1) := by decide +kernel
theorem d_M_branches_132 : decode b_M_branches 132 = .ok (.aload_n 0, 1) := by decide +kernel
theorem d_M_branches_133 : decode b_M_branches 133 = .ok (.bipush 25, 2) := by decide +kernel
theorem d_M_branches_135 : decode b_M_branches 135 = .ok (.bipush 6, 2) := by decide +kernel
theorem d_M_branches_137 : decode b_M_branches 137 = .ok (.invokevirtual 181, 3) := by decide +kernel
theorem d_M_branches_140 : decode b_M_branches 140 = .ok (.iconst 5, 1) := by decide +kernel
theorem d_M_branches_141 : decode b_M_branches 141 = .ok (.ishl, 1) := by decide +kernel
theorem d_M_branches_142 : decode b_M_branches 142 = .ok (.ior, 1) := by decide +kernel
theorem d_M_branches_143 : decode b_M_branches 143 = .ok (.aload_n 0, 1) := by decide +kernel
theorem d_M_branches_144 : decode b_M_branches 144 = .ok (.bipush 8, 2) := by decide +kernel
theorem d_M_branches_146 : decode b_M_branches 146 = .ok (.iconst 4, 1) := by decide +kernel
theorem d_M_branches_147 : decode b_M_branches 147 = .ok (.invokevirtual 181, 3) := by decide +kernel
theorem d_M_branches_150 : decode b_M_branches 150 = .ok (.iconst 1, 1) := by decide +kernel
theorem d_M_branches_151 : decode b_M_branches 151 = .ok (.ishl, 1) := by decide +kernel
