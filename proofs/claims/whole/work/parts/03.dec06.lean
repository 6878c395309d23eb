theorem d_M_second_89 : decode b_M_second 89 = .ok (.aload_n 0, 1) := by decide +kernel
theorem d_M_second_90 : decode b_M_second 90 = .ok (.getfield 89, 3) := by decide +kernel
theorem d_M_second_93 : decode b_M_second 93 = .ok (.iconst 1, 1) := by decide +kernel
theorem d_M_second_94 : decode b_M_second 94 = .ok (.if_icmp .ne 9, 3) := by decide +kernel
theorem d_M_second_97 : decode b_M_second 97 = .ok (.ldc2_w 300, 3) := by decide +kernel
theorem d_M_second_100 : decode b_M_second 100 = .ok (.goto 6, 3) := by decide +kernel
theorem d_M_second_103 : decode b_M_second 103 = .ok (.ldc2_w 302, 3) := by decide +kernel
theorem d_M_second_106 : decode b_M_second 106 = .ok (.invokevirtual 304, 3) := by decide +kernel
theorem d_M_second_109 : decode b_M_second 109 = .ok (.goto 129, 3) := by decide +kernel
theorem d_M_second_112 : decode b_M_second 112 = .ok (.aload_n 0, 1) := by decide +kernel
theorem d_M_second_113 : decode b_M_second 113 = .ok (.getfield 89, 3) := by decide +kernel
theorem d_M_second_116 : decode b_M_second 116 = .ok (.iconst 3, 1) := by decide +kernel
theorem d_M_second_117 : decode b_M_second 117 = .ok (.if_icmp .ne 10, 3) := by decide +kernel
theorem d_M_second_120 : decode b_M_second 120 = .ok (.aload_n 0, 1) := by decide +kernel
theorem d_M_second_121 : decode b_M_second 121 = .ok (.invokevirtual 307, 3) := by decide +kernel
theorem d_M_second_124 : decode b_M_second 124 = .ok (.goto 114, 3) := by decide +kernel
theorem d_M_second_127 : decode b_M_second 127 = .ok (.aload_n 0, 1) := by decide +kernel
theorem d_M_second_128 : decode b_M_second 128 = .ok (.getfield 89, 3) := by decide +kernel
theorem d_M_second_131 : decode b_M_second 131 = .ok (.iconst 4, 1) := by decide +kernel
theorem d_M_second_132 : decode b_M_second 132 = .ok (.if_icmp .ne 17, 3) := by decide +kernel
theorem d_M_second_135 : decode b_M_second 135 = .ok (.aload_n 0, 1) := by decide +kernel
theorem d_M_second_136 : decode b_M_second 136 = .ok (.aload_n 0, 1) := by decide +kernel
theorem d_M_second_137 : decode b_M_second 137 = .ok (.bipush 10, 2) := by decide +kernel
theorem d_M_second_139 : decode b_M_second 139 = .ok (.iconst 2, 1) := by decide +kernel
theorem d_M_second_140 : decode b_M_second 140 = .ok (.invokevirtual 181, 3) := by decide +kernel
theorem d_M_second_143 : decode b_M_second 143 = .ok (.invokevirtual 310, 3) := by decide +kernel
theorem d_M_second_146 : decode b_M_second 146 = .ok (.goto 92, 3) := by decide +kernel
theorem d_M_second_149 : decode b_M_second 149 = .ok (.aload_n 0, 1) := by decide +kernel
theorem d_M_second_150 : decode b_M_second 150 = .ok (.aload_n 0, 1) := by decide +kernel
theorem d_M_second_151 : decode b_M_second 151 = .ok (.getfield 89, 3) := by decide +kernel
theorem d_M_second_154 : decode b_M_second 154 = .ok (.bipush 6, 2) := by decide +kernel
theorem d_M_second_156 : decode b_M_second 156 = .ok (.if_icmp .ne 9, 3) := by decide +kernel
theorem d_M_second_159 : decode b_M_second 159 = .ok (.ldc2_w 313, 3) := by decide +kernel
theorem d_M_second_162 : decode b_M_second 162 = .ok (.goto 6, 3) := by decide +kernel
theorem d_M_second_165 : decode b_M_second 165 = .ok (.ldc2_w 315, 3) := by decide +kernel
theorem d_M_second_168 : decode b_M_second 168 = .ok (.invokevirtual 74, 3) := by decide +kernel
theorem d_M_second_171 : decode b_M_second 171 = .ok (.aload_n 0, 1) := by decide +kernel
theorem d_M_second_172 : decode b_M_second 172 = .ok (.bipush 8, 2) := by decide +kernel
theorem d_M_second_174 : decode b_M_second 174 = .ok (.aload_n 0, 1) := by decide +kernel
theorem d_M_second_175 : decode b_M_second 175 = .ok (.bipush 7, 2) := by decide +kernel
theorem d_M_second_177 : decode b_M_second 177 = .ok (.iconst 3, 1) := by decide +kernel
theorem d_M_second_178 : decode b_M_second 178 = .ok (.invokevirtual 181, 3) := by decide +kernel
theorem d_M_second_181 : decode b_M_second 181 = .ok (.iadd, 1) := by decide +kernel
theorem d_M_second_182 : decode b_M_second 182 = .ok (.invokevirtual 80, 3) := by decide +kernel
theorem d_M_second_185 : decode b_M_second 185 = .ok (.aload_n 0, 1) := by decide +kernel
theorem d_M_second_186 : decode b_M_second 186 = .ok (.aload_n 0, 1) := by decide +kernel
theorem d_M_second_187 : decode b_M_second 187 = .ok (.iconst 3, 1) := by decide +kernel
theorem d_M_second_188 : decode b_M_second 188 = .ok (.iconst 2, 1) := by decide +kernel
theorem d_M_second_189 : decode b_M_second 189 = .ok (.invokevirtual 181, 3) := by decide +kernel
theorem d_M_second_192 : decode b_M_second 192 = .ok (.iconst 1, 1) := by decide +kernel
theorem d_M_second_193 : decode b_M_second 193 = .ok (.ishl, 1) := by decide +kernel
theorem d_M_second_194 : decode b_M_second 194 = .ok (.aload_n 0, 1) := by decide +kernel
theorem d_M_second_195 : decode b_M_second 195 = .ok (.bipush 10, 2) := by decide +kernel
theorem d_M_second_197 : decode b_M_second 197 = .ok (.iconst 2, 1) := by decide +kernel
theorem d_M_second_198 : decode b_M_second 198 = .ok (.invokevirtual 181, 3) := by decide +kernel
theorem d_M_second_201 : decode b_M_second 201 = .ok (.iconst 3, 1) := by decide +kernel
theorem d_M_second_202 : decode b_M_second 202 = .ok (.ishl, 1) := by decide +kernel
theorem d_M_second_203 : decode b_M_second 203 = .ok (.ior, 1) := by decide +kernel
theorem d_M_second_204 : decode b_M_second 204 = .ok (.aload_n 0, 1) := by decide +kernel
theorem d_M_second_205 : decode b_M_second 205 = .ok (.iconst 2, 1) := by decide +kernel
theorem d_M_second_206 : decode b_M_second 206 = .ok (.iconst 1, 1) := by decide +kernel
theorem d_M_second_207 : decode b_M_second 207 = .ok (.invokevirtual 181, 3) := by decide +kernel
theorem d_M_second_210 : decode b_M_second 210 = .ok (.iconst 5, 1) := by decide +kernel
theorem d_M_second_211 : decode b_M_second 211 = .ok (.ishl, 1) := by decide +kernel
theorem d_M_second_212 : decode b_M_second 212 = .ok (.ior, 1) := by decide +kernel
theorem d_M_second_213 : decode b_M_second 213 = .ok (.aload_n 0, 1) := by decide +kernel
theorem d_M_second_214 : decode b_M_second 214 = .ok (.iconst 5, 1) := by decide +kernel
theorem d_M_second_215 : decode b_M_second 215 = .ok (.iconst 2, 1) := by decide +kernel
theorem d_M_second_216 : decode b_M_second 216 = .ok (.invokevirtual 181, 3) := by decide +kernel
theorem d_M_second_219 : decode b_M_second 219 = .ok (.bipush 6, 2) := by decide +kernel
theorem d_M_second_221 : decode b_M_second 221 = .ok (.ishl, 1) := by decide +kernel
theorem d_M_second_222 : decode b_M_second 222 = .ok (.ior, 1) := by decide +kernel
theorem d_M_second_223 : decode b_M_second 223 = .ok (.aload_n 0, 1) := by decide +kernel
theorem d_M_second_224 : decode b_M_second 224 = .ok (.bipush 12, 2) := by decide +kernel
theorem d_M_second_226 : decode b_M_second 226 = .ok (.iconst 1, 1) := by decide +kernel
theorem d_M_second_227 : decode b_M_second 227 = .ok (.invokevirtual 181, 3) := by decide +kernel
theorem d_M_second_230 : decode b_M_second 230 = .ok (.ineg, 1) := by decide +kernel
theorem d_M_second_231 : decode b_M_second 231 = .ok (.bipush 8, 2) := by decide +kernel
theorem d_M_second_233 : decode b_M_second 233 = .ok (.ishl, 1) := by decide +kernel
theorem d_M_second_234 : decode b_M_second 234 = .ok (.ior, 1) := by decide +kernel
theorem d_M_second_235 : decode b_M_second 235 = .ok (.invokevirtual 185, 3) := by decide +kernel
theorem d_M_second_238 : decode b_M_second 238 = .ok (.return_, 1) := by decide +kernel
theorem d_M_six_0 : decode b_M_six 0 = .ok (.aload_n 0, 1) := by decide +kernel
theorem d_M_six_1 : decode b_M_six 1 = .ok (.iconst 2, 1) := by decide +kernel
theorem d_M_six_2 : decode b_M_six 2 = .ok (.iconst 5, 1) := by decide +kernel
theorem d_M_six_3 : decode b_M_six 3 = .ok (.invokevirtual 181, 3) := by decide +kernel
theorem d_M_six_6 : decode b_M_six 6 = .ok (.bipush 32, 2) := by decide +kernel
theorem d_M_six_8 : decode b_M_six 8 = .ok (.aload_n 0, 1) := by decide +kernel
theorem d_M_six_9 : decode b_M_six 9 = .ok (.bipush 12, 2) := by decide +kernel
theorem d_M_six_11 : decode b_M_six 11 = .ok (.iconst 1, 1) := by decide +kernel
theorem d_M_six_12 : decode b_M_six 12 = .ok (.invokevirtual 181, 3) := by decide +kernel
theorem d_M_six_15 : decode b_M_six 15 = .ok (.imul, 1) := by decide +kernel
theorem d_M_six_16 : decode b_M_six 16 = .ok (.isub, 1) := by decide +kernel
theorem d_M_six_17 : decode b_M_six 17 = .ok (.ireturn, 1) := by decide +kernel
theorem d_M_jump_0 : decode b_M_jump 0 = .ok (.aload_n 0, 1) := by decide +kernel
theorem d_M_jump_1 : decode b_M_jump 1 = .ok (.lload_n 1, 1) := by decide +kernel
theorem d_M_jump_2 : decode b_M_jump 2 = .ok (.invokevirtual 74, 3) := by decide +kernel
theorem d_M_jump_5 : decode b_M_jump 5 = .ok (.aload_n 0, 1) := by decide +kernel
theorem d_M_jump_6 : decode b_M_jump 6 = .ok (.aload_n 0, 1) := by decide +kernel
theorem d_M_jump_7 : decode b_M_jump 7 = .ok (.iconst 3, 1) := by decide +kernel
theorem d_M_jump_8 : decode b_M_jump 8 = .ok (.iconst 3, 1) := by decide +kernel
theorem d_M_jump_9 : decode b_M_jump 9 = .ok (.invokevirtual 181, 3) := by decide +kernel
theorem d_M_jump_12 : decode b_M_jump 12 = .ok (.iconst 1, 1) := by decide +kernel
theorem d_M_jump_13 : decode b_M_jump 13 = .ok (.ishl, 1) := by decide +kernel
theorem d_M_jump_14 : decode b_M_jump 14 = .ok (.aload_n 0, 1) := by decide +kernel
theorem d_M_jump_15 : decode b_M_jump 15 = .ok (.bipush 11, 2) := by decide +kernel
theorem d_M_jump_17 : decode b_M_jump 17 = .ok (.iconst 1, 1) := by decide +kernel
theorem d_M_jump_18 : decode b_M_jump 18 = .ok (.invokevirtual 181, 3) := by decide +kernel
theorem d_M_jump_21 : decode b_M_jump 21 = .ok (.iconst 4, 1) := by decide +kernel
theorem d_M_jump_22 : decode b_M_jump 22 = .ok (.ishl, 1) := by decide +kernel
theorem d_M_jump_23 : decode b_M_jump 23 = .ok (.ior, 1) := by decide +kernel
theorem d_M_jump_24 : decode b_M_jump 24 = .ok (.aload_n 0, 1) := by decide +kernel
theorem d_M_jump_25 : decode b_M_jump 25 = .ok (.iconst 2, 1) := by decide +kernel
theorem d_M_jump_26 : decode b_M_jump 26 = .ok (.iconst 1, 1) := by decide +kernel
theorem d_M_jump_27 : decode b_M_jump 27 = .ok (.invokevirtual 181, 3) := by decide +kernel
theorem d_M_jump_30 : decode b_M_jump 30 = .ok (.iconst 5, 1) := by decide +kernel
theorem d_M_jump_31 : decode b_M_jump 31 = .ok (.ishl, 1) := by decide +kernel
theorem d_M_jump_32 : decode b_M_jump 32 = .ok (.ior, 1) := by decide +kernel
theorem d_M_jump_33 : decode b_M_jump 33 = .ok (.aload_n 0, 1) := by decide +kernel
theorem d_M_jump_34 : decode b_M_jump 34 = .ok (.bipush 7, 2) := by decide +kernel
theorem d_M_jump_36 : decode b_M_jump 36 = .ok (.iconst 1, 1) := by decide +kernel
theorem d_M_jump_37 : decode b_M_jump 37 = .ok (.invokevirtual 181, 3) := by decide +kernel
theorem d_M_jump_40 : decode b_M_jump 40 = .ok (.bipush 6, 2) := by decide +kernel
theorem d_M_jump_42 : decode b_M_jump 42 = .ok (.ishl, 1) := by decide +kernel
theorem d_M_jump_43 : decode b_M_jump 43 = .ok (.ior, 1) := by decide +kernel
theorem d_M_jump_44 : decode b_M_jump 44 = .ok (.aload_n 0, 1) := by decide +kernel
theorem d_M_jump_45 : decode b_M_jump 45 = .ok (.bipush 6, 2) := by decide +kernel
theorem d_M_jump_47 : decode b_M_jump 47 = .ok (.iconst 1, 1) := by decide +kernel
theorem d_M_jump_48 : decode b_M_jump 48 = .ok (.invokevirtual 181, 3) := by decide +kernel
theorem d_M_jump_51 : decode b_M_jump 51 = .ok (.bipush 7, 2) := by decide +kernel
theorem d_M_jump_53 : decode b_M_jump 53 = .ok (.ishl, 1) := by decide +kernel
theorem d_M_jump_54 : decode b_M_jump 54 = .ok (.ior, 1) := by decide +kernel
theorem d_M_jump_55 : decode b_M_jump 55 = .ok (.aload_n 0, 1) := by decide +kernel
theorem d_M_jump_56 : decode b_M_jump 56 = .ok (.bipush 9, 2) := by decide +kernel
theorem d_M_jump_58 : decode b_M_jump 58 = .ok (.iconst 2, 1) := by decide +kernel
theorem d_M_jump_59 : decode b_M_jump 59 = .ok (.invokevirtual 181, 3) := by decide +kernel
theorem d_M_jump_62 : decode b_M_jump 62 = .ok (.bipush 8, 2) := by decide +kernel
theorem d_M_jump_64 : decode b_M_jump 64 = .ok (.ishl, 1) := by decide +kernel
theorem d_M_jump_65 : decode b_M_jump 65 = .ok (.ior, 1) := by decide +kernel
theorem d_M_jump_66 : decode b_M_jump 66 = .ok (.aload_n 0, 1) := by decide +kernel
theorem d_M_jump_67 : decode b_M_jump 67 = .ok (.bipush 8, 2) := by decide +kernel
theorem d_M_jump_69 : decode b_M_jump 69 = .ok (.iconst 1, 1) := by decide +kernel
theorem d_M_jump_70 : decode b_M_jump 70 = .ok (.invokevirtual 181, 3) := by decide +kernel
theorem d_M_jump_73 : decode b_M_jump 73 = .ok (.bipush 10, 2) := by decide +kernel
theorem d_M_jump_75 : decode b_M_jump 75 = .ok (.ishl, 1) := by decide +kernel
theorem d_M_jump_76 : decode b_M_jump 76 = .ok (.ior, 1) := by decide +kernel
theorem d_M_jump_77 : decode b_M_jump 77 = .ok (.aload_n 0, 1) := by decide +kernel
theorem d_M_jump_78 : decode b_M_jump 78 = .ok (.bipush 12, 2) := by decide +kernel
theorem d_M_jump_80 : decode b_M_jump 80 = .ok (.iconst 1, 1) := by decide +kernel
theorem d_M_jump_81 : decode b_M_jump 81 = .ok (.invokevirtual 181, 3) := by decide +kernel
theorem d_M_jump_84 : decode b_M_jump 84 = .ok (.ineg, 1) := by decide +kernel
theorem d_M_jump_85 : decode b_M_jump 85 = .ok (.bipush 11, 2) := by decide +kernel
theorem d_M_jump_87 : decode b_M_jump 87 = .ok (.ishl, 1) := by decide +kernel
theorem d_M_jump_88 : decode b_M_jump 88 = .ok (.ior, 1) := by decide +kernel
theorem d_M_jump_89 : decode b_M_jump 89 = .ok (.invokevirtual 185, 3) := by decide +kernel
theorem d_M_jump_92 : decode b_M_jump 92 = .ok (.return_, 1) := by decide +kernel
theorem d_M_upper_0 : decode b_M_upper 0 = .ok (.aload_n 0, 1) := by decide +kernel
theorem d_M_upper_1 : decode b_M_upper 1 = .ok (.bipush 6, 2) := by decide +kernel
theorem d_M_upper_3 : decode b_M_upper 3 = .ok (.iconst 1, 1) := by decide +kernel
theorem d_M_upper_4 : decode b_M_upper 4 = .ok (.invokevirtual 181, 3) := by decide +kernel
theorem d_M_upper_7 : decode b_M_upper 7 = .ok (.iconst 4, 1) := by decide +kernel
theorem d_M_upper_8 : decode b_M_upper 8 = .ok (.ishl, 1) := by decide +kernel
theorem d_M_upper_9 : decode b_M_upper 9 = .ok (.aload_n 0, 1) := by decide +kernel
theorem d_M_upper_10 : decode b_M_upper 10 = .ok (.iconst 5, 1) := by decide +kernel
theorem d_M_upper_11 : decode b_M_upper 11 = .ok (.iconst 1, 1) := by decide +kernel
theorem d_M_upper_12 : decode b_M_upper 12 = .ok (.invokevirtual 181, 3) := by decide +kernel
theorem d_M_upper_15 : decode b_M_upper 15 = .ok (.bipush 6, 2) := by decide +kernel
theorem d_M_upper_17 : decode b_M_upper 17 = .ok (.ishl, 1) := by decide +kernel
theorem d_M_upper_18 : decode b_M_upper 18 = .ok (.ior, 1) := by decide +kernel
theorem d_M_upper_19 : decode b_M_upper 19 = .ok (.aload_n 0, 1) := by decide +kernel
theorem d_M_upper_20 : decode b_M_upper 20 = .ok (.iconst 3, 1) := by decide +kernel
theorem d_M_upper_21 : decode b_M_upper 21 = .ok (.iconst 2, 1) := by decide +kernel
theorem d_M_upper_22 : decode b_M_upper 22 = .ok (.invokevirtual 181, 3) := by decide +kernel
theorem d_M_upper_25 : decode b_M_upper 25 = .ok (.bipush 7, 2) := by decide +kernel
theorem d_M_upper_27 : decode b_M_upper 27 = .ok (.ishl, 1) := by decide +kernel
theorem d_M_upper_28 : decode b_M_upper 28 = .ok (.ior, 1) := by decide +kernel
theorem d_M_upper_29 : decode b_M_upper 29 = .ok (.aload_n 0, 1) := by decide +kernel
theorem d_M_upper_30 : decode b_M_upper 30 = .ok (.iconst 2, 1) := by decide +kernel
theorem d_M_upper_31 : decode b_M_upper 31 = .ok (.iconst 1, 1) := by decide +kernel
theorem d_M_upper_32 : decode b_M_upper 32 = .ok (.invokevirtual 181, 3) := by decide +kernel
theorem d_M_upper_35 : decode b_M_upper 35 = .ok (.iconst 5, 1) := by decide +kernel
theorem d_M_upper_36 : decode b_M_upper 36 = .ok (.ishl, 1) := by decide +kernel
theorem d_M_upper_37 : decode b_M_upper 37 = .ok (.ior, 1) := by decide +kernel
theorem d_M_upper_38 : decode b_M_upper 38 = .ok (.aload_n 0, 1) := by decide +kernel
theorem d_M_upper_39 : decode b_M_upper 39 = .ok (.bipush 12, 2) := by decide +kernel
theorem d_M_upper_41 : decode b_M_upper 41 = .ok (.iconst 1, 1) := by decide +kernel
theorem d_M_upper_42 : decode b_M_upper 42 = .ok (.invokevirtual 181, 3) := by decide +kernel
theorem d_M_upper_45 : decode b_M_upper 45 = .ok (.ineg, 1) := by decide +kernel
theorem d_M_upper_46 : decode b_M_upper 46 = .ok (.bipush 9, 2) := by decide +kernel
theorem d_M_upper_48 : decode b_M_upper 48 = .ok (.ishl, 1) := by decide +kernel
theorem d_M_upper_49 : decode b_M_upper 49 = .ok (.ior, 1) := by decide +kernel
theorem d_M_upper_50 : decode b_M_upper 50 = .ok (.istore_n 1, 1) := by decide +kernel
theorem d_M_upper_51 : decode b_M_upper 51 = .ok (.aload_n 0, 1) := by decide +kernel
theorem d_M_upper_52 : decode b_M_upper 52 = .ok (.getfield 77, 3) := by decide +kernel
theorem d_M_upper_55 : decode b_M_upper 55 = .ok (.iconst 2, 1) := by decide +kernel
theorem d_M_upper_56 : decode b_M_upper 56 = .ok (.if_icmp .ne 10, 3) := by decide +kernel
theorem d_M_upper_59 : decode b_M_upper 59 = .ok (.iload_n 1, 1) := by decide +kernel
theorem d_M_upper_60 : decode b_M_upper 60 = .ok (.ifCond .ne 14, 3) := by decide +kernel
theorem d_M_upper_63 : decode b_M_upper 63 = .ok (.goto 10, 3) := by decide +kernel
theorem d_M_upper_66 : decode b_M_upper 66 = .ok (.aload_n 0, 1) := by decide +kernel
theorem d_M_upper_67 : decode b_M_upper 67 = .ok (.invokevirtual 276, 3) := by decide +kernel
theorem d_M_upper_70 : decode b_M_upper 70 = .ok (.ifCond .ne 4, 3) := by decide +kernel
theorem d_M_upper_73 : decode b_M_upper 73 = .ok (.return_, 1) := by decide +kernel
theorem d_M_upper_74 : decode b_M_upper 74 = .ok (.aload_n 0, 1) := by decide +kernel
theorem d_M_upper_75 : decode b_M_upper 75 = .ok (.getfield 77, 3) := by decide +kernel
theorem d_M_upper_78 : decode b_M_upper 78 = .ok (.iconst 2, 1) := by decide +kernel
theorem d_M_upper_79 : decode b_M_upper 79 = .ok (.if_icmp .ne 23, 3) := by decide +kernel
theorem d_M_upper_82 : decode b_M_upper 82 = .ok (.aload_n 0, 1) := by decide +kernel
theorem d_M_upper_83 : decode b_M_upper 83 = .ok (.ldc2_w 288, 3) := by decide +kernel
theorem d_M_upper_86 : decode b_M_upper 86 = .ok (.invokevirtual 74, 3) := by decide +kernel
theorem d_M_upper_89 : decode b_M_upper 89 = .ok (.aload_n 0, 1) := by decide +kernel
theorem d_M_upper_90 : decode b_M_upper 90 = .ok (.ldc2_w 290, 3) := by decide +kernel
theorem d_M_upper_93 : decode b_M_upper 93 = .ok (.invokevirtual 59, 3) := by decide +kernel
theorem d_M_upper_96 : decode b_M_upper 96 = .ok (.aload_n 0, 1) := by decide +kernel
theorem d_M_upper_97 : decode b_M_upper 97 = .ok (.iload_n 1, 1) := by decide +kernel
theorem d_M_upper_98 : decode b_M_upper 98 = .ok (.invokevirtual 68, 3) := by decide +kernel
theorem d_M_upper_101 : decode b_M_upper 101 = .ok (.return_, 1) := by decide +kernel
theorem d_M_upper_102 : decode b_M_upper 102 = .ok (.aload_n 0, 1) := by decide +kernel
theorem d_M_upper_103 : decode b_M_upper 103 = .ok (.ldc2_w 292, 3) := by decide +kernel
theorem d_M_upper_106 : decode b_M_upper 106 = .ok (.invokevirtual 74, 3) := by decide +kernel
theorem d_M_upper_109 : decode b_M_upper 109 = .ok (.aload_n 0, 1) := by decide +kernel
theorem d_M_upper_110 : decode b_M_upper 110 = .ok (.aload_n 0, 1) := by decide +kernel
theorem d_M_upper_111 : decode b_M_upper 111 = .ok (.getfield 77, 3) := by decide +kernel
theorem d_M_upper_114 : decode b_M_upper 114 = .ok (.invokevirtual 80, 3) := by decide +kernel
theorem d_M_upper_117 : decode b_M_upper 117 = .ok (.aload_n 0, 1) := by decide +kernel
theorem d_M_upper_118 : decode b_M_upper 118 = .ok (.aload_n 0, 1) := by decide +kernel
theorem d_M_upper_119 : decode b_M_upper 119 = .ok (.invokevirtual 276, 3) := by decide +kernel
theorem d_M_upper_122 : decode b_M_upper 122 = .ok (.invokevirtual 68, 3) := by decide +kernel
theorem d_M_upper_125 : decode b_M_upper 125 = .ok (.return_, 1) := by decide +kernel
theorem d_M_reckon_0 : decode b_M_reckon 0 = .ok (.bipush 8, 2) := by decide +kernel
theorem d_M_reckon_2 : decode b_M_reckon 2 = .ok (.aload_n 0, 1) := by decide +kernel
theorem d_M_reckon_3 : decode b_M_reckon 3 = .ok (.iconst 2, 1) := by decide +kernel
theorem d_M_reckon_4 : decode b_M_reckon 4 = .ok (.iconst 3, 1) := by decide +kernel
theorem d_M_reckon_5 : decode b_M_reckon 5 = .ok (.invokevirtual 181, 3) := by decide +kernel
theorem d_M_reckon_8 : decode b_M_reckon 8 = .ok (.iadd, 1) := by decide +kernel
theorem d_M_reckon_9 : decode b_M_reckon 9 = .ok (.istore_n 2, 1) := by decide +kernel
theorem d_M_reckon_10 : decode b_M_reckon 10 = .ok (.bipush 8, 2) := by decide +kernel
theorem d_M_reckon_12 : decode b_M_reckon 12 = .ok (.aload_n 0, 1) := by decide +kernel
theorem d_M_reckon_13 : decode b_M_reckon 13 = .ok (.bipush 7, 2) := by decide +kernel
theorem d_M_reckon_15 : decode b_M_reckon 15 = .ok (.iconst 3, 1) := by decide +kernel
theorem d_M_reckon_16 : decode b_M_reckon 16 = .ok (.invokevirtual 181, 3) := by decide +kernel
theorem d_M_reckon_19 : decode b_M_reckon 19 = .ok (.iadd, 1) := by decide +kernel
theorem d_M_reckon_20 : decode b_M_reckon 20 = .ok (.istore_n 3, 1) := by decide +kernel
theorem d_M_reckon_21 : decode b_M_reckon 21 = .ok (.iload_n 1, 1) := by decide +kernel
theorem d_M_reckon_22 : decode b_M_reckon 22 = .ok (.iconst 2, 1) := by decide +kernel
theorem d_M_reckon_23 : decode b_M_reckon 23 = .ok (.if_icmp .eq 15, 3) := by decide +kernel
theorem d_M_reckon_26 : decode b_M_reckon 26 = .ok (.aload_n 0, 1) := by decide +kernel
theorem d_M_reckon_27 : decode b_M_reckon 27 = .ok (.bipush 12, 2) := by decide +kernel
theorem d_M_reckon_29 : decode b_M_reckon 29 = .ok (.iconst 1, 1) := by decide +kernel
theorem d_M_reckon_30 : decode b_M_reckon 30 = .ok (.invokevirtual 181, 3) := by decide +kernel
theorem d_M_reckon_33 : decode b_M_reckon 33 = .ok (.iconst 1, 1) := by decide +kernel
theorem d_M_reckon_34 : decode b_M_reckon 34 = .ok (.if_icmp .ne 4, 3) := by decide +kernel
theorem d_M_reckon_37 : decode b_M_reckon 37 = .ok (.return_, 1) := by decide +kernel
theorem d_M_reckon_38 : decode b_M_reckon 38 = .ok (.iload_n 1, 1) := by decide +kernel
theorem d_M_reckon_39 : decode b_M_reckon 39 = .ok (.iconst 3, 1) := by decide +kernel
theorem d_M_reckon_40 : decode b_M_reckon 40 = .ok (.if_icmp .ge 59, 3) := by decide +kernel
theorem d_M_reckon_43 : decode b_M_reckon 43 = .ok (.aload_n 0, 1) := by decide +kernel
theorem d_M_reckon_44 : decode b_M_reckon 44 = .ok (.iload_n 1, 1) := by decide +kernel
theorem d_M_reckon_45 : decode b_M_reckon 45 = .ok (.ifCond .ne 9, 3) := by decide +kernel
theorem d_M_reckon_48 : decode b_M_reckon 48 = .ok (.ldc2_w 270, 3) := by decide +kernel
theorem d_M_reckon_51 : decode b_M_reckon 51 = .ok (.goto 17, 3) := by decide +kernel
theorem d_M_reckon_54 : decode b_M_reckon 54 = .ok (.iload_n 1, 1) := by decide +kernel
theorem d_M_reckon_55 : decode b_M_reckon 55 = .ok (.iconst 1, 1) := by decide +kernel
theorem d_M_reckon_56 : decode b_M_reckon 56 = .ok (.if_icmp .ne 9, 3) := by decide +kernel
theorem d_M_reckon_59 : decode b_M_reckon 59 = .ok (.ldc2_w 272, 3) := by decide +kernel
theorem d_M_reckon_62 : decode b_M_reckon 62 = .ok (.goto 6, 3) := by decide +kernel
theorem d_M_reckon_65 : decode b_M_reckon 65 = .ok (.ldc2_w 274, 3) := by decide +kernel
theorem d_M_reckon_68 : decode b_M_reckon 68 = .ok (.invokevirtual 74, 3) := by decide +kernel
theorem d_M_reckon_71 : decode b_M_reckon 71 = .ok (.aload_n 0, 1) := by decide +kernel
theorem d_M_reckon_72 : decode b_M_reckon 72 = .ok (.iload_n 3, 1) := by decide +kernel
theorem d_M_reckon_73 : decode b_M_reckon 73 = .ok (.invokevirtual 80, 3) := by decide +kernel
theorem d_M_reckon_76 : decode b_M_reckon 76 = .ok (.aload_n 0, 1) := by decide +kernel
theorem d_M_reckon_77 : decode b_M_reckon 77 = .ok (.iload_n 1, 1) := by decide +kernel
theorem d_M_reckon_78 : decode b_M_reckon 78 = .ok (.iconst 2, 1) := by decide +kernel
theorem d_M_reckon_79 : decode b_M_reckon 79 = .ok (.if_icmp .ne 10, 3) := by decide +kernel
theorem d_M_reckon_82 : decode b_M_reckon 82 = .ok (.aload_n 0, 1) := by decide +kernel
theorem d_M_reckon_83 : decode b_M_reckon 83 = .ok (.invokevirtual 276, 3) := by decide +kernel
theorem d_M_reckon_86 : decode b_M_reckon 86 = .ok (.goto 9, 3) := by decide +kernel
theorem d_M_reckon_89 : decode b_M_reckon 89 = .ok (.aload_n 0, 1) := by decide +kernel
theorem d_M_reckon_90 : decode b_M_reckon 90 = .ok (.iconst 2, 1) := by decide +kernel
theorem d_M_reckon_91 : decode b_M_reckon 91 = .ok (.iconst 5, 1) := by decide +kernel
theorem d_M_reckon_92 : decode b_M_reckon 92 = .ok (.invokevirtual 181, 3) := by decide +kernel
theorem d_M_reckon_95 : decode b_M_reckon 95 = .ok (.invokevirtual 68, 3) := by decide +kernel
theorem d_M_reckon_98 : decode b_M_reckon 98 = .ok (.return_, 1) := by decide +kernel
theorem d_M_reckon_99 : decode b_M_reckon 99 = .ok (.aload_n 0, 1) := by decide +kernel
theorem d_M_reckon_100 : decode b_M_reckon 100 = .ok (.iconst 5, 1) := by decide +kernel
theorem d_M_reckon_101 : decode b_M_reckon 101 = .ok (.iconst 2, 1) := by decide +kernel
theorem d_M_reckon_102 : decode b_M_reckon 102 = .ok (.invokevirtual 181, 3) := by decide +kernel
theorem d_M_reckon_105 : decode b_M_reckon 105 = .ok (.istore 4, 2) := by decide +kernel
theorem d_M_reckon_107 : decode b_M_reckon 107 = .ok (.aload_n 0, 1) := by decide +kernel
theorem d_M_reckon_108 : decode b_M_reckon 108 = .ok (.iload 4, 2) := by decide +kernel
theorem d_M_reckon_110 : decode b_M_reckon 110 = .ok (.ifCond .ne 9, 3) := by decide +kernel
theorem d_M_reckon_113 : decode b_M_reckon 113 = .ok (.ldc2_w 280, 3) := by decide +kernel
theorem d_M_reckon_116 : decode b_M_reckon 116 = .ok (.goto 30, 3) := by decide +kernel
theorem d_M_reckon_119 : decode b_M_reckon 119 = .ok (.iload 4, 2) := by decide +kernel
theorem d_M_reckon_121 : decode b_M_reckon 121 = .ok (.iconst 1, 1) := by decide +kernel
theorem d_M_reckon_122 : decode b_M_reckon 122 = .ok (.if_icmp .ne 9, 3) := by decide +kernel
theorem d_M_reckon_125 : decode b_M_reckon 125 = .ok (.ldc2_w 282, 3) := by decide +kernel
theorem d_M_reckon_128 : decode b_M_reckon 128 = .ok (.goto 18, 3) := by decide +kernel
theorem d_M_reckon_131 : decode b_M_reckon 131 = .ok (.iload 4, 2) := by decide +kernel
theorem d_M_reckon_133 : decode b_M_reckon 133 = .ok (.iconst 2, 1) := by decide +kernel
theorem d_M_reckon_134 : decode b_M_reckon 134 = .ok (.if_icmp .ne 9, 3) := by decide +kernel
theorem d_M_reckon_137 : decode b_M_reckon 137 = .ok (.ldc2_w 284, 3) := by decide +kernel
theorem d_M_reckon_140 : decode b_M_reckon 140 = .ok (.goto 6, 3) := by decide +kernel
theorem d_M_reckon_143 : decode b_M_reckon 143 = .ok (.ldc2_w 286, 3) := by decide +kernel
theorem d_M_reckon_146 : decode b_M_reckon 146 = .ok (.invokevirtual 74, 3) := by decide +kernel
theorem d_M_reckon_149 : decode b_M_reckon 149 = .ok (.aload_n 0, 1) := by decide +kernel
theorem d_M_reckon_150 : decode b_M_reckon 150 = .ok (.iload_n 3, 1) := by decide +kernel
theorem d_M_reckon_151 : decode b_M_reckon 151 = .ok (.invokevirtual 80, 3) := by decide +kernel
theorem d_M_reckon_154 : decode b_M_reckon 154 = .ok (.aload_n 0, 1) := by decide +kernel
theorem d_M_reckon_155 : decode b_M_reckon 155 = .ok (.iload_n 2, 1) := by decide +kernel
theorem d_M_reckon_156 : decode b_M_reckon 156 = .ok (.invokevirtual 80, 3) := by decide +kernel
theorem d_M_reckon_159 : decode b_M_reckon 159 = .ok (.return_, 1) := by decide +kernel
theorem d_M_third_0 : decode b_M_third 0 = .ok (.aload_n 0, 1) := by decide +kernel
theorem d_M_third_1 : decode b_M_third 1 = .ok (.bipush 12, 2) := by decide +kernel
theorem d_M_third_3 : decode b_M_third 3 = .ok (.iconst 1, 1) := by decide +kernel
theorem d_M_third_4 : decode b_M_third 4 = .ok (.invokevirtual 181, 3) := by decide +kernel
theorem d_M_third_7 : decode b_M_third 7 = .ok (.iconst 1, 1) := by decide +kernel
theorem d_M_third_8 : decode b_M_third 8 = .ok (.if_icmp .ne 7, 3) := by decide +kernel
theorem d_M_third_11 : decode b_M_third 11 = .ok (.iconst 1, 1) := by decide +kernel
theorem d_M_third_12 : decode b_M_third 12 = .ok (.goto 4, 3) := by decide +kernel
theorem d_M_third_15 : decode b_M_third 15 = .ok (.iconst 0, 1) := by decide +kernel
theorem d_M_third_16 : decode b_M_third 16 = .ok (.istore_n 1, 1) := by decide +kernel
theorem d_M_third_17 : decode b_M_third 17 = .ok (.aload_n 0, 1) := by decide +kernel
theorem d_M_third_18 : decode b_M_third 18 = .ok (.aload_n 0, 1) := by decide +kernel
theorem d_M_third_19 : decode b_M_third 19 = .ok (.iconst 2, 1) := by decide +kernel
theorem d_M_third_20 : decode b_M_third 20 = .ok (.iconst 5, 1) := by decide +kernel
theorem d_M_third_21 : decode b_M_third 21 = .ok (.invokevirtual 181, 3) := by decide +kernel
theorem d_M_third_24 : decode b_M_third 24 = .ok (.putfield 86, 3) := by decide +kernel
theorem d_M_third_27 : decode b_M_third 27 = .ok (.aload_n 0, 1) := by decide +kernel
theorem d_M_third_28 : decode b_M_third 28 = .ok (.getfield 89, 3) := by decide +kernel
theorem d_M_third_31 : decode b_M_third 31 = .ok (.ifCond .ne 33, 3) := by decide +kernel
theorem d_M_third_34 : decode b_M_third 34 = .ok (.iload_n 1, 1) := by decide +kernel
theorem d_M_third_35 : decode b_M_third 35 = .ok (.ifCond .ne 29, 3) := by decide +kernel
theorem d_M_third_38 : decode b_M_third 38 = .ok (.aload_n 0, 1) := by decide +kernel
theorem d_M_third_39 : decode b_M_third 39 = .ok (.ldc2_w 317, 3) := by decide +kernel
theorem d_M_third_42 : decode b_M_third 42 = .ok (.invokevirtual 74, 3) := by decide +kernel
theorem d_M_third_45 : decode b_M_third 45 = .ok (.aload_n 0, 1) := by decide +kernel
theorem d_M_third_46 : decode b_M_third 46 = .ok (.aload_n 0, 1) := by decide +kernel
theorem d_M_third_47 : decode b_M_third 47 = .ok (.getfield 77, 3) := by decide +kernel
theorem d_M_third_50 : decode b_M_third 50 = .ok (.invokevirtual 80, 3) := by decide +kernel
theorem d_M_third_53 : decode b_M_third 53 = .ok (.aload_n 0, 1) := by decide +kernel
theorem d_M_third_54 : decode b_M_third 54 = .ok (.aload_n 0, 1) := by decide +kernel
theorem d_M_third_55 : decode b_M_third 55 = .ok (.getfield 86, 3) := by decide +kernel
theorem d_M_third_58 : decode b_M_third 58 = .ok (.invokevirtual 68, 3) := by decide +kernel
theorem d_M_third_61 : decode b_M_third 61 = .ok (.goto 232, 3) := by decide +kernel
theorem d_M_third_64 : decode b_M_third 64 = .ok (.aload_n 0, 1) := by decide +kernel
theorem d_M_third_65 : decode b_M_third 65 = .ok (.getfield 89, 3) := by decide +kernel
theorem d_M_third_68 : decode b_M_third 68 = .ok (.iconst 2, 1) := by decide +kernel
theorem d_M_third_69 : decode b_M_third 69 = .ok (.if_icmp .ne 60, 3) := by decide +kernel
theorem d_M_third_72 : decode b_M_third 72 = .ok (.aload_n 0, 1) := by decide +kernel
theorem d_M_third_73 : decode b_M_third 73 = .ok (.getfield 77, 3) := by decide +kernel
theorem d_M_third_76 : decode b_M_third 76 = .ok (.ifCond .eq 53, 3) := by decide +kernel
theorem d_M_third_79 : decode b_M_third 79 = .ok (.aload_n 0, 1) := by decide +kernel
theorem d_M_third_80 : decode b_M_third 80 = .ok (.ldc2_w 319, 3) := by decide +kernel
theorem d_M_third_83 : decode b_M_third 83 = .ok (.invokevirtual 74, 3) := by decide +kernel
theorem d_M_third_86 : decode b_M_third 86 = .ok (.aload_n 0, 1) := by decide +kernel
theorem d_M_third_87 : decode b_M_third 87 = .ok (.aload_n 0, 1) := by decide +kernel
theorem d_M_third_88 : decode b_M_third 88 = .ok (.getfield 77, 3) := by decide +kernel
theorem d_M_third_91 : decode b_M_third 91 = .ok (.invokevirtual 80, 3) := by decide +kernel
theorem d_M_third_94 : decode b_M_third 94 = .ok (.aload_n 0, 1) := by decide +kernel
theorem d_M_third_95 : decode b_M_third 95 = .ok (.aload_n 0, 1) := by decide +kernel
theorem d_M_third_96 : decode b_M_third 96 = .ok (.bipush 12, 2) := by decide +kernel
theorem d_M_third_98 : decode b_M_third 98 = .ok (.iconst 1, 1) := by decide +kernel
theorem d_M_third_99 : decode b_M_third 99 = .ok (.invokevirtual 181, 3) := by decide +kernel
theorem d_M_third_102 : decode b_M_third 102 = .ok (.iconst 5, 1) := by decide +kernel
theorem d_M_third_103 : decode b_M_third 103 = .ok (.ishl, 1) := by decide +kernel
theorem d_M_third_104 : decode b_M_third 104 = .ok (.aload_n 0, 1) := by decide +kernel
theorem d_M_third_105 : decode b_M_third 105 = .ok (.iconst 4, 1) := by decide +kernel
theorem d_M_third_106 : decode b_M_third 106 = .ok (.iconst 3, 1) := by decide +kernel
theorem d_M_third_107 : decode b_M_third 107 = .ok (.invokevirtual 181, 3) := by decide +kernel
theorem d_M_third_110 : decode b_M_third 110 = .ok (.iconst 2, 1) := by decide +kernel
theorem d_M_third_111 : decode b_M_third 111 = .ok (.ishl, 1) := by decide +kernel
theorem d_M_third_112 : decode b_M_third 112 = .ok (.ior, 1) := by decide +kernel
theorem d_M_third_113 : decode b_M_third 113 = .ok (.aload_n 0, 1) := by decide +kernel
theorem d_M_third_114 : decode b_M_third 114 = .ok (.iconst 2, 1) := by decide +kernel
theorem d_M_third_115 : decode b_M_third 115 = .ok (.iconst 2, 1) := by decide +kernel
theorem d_M_third_116 : decode b_M_third 116 = .ok (.invokevirtual 181, 3) := by decide +kernel
theorem d_M_third_119 : decode b_M_third 119 = .ok (.bipush 6, 2) := by decide +kernel
theorem d_M_third_121 : decode b_M_third 121 = .ok (.ishl, 1) := by decide +kernel
theorem d_M_third_122 : decode b_M_third 122 = .ok (.ior, 1) := by decide +kernel
theorem d_M_third_123 : decode b_M_third 123 = .ok (.invokevirtual 68, 3) := by decide +kernel
theorem d_M_third_126 : decode b_M_third 126 = .ok (.goto 167, 3) := by decide +kernel
theorem d_M_third_129 : decode b_M_third 129 = .ok (.aload_n 0, 1) := by decide +kernel
theorem d_M_third_130 : decode b_M_third 130 = .ok (.getfield 89, 3) := by decide +kernel
theorem d_M_third_133 : decode b_M_third 133 = .ok (.bipush 6, 2) := by decide +kernel
theorem d_M_third_135 : decode b_M_third 135 = .ok (.if_icmp .ne 45, 3) := by decide +kernel
theorem d_M_third_138 : decode b_M_third 138 = .ok (.aload_n 0, 1) := by decide +kernel
theorem d_M_third_139 : decode b_M_third 139 = .ok (.ldc2_w 321, 3) := by decide +kernel
theorem d_M_third_142 : decode b_M_third 142 = .ok (.invokevirtual 74, 3) := by decide +kernel
theorem d_M_third_145 : decode b_M_third 145 = .ok (.aload_n 0, 1) := by decide +kernel
theorem d_M_third_146 : decode b_M_third 146 = .ok (.aload_n 0, 1) := by decide +kernel
theorem d_M_third_147 : decode b_M_third 147 = .ok (.getfield 86, 3) := by decide +kernel
theorem d_M_third_150 : decode b_M_third 150 = .ok (.invokevirtual 80, 3) := by decide +kernel
theorem d_M_third_153 : decode b_M_third 153 = .ok (.aload_n 0, 1) := by decide +kernel
theorem d_M_third_154 : decode b_M_third 154 = .ok (.aload_n 0, 1) := by decide +kernel
theorem d_M_third_155 : decode b_M_third 155 = .ok (.bipush 9, 2) := by decide +kernel
theorem d_M_third_157 : decode b_M_third 157 = .ok (.iconst 4, 1) := by decide +kernel
theorem d_M_third_158 : decode b_M_third 158 = .ok (.invokevirtual 181, 3) := by decide +kernel
theorem d_M_third_161 : decode b_M_third 161 = .ok (.iconst 2, 1) := by decide +kernel
theorem d_M_third_162 : decode b_M_third 162 = .ok (.ishl, 1) := by decide +kernel
theorem d_M_third_163 : decode b_M_third 163 = .ok (.aload_n 0, 1) := by decide +kernel
theorem d_M_third_164 : decode b_M_third 164 = .ok (.bipush 7, 2) := by decide +kernel
theorem d_M_third_166 : decode b_M_third 166 = .ok (.iconst 2, 1) := by decide +kernel
theorem d_M_third_167 : decode b_M_third 167 = .ok (.invokevirtual 181, 3) := by decide +kernel
theorem d_M_third_170 : decode b_M_third 170 = .ok (.bipush 6, 2) := by decide +kernel
theorem d_M_third_172 : decode b_M_third 172 = .ok (.ishl, 1) := by decide +kernel
theorem d_M_third_173 : decode b_M_third 173 = .ok (.ior, 1) := by decide +kernel
theorem d_M_third_174 : decode b_M_third 174 = .ok (.invokevirtual 68, 3) := by decide +kernel
theorem d_M_third_177 : decode b_M_third 177 = .ok (.goto 116, 3) := by decide +kernel
theorem d_M_third_180 : decode b_M_third 180 = .ok (.aload_n 0, 1) := by decide +kernel
theorem d_M_third_181 : decode b_M_third 181 = .ok (.getfield 89, 3) := by decide +kernel
theorem d_M_third_184 : decode b_M_third 184 = .ok (.iconst 4, 1) := by decide +kernel
theorem d_M_third_185 : decode b_M_third 185 = .ok (.if_icmp .ne 46, 3) := by decide +kernel
theorem d_M_third_188 : decode b_M_third 188 = .ok (.aload_n 0, 1) := by decide +kernel
theorem d_M_third_189 : decode b_M_third 189 = .ok (.getfield 86, 3) := by decide +kernel
theorem d_M_third_192 : decode b_M_third 192 = .ok (.ifCond .eq 39, 3) := by decide +kernel
theorem d_M_third_195 : decode b_M_third 195 = .ok (.aload_n 0, 1) := by decide +kernel
theorem d_M_third_196 : decode b_M_third 196 = .ok (.iload_n 1, 1) := by decide +kernel
theorem d_M_third_197 : decode b_M_third 197 = .ok (.ifCond .eq 9, 3) := by decide +kernel
theorem d_M_third_200 : decode b_M_third 200 = .ok (.ldc2_w 323, 3) := by decide +kernel
theorem d_M_third_203 : decode b_M_third 203 = .ok (.goto 6, 3) := by decide +kernel
theorem d_M_third_206 : decode b_M_third 206 = .ok (.ldc2_w 325, 3) := by decide +kernel
theorem d_M_third_209 : decode b_M_third 209 = .ok (.invokevirtual 74, 3) := by decide +kernel
theorem d_M_third_212 : decode b_M_third 212 = .ok (.aload_n 0, 1) := by decide +kernel
theorem d_M_third_213 : decode b_M_third 213 = .ok (.aload_n 0, 1) := by decide +kernel
theorem d_M_third_214 : decode b_M_third 214 = .ok (.getfield 77, 3) := by decide +kernel
theorem d_M_third_217 : decode b_M_third 217 = .ok (.invokevirtual 80, 3) := by decide +kernel
theorem d_M_third_220 : decode b_M_third 220 = .ok (.aload_n 0, 1) := by decide +kernel
theorem d_M_third_221 : decode b_M_third 221 = .ok (.aload_n 0, 1) := by decide +kernel
theorem d_M_third_222 : decode b_M_third 222 = .ok (.getfield 86, 3) := by decide +kernel
theorem d_M_third_225 : decode b_M_third 225 = .ok (.invokevirtual 80, 3) := by decide +kernel
theorem d_M_third_228 : decode b_M_third 228 = .ok (.goto 65, 3) := by decide +kernel
theorem d_M_third_231 : decode b_M_third 231 = .ok (.aload_n 0, 1) := by decide +kernel
theorem d_M_third_232 : decode b_M_third 232 = .ok (.getfield 89, 3) := by decide +kernel
theorem d_M_third_235 : decode b_M_third 235 = .ok (.iconst 4, 1) := by decide +kernel
theorem d_M_third_236 : decode b_M_third 236 = .ok (.if_icmp .ne 38, 3) := by decide +kernel
theorem d_M_third_239 : decode b_M_third 239 = .ok (.aload_n 0, 1) := by decide +kernel
theorem d_M_third_240 : decode b_M_third 240 = .ok (.getfield 77, 3) := by decide +kernel
theorem d_M_third_243 : decode b_M_third 243 = .ok (.ifCond .eq 31, 3) := by decide +kernel
theorem d_M_third_246 : decode b_M_third 246 = .ok (.aload_n 0, 1) := by decide +kernel
theorem d_M_third_247 : decode b_M_third 247 = .ok (.iload_n 1, 1) := by decide +kernel
theorem d_M_third_248 : decode b_M_third 248 = .ok (.ifCond .eq 9, 3) := by decide +kernel
theorem d_M_third_251 : decode b_M_third 251 = .ok (.ldc2_w 327, 3) := by decide +kernel
theorem d_M_third_254 : decode b_M_third 254 = .ok (.goto 6, 3) := by decide +kernel
theorem d_M_third_257 : decode b_M_third 257 = .ok (.ldc2_w 329, 3) := by decide +kernel
theorem d_M_third_260 : decode b_M_third 260 = .ok (.invokevirtual 74, 3) := by decide +kernel
theorem d_M_third_263 : decode b_M_third 263 = .ok (.aload_n 0, 1) := by decide +kernel
theorem d_M_third_264 : decode b_M_third 264 = .ok (.aload_n 0, 1) := by decide +kernel
theorem d_M_third_265 : decode b_M_third 265 = .ok (.getfield 77, 3) := by decide +kernel
theorem d_M_third_268 : decode b_M_third 268 = .ok (.invokevirtual 80, 3) := by decide +kernel
theorem d_M_third_271 : decode b_M_third 271 = .ok (.goto 22, 3) := by decide +kernel
theorem d_M_third_274 : decode b_M_third 274 = .ok (.aload_n 0, 1) := by decide +kernel
theorem d_M_third_275 : decode b_M_third 275 = .ok (.getfield 89, 3) := by decide +kernel
theorem d_M_third_278 : decode b_M_third 278 = .ok (.iconst 4, 1) := by decide +kernel
theorem d_M_third_279 : decode b_M_third 279 = .ok (.if_icmp .ne 14, 3) := by decide +kernel
theorem d_M_third_282 : decode b_M_third 282 = .ok (.iload_n 1, 1) := by decide +kernel
theorem d_M_third_283 : decode b_M_third 283 = .ok (.ifCond .eq 10, 3) := by decide +kernel
theorem d_M_third_286 : decode b_M_third 286 = .ok (.aload_n 0, 1) := by decide +kernel
theorem d_M_third_287 : decode b_M_third 287 = .ok (.ldc2_w 331, 3) := by decide +kernel
theorem d_M_third_290 : decode b_M_third 290 = .ok (.invokevirtual 74, 3) := by decide +kernel
theorem d_M_third_293 : decode b_M_third 293 = .ok (.return_, 1) := by decide +kernel
theorem d_M_letter_0 : decode b_M_letter 0 = .ok (.aload_n 0, 1) := by decide +kernel
theorem d_M_letter_1 : decode b_M_letter 1 = .ok (.iload_n 1, 1) := by decide +kernel
theorem d_M_letter_2 : decode b_M_letter 2 = .ok (.ifCond .lt 11, 3) := by decide +kernel
theorem d_M_letter_5 : decode b_M_letter 5 = .ok (.iload_n 1, 1) := by decide +kernel
theorem d_M_letter_6 : decode b_M_letter 6 = .ok (.aload_n 0, 1) := by decide +kernel
theorem d_M_letter_7 : decode b_M_letter 7 = .ok (.getfield 33, 3) := by decide +kernel
theorem d_M_letter_10 : decode b_M_letter 10 = .ok (.if_icmp .lt 7, 3) := by decide +kernel
theorem d_M_letter_13 : decode b_M_letter 13 = .ok (.iconst 1, 1) := by decide +kernel
theorem d_M_letter_14 : decode b_M_letter 14 = .ok (.goto 4, 3) := by decide +kernel
theorem d_M_letter_17 : decode b_M_letter 17 = .ok (.iconst 0, 1) := by decide +kernel
theorem d_M_letter_18 : decode b_M_letter 18 = .ok (.putfield 26, 3) := by decide +kernel
theorem d_M_letter_21 : decode b_M_letter 21 = .ok (.aload_n 0, 1) := by decide +kernel
theorem d_M_letter_22 : decode b_M_letter 22 = .ok (.getfield 26, 3) := by decide +kernel
theorem d_M_letter_25 : decode b_M_letter 25 = .ok (.ifCond .le 7, 3) := by decide +kernel
theorem d_M_letter_28 : decode b_M_letter 28 = .ok (.iconst 0, 1) := by decide +kernel
theorem d_M_letter_29 : decode b_M_letter 29 = .ok (.goto 9, 3) := by decide +kernel
theorem d_M_letter_32 : decode b_M_letter 32 = .ok (.aload_n 0, 1) := by decide +kernel
theorem d_M_letter_33 : decode b_M_letter 33 = .ok (.getfield 7, 3) := by decide +kernel
theorem d_M_letter_36 : decode b_M_letter 36 = .ok (.iload_n 1, 1) := by decide +kernel
theorem d_M_letter_37 : decode b_M_letter 37 = .ok (.caload, 1) := by decide +kernel
theorem d_M_letter_38 : decode b_M_letter 38 = .ok (.ireturn, 1) := by decide +kernel
theorem d_M_about_0 : decode b_M_about 0 = .ok (.aload_n 0, 1) := by decide +kernel
theorem d_M_about_1 : decode b_M_about 1 = .ok (.iconst 0, 1) := by decide +kernel
theorem d_M_about_2 : decode b_M_about 2 = .ok (.putfield 26, 3) := by decide +kernel
theorem d_M_about_5 : decode b_M_about 5 = .ok (.iload_n 1, 1) := by decide +kernel
theorem d_M_about_6 : decode b_M_about 6 = .ok (.ifCond .ne 10, 3) := by decide +kernel
theorem d_M_about_9 : decode b_M_about 9 = .ok (.aload_n 0, 1) := by decide +kernel
theorem d_M_about_10 : decode b_M_about 10 = .ok (.getfield 33, 3) := by decide +kernel
theorem d_M_about_13 : decode b_M_about 13 = .ok (.goto 48, 3) := by decide +kernel
theorem d_M_about_16 : decode b_M_about 16 = .ok (.iload_n 1, 1) := by decide +kernel
theorem d_M_about_17 : decode b_M_about 17 = .ok (.iconst 1, 1) := by decide +kernel
theorem d_M_about_18 : decode b_M_about 18 = .ok (.if_icmp .ne 10, 3) := by decide +kernel
theorem d_M_about_21 : decode b_M_about 21 = .ok (.aload_n 0, 1) := by decide +kernel
theorem d_M_about_22 : decode b_M_about 22 = .ok (.getfield 333, 3) := by decide +kernel
theorem d_M_about_25 : decode b_M_about 25 = .ok (.goto 36, 3) := by decide +kernel
theorem d_M_about_28 : decode b_M_about 28 = .ok (.iload_n 1, 1) := by decide +kernel
theorem d_M_about_29 : decode b_M_about 29 = .ok (.iconst 2, 1) := by decide +kernel
theorem d_M_about_30 : decode b_M_about 30 = .ok (.if_icmp .ne 18, 3) := by decide +kernel
