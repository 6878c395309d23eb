theorem d_M_branches_152 : decode b_M_branches 152 = .ok (.ior, 1) := by decide +kernel
theorem d_M_branches_153 : decode b_M_branches 153 = .ok (.invokevirtual 185, 3) := by decide +kernel
theorem d_M_branches_156 : decode b_M_branches 156 = .ok (.return_, 1) := by decide +kernel
theorem d_M_target_0 : decode b_M_target 0 = .ok (.aload_n 0, 1) := by decide +kernel
theorem d_M_target_1 : decode b_M_target 1 = .ok (.invokevirtual 62, 3) := by decide +kernel
theorem d_M_target_4 : decode b_M_target 4 = .ok (.aload_n 0, 1) := by decide +kernel
theorem d_M_target_5 : decode b_M_target 5 = .ok (.bipush 46, 2) := by decide +kernel
theorem d_M_target_7 : decode b_M_target 7 = .ok (.invokevirtual 38, 3) := by decide +kernel
theorem d_M_target_10 : decode b_M_target 10 = .ok (.iload_n 1, 1) := by decide +kernel
theorem d_M_target_11 : decode b_M_target 11 = .ok (.ifCond .lt 9, 3) := by decide +kernel
theorem d_M_target_14 : decode b_M_target 14 = .ok (.aload_n 0, 1) := by decide +kernel
theorem d_M_target_15 : decode b_M_target 15 = .ok (.bipush 43, 2) := by decide +kernel
theorem d_M_target_17 : decode b_M_target 17 = .ok (.invokevirtual 38, 3) := by decide +kernel
theorem d_M_target_20 : decode b_M_target 20 = .ok (.aload_n 0, 1) := by decide +kernel
theorem d_M_target_21 : decode b_M_target 21 = .ok (.iload_n 1, 1) := by decide +kernel
theorem d_M_target_22 : decode b_M_target 22 = .ok (.invokevirtual 65, 3) := by decide +kernel
theorem d_M_target_25 : decode b_M_target 25 = .ok (.return_, 1) := by decide +kernel
theorem d_M_atomic_0 : decode b_M_atomic 0 = .ok (.aload_n 0, 1) := by decide +kernel
theorem d_M_atomic_1 : decode b_M_atomic 1 = .ok (.getfield 89, 3) := by decide +kernel
theorem d_M_atomic_4 : decode b_M_atomic 4 = .ok (.iconst 2, 1) := by decide +kernel
theorem d_M_atomic_5 : decode b_M_atomic 5 = .ok (.if_icmp .ne 15, 3) := by decide +kernel
theorem d_M_atomic_8 : decode b_M_atomic 8 = .ok (.iload_n 1, 1) := by decide +kernel
theorem d_M_atomic_9 : decode b_M_atomic 9 = .ok (.iconst 2, 1) := by decide +kernel
theorem d_M_atomic_10 : decode b_M_atomic 10 = .ok (.if_icmp .ne 11, 3) := by decide +kernel
theorem d_M_atomic_13 : decode b_M_atomic 13 = .ok (.aload_n 0, 1) := by decide +kernel
theorem d_M_atomic_14 : decode b_M_atomic 14 = .ok (.getfield 86, 3) := by decide +kernel
theorem d_M_atomic_17 : decode b_M_atomic 17 = .ok (.ifCond .eq 4, 3) := by decide +kernel
theorem d_M_atomic_20 : decode b_M_atomic 20 = .ok (.return_, 1) := by decide +kernel
theorem d_M_atomic_21 : decode b_M_atomic 21 = .ok (.iload_n 1, 1) := by decide +kernel
theorem d_M_atomic_22 : decode b_M_atomic 22 = .ok (.iconst 1, 1) := by decide +kernel
theorem d_M_atomic_23 : decode b_M_atomic 23 = .ok (.if_icmp .ne 7, 3) := by decide +kernel
theorem d_M_atomic_26 : decode b_M_atomic 26 = .ok (.iconst 1, 1) := by decide +kernel
theorem d_M_atomic_27 : decode b_M_atomic 27 = .ok (.goto 4, 3) := by decide +kernel
theorem d_M_atomic_30 : decode b_M_atomic 30 = .ok (.iconst 0, 1) := by decide +kernel
theorem d_M_atomic_31 : decode b_M_atomic 31 = .ok (.istore_n 2, 1) := by decide +kernel
theorem d_M_atomic_32 : decode b_M_atomic 32 = .ok (.iload_n 1, 1) := by decide +kernel
theorem d_M_atomic_33 : decode b_M_atomic 33 = .ok (.bipush 16, 2) := by decide +kernel
theorem d_M_atomic_35 : decode b_M_atomic 35 = .ok (.if_icmp .lt 13, 3) := by decide +kernel
theorem d_M_atomic_38 : decode b_M_atomic 38 = .ok (.iload_n 1, 1) := by decide +kernel
theorem d_M_atomic_39 : decode b_M_atomic 39 = .ok (.iconst 4, 1) := by decide +kernel
theorem d_M_atomic_40 : decode b_M_atomic 40 = .ok (.irem, 1) := by decide +kernel
theorem d_M_atomic_41 : decode b_M_atomic 41 = .ok (.ifCond .ne 7, 3) := by decide +kernel
theorem d_M_atomic_44 : decode b_M_atomic 44 = .ok (.iconst 1, 1) := by decide +kernel
theorem d_M_atomic_45 : decode b_M_atomic 45 = .ok (.goto 4, 3) := by decide +kernel
theorem d_M_atomic_48 : decode b_M_atomic 48 = .ok (.iconst 0, 1) := by decide +kernel
theorem d_M_atomic_49 : decode b_M_atomic 49 = .ok (.istore_n 3, 1) := by decide +kernel
theorem d_M_atomic_50 : decode b_M_atomic 50 = .ok (.iload_n 1, 1) := by decide +kernel
theorem d_M_atomic_51 : decode b_M_atomic 51 = .ok (.iconst 5, 1) := by decide +kernel
theorem d_M_atomic_52 : decode b_M_atomic 52 = .ok (.if_icmp .lt 19, 3) := by decide +kernel
theorem d_M_atomic_55 : decode b_M_atomic 55 = .ok (.iload_n 1, 1) := by decide +kernel
theorem d_M_atomic_56 : decode b_M_atomic 56 = .ok (.bipush 8, 2) := by decide +kernel
theorem d_M_atomic_58 : decode b_M_atomic 58 = .ok (.if_icmp .eq 13, 3) := by decide +kernel
theorem d_M_atomic_61 : decode b_M_atomic 61 = .ok (.iload_n 1, 1) := by decide +kernel
theorem d_M_atomic_62 : decode b_M_atomic 62 = .ok (.bipush 12, 2) := by decide +kernel
theorem d_M_atomic_64 : decode b_M_atomic 64 = .ok (.if_icmp .eq 7, 3) := by decide +kernel
theorem d_M_atomic_67 : decode b_M_atomic 67 = .ok (.iload_n 3, 1) := by decide +kernel
theorem d_M_atomic_68 : decode b_M_atomic 68 = .ok (.ifCond .eq 7, 3) := by decide +kernel
theorem d_M_atomic_71 : decode b_M_atomic 71 = .ok (.iconst 1, 1) := by decide +kernel
theorem d_M_atomic_72 : decode b_M_atomic 72 = .ok (.goto 4, 3) := by decide +kernel
theorem d_M_atomic_75 : decode b_M_atomic 75 = .ok (.iconst 0, 1) := by decide +kernel
theorem d_M_atomic_76 : decode b_M_atomic 76 = .ok (.istore 4, 2) := by decide +kernel
theorem d_M_atomic_78 : decode b_M_atomic 78 = .ok (.iload 4, 2) := by decide +kernel
theorem d_M_atomic_80 : decode b_M_atomic 80 = .ok (.ifCond .ne 4, 3) := by decide +kernel
theorem d_M_atomic_83 : decode b_M_atomic 83 = .ok (.return_, 1) := by decide +kernel
theorem d_M_atomic_84 : decode b_M_atomic 84 = .ok (.aload_n 0, 1) := by decide +kernel
theorem d_M_atomic_85 : decode b_M_atomic 85 = .ok (.iload_n 1, 1) := by decide +kernel
theorem d_M_atomic_86 : decode b_M_atomic 86 = .ok (.iconst 2, 1) := by decide +kernel
theorem d_M_atomic_87 : decode b_M_atomic 87 = .ok (.if_icmp .ne 9, 3) := by decide +kernel
theorem d_M_atomic_90 : decode b_M_atomic 90 = .ok (.ldc2_w 188, 3) := by decide +kernel
theorem d_M_atomic_93 : decode b_M_atomic 93 = .ok (.goto 17, 3) := by decide +kernel
theorem d_M_atomic_96 : decode b_M_atomic 96 = .ok (.iload_n 1, 1) := by decide +kernel
theorem d_M_atomic_97 : decode b_M_atomic 97 = .ok (.iconst 3, 1) := by decide +kernel
theorem d_M_atomic_98 : decode b_M_atomic 98 = .ok (.if_icmp .ne 9, 3) := by decide +kernel
theorem d_M_atomic_101 : decode b_M_atomic 101 = .ok (.ldc2_w 190, 3) := by decide +kernel
theorem d_M_atomic_104 : decode b_M_atomic 104 = .ok (.goto 6, 3) := by decide +kernel
theorem d_M_atomic_107 : decode b_M_atomic 107 = .ok (.ldc2_w 192, 3) := by decide +kernel
theorem d_M_atomic_110 : decode b_M_atomic 110 = .ok (.invokevirtual 74, 3) := by decide +kernel
theorem d_M_atomic_113 : decode b_M_atomic 113 = .ok (.aload_n 0, 1) := by decide +kernel
theorem d_M_atomic_114 : decode b_M_atomic 114 = .ok (.iconst 0, 1) := by decide +kernel
theorem d_M_atomic_115 : decode b_M_atomic 115 = .ok (.putfield 56, 3) := by decide +kernel
theorem d_M_atomic_118 : decode b_M_atomic 118 = .ok (.iload_n 1, 1) := by decide +kernel
theorem d_M_atomic_119 : decode b_M_atomic 119 = .ok (.iconst 2, 1) := by decide +kernel
theorem d_M_atomic_120 : decode b_M_atomic 120 = .ok (.if_icmp .eq 106, 3) := by decide +kernel
theorem d_M_atomic_123 : decode b_M_atomic 123 = .ok (.iload_n 1, 1) := by decide +kernel
theorem d_M_atomic_124 : decode b_M_atomic 124 = .ok (.iconst 3, 1) := by decide +kernel
theorem d_M_atomic_125 : decode b_M_atomic 125 = .ok (.if_icmp .eq 101, 3) := by decide +kernel
theorem d_M_atomic_128 : decode b_M_atomic 128 = .ok (.aload_n 0, 1) := by decide +kernel
theorem d_M_atomic_129 : decode b_M_atomic 129 = .ok (.iload_n 2, 1) := by decide +kernel
theorem d_M_atomic_130 : decode b_M_atomic 130 = .ok (.ifCond .eq 9, 3) := by decide +kernel
theorem d_M_atomic_133 : decode b_M_atomic 133 = .ok (.ldc2_w 194, 3) := by decide +kernel
theorem d_M_atomic_136 : decode b_M_atomic 136 = .ok (.goto 87, 3) := by decide +kernel
theorem d_M_atomic_139 : decode b_M_atomic 139 = .ok (.iload_n 1, 1) := by decide +kernel
theorem d_M_atomic_140 : decode b_M_atomic 140 = .ok (.ifCond .ne 9, 3) := by decide +kernel
theorem d_M_atomic_143 : decode b_M_atomic 143 = .ok (.ldc2_w 92, 3) := by decide +kernel
theorem d_M_atomic_146 : decode b_M_atomic 146 = .ok (.goto 77, 3) := by decide +kernel
theorem d_M_atomic_149 : decode b_M_atomic 149 = .ok (.iload_n 1, 1) := by decide +kernel
theorem d_M_atomic_150 : decode b_M_atomic 150 = .ok (.iconst 4, 1) := by decide +kernel
theorem d_M_atomic_151 : decode b_M_atomic 151 = .ok (.if_icmp .ne 9, 3) := by decide +kernel
theorem d_M_atomic_154 : decode b_M_atomic 154 = .ok (.ldc2_w 100, 3) := by decide +kernel
theorem d_M_atomic_157 : decode b_M_atomic 157 = .ok (.goto 66, 3) := by decide +kernel
theorem d_M_atomic_160 : decode b_M_atomic 160 = .ok (.iload_n 1, 1) := by decide +kernel
theorem d_M_atomic_161 : decode b_M_atomic 161 = .ok (.bipush 12, 2) := by decide +kernel
theorem d_M_atomic_163 : decode b_M_atomic 163 = .ok (.if_icmp .ne 9, 3) := by decide +kernel
theorem d_M_atomic_166 : decode b_M_atomic 166 = .ok (.ldc2_w 106, 3) := by decide +kernel
theorem d_M_atomic_169 : decode b_M_atomic 169 = .ok (.goto 54, 3) := by decide +kernel
theorem d_M_atomic_172 : decode b_M_atomic 172 = .ok (.iload_n 1, 1) := by decide +kernel
theorem d_M_atomic_173 : decode b_M_atomic 173 = .ok (.bipush 8, 2) := by decide +kernel
theorem d_M_atomic_175 : decode b_M_atomic 175 = .ok (.if_icmp .ne 9, 3) := by decide +kernel
theorem d_M_atomic_178 : decode b_M_atomic 178 = .ok (.ldc2_w 104, 3) := by decide +kernel
theorem d_M_atomic_181 : decode b_M_atomic 181 = .ok (.goto 42, 3) := by decide +kernel
theorem d_M_atomic_184 : decode b_M_atomic 184 = .ok (.iload_n 1, 1) := by decide +kernel
theorem d_M_atomic_185 : decode b_M_atomic 185 = .ok (.bipush 16, 2) := by decide +kernel
theorem d_M_atomic_187 : decode b_M_atomic 187 = .ok (.if_icmp .ne 9, 3) := by decide +kernel
theorem d_M_atomic_190 : decode b_M_atomic 190 = .ok (.ldc2_w 196, 3) := by decide +kernel
theorem d_M_atomic_193 : decode b_M_atomic 193 = .ok (.goto 30, 3) := by decide +kernel
theorem d_M_atomic_196 : decode b_M_atomic 196 = .ok (.iload_n 1, 1) := by decide +kernel
theorem d_M_atomic_197 : decode b_M_atomic 197 = .ok (.bipush 20, 2) := by decide +kernel
theorem d_M_atomic_199 : decode b_M_atomic 199 = .ok (.if_icmp .ne 9, 3) := by decide +kernel
theorem d_M_atomic_202 : decode b_M_atomic 202 = .ok (.ldc2_w 198, 3) := by decide +kernel
theorem d_M_atomic_205 : decode b_M_atomic 205 = .ok (.goto 18, 3) := by decide +kernel
theorem d_M_atomic_208 : decode b_M_atomic 208 = .ok (.iload_n 1, 1) := by decide +kernel
theorem d_M_atomic_209 : decode b_M_atomic 209 = .ok (.bipush 24, 2) := by decide +kernel
theorem d_M_atomic_211 : decode b_M_atomic 211 = .ok (.if_icmp .ne 9, 3) := by decide +kernel
theorem d_M_atomic_214 : decode b_M_atomic 214 = .ok (.ldc2_w 200, 3) := by decide +kernel
theorem d_M_atomic_217 : decode b_M_atomic 217 = .ok (.goto 6, 3) := by decide +kernel
theorem d_M_atomic_220 : decode b_M_atomic 220 = .ok (.ldc2_w 202, 3) := by decide +kernel
theorem d_M_atomic_223 : decode b_M_atomic 223 = .ok (.invokevirtual 59, 3) := by decide +kernel
theorem d_M_atomic_226 : decode b_M_atomic 226 = .ok (.aload_n 0, 1) := by decide +kernel
theorem d_M_atomic_227 : decode b_M_atomic 227 = .ok (.ldc2_w 204, 3) := by decide +kernel
theorem d_M_atomic_230 : decode b_M_atomic 230 = .ok (.invokevirtual 59, 3) := by decide +kernel
theorem d_M_atomic_233 : decode b_M_atomic 233 = .ok (.aload_n 0, 1) := by decide +kernel
theorem d_M_atomic_234 : decode b_M_atomic 234 = .ok (.bipush 25, 2) := by decide +kernel
theorem d_M_atomic_236 : decode b_M_atomic 236 = .ok (.iconst 2, 1) := by decide +kernel
theorem d_M_atomic_237 : decode b_M_atomic 237 = .ok (.invokevirtual 181, 3) := by decide +kernel
theorem d_M_atomic_240 : decode b_M_atomic 240 = .ok (.ifCond .eq 44, 3) := by decide +kernel
theorem d_M_atomic_243 : decode b_M_atomic 243 = .ok (.aload_n 0, 1) := by decide +kernel
theorem d_M_atomic_244 : decode b_M_atomic 244 = .ok (.aload_n 0, 1) := by decide +kernel
theorem d_M_atomic_245 : decode b_M_atomic 245 = .ok (.bipush 25, 2) := by decide +kernel
theorem d_M_atomic_247 : decode b_M_atomic 247 = .ok (.iconst 2, 1) := by decide +kernel
theorem d_M_atomic_248 : decode b_M_atomic 248 = .ok (.invokevirtual 181, 3) := by decide +kernel
theorem d_M_atomic_251 : decode b_M_atomic 251 = .ok (.iconst 1, 1) := by decide +kernel
theorem d_M_atomic_252 : decode b_M_atomic 252 = .ok (.if_icmp .ne 9, 3) := by decide +kernel
theorem d_M_atomic_255 : decode b_M_atomic 255 = .ok (.ldc2_w 206, 3) := by decide +kernel
theorem d_M_atomic_258 : decode b_M_atomic 258 = .ok (.goto 23, 3) := by decide +kernel
theorem d_M_atomic_261 : decode b_M_atomic 261 = .ok (.aload_n 0, 1) := by decide +kernel
theorem d_M_atomic_262 : decode b_M_atomic 262 = .ok (.bipush 25, 2) := by decide +kernel
theorem d_M_atomic_264 : decode b_M_atomic 264 = .ok (.iconst 2, 1) := by decide +kernel
theorem d_M_atomic_265 : decode b_M_atomic 265 = .ok (.invokevirtual 181, 3) := by decide +kernel
theorem d_M_atomic_268 : decode b_M_atomic 268 = .ok (.iconst 2, 1) := by decide +kernel
theorem d_M_atomic_269 : decode b_M_atomic 269 = .ok (.if_icmp .ne 9, 3) := by decide +kernel
theorem d_M_atomic_272 : decode b_M_atomic 272 = .ok (.ldc2_w 208, 3) := by decide +kernel
theorem d_M_atomic_275 : decode b_M_atomic 275 = .ok (.goto 6, 3) := by decide +kernel
theorem d_M_atomic_278 : decode b_M_atomic 278 = .ok (.ldc2_w 210, 3) := by decide +kernel
theorem d_M_atomic_281 : decode b_M_atomic 281 = .ok (.invokevirtual 59, 3) := by decide +kernel
theorem d_M_atomic_284 : decode b_M_atomic 284 = .ok (.aload_n 0, 1) := by decide +kernel
theorem d_M_atomic_285 : decode b_M_atomic 285 = .ok (.aload_n 0, 1) := by decide +kernel
theorem d_M_atomic_286 : decode b_M_atomic 286 = .ok (.getfield 77, 3) := by decide +kernel
theorem d_M_atomic_289 : decode b_M_atomic 289 = .ok (.invokevirtual 80, 3) := by decide +kernel
theorem d_M_atomic_292 : decode b_M_atomic 292 = .ok (.iload_n 1, 1) := by decide +kernel
theorem d_M_atomic_293 : decode b_M_atomic 293 = .ok (.iconst 2, 1) := by decide +kernel
theorem d_M_atomic_294 : decode b_M_atomic 294 = .ok (.if_icmp .eq 11, 3) := by decide +kernel
theorem d_M_atomic_297 : decode b_M_atomic 297 = .ok (.aload_n 0, 1) := by decide +kernel
theorem d_M_atomic_298 : decode b_M_atomic 298 = .ok (.aload_n 0, 1) := by decide +kernel
theorem d_M_atomic_299 : decode b_M_atomic 299 = .ok (.getfield 86, 3) := by decide +kernel
theorem d_M_atomic_302 : decode b_M_atomic 302 = .ok (.invokevirtual 80, 3) := by decide +kernel
theorem d_M_atomic_305 : decode b_M_atomic 305 = .ok (.aload_n 0, 1) := by decide +kernel
theorem d_M_atomic_306 : decode b_M_atomic 306 = .ok (.invokevirtual 62, 3) := by decide +kernel
theorem d_M_atomic_309 : decode b_M_atomic 309 = .ok (.aload_n 0, 1) := by decide +kernel
theorem d_M_atomic_310 : decode b_M_atomic 310 = .ok (.aload_n 0, 1) := by decide +kernel
theorem d_M_atomic_311 : decode b_M_atomic 311 = .ok (.getfield 83, 3) := by decide +kernel
theorem d_M_atomic_314 : decode b_M_atomic 314 = .ok (.invokevirtual 71, 3) := by decide +kernel
theorem d_M_atomic_317 : decode b_M_atomic 317 = .ok (.return_, 1) := by decide +kernel
theorem d_M_system_0 : decode b_M_system 0 = .ok (.aload_n 0, 1) := by decide +kernel
theorem d_M_system_1 : decode b_M_system 1 = .ok (.getfield 30, 3) := by decide +kernel
theorem d_M_system_4 : decode b_M_system 4 = .ok (.bipush 115, 2) := by decide +kernel
theorem d_M_system_6 : decode b_M_system 6 = .ok (.if_icmp .eq 12, 3) := by decide +kernel
theorem d_M_system_9 : decode b_M_system 9 = .ok (.aload_n 0, 1) := by decide +kernel
theorem d_M_system_10 : decode b_M_system 10 = .ok (.getfield 30, 3) := by decide +kernel
theorem d_M_system_13 : decode b_M_system 13 = .ok (.ldc 212, 2) := by decide +kernel
theorem d_M_system_15 : decode b_M_system 15 = .ok (.if_icmp .ne 25, 3) := by decide +kernel
theorem d_M_system_18 : decode b_M_system 18 = .ok (.aload_n 0, 1) := by decide +kernel
theorem d_M_system_19 : decode b_M_system 19 = .ok (.aload_n 0, 1) := by decide +kernel
theorem d_M_system_20 : decode b_M_system 20 = .ok (.getfield 30, 3) := by decide +kernel
theorem d_M_system_23 : decode b_M_system 23 = .ok (.bipush 115, 2) := by decide +kernel
theorem d_M_system_25 : decode b_M_system 25 = .ok (.if_icmp .ne 9, 3) := by decide +kernel
theorem d_M_system_28 : decode b_M_system 28 = .ok (.ldc2_w 213, 3) := by decide +kernel
theorem d_M_system_31 : decode b_M_system 31 = .ok (.goto 6, 3) := by decide +kernel
theorem d_M_system_34 : decode b_M_system 34 = .ok (.ldc2_w 215, 3) := by decide +kernel
theorem d_M_system_37 : decode b_M_system 37 = .ok (.invokevirtual 74, 3) := by decide +kernel
theorem d_M_system_40 : decode b_M_system 40 = .ok (.aload_n 0, 1) := by decide +kernel
theorem d_M_system_41 : decode b_M_system 41 = .ok (.bipush 20, 2) := by decide +kernel
theorem d_M_system_43 : decode b_M_system 43 = .ok (.bipush 12, 2) := by decide +kernel
theorem d_M_system_45 : decode b_M_system 45 = .ok (.invokevirtual 181, 3) := by decide +kernel
theorem d_M_system_48 : decode b_M_system 48 = .ok (.istore_n 1, 1) := by decide +kernel
theorem d_M_system_49 : decode b_M_system 49 = .ok (.iload_n 1, 1) := by decide +kernel
theorem d_M_system_50 : decode b_M_system 50 = .ok (.bipush 127, 2) := by decide +kernel
theorem d_M_system_52 : decode b_M_system 52 = .ok (.iand, 1) := by decide +kernel
theorem d_M_system_53 : decode b_M_system 53 = .ok (.istore_n 2, 1) := by decide +kernel
theorem d_M_system_54 : decode b_M_system 54 = .ok (.aload_n 0, 1) := by decide +kernel
theorem d_M_system_55 : decode b_M_system 55 = .ok (.getfield 89, 3) := by decide +kernel
theorem d_M_system_58 : decode b_M_system 58 = .ok (.iconst 2, 1) := by decide +kernel
theorem d_M_system_59 : decode b_M_system 59 = .ok (.if_icmp .ne 33, 3) := by decide +kernel
theorem d_M_system_62 : decode b_M_system 62 = .ok (.aload_n 0, 1) := by decide +kernel
theorem d_M_system_63 : decode b_M_system 63 = .ok (.getfield 83, 3) := by decide +kernel
theorem d_M_system_66 : decode b_M_system 66 = .ok (.ifCond .ne 26, 3) := by decide +kernel
theorem d_M_system_69 : decode b_M_system 69 = .ok (.iload_n 1, 1) := by decide +kernel
theorem d_M_system_70 : decode b_M_system 70 = .ok (.iload_n 2, 1) := by decide +kernel
theorem d_M_system_71 : decode b_M_system 71 = .ok (.isub, 1) := by decide +kernel
theorem d_M_system_72 : decode b_M_system 72 = .ok (.sipush 3072, 3) := by decide +kernel
theorem d_M_system_75 : decode b_M_system 75 = .ok (.if_icmp .eq 12, 3) := by decide +kernel
theorem d_M_system_78 : decode b_M_system 78 = .ok (.iload_n 1, 1) := by decide +kernel
theorem d_M_system_79 : decode b_M_system 79 = .ok (.iload_n 2, 1) := by decide +kernel
theorem d_M_system_80 : decode b_M_system 80 = .ok (.isub, 1) := by decide +kernel
theorem d_M_system_81 : decode b_M_system 81 = .ok (.sipush 3200, 3) := by decide +kernel
theorem d_M_system_84 : decode b_M_system 84 = .ok (.if_icmp .ne 8, 3) := by decide +kernel
theorem d_M_system_87 : decode b_M_system 87 = .ok (.iload_n 2, 1) := by decide +kernel
theorem d_M_system_88 : decode b_M_system 88 = .ok (.iconst 2, 1) := by decide +kernel
theorem d_M_system_89 : decode b_M_system 89 = .ok (.if_icmp .le 4, 3) := by decide +kernel
theorem d_M_system_92 : decode b_M_system 92 = .ok (.return_, 1) := by decide +kernel
theorem d_M_system_93 : decode b_M_system 93 = .ok (.aload_n 0, 1) := by decide +kernel
theorem d_M_system_94 : decode b_M_system 94 = .ok (.ldc2_w 217, 3) := by decide +kernel
theorem d_M_system_97 : decode b_M_system 97 = .ok (.invokevirtual 74, 3) := by decide +kernel
theorem d_M_system_100 : decode b_M_system 100 = .ok (.aload_n 0, 1) := by decide +kernel
theorem d_M_system_101 : decode b_M_system 101 = .ok (.iload_n 2, 1) := by decide +kernel
theorem d_M_system_102 : decode b_M_system 102 = .ok (.ifCond .ne 9, 3) := by decide +kernel
theorem d_M_system_105 : decode b_M_system 105 = .ok (.ldc2_w 219, 3) := by decide +kernel
theorem d_M_system_108 : decode b_M_system 108 = .ok (.goto 17, 3) := by decide +kernel
theorem d_M_system_111 : decode b_M_system 111 = .ok (.iload_n 2, 1) := by decide +kernel
theorem d_M_system_112 : decode b_M_system 112 = .ok (.iconst 1, 1) := by decide +kernel
theorem d_M_system_113 : decode b_M_system 113 = .ok (.if_icmp .ne 9, 3) := by decide +kernel
theorem d_M_system_116 : decode b_M_system 116 = .ok (.ldc2_w 221, 3) := by decide +kernel
theorem d_M_system_119 : decode b_M_system 119 = .ok (.goto 6, 3) := by decide +kernel
theorem d_M_system_122 : decode b_M_system 122 = .ok (.ldc2_w 223, 3) := by decide +kernel
theorem d_M_system_125 : decode b_M_system 125 = .ok (.invokevirtual 59, 3) := by decide +kernel
theorem d_M_system_128 : decode b_M_system 128 = .ok (.iload_n 1, 1) := by decide +kernel
theorem d_M_system_129 : decode b_M_system 129 = .ok (.sipush 3200, 3) := by decide +kernel
theorem d_M_system_132 : decode b_M_system 132 = .ok (.if_icmp .lt 9, 3) := by decide +kernel
theorem d_M_system_135 : decode b_M_system 135 = .ok (.aload_n 0, 1) := by decide +kernel
theorem d_M_system_136 : decode b_M_system 136 = .ok (.bipush 104, 2) := by decide +kernel
theorem d_M_system_138 : decode b_M_system 138 = .ok (.invokevirtual 38, 3) := by decide +kernel
theorem d_M_system_141 : decode b_M_system 141 = .ok (.aload_n 0, 1) := by decide +kernel
theorem d_M_system_142 : decode b_M_system 142 = .ok (.aload_n 0, 1) := by decide +kernel
theorem d_M_system_143 : decode b_M_system 143 = .ok (.getfield 77, 3) := by decide +kernel
theorem d_M_system_146 : decode b_M_system 146 = .ok (.invokevirtual 80, 3) := by decide +kernel
theorem d_M_system_149 : decode b_M_system 149 = .ok (.return_, 1) := by decide +kernel
theorem d_M_others_0 : decode b_M_others 0 = .ok (.aload_n 0, 1) := by decide +kernel
theorem d_M_others_1 : decode b_M_others 1 = .ok (.getfield 30, 3) := by decide +kernel
theorem d_M_others_4 : decode b_M_others 4 = .ok (.bipush 127, 2) := by decide +kernel
theorem d_M_others_6 : decode b_M_others 6 = .ok (.iand, 1) := by decide +kernel
theorem d_M_others_7 : decode b_M_others 7 = .ok (.istore_n 1, 1) := by decide +kernel
theorem d_M_others_8 : decode b_M_others 8 = .ok (.iload_n 1, 1) := by decide +kernel
theorem d_M_others_9 : decode b_M_others 9 = .ok (.bipush 55, 2) := by decide +kernel
theorem d_M_others_11 : decode b_M_others 11 = .ok (.if_icmp .eq 9, 3) := by decide +kernel
theorem d_M_others_14 : decode b_M_others 14 = .ok (.iload_n 1, 1) := by decide +kernel
theorem d_M_others_15 : decode b_M_others 15 = .ok (.bipush 23, 2) := by decide +kernel
theorem d_M_others_17 : decode b_M_others 17 = .ok (.if_icmp .ne 44, 3) := by decide +kernel
theorem d_M_others_20 : decode b_M_others 20 = .ok (.aload_n 0, 1) := by decide +kernel
theorem d_M_others_21 : decode b_M_others 21 = .ok (.iload_n 1, 1) := by decide +kernel
theorem d_M_others_22 : decode b_M_others 22 = .ok (.bipush 55, 2) := by decide +kernel
theorem d_M_others_24 : decode b_M_others 24 = .ok (.if_icmp .ne 9, 3) := by decide +kernel
theorem d_M_others_27 : decode b_M_others 27 = .ok (.ldc2_w 249, 3) := by decide +kernel
theorem d_M_others_30 : decode b_M_others 30 = .ok (.goto 6, 3) := by decide +kernel
theorem d_M_others_33 : decode b_M_others 33 = .ok (.ldc2_w 251, 3) := by decide +kernel
theorem d_M_others_36 : decode b_M_others 36 = .ok (.invokevirtual 74, 3) := by decide +kernel
theorem d_M_others_39 : decode b_M_others 39 = .ok (.aload_n 0, 1) := by decide +kernel
theorem d_M_others_40 : decode b_M_others 40 = .ok (.aload_n 0, 1) := by decide +kernel
theorem d_M_others_41 : decode b_M_others 41 = .ok (.getfield 77, 3) := by decide +kernel
theorem d_M_others_44 : decode b_M_others 44 = .ok (.invokevirtual 80, 3) := by decide +kernel
theorem d_M_others_47 : decode b_M_others 47 = .ok (.aload_n 0, 1) := by decide +kernel
theorem d_M_others_48 : decode b_M_others 48 = .ok (.aload_n 0, 1) := by decide +kernel
theorem d_M_others_49 : decode b_M_others 49 = .ok (.getfield 30, 3) := by decide +kernel
theorem d_M_others_52 : decode b_M_others 52 = .ok (.bipush 12, 2) := by decide +kernel
theorem d_M_others_54 : decode b_M_others 54 = .ok (.iushr, 1) := by decide +kernel
theorem d_M_others_55 : decode b_M_others 55 = .ok (.invokevirtual 68, 3) := by decide +kernel
theorem d_M_others_58 : decode b_M_others 58 = .ok (.goto 158, 3) := by decide +kernel
theorem d_M_others_61 : decode b_M_others 61 = .ok (.iload_n 1, 1) := by decide +kernel
theorem d_M_others_62 : decode b_M_others 62 = .ok (.bipush 103, 2) := by decide +kernel
theorem d_M_others_64 : decode b_M_others 64 = .ok (.if_icmp .ne 43, 3) := by decide +kernel
theorem d_M_others_67 : decode b_M_others 67 = .ok (.aload_n 0, 1) := by decide +kernel
theorem d_M_others_68 : decode b_M_others 68 = .ok (.getfield 89, 3) := by decide +kernel
theorem d_M_others_71 : decode b_M_others 71 = .ok (.ifCond .ne 36, 3) := by decide +kernel
theorem d_M_others_74 : decode b_M_others 74 = .ok (.aload_n 0, 1) := by decide +kernel
theorem d_M_others_75 : decode b_M_others 75 = .ok (.ldc2_w 253, 3) := by decide +kernel
theorem d_M_others_78 : decode b_M_others 78 = .ok (.invokevirtual 74, 3) := by decide +kernel
theorem d_M_others_81 : decode b_M_others 81 = .ok (.aload_n 0, 1) := by decide +kernel
theorem d_M_others_82 : decode b_M_others 82 = .ok (.aload_n 0, 1) := by decide +kernel
theorem d_M_others_83 : decode b_M_others 83 = .ok (.getfield 77, 3) := by decide +kernel
theorem d_M_others_86 : decode b_M_others 86 = .ok (.invokevirtual 80, 3) := by decide +kernel
theorem d_M_others_89 : decode b_M_others 89 = .ok (.aload_n 0, 1) := by decide +kernel
theorem d_M_others_90 : decode b_M_others 90 = .ok (.aload_n 0, 1) := by decide +kernel
theorem d_M_others_91 : decode b_M_others 91 = .ok (.getfield 30, 3) := by decide +kernel
theorem d_M_others_94 : decode b_M_others 94 = .ok (.bipush 20, 2) := by decide +kernel
theorem d_M_others_96 : decode b_M_others 96 = .ok (.ishr, 1) := by decide +kernel
theorem d_M_others_97 : decode b_M_others 97 = .ok (.aload_n 0, 1) := by decide +kernel
theorem d_M_others_98 : decode b_M_others 98 = .ok (.getfield 83, 3) := by decide +kernel
theorem d_M_others_101 : decode b_M_others 101 = .ok (.invokevirtual 159, 3) := by decide +kernel
theorem d_M_others_104 : decode b_M_others 104 = .ok (.goto 112, 3) := by decide +kernel
theorem d_M_others_107 : decode b_M_others 107 = .ok (.iload_n 1, 1) := by decide +kernel
theorem d_M_others_108 : decode b_M_others 108 = .ok (.bipush 111, 2) := by decide +kernel
theorem d_M_others_110 : decode b_M_others 110 = .ok (.if_icmp .ne 69, 3) := by decide +kernel
theorem d_M_others_113 : decode b_M_others 113 = .ok (.aload_n 0, 1) := by decide +kernel
theorem d_M_others_114 : decode b_M_others 114 = .ok (.ldc2_w 255, 3) := by decide +kernel
theorem d_M_others_117 : decode b_M_others 117 = .ok (.invokevirtual 74, 3) := by decide +kernel
theorem d_M_others_120 : decode b_M_others 120 = .ok (.aload_n 0, 1) := by decide +kernel
theorem d_M_others_121 : decode b_M_others 121 = .ok (.aload_n 0, 1) := by decide +kernel
theorem d_M_others_122 : decode b_M_others 122 = .ok (.getfield 77, 3) := by decide +kernel
theorem d_M_others_125 : decode b_M_others 125 = .ok (.invokevirtual 80, 3) := by decide +kernel
theorem d_M_others_128 : decode b_M_others 128 = .ok (.aload_n 0, 1) := by decide +kernel
theorem d_M_others_129 : decode b_M_others 129 = .ok (.aload_n 0, 1) := by decide +kernel
theorem d_M_others_130 : decode b_M_others 130 = .ok (.getfield 30, 3) := by decide +kernel
theorem d_M_others_133 : decode b_M_others 133 = .ok (.bipush 31, 2) := by decide +kernel
theorem d_M_others_135 : decode b_M_others 135 = .ok (.ishr, 1) := by decide +kernel
theorem d_M_others_136 : decode b_M_others 136 = .ok (.bipush 20, 2) := by decide +kernel
theorem d_M_others_138 : decode b_M_others 138 = .ok (.ishl, 1) := by decide +kernel
theorem d_M_others_139 : decode b_M_others 139 = .ok (.aload_n 0, 1) := by decide +kernel
theorem d_M_others_140 : decode b_M_others 140 = .ok (.bipush 12, 2) := by decide +kernel
theorem d_M_others_142 : decode b_M_others 142 = .ok (.bipush 8, 2) := by decide +kernel
theorem d_M_others_144 : decode b_M_others 144 = .ok (.invokevirtual 181, 3) := by decide +kernel
theorem d_M_others_147 : decode b_M_others 147 = .ok (.bipush 12, 2) := by decide +kernel
theorem d_M_others_149 : decode b_M_others 149 = .ok (.ishl, 1) := by decide +kernel
theorem d_M_others_150 : decode b_M_others 150 = .ok (.ior, 1) := by decide +kernel
theorem d_M_others_151 : decode b_M_others 151 = .ok (.aload_n 0, 1) := by decide +kernel
theorem d_M_others_152 : decode b_M_others 152 = .ok (.bipush 20, 2) := by decide +kernel
theorem d_M_others_154 : decode b_M_others 154 = .ok (.iconst 1, 1) := by decide +kernel
theorem d_M_others_155 : decode b_M_others 155 = .ok (.invokevirtual 181, 3) := by decide +kernel
theorem d_M_others_158 : decode b_M_others 158 = .ok (.bipush 11, 2) := by decide +kernel
theorem d_M_others_160 : decode b_M_others 160 = .ok (.ishl, 1) := by decide +kernel
theorem d_M_others_161 : decode b_M_others 161 = .ok (.ior, 1) := by decide +kernel
theorem d_M_others_162 : decode b_M_others 162 = .ok (.aload_n 0, 1) := by decide +kernel
theorem d_M_others_163 : decode b_M_others 163 = .ok (.bipush 21, 2) := by decide +kernel
theorem d_M_others_165 : decode b_M_others 165 = .ok (.bipush 10, 2) := by decide +kernel
theorem d_M_others_167 : decode b_M_others 167 = .ok (.invokevirtual 181, 3) := by decide +kernel
theorem d_M_others_170 : decode b_M_others 170 = .ok (.iconst 1, 1) := by decide +kernel
theorem d_M_others_171 : decode b_M_others 171 = .ok (.ishl, 1) := by decide +kernel
theorem d_M_others_172 : decode b_M_others 172 = .ok (.ior, 1) := by decide +kernel
theorem d_M_others_173 : decode b_M_others 173 = .ok (.invokevirtual 185, 3) := by decide +kernel
theorem d_M_others_176 : decode b_M_others 176 = .ok (.goto 40, 3) := by decide +kernel
theorem d_M_others_179 : decode b_M_others 179 = .ok (.aload_n 0, 1) := by decide +kernel
theorem d_M_others_180 : decode b_M_others 180 = .ok (.getfield 30, 3) := by decide +kernel
theorem d_M_others_183 : decode b_M_others 183 = .ok (.ldc_w 257, 3) := by decide +kernel
theorem d_M_others_186 : decode b_M_others 186 = .ok (.if_icmp .ne 13, 3) := by decide +kernel
theorem d_M_others_189 : decode b_M_others 189 = .ok (.aload_n 0, 1) := by decide +kernel
theorem d_M_others_190 : decode b_M_others 190 = .ok (.ldc2_w 258, 3) := by decide +kernel
theorem d_M_others_193 : decode b_M_others 193 = .ok (.invokevirtual 74, 3) := by decide +kernel
theorem d_M_others_196 : decode b_M_others 196 = .ok (.goto 20, 3) := by decide +kernel
theorem d_M_others_199 : decode b_M_others 199 = .ok (.aload_n 0, 1) := by decide +kernel
theorem d_M_others_200 : decode b_M_others 200 = .ok (.getfield 30, 3) := by decide +kernel
theorem d_M_others_203 : decode b_M_others 203 = .ok (.sipush 4111, 3) := by decide +kernel
theorem d_M_others_206 : decode b_M_others 206 = .ok (.if_icmp .ne 10, 3) := by decide +kernel
theorem d_M_others_209 : decode b_M_others 209 = .ok (.aload_n 0, 1) := by decide +kernel
theorem d_M_others_210 : decode b_M_others 210 = .ok (.ldc2_w 260, 3) := by decide +kernel
theorem d_M_others_213 : decode b_M_others 213 = .ok (.invokevirtual 74, 3) := by decide +kernel
theorem d_M_others_216 : decode b_M_others 216 = .ok (.return_, 1) := by decide +kernel
theorem d_M_first_0 : decode b_M_first 0 = .ok (.bipush 8, 2) := by decide +kernel
theorem d_M_first_2 : decode b_M_first 2 = .ok (.aload_n 0, 1) := by decide +kernel
theorem d_M_first_3 : decode b_M_first 3 = .ok (.iconst 2, 1) := by decide +kernel
theorem d_M_first_4 : decode b_M_first 4 = .ok (.iconst 3, 1) := by decide +kernel
theorem d_M_first_5 : decode b_M_first 5 = .ok (.invokevirtual 181, 3) := by decide +kernel
theorem d_M_first_8 : decode b_M_first 8 = .ok (.iadd, 1) := by decide +kernel
theorem d_M_first_9 : decode b_M_first 9 = .ok (.istore_n 1, 1) := by decide +kernel
theorem d_M_first_10 : decode b_M_first 10 = .ok (.bipush 8, 2) := by decide +kernel
theorem d_M_first_12 : decode b_M_first 12 = .ok (.aload_n 0, 1) := by decide +kernel
theorem d_M_first_13 : decode b_M_first 13 = .ok (.bipush 7, 2) := by decide +kernel
theorem d_M_first_15 : decode b_M_first 15 = .ok (.iconst 3, 1) := by decide +kernel
theorem d_M_first_16 : decode b_M_first 16 = .ok (.invokevirtual 181, 3) := by decide +kernel
theorem d_M_first_19 : decode b_M_first 19 = .ok (.iadd, 1) := by decide +kernel
theorem d_M_first_20 : decode b_M_first 20 = .ok (.istore_n 2, 1) := by decide +kernel
theorem d_M_first_21 : decode b_M_first 21 = .ok (.aload_n 0, 1) := by decide +kernel
theorem d_M_first_22 : decode b_M_first 22 = .ok (.bipush 11, 2) := by decide +kernel
theorem d_M_first_24 : decode b_M_first 24 = .ok (.iconst 2, 1) := by decide +kernel
theorem d_M_first_25 : decode b_M_first 25 = .ok (.invokevirtual 181, 3) := by decide +kernel
theorem d_M_first_28 : decode b_M_first 28 = .ok (.iconst 4, 1) := by decide +kernel
theorem d_M_first_29 : decode b_M_first 29 = .ok (.ishl, 1) := by decide +kernel
theorem d_M_first_30 : decode b_M_first 30 = .ok (.aload_n 0, 1) := by decide +kernel
theorem d_M_first_31 : decode b_M_first 31 = .ok (.bipush 7, 2) := by decide +kernel
theorem d_M_first_33 : decode b_M_first 33 = .ok (.iconst 4, 1) := by decide +kernel
theorem d_M_first_34 : decode b_M_first 34 = .ok (.invokevirtual 181, 3) := by decide +kernel
theorem d_M_first_37 : decode b_M_first 37 = .ok (.bipush 6, 2) := by decide +kernel
theorem d_M_first_39 : decode b_M_first 39 = .ok (.ishl, 1) := by decide +kernel
theorem d_M_first_40 : decode b_M_first 40 = .ok (.ior, 1) := by decide +kernel
theorem d_M_first_41 : decode b_M_first 41 = .ok (.aload_n 0, 1) := by decide +kernel
theorem d_M_first_42 : decode b_M_first 42 = .ok (.bipush 6, 2) := by decide +kernel
theorem d_M_first_44 : decode b_M_first 44 = .ok (.iconst 1, 1) := by decide +kernel
theorem d_M_first_45 : decode b_M_first 45 = .ok (.invokevirtual 181, 3) := by decide +kernel
theorem d_M_first_48 : decode b_M_first 48 = .ok (.iconst 2, 1) := by decide +kernel
theorem d_M_first_49 : decode b_M_first 49 = .ok (.ishl, 1) := by decide +kernel
theorem d_M_first_50 : decode b_M_first 50 = .ok (.ior, 1) := by decide +kernel
theorem d_M_first_51 : decode b_M_first 51 = .ok (.aload_n 0, 1) := by decide +kernel
theorem d_M_first_52 : decode b_M_first 52 = .ok (.iconst 5, 1) := by decide +kernel
theorem d_M_first_53 : decode b_M_first 53 = .ok (.iconst 1, 1) := by decide +kernel
theorem d_M_first_54 : decode b_M_first 54 = .ok (.invokevirtual 181, 3) := by decide +kernel
theorem d_M_first_57 : decode b_M_first 57 = .ok (.iconst 3, 1) := by decide +kernel
theorem d_M_first_58 : decode b_M_first 58 = .ok (.ishl, 1) := by decide +kernel
theorem d_M_first_59 : decode b_M_first 59 = .ok (.ior, 1) := by decide +kernel
theorem d_M_first_60 : decode b_M_first 60 = .ok (.istore_n 3, 1) := by decide +kernel
theorem d_M_first_61 : decode b_M_first 61 = .ok (.aload_n 0, 1) := by decide +kernel
theorem d_M_first_62 : decode b_M_first 62 = .ok (.bipush 10, 2) := by decide +kernel
theorem d_M_first_64 : decode b_M_first 64 = .ok (.iconst 3, 1) := by decide +kernel
theorem d_M_first_65 : decode b_M_first 65 = .ok (.invokevirtual 181, 3) := by decide +kernel
theorem d_M_first_68 : decode b_M_first 68 = .ok (.iconst 3, 1) := by decide +kernel
theorem d_M_first_69 : decode b_M_first 69 = .ok (.ishl, 1) := by decide +kernel
theorem d_M_first_70 : decode b_M_first 70 = .ok (.aload_n 0, 1) := by decide +kernel
theorem d_M_first_71 : decode b_M_first 71 = .ok (.bipush 6, 2) := by decide +kernel
theorem d_M_first_73 : decode b_M_first 73 = .ok (.iconst 1, 1) := by decide +kernel
theorem d_M_first_74 : decode b_M_first 74 = .ok (.invokevirtual 181, 3) := by decide +kernel
theorem d_M_first_77 : decode b_M_first 77 = .ok (.iconst 2, 1) := by decide +kernel
theorem d_M_first_78 : decode b_M_first 78 = .ok (.ishl, 1) := by decide +kernel
theorem d_M_first_79 : decode b_M_first 79 = .ok (.ior, 1) := by decide +kernel
theorem d_M_first_80 : decode b_M_first 80 = .ok (.aload_n 0, 1) := by decide +kernel
theorem d_M_first_81 : decode b_M_first 81 = .ok (.iconst 5, 1) := by decide +kernel
theorem d_M_first_82 : decode b_M_first 82 = .ok (.iconst 1, 1) := by decide +kernel
theorem d_M_first_83 : decode b_M_first 83 = .ok (.invokevirtual 181, 3) := by decide +kernel
theorem d_M_first_86 : decode b_M_first 86 = .ok (.bipush 6, 2) := by decide +kernel
theorem d_M_first_88 : decode b_M_first 88 = .ok (.ishl, 1) := by decide +kernel
theorem d_M_first_89 : decode b_M_first 89 = .ok (.ior, 1) := by decide +kernel
theorem d_M_first_90 : decode b_M_first 90 = .ok (.istore 4, 2) := by decide +kernel
theorem d_M_first_92 : decode b_M_first 92 = .ok (.aload_n 0, 1) := by decide +kernel
theorem d_M_first_93 : decode b_M_first 93 = .ok (.getfield 89, 3) := by decide +kernel
theorem d_M_first_96 : decode b_M_first 96 = .ok (.ifCond .ne 34, 3) := by decide +kernel
theorem d_M_first_99 : decode b_M_first 99 = .ok (.iload_n 3, 1) := by decide +kernel
theorem d_M_first_100 : decode b_M_first 100 = .ok (.ifCond .le 30, 3) := by decide +kernel
theorem d_M_first_103 : decode b_M_first 103 = .ok (.aload_n 0, 1) := by decide +kernel
theorem d_M_first_104 : decode b_M_first 104 = .ok (.ldc2_w 262, 3) := by decide +kernel
theorem d_M_first_107 : decode b_M_first 107 = .ok (.invokevirtual 74, 3) := by decide +kernel
theorem d_M_first_110 : decode b_M_first 110 = .ok (.aload_n 0, 1) := by decide +kernel
theorem d_M_first_111 : decode b_M_first 111 = .ok (.ldc2_w 264, 3) := by decide +kernel
theorem d_M_first_114 : decode b_M_first 114 = .ok (.invokevirtual 59, 3) := by decide +kernel
theorem d_M_first_117 : decode b_M_first 117 = .ok (.aload_n 0, 1) := by decide +kernel
theorem d_M_first_118 : decode b_M_first 118 = .ok (.iload_n 1, 1) := by decide +kernel
theorem d_M_first_119 : decode b_M_first 119 = .ok (.invokevirtual 80, 3) := by decide +kernel
theorem d_M_first_122 : decode b_M_first 122 = .ok (.aload_n 0, 1) := by decide +kernel
theorem d_M_first_123 : decode b_M_first 123 = .ok (.iload_n 3, 1) := by decide +kernel
theorem d_M_first_124 : decode b_M_first 124 = .ok (.invokevirtual 68, 3) := by decide +kernel
theorem d_M_first_127 : decode b_M_first 127 = .ok (.goto 53, 3) := by decide +kernel
theorem d_M_first_130 : decode b_M_first 130 = .ok (.aload_n 0, 1) := by decide +kernel
theorem d_M_first_131 : decode b_M_first 131 = .ok (.getfield 89, 3) := by decide +kernel
theorem d_M_first_134 : decode b_M_first 134 = .ok (.iconst 2, 1) := by decide +kernel
theorem d_M_first_135 : decode b_M_first 135 = .ok (.if_icmp .eq 12, 3) := by decide +kernel
theorem d_M_first_138 : decode b_M_first 138 = .ok (.aload_n 0, 1) := by decide +kernel
theorem d_M_first_139 : decode b_M_first 139 = .ok (.getfield 89, 3) := by decide +kernel
theorem d_M_first_142 : decode b_M_first 142 = .ok (.bipush 6, 2) := by decide +kernel
theorem d_M_first_144 : decode b_M_first 144 = .ok (.if_icmp .ne 36, 3) := by decide +kernel
theorem d_M_first_147 : decode b_M_first 147 = .ok (.aload_n 0, 1) := by decide +kernel
theorem d_M_first_148 : decode b_M_first 148 = .ok (.aload_n 0, 1) := by decide +kernel
theorem d_M_first_149 : decode b_M_first 149 = .ok (.getfield 89, 3) := by decide +kernel
theorem d_M_first_152 : decode b_M_first 152 = .ok (.iconst 2, 1) := by decide +kernel
theorem d_M_first_153 : decode b_M_first 153 = .ok (.if_icmp .ne 9, 3) := by decide +kernel
theorem d_M_first_156 : decode b_M_first 156 = .ok (.ldc2_w 266, 3) := by decide +kernel
theorem d_M_first_159 : decode b_M_first 159 = .ok (.goto 6, 3) := by decide +kernel
theorem d_M_first_162 : decode b_M_first 162 = .ok (.ldc2_w 268, 3) := by decide +kernel
theorem d_M_first_165 : decode b_M_first 165 = .ok (.invokevirtual 74, 3) := by decide +kernel
theorem d_M_first_168 : decode b_M_first 168 = .ok (.aload_n 0, 1) := by decide +kernel
theorem d_M_first_169 : decode b_M_first 169 = .ok (.iload_n 1, 1) := by decide +kernel
theorem d_M_first_170 : decode b_M_first 170 = .ok (.invokevirtual 80, 3) := by decide +kernel
theorem d_M_first_173 : decode b_M_first 173 = .ok (.aload_n 0, 1) := by decide +kernel
theorem d_M_first_174 : decode b_M_first 174 = .ok (.iload 4, 2) := by decide +kernel
theorem d_M_first_176 : decode b_M_first 176 = .ok (.iload_n 2, 1) := by decide +kernel
theorem d_M_first_177 : decode b_M_first 177 = .ok (.invokevirtual 159, 3) := by decide +kernel
theorem d_M_first_180 : decode b_M_first 180 = .ok (.return_, 1) := by decide +kernel
theorem d_M_second_0 : decode b_M_second 0 = .ok (.aload_n 0, 1) := by decide +kernel
theorem d_M_second_1 : decode b_M_second 1 = .ok (.getfield 30, 3) := by decide +kernel
theorem d_M_second_4 : decode b_M_second 4 = .ok (.iconst 1, 1) := by decide +kernel
theorem d_M_second_5 : decode b_M_second 5 = .ok (.if_icmp .ne 13, 3) := by decide +kernel
theorem d_M_second_8 : decode b_M_second 8 = .ok (.aload_n 0, 1) := by decide +kernel
theorem d_M_second_9 : decode b_M_second 9 = .ok (.ldc2_w 294, 3) := by decide +kernel
theorem d_M_second_12 : decode b_M_second 12 = .ok (.invokevirtual 74, 3) := by decide +kernel
theorem d_M_second_15 : decode b_M_second 15 = .ok (.goto 223, 3) := by decide +kernel
theorem d_M_second_18 : decode b_M_second 18 = .ok (.aload_n 0, 1) := by decide +kernel
theorem d_M_second_19 : decode b_M_second 19 = .ok (.getfield 89, 3) := by decide +kernel
theorem d_M_second_22 : decode b_M_second 22 = .ok (.ifCond .eq 11, 3) := by decide +kernel
theorem d_M_second_25 : decode b_M_second 25 = .ok (.aload_n 0, 1) := by decide +kernel
theorem d_M_second_26 : decode b_M_second 26 = .ok (.getfield 89, 3) := by decide +kernel
theorem d_M_second_29 : decode b_M_second 29 = .ok (.iconst 2, 1) := by decide +kernel
theorem d_M_second_30 : decode b_M_second 30 = .ok (.if_icmp .ne 42, 3) := by decide +kernel
theorem d_M_second_33 : decode b_M_second 33 = .ok (.aload_n 0, 1) := by decide +kernel
theorem d_M_second_34 : decode b_M_second 34 = .ok (.aload_n 0, 1) := by decide +kernel
theorem d_M_second_35 : decode b_M_second 35 = .ok (.getfield 89, 3) := by decide +kernel
theorem d_M_second_38 : decode b_M_second 38 = .ok (.ifCond .ne 9, 3) := by decide +kernel
theorem d_M_second_41 : decode b_M_second 41 = .ok (.ldc2_w 296, 3) := by decide +kernel
theorem d_M_second_44 : decode b_M_second 44 = .ok (.goto 6, 3) := by decide +kernel
theorem d_M_second_47 : decode b_M_second 47 = .ok (.ldc2_w 298, 3) := by decide +kernel
theorem d_M_second_50 : decode b_M_second 50 = .ok (.invokevirtual 74, 3) := by decide +kernel
theorem d_M_second_53 : decode b_M_second 53 = .ok (.aload_n 0, 1) := by decide +kernel
theorem d_M_second_54 : decode b_M_second 54 = .ok (.aload_n 0, 1) := by decide +kernel
theorem d_M_second_55 : decode b_M_second 55 = .ok (.getfield 77, 3) := by decide +kernel
theorem d_M_second_58 : decode b_M_second 58 = .ok (.invokevirtual 80, 3) := by decide +kernel
theorem d_M_second_61 : decode b_M_second 61 = .ok (.aload_n 0, 1) := by decide +kernel
theorem d_M_second_62 : decode b_M_second 62 = .ok (.aload_n 0, 1) := by decide +kernel
theorem d_M_second_63 : decode b_M_second 63 = .ok (.invokevirtual 276, 3) := by decide +kernel
theorem d_M_second_66 : decode b_M_second 66 = .ok (.invokevirtual 68, 3) := by decide +kernel
theorem d_M_second_69 : decode b_M_second 69 = .ok (.goto 169, 3) := by decide +kernel
theorem d_M_second_72 : decode b_M_second 72 = .ok (.aload_n 0, 1) := by decide +kernel
theorem d_M_second_73 : decode b_M_second 73 = .ok (.getfield 89, 3) := by decide +kernel
theorem d_M_second_76 : decode b_M_second 76 = .ok (.iconst 1, 1) := by decide +kernel
theorem d_M_second_77 : decode b_M_second 77 = .ok (.if_icmp .eq 11, 3) := by decide +kernel
theorem d_M_second_80 : decode b_M_second 80 = .ok (.aload_n 0, 1) := by decide +kernel
theorem d_M_second_81 : decode b_M_second 81 = .ok (.getfield 89, 3) := by decide +kernel
theorem d_M_second_84 : decode b_M_second 84 = .ok (.iconst 5, 1) := by decide +kernel
theorem d_M_second_85 : decode b_M_second 85 = .ok (.if_icmp .ne 27, 3) := by decide +kernel
theorem d_M_second_88 : decode b_M_second 88 = .ok (.aload_n 0, 1) := by decide +kernel
