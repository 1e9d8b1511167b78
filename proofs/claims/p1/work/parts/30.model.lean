theorem dX9_in_0 : decode cX9_in 0 = .ok (.iload_n 0, 1) := by decide +kernel
theorem dX9_in_1 : decode cX9_in 1 = .ok (.iload_n 1, 1) := by decide +kernel
theorem dX9_in_2 : decode cX9_in 2 = .ok (.if_icmp .lt 12, 3) := by decide +kernel
theorem dX9_in_14 : decode cX9_in 14 = .ok (.iconst 0, 1) := by decide +kernel
theorem dX9_in_15 : decode cX9_in 15 = .ok (.ireturn, 1) := by decide +kernel
theorem dX9_in_5 : decode cX9_in 5 = .ok (.iload_n 0, 1) := by decide +kernel
theorem dX9_in_6 : decode cX9_in 6 = .ok (.iload_n 2, 1) := by decide +kernel
theorem dX9_in_7 : decode cX9_in 7 = .ok (.if_icmp .gt 7, 3) := by decide +kernel
theorem dX9_in_10 : decode cX9_in 10 = .ok (.iconst 1, 1) := by decide +kernel
theorem dX9_in_11 : decode cX9_in 11 = .ok (.goto 4, 3) := by decide +kernel
theorem dX9_isMaker_0 : decode cX9_isMaker 0 = .ok (.iload_n 1, 1) := by decide +kernel
theorem dX9_isMaker_1 : decode cX9_isMaker 1 = .ok (.iconst 0, 1) := by decide +kernel
theorem dX9_isMaker_2 : decode cX9_isMaker 2 = .ok (.aload_n 0, 1) := by decide +kernel
theorem dX9_isMaker_3 : decode cX9_isMaker 3 = .ok (.getfield 133, 3) := by decide +kernel
theorem dX9_isMaker_6 : decode cX9_isMaker 6 = .ok (.iconst 1, 1) := by decide +kernel
theorem dX9_isMaker_7 : decode cX9_isMaker 7 = .ok (.isub, 1) := by decide +kernel
theorem dX9_isMaker_8 : decode cX9_isMaker 8 = .ok (.invokestatic 136, 3) := by decide +kernel
theorem dX9_isMaker_11 : decode cX9_isMaker 11 = .ok (.ireturn, 1) := by decide +kernel
theorem dX9_isPerson_0 : decode cX9_isPerson 0 = .ok (.iload_n 1, 1) := by decide +kernel
theorem dX9_isPerson_1 : decode cX9_isPerson 1 = .ok (.iconst 0, 1) := by decide +kernel
theorem dX9_isPerson_2 : decode cX9_isPerson 2 = .ok (.aload_n 0, 1) := by decide +kernel
theorem dX9_isPerson_3 : decode cX9_isPerson 3 = .ok (.getfield 140, 3) := by decide +kernel
theorem dX9_isPerson_6 : decode cX9_isPerson 6 = .ok (.iconst 1, 1) := by decide +kernel
theorem dX9_isPerson_7 : decode cX9_isPerson 7 = .ok (.isub, 1) := by decide +kernel
theorem dX9_isPerson_8 : decode cX9_isPerson 8 = .ok (.invokestatic 136, 3) := by decide +kernel
theorem dX9_isPerson_11 : decode cX9_isPerson 11 = .ok (.ireturn, 1) := by decide +kernel
theorem dX9_isFoot_0 : decode cX9_isFoot 0 = .ok (.aload_n 0, 1) := by decide +kernel
theorem dX9_isFoot_1 : decode cX9_isFoot 1 = .ok (.iload_n 1, 1) := by decide +kernel
theorem dX9_isFoot_2 : decode cX9_isFoot 2 = .ok (.invokevirtual 143, 3) := by decide +kernel
theorem dX9_isFoot_5 : decode cX9_isFoot 5 = .ok (.ifCond .eq 29, 3) := by decide +kernel
theorem dX9_isFoot_34 : decode cX9_isFoot 34 = .ok (.iconst 0, 1) := by decide +kernel
theorem dX9_isFoot_35 : decode cX9_isFoot 35 = .ok (.ireturn, 1) := by decide +kernel
theorem dX9_kind_0 : decode cX9_kind 0 = .ok (.aload_n 0, 1) := by decide +kernel
theorem dX9_kind_1 : decode cX9_kind 1 = .ok (.iload_n 1, 1) := by decide +kernel
theorem dX9_kind_2 : decode cX9_kind 2 = .ok (.invokevirtual 167, 3) := by decide +kernel
theorem dX9_kind_5 : decode cX9_kind 5 = .ok (.ifCond .eq 54, 3) := by decide +kernel
theorem dX9_kind_59 : decode cX9_kind 59 = .ok (.iconst (-1), 1) := by decide +kernel
theorem dX9_kind_60 : decode cX9_kind 60 = .ok (.ireturn, 1) := by decide +kernel
theorem dX9_aMonth_0 : decode cX9_aMonth 0 = .ok (.iconst 0, 1) := by decide +kernel
theorem dX9_aMonth_1 : decode cX9_aMonth 1 = .ok (.istore_n 1, 1) := by decide +kernel
theorem dX9_aMonth_2 : decode cX9_aMonth 2 = .ok (.iload_n 1, 1) := by decide +kernel
theorem dX9_aMonth_3 : decode cX9_aMonth 3 = .ok (.aload_n 0, 1) := by decide +kernel
theorem dX9_aMonth_4 : decode cX9_aMonth 4 = .ok (.getfield 140, 3) := by decide +kernel
theorem dX9_aMonth_7 : decode cX9_aMonth 7 = .ok (.if_icmp .ge 53, 3) := by decide +kernel
theorem dX9_aMonth_60 : decode cX9_aMonth 60 = .ok (.return_, 1) := by decide +kernel
theorem dX9_thrown_0 : decode cX9_thrown 0 = .ok (.aload_n 0, 1) := by decide +kernel
theorem dX9_thrown_1 : decode cX9_thrown 1 = .ok (.getfield 3, 3) := by decide +kernel
theorem dX9_thrown_4 : decode cX9_thrown 4 = .ok (.ireturn, 1) := by decide +kernel
theorem dX9_bound_0 : decode cX9_bound 0 = .ok (.aload_n 0, 1) := by decide +kernel
theorem dX9_bound_1 : decode cX9_bound 1 = .ok (.getfield 75, 3) := by decide +kernel
theorem dX9_bound_4 : decode cX9_bound 4 = .ok (.bipush 29, 2) := by decide +kernel
theorem dX9_bound_6 : decode cX9_bound 6 = .ok (.iload_n 1, 1) := by decide +kernel
theorem dX9_bound_7 : decode cX9_bound 7 = .ok (.imul, 1) := by decide +kernel
theorem dX9_bound_8 : decode cX9_bound 8 = .ok (.iload_n 2, 1) := by decide +kernel
theorem dX9_bound_9 : decode cX9_bound 9 = .ok (.iadd, 1) := by decide +kernel
theorem dX9_bound_10 : decode cX9_bound 10 = .ok (.iload_n 3, 1) := by decide +kernel
theorem dX9_bound_11 : decode cX9_bound 11 = .ok (.aload_n 0, 1) := by decide +kernel
theorem dX9_bound_12 : decode cX9_bound 12 = .ok (.getfield 75, 3) := by decide +kernel
theorem dX9_bound_15 : decode cX9_bound 15 = .ok (.bipush 29, 2) := by decide +kernel
theorem dX9_bound_17 : decode cX9_bound 17 = .ok (.iload_n 1, 1) := by decide +kernel
theorem dX9_bound_18 : decode cX9_bound 18 = .ok (.imul, 1) := by decide +kernel
theorem dX9_bound_19 : decode cX9_bound 19 = .ok (.iload_n 2, 1) := by decide +kernel
theorem dX9_bound_20 : decode cX9_bound 20 = .ok (.iadd, 1) := by decide +kernel
theorem dX9_bound_21 : decode cX9_bound 21 = .ok (.iaload, 1) := by decide +kernel
theorem dX9_bound_22 : decode cX9_bound 22 = .ok (.if_icmp .ge 7, 3) := by decide +kernel
theorem dX9_bound_29 : decode cX9_bound 29 = .ok (.aload_n 0, 1) := by decide +kernel
theorem dX9_bound_30 : decode cX9_bound 30 = .ok (.getfield 75, 3) := by decide +kernel
theorem dX9_bound_33 : decode cX9_bound 33 = .ok (.bipush 29, 2) := by decide +kernel
theorem dX9_bound_35 : decode cX9_bound 35 = .ok (.iload_n 1, 1) := by decide +kernel
theorem dX9_bound_36 : decode cX9_bound 36 = .ok (.imul, 1) := by decide +kernel
theorem dX9_bound_37 : decode cX9_bound 37 = .ok (.iload_n 2, 1) := by decide +kernel
theorem dX9_bound_38 : decode cX9_bound 38 = .ok (.iadd, 1) := by decide +kernel
theorem dX9_bound_39 : decode cX9_bound 39 = .ok (.iaload, 1) := by decide +kernel
theorem dX9_bound_40 : decode cX9_bound 40 = .ok (.iastore, 1) := by decide +kernel
theorem dX9_bound_41 : decode cX9_bound 41 = .ok (.return_, 1) := by decide +kernel
theorem dX9_bound_25 : decode cX9_bound 25 = .ok (.iload_n 3, 1) := by decide +kernel
theorem dX9_bound_26 : decode cX9_bound 26 = .ok (.goto 14, 3) := by decide +kernel
theorem dX9_closes_0 : decode cX9_closes 0 = .ok (.iconst 0, 1) := by decide +kernel
theorem dX9_closes_1 : decode cX9_closes 1 = .ok (.istore_n 1, 1) := by decide +kernel
theorem dX9_closes_2 : decode cX9_closes 2 = .ok (.iload_n 1, 1) := by decide +kernel
theorem dX9_closes_3 : decode cX9_closes 3 = .ok (.sipush 841, 3) := by decide +kernel
theorem dX9_closes_6 : decode cX9_closes 6 = .ok (.if_icmp .ge 32, 3) := by decide +kernel
theorem dX9_closes_38 : decode cX9_closes 38 = .ok (.iconst 0, 1) := by decide +kernel
theorem dX9_closes_39 : decode cX9_closes 39 = .ok (.istore_n 1, 1) := by decide +kernel
theorem dX9_closes_40 : decode cX9_closes 40 = .ok (.iload_n 1, 1) := by decide +kernel
theorem dX9_closes_41 : decode cX9_closes 41 = .ok (.iconst 4, 1) := by decide +kernel
theorem dX9_closes_42 : decode cX9_closes 42 = .ok (.if_icmp .ge 43, 3) := by decide +kernel
theorem dX9_closes_85 : decode cX9_closes 85 = .ok (.iconst 0, 1) := by decide +kernel
theorem dX9_closes_86 : decode cX9_closes 86 = .ok (.istore_n 1, 1) := by decide +kernel
theorem dX9_closes_87 : decode cX9_closes 87 = .ok (.iload_n 1, 1) := by decide +kernel
theorem dX9_closes_88 : decode cX9_closes 88 = .ok (.bipush 24, 2) := by decide +kernel
theorem dX9_closes_90 : decode cX9_closes 90 = .ok (.if_icmp .ge 28, 3) := by decide +kernel
theorem dX9_closes_118 : decode cX9_closes 118 = .ok (.iconst 0, 1) := by decide +kernel
theorem dX9_closes_119 : decode cX9_closes 119 = .ok (.istore_n 1, 1) := by decide +kernel
theorem dX9_closes_120 : decode cX9_closes 120 = .ok (.iload_n 1, 1) := by decide +kernel
theorem dX9_closes_121 : decode cX9_closes 121 = .ok (.aload_n 0, 1) := by decide +kernel
theorem dX9_closes_122 : decode cX9_closes 122 = .ok (.getfield 152, 3) := by decide +kernel
theorem dX9_closes_125 : decode cX9_closes 125 = .ok (.if_icmp .ge 23, 3) := by decide +kernel
theorem dX9_closes_148 : decode cX9_closes 148 = .ok (.iconst 0, 1) := by decide +kernel
theorem dX9_closes_149 : decode cX9_closes 149 = .ok (.istore_n 1, 1) := by decide +kernel
theorem dX9_closes_150 : decode cX9_closes 150 = .ok (.iload_n 1, 1) := by decide +kernel
theorem dX9_closes_151 : decode cX9_closes 151 = .ok (.bipush 29, 2) := by decide +kernel
theorem dX9_closes_153 : decode cX9_closes 153 = .ok (.if_icmp .ge 66, 3) := by decide +kernel
theorem dX9_closes_219 : decode cX9_closes 219 = .ok (.iconst 0, 1) := by decide +kernel
theorem dX9_closes_220 : decode cX9_closes 220 = .ok (.istore_n 1, 1) := by decide +kernel
theorem dX9_closes_221 : decode cX9_closes 221 = .ok (.iload_n 1, 1) := by decide +kernel
theorem dX9_closes_222 : decode cX9_closes 222 = .ok (.bipush 29, 2) := by decide +kernel
theorem dX9_closes_224 : decode cX9_closes 224 = .ok (.if_icmp .ge 25, 3) := by decide +kernel
theorem dX9_closes_249 : decode cX9_closes 249 = .ok (.iconst 1, 1) := by decide +kernel
theorem dX9_closes_250 : decode cX9_closes 250 = .ok (.ireturn, 1) := by decide +kernel
theorem dX9_closes_227 : decode cX9_closes 227 = .ok (.aload_n 0, 1) := by decide +kernel
theorem dX9_closes_228 : decode cX9_closes 228 = .ok (.getfield 75, 3) := by decide +kernel
theorem dX9_closes_231 : decode cX9_closes 231 = .ok (.bipush 29, 2) := by decide +kernel
theorem dX9_closes_233 : decode cX9_closes 233 = .ok (.iload_n 1, 1) := by decide +kernel
theorem dX9_closes_234 : decode cX9_closes 234 = .ok (.imul, 1) := by decide +kernel
theorem dX9_closes_235 : decode cX9_closes 235 = .ok (.iload_n 1, 1) := by decide +kernel
theorem dX9_closes_236 : decode cX9_closes 236 = .ok (.iadd, 1) := by decide +kernel
theorem dX9_closes_237 : decode cX9_closes 237 = .ok (.iaload, 1) := by decide +kernel
theorem dX9_closes_238 : decode cX9_closes 238 = .ok (.ifCond .ge 5, 3) := by decide +kernel
theorem dX9_closes_243 : decode cX9_closes 243 = .ok (.iinc 1 1, 3) := by decide +kernel
theorem dX9_closes_246 : decode cX9_closes 246 = .ok (.goto (-25), 3) := by decide +kernel
theorem dX9_closes_241 : decode cX9_closes 241 = .ok (.iconst 0, 1) := by decide +kernel
theorem dX9_closes_242 : decode cX9_closes 242 = .ok (.ireturn, 1) := by decide +kernel
theorem dX9_closes_156 : decode cX9_closes 156 = .ok (.iconst 0, 1) := by decide +kernel
theorem dX9_closes_157 : decode cX9_closes 157 = .ok (.istore_n 2, 1) := by decide +kernel
theorem dX9_closes_158 : decode cX9_closes 158 = .ok (.iload_n 2, 1) := by decide +kernel
theorem dX9_closes_159 : decode cX9_closes 159 = .ok (.bipush 29, 2) := by decide +kernel
theorem dX9_closes_161 : decode cX9_closes 161 = .ok (.if_icmp .ge 52, 3) := by decide +kernel
theorem dX9_closes_213 : decode cX9_closes 213 = .ok (.iinc 1 1, 3) := by decide +kernel
theorem dX9_closes_216 : decode cX9_closes 216 = .ok (.goto (-66), 3) := by decide +kernel
theorem dX9_closes_164 : decode cX9_closes 164 = .ok (.iconst 0, 1) := by decide +kernel
theorem dX9_closes_165 : decode cX9_closes 165 = .ok (.istore_n 3, 1) := by decide +kernel
theorem dX9_closes_166 : decode cX9_closes 166 = .ok (.iload_n 3, 1) := by decide +kernel
theorem dX9_closes_167 : decode cX9_closes 167 = .ok (.bipush 29, 2) := by decide +kernel
theorem dX9_closes_169 : decode cX9_closes 169 = .ok (.if_icmp .ge 38, 3) := by decide +kernel
theorem dX9_closes_207 : decode cX9_closes 207 = .ok (.iinc 2 1, 3) := by decide +kernel
theorem dX9_closes_210 : decode cX9_closes 210 = .ok (.goto (-52), 3) := by decide +kernel
theorem dX9_closes_172 : decode cX9_closes 172 = .ok (.aload_n 0, 1) := by decide +kernel
theorem dX9_closes_173 : decode cX9_closes 173 = .ok (.iload_n 2, 1) := by decide +kernel
theorem dX9_closes_174 : decode cX9_closes 174 = .ok (.iload_n 3, 1) := by decide +kernel
theorem dX9_closes_175 : decode cX9_closes 175 = .ok (.aload_n 0, 1) := by decide +kernel
theorem dX9_closes_176 : decode cX9_closes 176 = .ok (.getfield 75, 3) := by decide +kernel
theorem dX9_closes_179 : decode cX9_closes 179 = .ok (.bipush 29, 2) := by decide +kernel
theorem dX9_closes_181 : decode cX9_closes 181 = .ok (.iload_n 2, 1) := by decide +kernel
theorem dX9_closes_182 : decode cX9_closes 182 = .ok (.imul, 1) := by decide +kernel
theorem dX9_closes_183 : decode cX9_closes 183 = .ok (.iload_n 1, 1) := by decide +kernel
theorem dX9_closes_184 : decode cX9_closes 184 = .ok (.iadd, 1) := by decide +kernel
theorem dX9_closes_185 : decode cX9_closes 185 = .ok (.iaload, 1) := by decide +kernel
theorem dX9_closes_186 : decode cX9_closes 186 = .ok (.aload_n 0, 1) := by decide +kernel
theorem dX9_closes_187 : decode cX9_closes 187 = .ok (.getfield 75, 3) := by decide +kernel
theorem dX9_closes_190 : decode cX9_closes 190 = .ok (.bipush 29, 2) := by decide +kernel
theorem dX9_closes_192 : decode cX9_closes 192 = .ok (.iload_n 1, 1) := by decide +kernel
theorem dX9_closes_193 : decode cX9_closes 193 = .ok (.imul, 1) := by decide +kernel
theorem dX9_closes_194 : decode cX9_closes 194 = .ok (.iload_n 3, 1) := by decide +kernel
theorem dX9_closes_195 : decode cX9_closes 195 = .ok (.iadd, 1) := by decide +kernel
theorem dX9_closes_196 : decode cX9_closes 196 = .ok (.iaload, 1) := by decide +kernel
theorem dX9_closes_197 : decode cX9_closes 197 = .ok (.iadd, 1) := by decide +kernel
theorem dX9_closes_198 : decode cX9_closes 198 = .ok (.invokevirtual 148, 3) := by decide +kernel
theorem dX9_closes_201 : decode cX9_closes 201 = .ok (.iinc 3 1, 3) := by decide +kernel
theorem dX9_closes_204 : decode cX9_closes 204 = .ok (.goto (-38), 3) := by decide +kernel
theorem dX9_closes_93 : decode cX9_closes 93 = .ok (.aload_n 0, 1) := by decide +kernel
theorem dX9_closes_94 : decode cX9_closes 94 = .ok (.iconst 5, 1) := by decide +kernel
theorem dX9_closes_95 : decode cX9_closes 95 = .ok (.iload_n 1, 1) := by decide +kernel
theorem dX9_closes_96 : decode cX9_closes 96 = .ok (.iadd, 1) := by decide +kernel
theorem dX9_closes_97 : decode cX9_closes 97 = .ok (.iconst 0, 1) := by decide +kernel
theorem dX9_closes_98 : decode cX9_closes 98 = .ok (.bipush 30, 2) := by decide +kernel
theorem dX9_closes_100 : decode cX9_closes 100 = .ok (.invokevirtual 148, 3) := by decide +kernel
theorem dX9_closes_103 : decode cX9_closes 103 = .ok (.aload_n 0, 1) := by decide +kernel
theorem dX9_closes_104 : decode cX9_closes 104 = .ok (.iconst 0, 1) := by decide +kernel
theorem dX9_closes_105 : decode cX9_closes 105 = .ok (.iconst 5, 1) := by decide +kernel
theorem dX9_closes_106 : decode cX9_closes 106 = .ok (.iload_n 1, 1) := by decide +kernel
theorem dX9_closes_107 : decode cX9_closes 107 = .ok (.iadd, 1) := by decide +kernel
theorem dX9_closes_108 : decode cX9_closes 108 = .ok (.iconst (-1), 1) := by decide +kernel
theorem dX9_closes_109 : decode cX9_closes 109 = .ok (.invokevirtual 148, 3) := by decide +kernel
theorem dX9_closes_112 : decode cX9_closes 112 = .ok (.iinc 1 1, 3) := by decide +kernel
theorem dX9_closes_115 : decode cX9_closes 115 = .ok (.goto (-28), 3) := by decide +kernel
theorem dX9_closes_45 : decode cX9_closes 45 = .ok (.aload_n 0, 1) := by decide +kernel
theorem dX9_closes_46 : decode cX9_closes 46 = .ok (.iconst 1, 1) := by decide +kernel
theorem dX9_closes_47 : decode cX9_closes 47 = .ok (.iload_n 1, 1) := by decide +kernel
theorem dX9_closes_48 : decode cX9_closes 48 = .ok (.iadd, 1) := by decide +kernel
theorem dX9_closes_49 : decode cX9_closes 49 = .ok (.iconst 0, 1) := by decide +kernel
theorem dX9_closes_50 : decode cX9_closes 50 = .ok (.iload_n 1, 1) := by decide +kernel
theorem dX9_closes_51 : decode cX9_closes 51 = .ok (.ifCond .ne 7, 3) := by decide +kernel
theorem dX9_closes_58 : decode cX9_closes 58 = .ok (.iconst 3, 1) := by decide +kernel
theorem dX9_closes_59 : decode cX9_closes 59 = .ok (.invokevirtual 148, 3) := by decide +kernel
theorem dX9_closes_62 : decode cX9_closes 62 = .ok (.aload_n 0, 1) := by decide +kernel
theorem dX9_closes_63 : decode cX9_closes 63 = .ok (.iconst 0, 1) := by decide +kernel
theorem dX9_closes_64 : decode cX9_closes 64 = .ok (.iconst 1, 1) := by decide +kernel
theorem dX9_closes_65 : decode cX9_closes 65 = .ok (.iload_n 1, 1) := by decide +kernel
theorem dX9_closes_66 : decode cX9_closes 66 = .ok (.iadd, 1) := by decide +kernel
theorem dX9_closes_67 : decode cX9_closes 67 = .ok (.iload_n 1, 1) := by decide +kernel
theorem dX9_closes_68 : decode cX9_closes 68 = .ok (.ifCond .ne 7, 3) := by decide +kernel
theorem dX9_closes_75 : decode cX9_closes 75 = .ok (.iconst 3, 1) := by decide +kernel
theorem dX9_closes_76 : decode cX9_closes 76 = .ok (.invokevirtual 148, 3) := by decide +kernel
theorem dX9_closes_79 : decode cX9_closes 79 = .ok (.iinc 1 1, 3) := by decide +kernel
theorem dX9_closes_82 : decode cX9_closes 82 = .ok (.goto (-42), 3) := by decide +kernel
theorem dX9_closes_54 : decode cX9_closes 54 = .ok (.iconst 0, 1) := by decide +kernel
theorem dX9_closes_55 : decode cX9_closes 55 = .ok (.goto 4, 3) := by decide +kernel
theorem dX9_closes_71 : decode cX9_closes 71 = .ok (.iconst 0, 1) := by decide +kernel
theorem dX9_closes_72 : decode cX9_closes 72 = .ok (.goto 4, 3) := by decide +kernel
theorem dX9_closes_9 : decode cX9_closes 9 = .ok (.aload_n 0, 1) := by decide +kernel
theorem dX9_closes_10 : decode cX9_closes 10 = .ok (.getfield 75, 3) := by decide +kernel
theorem dX9_closes_13 : decode cX9_closes 13 = .ok (.iload_n 1, 1) := by decide +kernel
theorem dX9_closes_14 : decode cX9_closes 14 = .ok (.iload_n 1, 1) := by decide +kernel
theorem dX9_closes_15 : decode cX9_closes 15 = .ok (.bipush 29, 2) := by decide +kernel
theorem dX9_closes_17 : decode cX9_closes 17 = .ok (.idiv, 1) := by decide +kernel
theorem dX9_closes_18 : decode cX9_closes 18 = .ok (.iload_n 1, 1) := by decide +kernel
theorem dX9_closes_19 : decode cX9_closes 19 = .ok (.bipush 29, 2) := by decide +kernel
theorem dX9_closes_21 : decode cX9_closes 21 = .ok (.irem, 1) := by decide +kernel
theorem dX9_closes_22 : decode cX9_closes 22 = .ok (.if_icmp .ne 7, 3) := by decide +kernel
theorem dX9_closes_29 : decode cX9_closes 29 = .ok (.ldc 147, 2) := by decide +kernel
theorem dX9_closes_31 : decode cX9_closes 31 = .ok (.iastore, 1) := by decide +kernel
theorem dX9_closes_32 : decode cX9_closes 32 = .ok (.iinc 1 1, 3) := by decide +kernel
theorem dX9_closes_35 : decode cX9_closes 35 = .ok (.goto (-33), 3) := by decide +kernel
theorem dX9_closes_25 : decode cX9_closes 25 = .ok (.iconst 0, 1) := by decide +kernel
theorem dX9_closes_26 : decode cX9_closes 26 = .ok (.goto 5, 3) := by decide +kernel
set_option maxHeartbeats 4000000 in
set_option maxRecDepth 100000 in
theorem c_X9_in (l : Launch) (D : va_G) (sz : Nat) (x0 : Int32) (x1 : Int32) (x2 : Int32) : Met l yX9_in (.code yX9_in cX9_in 3 (some .boolean) :: G) ({ frames := 2, cells := 0, slots := 0, locals := 40 }) (va_Pc [.int x0, .int x1, .int x2] (pw D sz [] [])) (va_Qi (fun (r : Int32) (u : Unit) => r = isW x0 x1 x2) (fun (u : Unit) => qw D (va_A [] sz) [] []) (va_A [] sz)) 0 0 (va_A [] sz) := by
  refine Met.ofW (cc := cX9_in) (maxL := 3) (ret := (some .boolean)) (by decide) rfl ?_
  intro p e s m args below meth c s₁ B hml hv
  obtain ⟨rfl, hsz, hP, hK, hD0, hN⟩ := hv
  have hx := B.exec
  have hb := B.bytes
  have hr := B.returns
  have hts := atoms_spec (ws := (.code yX9_in cX9_in 3 (some .boolean) :: G)) B.pre
  have hown : s.vm.findClass RX9 = some m.cls := findClass_of_methodNamed B.named
  have hlocks := B.notSynchronized
  subst hsz
  have hD := hD0.self (sz := s.heap.size)
  generalize hAe : va_A [] s.heap.size = A at hD ⊢
  have hA : ∀ q : Nat, s.heap.size ≤ q → A q := fun q h => by rw [← hAe]; exact Or.inr h
  have hS : va_S A s.heap s.heap [] := va_S.rf
  have hP : va_P D vwCl [] s.heap := hP
  have hl := lv_entry ([.int x0, .int x1, .int x2]) (n := 3) (Nat.le_of_ble_eq_true rfl)
  rw [lg_entry_eq]
  generalize (lg_sl ([.int x0, .int x1, .int x2]) ++ List.replicate (3 - (lg_sl ([.int x0, .int x1, .int x2])).length) Slot.unset).toArray = ls at hl ⊢
  have hl : lv_has ls 3 [(0, .int x0), (1, .int x1), (2, .int x2)] := hl
  refine lv_iload_n hx hb dX9_in_0 rfl (lv_at hl 0 rfl) ?_
  refine lv_iload_n hx hb dX9_in_1 rfl (lv_at hl 1 rfl) ?_
  refine lv_icmp_lt (tgt := 14) hx hb dX9_in_2 (by decide) (fun c_1 => ?_) (fun c_1 => ?_)
  · skip
    refine lv_iconst (v := 0) hx hb dX9_in_14 (by decide) ?_
    have hP9 := hP.sub (ws' := []) [] rfl
    have hD9 := hD.sub (ws' := []) [] (by decide) rfl
    have hK9 := hK.sub (tys' := []) [] rfl
    refine W.widen (k := 0) (n := 0) (Nat.le_of_ble_eq_true rfl) (Nat.le_of_ble_eq_true rfl) ?_
    exact W.zret (v := 0) hx hb hr rfl (fun t ht hW => ⟨⟨0, (), rfl, (if_neg (fun q => absurd q.1 (Int32.not_le.mpr c_1))).symm, by rw [ht]; exact hP9, va_K.moved hW.alike hK9, hD9⟩, hS.F ht⟩) hS.2.2 dX9_in_15
  · skip
    refine lv_iload_n hx hb dX9_in_5 rfl (lv_at hl 0 rfl) ?_
    refine lv_iload_n hx hb dX9_in_6 rfl (lv_at hl 2 rfl) ?_
    refine lv_icmp_gt (tgt := 14) hx hb dX9_in_7 (by decide) (fun c_2 => ?_) (fun c_2 => ?_)
    · skip
      refine lv_iconst (v := 0) hx hb dX9_in_14 (by decide) ?_
      have hP9 := hP.sub (ws' := []) [] rfl
      have hD9 := hD.sub (ws' := []) [] (by decide) rfl
      have hK9 := hK.sub (tys' := []) [] rfl
      refine W.widen (k := 0) (n := 0) (Nat.le_of_ble_eq_true rfl) (Nat.le_of_ble_eq_true rfl) ?_
      exact W.zret (v := 0) hx hb hr rfl (fun t ht hW => ⟨⟨0, (), rfl, (if_neg (fun q => absurd q.2 (Int32.not_le.mpr c_2))).symm, by rw [ht]; exact hP9, va_K.moved hW.alike hK9, hD9⟩, hS.F ht⟩) hS.2.2 dX9_in_15
    · skip
      refine lv_iconst (v := 1) hx hb dX9_in_10 (by decide) ?_
      refine lv_goto (tgt := 15) hx hb dX9_in_11 (by decide) ?_
      have hP9 := hP.sub (ws' := []) [] rfl
      have hD9 := hD.sub (ws' := []) [] (by decide) rfl
      have hK9 := hK.sub (tys' := []) [] rfl
      refine W.widen (k := 0) (n := 0) (Nat.le_of_ble_eq_true rfl) (Nat.le_of_ble_eq_true rfl) ?_
      exact W.zret (v := 1) hx hb hr rfl (fun t ht hW => ⟨⟨1, (), rfl, (if_pos ⟨Int32.not_lt.mp c_1, Int32.not_lt.mp c_2⟩).symm, by rw [ht]; exact hP9, va_K.moved hW.alike hK9, hD9⟩, hS.F ht⟩) hS.2.2 dX9_in_15
set_option maxHeartbeats 4000000 in
set_option maxRecDepth 100000 in
theorem c_X9_isMaker (l : Launch) (D : va_G) (sz : Nat) (h0 : Nat) (x0 : Int32) (fs : List Value) (hf1 : fs[1]? = some (.int 0)) : Met l yX9_isMaker (.code yX9_isMaker cX9_isMaker 2 (some .boolean) :: G) ({ frames := 4, cells := 0, slots := 0, locals := 68 }) (va_Pc [.ref h0, .int x0] (pw D sz [(h0, .inr (9, fs))] [])) (va_Qi (fun (r : Int32) (u : Unit) => r = 0) (fun (u : Unit) => qw D (va_A [(h0, .inr (9, fs))] sz) [(h0, .inr (9, fs))] []) (va_A [(h0, .inr (9, fs))] sz)) 0 0 (va_A [(h0, .inr (9, fs))] sz) := by
  refine Met.ofW (cc := cX9_isMaker) (maxL := 2) (ret := (some .boolean)) (by decide) rfl ?_
  intro p e s m args below meth c s₁ B hml hv
  obtain ⟨rfl, hsz, hP, hK, hD0, hN⟩ := hv
  have hx := B.exec
  have hb := B.bytes
  have hr := B.returns
  have hts := atoms_spec (ws := (.code yX9_isMaker cX9_isMaker 2 (some .boolean) :: G)) B.pre
  have hown : s.vm.findClass RX9 = some m.cls := findClass_of_methodNamed B.named
  have hlocks := B.notSynchronized
  subst hsz
  have hD := hD0.self (sz := s.heap.size)
  generalize hAe : va_A [(h0, .inr (9, fs))] s.heap.size = A at hD ⊢
  have hA : ∀ q : Nat, s.heap.size ≤ q → A q := fun q h => by rw [← hAe]; exact Or.inr h
  have hS : va_S A s.heap s.heap [] := va_S.rf
  have hP : va_P D vwCl [(h0, .inr (9, fs))] s.heap := hP
  have hl := lv_entry ([.ref h0, .int x0]) (n := 2) (Nat.le_of_ble_eq_true rfl)
  rw [lg_entry_eq]
  generalize (lg_sl ([.ref h0, .int x0]) ++ List.replicate (2 - (lg_sl ([.ref h0, .int x0])).length) Slot.unset).toArray = ls at hl ⊢
  have hl : lv_has ls 2 [(0, .ref h0), (1, .int x0)] := hl
  refine lv_iload_n hx hb dX9_isMaker_0 rfl (lv_at hl 1 rfl) ?_
  refine lv_iconst (v := 0) hx hb dX9_isMaker_1 (by decide) ?_
  refine lv_aload_n hx hb dX9_isMaker_2 rfl (lv_at hl 0 rfl) ?_
  refine va_get (D := D) (ci := 9) (v := .int 0) (C := RX9) (T := TX9) (N := 53) hx hb hts (fun w h => List.mem_cons_of_mem _ (inG9 w h)) hown hK hP 0 rfl rfl 1 (by decide) (hts _ (List.mem_cons_of_mem _ gw_235)) (fun _ h9 => h9) hf1 dX9_isMaker_3 ?_
  refine lv_iconst (v := 1) hx hb dX9_isMaker_6 (by decide) ?_
  refine lv_isub hx hb dX9_isMaker_7 ?_
  refine tI (y := (-1)) (by decide) ?_
  refine fr_i (wr := [(h0, .inr (9, fs))]) (va_runS (As := [.int x0, .int 0, .int (-1)]) (rest := []) ⟨hx, hb, hml, hown, hts⟩ (c_X9_in l D s.heap.size x0 0 (-1) ) (va_cwS 3 hts (gS (fun w h => List.mem_cons_of_mem _ h) gw_237 gw_238 gw_239 gw_236) rfl rfl rfl (by decide +kernel) ⟨Nat.le_of_ble_eq_true rfl, Nat.le_of_ble_eq_true rfl⟩) (pw_S [] [] hP hD hK hN rfl rfl (by decide) rfl) rfl rfl hl.1 rfl (lv_room (Nat.le_of_ble_eq_true rfl)) dX9_isMaker_8 ⟨Nat.le_of_ble_eq_true rfl, Nat.le_of_ble_eq_true rfl⟩) hP hD hK hS hA [] [0] rfl rfl (by decide) (by decide) (fun r_2 u_1 H locs hw_3 hP hD hK hS => ?_)
  try dsimp only at hw_3
  have hP : va_P D vwCl [(h0, .inr (9, fs))] H := hP
  have hD : va_D A [(h0, .inr (9, fs))] := hD
  have hK : va_K D vwCl [] s := hK
  refine W.widen (k := 0) (n := 0) (Nat.le_of_ble_eq_true rfl) (Nat.le_of_ble_eq_true rfl) ?_
  refine tI (y := isW x0 0 (-1)) hw_3 ?_
  have hP9 := hP.sub (ws' := [(h0, .inr (9, fs))]) [0] rfl
  have hD9 := hD.sub (ws' := [(h0, .inr (9, fs))]) [0] (by decide) rfl
  have hK9 := hK.sub (tys' := []) [] rfl
  refine W.widen (k := 0) (n := 0) (Nat.le_of_ble_eq_true rfl) (Nat.le_of_ble_eq_true rfl) ?_
  exact W.zret (v := isW x0 0 (-1)) hx hb hr (isW_nar _ _ _) (fun t ht hW => ⟨⟨(isW x0 0 (-1)), (), rfl, (isW_no _), by rw [ht]; exact hP9, va_K.moved hW.alike hK9, hD9⟩, hS.F ht⟩) hS.2.2 dX9_isMaker_11
set_option maxHeartbeats 4000000 in
set_option maxRecDepth 100000 in
theorem c_X9_isPerson (l : Launch) (D : va_G) (sz : Nat) (h0 : Nat) (x0 : Int32) (fs : List Value) (hf2 : fs[2]? = some (.int 0)) : Met l yX9_isPerson (.code yX9_isPerson cX9_isPerson 2 (some .boolean) :: G) ({ frames := 4, cells := 0, slots := 0, locals := 68 }) (va_Pc [.ref h0, .int x0] (pw D sz [(h0, .inr (9, fs))] [])) (va_Qi (fun (r : Int32) (u : Unit) => r = 0) (fun (u : Unit) => qw D (va_A [(h0, .inr (9, fs))] sz) [(h0, .inr (9, fs))] []) (va_A [(h0, .inr (9, fs))] sz)) 0 0 (va_A [(h0, .inr (9, fs))] sz) := by
  refine Met.ofW (cc := cX9_isPerson) (maxL := 2) (ret := (some .boolean)) (by decide) rfl ?_
  intro p e s m args below meth c s₁ B hml hv
  obtain ⟨rfl, hsz, hP, hK, hD0, hN⟩ := hv
  have hx := B.exec
  have hb := B.bytes
  have hr := B.returns
  have hts := atoms_spec (ws := (.code yX9_isPerson cX9_isPerson 2 (some .boolean) :: G)) B.pre
  have hown : s.vm.findClass RX9 = some m.cls := findClass_of_methodNamed B.named
  have hlocks := B.notSynchronized
  subst hsz
  have hD := hD0.self (sz := s.heap.size)
  generalize hAe : va_A [(h0, .inr (9, fs))] s.heap.size = A at hD ⊢
  have hA : ∀ q : Nat, s.heap.size ≤ q → A q := fun q h => by rw [← hAe]; exact Or.inr h
  have hS : va_S A s.heap s.heap [] := va_S.rf
  have hP : va_P D vwCl [(h0, .inr (9, fs))] s.heap := hP
  have hl := lv_entry ([.ref h0, .int x0]) (n := 2) (Nat.le_of_ble_eq_true rfl)
  rw [lg_entry_eq]
  generalize (lg_sl ([.ref h0, .int x0]) ++ List.replicate (2 - (lg_sl ([.ref h0, .int x0])).length) Slot.unset).toArray = ls at hl ⊢
  have hl : lv_has ls 2 [(0, .ref h0), (1, .int x0)] := hl
  refine lv_iload_n hx hb dX9_isPerson_0 rfl (lv_at hl 1 rfl) ?_
  refine lv_iconst (v := 0) hx hb dX9_isPerson_1 (by decide) ?_
  refine lv_aload_n hx hb dX9_isPerson_2 rfl (lv_at hl 0 rfl) ?_
  refine va_get (D := D) (ci := 9) (v := .int 0) (C := RX9) (T := TX9) (N := 53) hx hb hts (fun w h => List.mem_cons_of_mem _ (inG9 w h)) hown hK hP 0 rfl rfl 2 (by decide) (hts _ (List.mem_cons_of_mem _ gw_240)) (fun _ h9 => h9) hf2 dX9_isPerson_3 ?_
  refine lv_iconst (v := 1) hx hb dX9_isPerson_6 (by decide) ?_
  refine lv_isub hx hb dX9_isPerson_7 ?_
  refine tI (y := (-1)) (by decide) ?_
  refine fr_i (wr := [(h0, .inr (9, fs))]) (va_runS (As := [.int x0, .int 0, .int (-1)]) (rest := []) ⟨hx, hb, hml, hown, hts⟩ (c_X9_in l D s.heap.size x0 0 (-1) ) (va_cwS 3 hts (gS (fun w h => List.mem_cons_of_mem _ h) gw_237 gw_238 gw_239 gw_236) rfl rfl rfl (by decide +kernel) ⟨Nat.le_of_ble_eq_true rfl, Nat.le_of_ble_eq_true rfl⟩) (pw_S [] [] hP hD hK hN rfl rfl (by decide) rfl) rfl rfl hl.1 rfl (lv_room (Nat.le_of_ble_eq_true rfl)) dX9_isPerson_8 ⟨Nat.le_of_ble_eq_true rfl, Nat.le_of_ble_eq_true rfl⟩) hP hD hK hS hA [] [0] rfl rfl (by decide) (by decide) (fun r_2 u_1 H locs hw_3 hP hD hK hS => ?_)
  try dsimp only at hw_3
  have hP : va_P D vwCl [(h0, .inr (9, fs))] H := hP
  have hD : va_D A [(h0, .inr (9, fs))] := hD
  have hK : va_K D vwCl [] s := hK
  refine W.widen (k := 0) (n := 0) (Nat.le_of_ble_eq_true rfl) (Nat.le_of_ble_eq_true rfl) ?_
  refine tI (y := isW x0 0 (-1)) hw_3 ?_
  have hP9 := hP.sub (ws' := [(h0, .inr (9, fs))]) [0] rfl
  have hD9 := hD.sub (ws' := [(h0, .inr (9, fs))]) [0] (by decide) rfl
  have hK9 := hK.sub (tys' := []) [] rfl
  refine W.widen (k := 0) (n := 0) (Nat.le_of_ble_eq_true rfl) (Nat.le_of_ble_eq_true rfl) ?_
  exact W.zret (v := isW x0 0 (-1)) hx hb hr (isW_nar _ _ _) (fun t ht hW => ⟨⟨(isW x0 0 (-1)), (), rfl, (isW_no _), by rw [ht]; exact hP9, va_K.moved hW.alike hK9, hD9⟩, hS.F ht⟩) hS.2.2 dX9_isPerson_11
set_option maxHeartbeats 4000000 in
set_option maxRecDepth 100000 in
theorem c_X9_isFoot (l : Launch) (D : va_G) (sz : Nat) (h0 : Nat) (x0 : Int32) (x1 : Int32) (fs : List Value) (hf2 : fs[2]? = some (.int 0)) : Met l yX9_isFoot (.code yX9_isFoot cX9_isFoot 3 (some .boolean) :: G) ({ frames := 6, cells := 0, slots := 0, locals := 95 }) (va_Pc [.ref h0, .int x0, .int x1] (pw D sz [(h0, .inr (9, fs))] [])) (va_Qi (fun (r : Int32) (u : Unit) => r = 0) (fun (u : Unit) => qw D (va_A [(h0, .inr (9, fs))] sz) [(h0, .inr (9, fs))] []) (va_A [(h0, .inr (9, fs))] sz)) 0 0 (va_A [(h0, .inr (9, fs))] sz) := by
  refine Met.ofW (cc := cX9_isFoot) (maxL := 3) (ret := (some .boolean)) (by decide) rfl ?_
  intro p e s m args below meth c s₁ B hml hv
  obtain ⟨rfl, hsz, hP, hK, hD0, hN⟩ := hv
  have hx := B.exec
  have hb := B.bytes
  have hr := B.returns
  have hts := atoms_spec (ws := (.code yX9_isFoot cX9_isFoot 3 (some .boolean) :: G)) B.pre
  have hown : s.vm.findClass RX9 = some m.cls := findClass_of_methodNamed B.named
  have hlocks := B.notSynchronized
  subst hsz
  have hD := hD0.self (sz := s.heap.size)
  generalize hAe : va_A [(h0, .inr (9, fs))] s.heap.size = A at hD ⊢
  have hA : ∀ q : Nat, s.heap.size ≤ q → A q := fun q h => by rw [← hAe]; exact Or.inr h
  have hS : va_S A s.heap s.heap [] := va_S.rf
  have hP : va_P D vwCl [(h0, .inr (9, fs))] s.heap := hP
  have hl := lv_entry ([.ref h0, .int x0, .int x1]) (n := 3) (Nat.le_of_ble_eq_true rfl)
  rw [lg_entry_eq]
  generalize (lg_sl ([.ref h0, .int x0, .int x1]) ++ List.replicate (3 - (lg_sl ([.ref h0, .int x0, .int x1])).length) Slot.unset).toArray = ls at hl ⊢
  have hl : lv_has ls 3 [(0, .ref h0), (1, .int x0), (2, .int x1)] := hl
  refine lv_aload_n hx hb dX9_isFoot_0 rfl (lv_at hl 0 rfl) ?_
  refine lv_iload_n hx hb dX9_isFoot_1 rfl (lv_at hl 1 rfl) ?_
  refine fr_i (wr := []) (va_runV (As := [.int x0]) (rest := []) ⟨hx, hb, hml, hown, hts⟩ (c_X9_isPerson l D s.heap.size h0 x0 fs hf2) (cwV 1 hts (gV (fun w h => List.mem_cons_of_mem _ h) gw_242 gw_243 gw_244 gw_245 gw_241) rfl rfl rfl (by decide +kernel) ⟨Nat.le_of_ble_eq_true rfl, Nat.le_of_ble_eq_true rfl⟩) (pw_V [0] [] hP hD hK hN rfl rfl (by decide) rfl (ci := 9) (q0 := 0) rfl rfl) rfl rfl hl.1 rfl (lv_room (Nat.le_of_ble_eq_true rfl)) dX9_isFoot_2 ⟨Nat.le_of_ble_eq_true rfl, Nat.le_of_ble_eq_true rfl⟩) hP hD hK hS hA [0] [] rfl rfl (by decide) (by decide) (fun r_2 u_1 H locs hw_3 hP hD hK hS => ?_)
  try dsimp only at hw_3
  have hP : va_P D vwCl [(h0, .inr (9, fs))] H := hP
  have hD : va_D A [(h0, .inr (9, fs))] := hD
  have hK : va_K D vwCl [] s := hK
  refine W.widen (k := 0) (n := 0) (Nat.le_of_ble_eq_true rfl) (Nat.le_of_ble_eq_true rfl) ?_
  refine tI (y := 0) hw_3 ?_
  refine lv_if_eq (tgt := 34) hx hb dX9_isFoot_5 (by decide) (fun c_4 => ?_) (fun c_4 => absurd (by decide) c_4)
  refine lv_iconst (v := 0) hx hb dX9_isFoot_34 (by decide) ?_
  have hP9 := hP.sub (ws' := [(h0, .inr (9, fs))]) [0] rfl
  have hD9 := hD.sub (ws' := [(h0, .inr (9, fs))]) [0] (by decide) rfl
  have hK9 := hK.sub (tys' := []) [] rfl
  refine W.widen (k := 0) (n := 0) (Nat.le_of_ble_eq_true rfl) (Nat.le_of_ble_eq_true rfl) ?_
  exact W.zret (v := 0) hx hb hr rfl (fun t ht hW => ⟨⟨0, (), rfl, rfl, by rw [ht]; exact hP9, va_K.moved hW.alike hK9, hD9⟩, hS.F ht⟩) hS.2.2 dX9_isFoot_35
set_option maxHeartbeats 4000000 in
set_option maxRecDepth 100000 in
theorem c_X9_kind (l : Launch) (D : va_G) (sz : Nat) (h0 : Nat) (x0 : Int32) (x1 : Int32) (x2 : Int32) (x3 : Int32) (fs : List Value) (hf1 : fs[1]? = some (.int 0)) : Met l yX9_kind (.code yX9_kind cX9_kind 5 (some .int) :: G) ({ frames := 6, cells := 0, slots := 0, locals := 95 }) (va_Pc [.ref h0, .int x0, .int x1, .int x2, .int x3] (pw D sz [(h0, .inr (9, fs))] [])) (va_Qi (fun (r : Int32) (u : Unit) => r = -1) (fun (u : Unit) => qw D (va_A [(h0, .inr (9, fs))] sz) [(h0, .inr (9, fs))] []) (va_A [(h0, .inr (9, fs))] sz)) 0 0 (va_A [(h0, .inr (9, fs))] sz) := by
  refine Met.ofW (cc := cX9_kind) (maxL := 5) (ret := (some .int)) (by decide) rfl ?_
  intro p e s m args below meth c s₁ B hml hv
  obtain ⟨rfl, hsz, hP, hK, hD0, hN⟩ := hv
  have hx := B.exec
  have hb := B.bytes
  have hr := B.returns
  have hts := atoms_spec (ws := (.code yX9_kind cX9_kind 5 (some .int) :: G)) B.pre
  have hown : s.vm.findClass RX9 = some m.cls := findClass_of_methodNamed B.named
  have hlocks := B.notSynchronized
  subst hsz
  have hD := hD0.self (sz := s.heap.size)
  generalize hAe : va_A [(h0, .inr (9, fs))] s.heap.size = A at hD ⊢
  have hA : ∀ q : Nat, s.heap.size ≤ q → A q := fun q h => by rw [← hAe]; exact Or.inr h
  have hS : va_S A s.heap s.heap [] := va_S.rf
  have hP : va_P D vwCl [(h0, .inr (9, fs))] s.heap := hP
  have hl := lv_entry ([.ref h0, .int x0, .int x1, .int x2, .int x3]) (n := 5) (Nat.le_of_ble_eq_true rfl)
  rw [lg_entry_eq]
  generalize (lg_sl ([.ref h0, .int x0, .int x1, .int x2, .int x3]) ++ List.replicate (5 - (lg_sl ([.ref h0, .int x0, .int x1, .int x2, .int x3])).length) Slot.unset).toArray = ls at hl ⊢
  have hl : lv_has ls 5 [(0, .ref h0), (1, .int x0), (2, .int x1), (3, .int x2), (4, .int x3)] := hl
  refine lv_aload_n hx hb dX9_kind_0 rfl (lv_at hl 0 rfl) ?_
  refine lv_iload_n hx hb dX9_kind_1 rfl (lv_at hl 1 rfl) ?_
  refine fr_i (wr := []) (va_runV (As := [.int x0]) (rest := []) ⟨hx, hb, hml, hown, hts⟩ (c_X9_isMaker l D s.heap.size h0 x0 fs hf1) (cwV 1 hts (gV (fun w h => List.mem_cons_of_mem _ h) gw_247 gw_248 gw_249 gw_245 gw_246) rfl rfl rfl (by decide +kernel) ⟨Nat.le_of_ble_eq_true rfl, Nat.le_of_ble_eq_true rfl⟩) (pw_V [0] [] hP hD hK hN rfl rfl (by decide) rfl (ci := 9) (q0 := 0) rfl rfl) rfl rfl hl.1 rfl (lv_room (Nat.le_of_ble_eq_true rfl)) dX9_kind_2 ⟨Nat.le_of_ble_eq_true rfl, Nat.le_of_ble_eq_true rfl⟩) hP hD hK hS hA [0] [] rfl rfl (by decide) (by decide) (fun r_2 u_1 H locs hw_3 hP hD hK hS => ?_)
  try dsimp only at hw_3
  have hP : va_P D vwCl [(h0, .inr (9, fs))] H := hP
  have hD : va_D A [(h0, .inr (9, fs))] := hD
  have hK : va_K D vwCl [] s := hK
  refine W.widen (k := 0) (n := 0) (Nat.le_of_ble_eq_true rfl) (Nat.le_of_ble_eq_true rfl) ?_
  refine tI (y := 0) hw_3 ?_
  refine lv_if_eq (tgt := 59) hx hb dX9_kind_5 (by decide) (fun c_4 => ?_) (fun c_4 => absurd (by decide) c_4)
  refine lv_iconst (v := (-1)) hx hb dX9_kind_59 (by decide) ?_
  have hP9 := hP.sub (ws' := [(h0, .inr (9, fs))]) [0] rfl
  have hD9 := hD.sub (ws' := [(h0, .inr (9, fs))]) [0] (by decide) rfl
  have hK9 := hK.sub (tys' := []) [] rfl
  refine W.widen (k := 0) (n := 0) (Nat.le_of_ble_eq_true rfl) (Nat.le_of_ble_eq_true rfl) ?_
  exact W.iret (v := (-1)) hx hb hr (fun t ht hW => ⟨⟨(-1), (), rfl, rfl, by rw [ht]; exact hP9, va_K.moved hW.alike hK9, hD9⟩, hS.F ht⟩) hS.2.2 dX9_kind_60
set_option maxHeartbeats 4000000 in
set_option maxRecDepth 100000 in
theorem c_X9_aMonth (l : Launch) (D : va_G) (sz : Nat) (h0 : Nat) (fs : List Value) (hf2 : fs[2]? = some (.int 0)) : Met l yX9_aMonth (.code yX9_aMonth cX9_aMonth 2 none :: G) ({ frames := 2, cells := 0, slots := 0, locals := 40 }) (va_Pc [.ref h0] (pw D sz [(h0, .inr (9, fs))] [])) (va_Qv (fun (u : Unit) => True) (fun (u : Unit) => qw D (va_A [(h0, .inr (9, fs))] sz) [(h0, .inr (9, fs))] []) (va_A [(h0, .inr (9, fs))] sz)) 0 0 (va_A [(h0, .inr (9, fs))] sz) := by
  refine Met.ofW (cc := cX9_aMonth) (maxL := 2) (ret := none) (by decide) rfl ?_
  intro p e s m args below meth c s₁ B hml hv
  obtain ⟨rfl, hsz, hP, hK, hD0, hN⟩ := hv
  have hx := B.exec
  have hb := B.bytes
  have hr := B.returns
  have hts := atoms_spec (ws := (.code yX9_aMonth cX9_aMonth 2 none :: G)) B.pre
  have hown : s.vm.findClass RX9 = some m.cls := findClass_of_methodNamed B.named
  have hlocks := B.notSynchronized
  subst hsz
  have hD := hD0.self (sz := s.heap.size)
  generalize hAe : va_A [(h0, .inr (9, fs))] s.heap.size = A at hD ⊢
  have hA : ∀ q : Nat, s.heap.size ≤ q → A q := fun q h => by rw [← hAe]; exact Or.inr h
  have hS : va_S A s.heap s.heap [] := va_S.rf
  have hP : va_P D vwCl [(h0, .inr (9, fs))] s.heap := hP
  have hl := lv_entry ([.ref h0]) (n := 2) (Nat.le_of_ble_eq_true rfl)
  rw [lg_entry_eq]
  generalize (lg_sl ([.ref h0]) ++ List.replicate (2 - (lg_sl ([.ref h0])).length) Slot.unset).toArray = ls at hl ⊢
  have hl : lv_has ls 2 [(0, .ref h0)] := hl
  refine lv_iconst (v := 0) hx hb dX9_aMonth_0 (by decide) ?_
  refine lv_istore_n (lv' := [(1, .int 0), (0, .ref h0)]) hx hb dX9_aMonth_1 rfl hl (by decide) rfl (fun ls hl => ?_)
  refine lv_iload_n hx hb dX9_aMonth_2 rfl (lv_at hl 0 rfl) ?_
  refine lv_aload_n hx hb dX9_aMonth_3 rfl (lv_at hl 1 rfl) ?_
  refine va_get (D := D) (ci := 9) (v := .int 0) (C := RX9) (T := TX9) (N := 53) hx hb hts (fun w h => List.mem_cons_of_mem _ (inG9 w h)) hown hK hP 0 rfl rfl 2 (by decide) (hts _ (List.mem_cons_of_mem _ gw_240)) (fun _ h9 => h9) hf2 dX9_aMonth_4 ?_
  refine lv_icmp_ge (tgt := 60) hx hb dX9_aMonth_7 (by decide) (fun c_1 => ?_) (fun c_1 => absurd (by decide) c_1)
  have hP9 := hP.sub (ws' := [(h0, .inr (9, fs))]) [0] rfl
  have hD9 := hD.sub (ws' := [(h0, .inr (9, fs))]) [0] (by decide) rfl
  have hK9 := hK.sub (tys' := []) [] rfl
  refine W.widen (k := 0) (n := 0) (Nat.le_of_ble_eq_true rfl) (Nat.le_of_ble_eq_true rfl) ?_
  exact W.vret hx hb hr (fun t ht hW => ⟨⟨(), rfl, (by first | trivial | rfl), by rw [ht]; exact hP9, va_K.moved hW.alike hK9, hD9⟩, hS.F ht⟩) hS.2.2 dX9_aMonth_60
set_option maxHeartbeats 4000000 in
set_option maxRecDepth 100000 in
theorem c_X9_thrown (l : Launch) (D : va_G) (sz : Nat) (h0 : Nat) (fs : List Value) (hf0 : fs[0]? = some (.int 1)) : Met l yX9_thrown (.code yX9_thrown cX9_thrown 1 (some .int) :: G) ({ frames := 2, cells := 0, slots := 0, locals := 40 }) (va_Pc [.ref h0] (pw D sz [(h0, .inr (9, fs))] [])) (va_Qi (fun (r : Int32) (u : Unit) => r = 1) (fun (u : Unit) => qw D (va_A [(h0, .inr (9, fs))] sz) [(h0, .inr (9, fs))] []) (va_A [(h0, .inr (9, fs))] sz)) 0 0 (va_A [(h0, .inr (9, fs))] sz) := by
  refine Met.ofW (cc := cX9_thrown) (maxL := 1) (ret := (some .int)) (by decide) rfl ?_
  intro p e s m args below meth c s₁ B hml hv
  obtain ⟨rfl, hsz, hP, hK, hD0, hN⟩ := hv
  have hx := B.exec
  have hb := B.bytes
  have hr := B.returns
  have hts := atoms_spec (ws := (.code yX9_thrown cX9_thrown 1 (some .int) :: G)) B.pre
  have hown : s.vm.findClass RX9 = some m.cls := findClass_of_methodNamed B.named
  have hlocks := B.notSynchronized
  subst hsz
  have hD := hD0.self (sz := s.heap.size)
  generalize hAe : va_A [(h0, .inr (9, fs))] s.heap.size = A at hD ⊢
  have hA : ∀ q : Nat, s.heap.size ≤ q → A q := fun q h => by rw [← hAe]; exact Or.inr h
  have hS : va_S A s.heap s.heap [] := va_S.rf
  have hP : va_P D vwCl [(h0, .inr (9, fs))] s.heap := hP
  have hl := lv_entry ([.ref h0]) (n := 1) (Nat.le_of_ble_eq_true rfl)
  rw [lg_entry_eq]
  generalize (lg_sl ([.ref h0]) ++ List.replicate (1 - (lg_sl ([.ref h0])).length) Slot.unset).toArray = ls at hl ⊢
  have hl : lv_has ls 1 [(0, .ref h0)] := hl
  refine lv_aload_n hx hb dX9_thrown_0 rfl (lv_at hl 0 rfl) ?_
  refine va_get (D := D) (ci := 9) (v := .int 1) (C := RX9) (T := TX9) (N := 53) hx hb hts (fun w h => List.mem_cons_of_mem _ (inG9 w h)) hown hK hP 0 rfl rfl 0 (by decide) (hts _ (List.mem_cons_of_mem _ gw_250)) (fun _ h9 => h9) hf0 dX9_thrown_1 ?_
  have hP9 := hP.sub (ws' := [(h0, .inr (9, fs))]) [0] rfl
  have hD9 := hD.sub (ws' := [(h0, .inr (9, fs))]) [0] (by decide) rfl
  have hK9 := hK.sub (tys' := []) [] rfl
  refine W.widen (k := 0) (n := 0) (Nat.le_of_ble_eq_true rfl) (Nat.le_of_ble_eq_true rfl) ?_
  exact W.iret (v := 1) hx hb hr (fun t ht hW => ⟨⟨1, (), rfl, rfl, by rw [ht]; exact hP9, va_K.moved hW.alike hK9, hD9⟩, hS.F ht⟩) hS.2.2 dX9_thrown_4
set_option maxHeartbeats 4000000 in
set_option maxRecDepth 100000 in
theorem c_X9_bound (l : Launch) (D : va_G) (sz : Nat) (h0 : Nat) (i0 : Nat) (j0 : Nat) (x0 : Int32) (fs : List Value) (qm : Nat) (km : ClassId) (fm : Nat → Int32) (hf28 : fs[28]? = some (.ref qm)) (hi0 : i0 < 29) (hj0 : j0 < 29) : Met l yX9_bound (.code yX9_bound cX9_bound 4 none :: G) ({ frames := 2, cells := 0, slots := 0, locals := 40 }) (va_Pc [.ref h0, .int (nI i0), .int (nI j0), .int x0] (pw D sz [(h0, .inr (9, fs)), (qm, .inl (km, 841, .inl fm))] [(km, .int)])) (va_Qv (fun (u : (Nat → Int32)) => True) (fun (u : (Nat → Int32)) => qw D (va_A [(h0, .inr (9, fs)), (qm, .inl (km, 841, .inl fm))] sz) [(h0, .inr (9, fs)), (qm, .inl (km, 841, .inl u))] []) (va_A [(h0, .inr (9, fs)), (qm, .inl (km, 841, .inl fm))] sz)) 0 0 (va_A [(h0, .inr (9, fs)), (qm, .inl (km, 841, .inl fm))] sz) := by
  refine Met.ofW (cc := cX9_bound) (maxL := 4) (ret := none) (by decide) rfl ?_
  intro p e s m args below meth c s₁ B hml hv
  obtain ⟨rfl, hsz, hP, hK, hD0, hN⟩ := hv
  have hx := B.exec
  have hb := B.bytes
  have hr := B.returns
  have hts := atoms_spec (ws := (.code yX9_bound cX9_bound 4 none :: G)) B.pre
  have hown : s.vm.findClass RX9 = some m.cls := findClass_of_methodNamed B.named
  have hlocks := B.notSynchronized
  subst hsz
  have hD := hD0.self (sz := s.heap.size)
  generalize hAe : va_A [(h0, .inr (9, fs)), (qm, .inl (km, 841, .inl fm))] s.heap.size = A at hD ⊢
  have hA : ∀ q : Nat, s.heap.size ≤ q → A q := fun q h => by rw [← hAe]; exact Or.inr h
  have hS : va_S A s.heap s.heap [] := va_S.rf
  have hP : va_P D vwCl [(h0, .inr (9, fs)), (qm, .inl (km, 841, .inl fm))] s.heap := hP
  have hl := lv_entry ([.ref h0, .int (nI i0), .int (nI j0), .int x0]) (n := 4) (Nat.le_of_ble_eq_true rfl)
  rw [lg_entry_eq]
  generalize (lg_sl ([.ref h0, .int (nI i0), .int (nI j0), .int x0]) ++ List.replicate (4 - (lg_sl ([.ref h0, .int (nI i0), .int (nI j0), .int x0])).length) Slot.unset).toArray = ls at hl ⊢
  have hl : lv_has ls 4 [(0, .ref h0), (1, .int (nI i0)), (2, .int (nI j0)), (3, .int x0)] := hl
  refine lv_aload_n hx hb dX9_bound_0 rfl (lv_at hl 0 rfl) ?_
  refine va_get (D := D) (ci := 9) (v := .ref qm) (C := RX9) (T := TX9) (N := 53) hx hb hts (fun w h => List.mem_cons_of_mem _ (inG9 w h)) hown hK hP 0 rfl rfl 28 (by decide) (hts _ (List.mem_cons_of_mem _ gw_251)) (fun _ h9 => h9) hf28 dX9_bound_1 ?_
  refine lv_bipush (v := 29) hx hb dX9_bound_4 (by decide) ?_
  refine lv_iload_n hx hb dX9_bound_6 rfl (lv_at hl 1 rfl) ?_
  refine lv_imul hx hb dX9_bound_7 ?_
  refine tI (y := nI (29 * i0)) (pk_mul 29 i0) ?_
  refine lv_iload_n hx hb dX9_bound_8 rfl (lv_at hl 2 rfl) ?_
  refine lv_iadd hx hb dX9_bound_9 ?_
  refine tI (y := nI ((29 * i0) + j0)) (nI_add (29 * i0) j0) ?_
  refine lv_iload_n hx hb dX9_bound_10 rfl (lv_at hl 3 rfl) ?_
  refine lv_aload_n hx hb dX9_bound_11 rfl (lv_at hl 0 rfl) ?_
  refine va_get (D := D) (ci := 9) (v := .ref qm) (C := RX9) (T := TX9) (N := 53) hx hb hts (fun w h => List.mem_cons_of_mem _ (inG9 w h)) hown hK hP 0 rfl rfl 28 (by decide) (hts _ (List.mem_cons_of_mem _ gw_251)) (fun _ h9 => h9) hf28 dX9_bound_12 ?_
  refine lv_bipush (v := 29) hx hb dX9_bound_15 (by decide) ?_
  refine lv_iload_n hx hb dX9_bound_17 rfl (lv_at hl 1 rfl) ?_
  refine lv_imul hx hb dX9_bound_18 ?_
  refine tI (y := nI (29 * i0)) (pk_mul 29 i0) ?_
  refine lv_iload_n hx hb dX9_bound_19 rfl (lv_at hl 2 rfl) ?_
  refine lv_iadd hx hb dX9_bound_20 ?_
  refine tI (y := nI ((29 * i0) + j0)) (nI_add (29 * i0) j0) ?_
  refine va_iald hx hb hK hP 1 0 rfl rfl (vp_in_nI (n := (29 * i0) + j0) (N := 841) (by omega) (by omega)) dX9_bound_21 ?_
  refine tF (fun v_1 => ?_)
  refine lv_icmp_ge (tgt := 29) hx hb dX9_bound_22 (by decide) (fun c_2 => ?_) (fun c_2 => ?_)
  · skip
    refine lv_aload_n hx hb dX9_bound_29 rfl (lv_at hl 0 rfl) ?_
    refine va_get (D := D) (ci := 9) (v := .ref qm) (C := RX9) (T := TX9) (N := 53) hx hb hts (fun w h => List.mem_cons_of_mem _ (inG9 w h)) hown hK hP 0 rfl rfl 28 (by decide) (hts _ (List.mem_cons_of_mem _ gw_251)) (fun _ h9 => h9) hf28 dX9_bound_30 ?_
    refine lv_bipush (v := 29) hx hb dX9_bound_33 (by decide) ?_
    refine lv_iload_n hx hb dX9_bound_35 rfl (lv_at hl 1 rfl) ?_
    refine lv_imul hx hb dX9_bound_36 ?_
    refine tI (y := nI (29 * i0)) (pk_mul 29 i0) ?_
    refine lv_iload_n hx hb dX9_bound_37 rfl (lv_at hl 2 rfl) ?_
    refine lv_iadd hx hb dX9_bound_38 ?_
    refine tI (y := nI ((29 * i0) + j0)) (nI_add (29 * i0) j0) ?_
    refine va_iald hx hb hK hP 1 0 rfl rfl (vp_in_nI (n := (29 * i0) + j0) (N := 841) (by omega) (by omega)) dX9_bound_39 ?_
    refine tF (fun v_3 => ?_)
    refine va_iast hx hb hK hP hD hS 1 0 rfl rfl (vp_in_nI (n := (29 * i0) + j0) (N := 841) (by omega) (by omega)) dX9_bound_40 (fun H locs hP hD hS => ?_)
    obtain ⟨f_4, hP, hD⟩ : ∃ f : Nat → Int32, va_P D vwCl [(h0, .inr (9, fs)), (qm, .inl (km, 841, .inl f))] H ∧ va_D A [(h0, .inr (9, fs)), (qm, .inl (km, 841, .inl f))] := ⟨_, hP, hD⟩
    have hP9 := hP.sub (ws' := [(h0, .inr (9, fs)), (qm, .inl (km, 841, .inl f_4))]) [0, 1] rfl
    have hD9 := hD.sub (ws' := [(h0, .inr (9, fs)), (qm, .inl (km, 841, .inl f_4))]) [0, 1] (by decide) rfl
    have hK9 := hK.sub (tys' := []) [] rfl
    refine W.widen (k := 0) (n := 0) (Nat.le_of_ble_eq_true rfl) (Nat.le_of_ble_eq_true rfl) ?_
    exact W.vret hx hb hr (fun t ht hW => ⟨⟨(f_4), rfl, (by first | trivial | rfl), by rw [ht]; exact hP9, va_K.moved hW.alike hK9, hD9⟩, hS.F ht⟩) hS.2.2 dX9_bound_41
  · skip
    refine lv_iload_n hx hb dX9_bound_25 rfl (lv_at hl 3 rfl) ?_
    refine lv_goto (tgt := 40) hx hb dX9_bound_26 (by decide) ?_
    refine va_iast hx hb hK hP hD hS 1 0 rfl rfl (vp_in_nI (n := (29 * i0) + j0) (N := 841) (by omega) (by omega)) dX9_bound_40 (fun H locs hP hD hS => ?_)
    obtain ⟨f_5, hP, hD⟩ : ∃ f : Nat → Int32, va_P D vwCl [(h0, .inr (9, fs)), (qm, .inl (km, 841, .inl f))] H ∧ va_D A [(h0, .inr (9, fs)), (qm, .inl (km, 841, .inl f))] := ⟨_, hP, hD⟩
    have hP9 := hP.sub (ws' := [(h0, .inr (9, fs)), (qm, .inl (km, 841, .inl f_5))]) [0, 1] rfl
    have hD9 := hD.sub (ws' := [(h0, .inr (9, fs)), (qm, .inl (km, 841, .inl f_5))]) [0, 1] (by decide) rfl
    have hK9 := hK.sub (tys' := []) [] rfl
    refine W.widen (k := 0) (n := 0) (Nat.le_of_ble_eq_true rfl) (Nat.le_of_ble_eq_true rfl) ?_
    exact W.vret hx hb hr (fun t ht hW => ⟨⟨(f_5), rfl, (by first | trivial | rfl), by rw [ht]; exact hP9, va_K.moved hW.alike hK9, hD9⟩, hS.F ht⟩) hS.2.2 dX9_bound_41
set_option maxHeartbeats 4000000 in
set_option maxRecDepth 100000 in
theorem c_X9_closes (l : Launch) (D : va_G) (sz : Nat) (h0 : Nat) (fs : List Value) (qm : Nat) (km : ClassId) (fm : Nat → Int32) (hf3 : fs[3]? = some (.int 0)) (hf28 : fs[28]? = some (.ref qm)) : Met l yX9_closes (.code yX9_closes cX9_closes 4 (some .boolean) :: G) ({ frames := 4, cells := 0, slots := 0, locals := 69 }) (va_Pc [.ref h0] (pw D sz [(h0, .inr (9, fs)), (qm, .inl (km, 841, .inl fm))] [(km, .int)])) (va_Qi (fun (r : Int32) (u : (Nat → Int32)) => True) (fun (u : (Nat → Int32)) => qw D (va_A [(h0, .inr (9, fs)), (qm, .inl (km, 841, .inl fm))] sz) [(h0, .inr (9, fs)), (qm, .inl (km, 841, .inl u))] []) (va_A [(h0, .inr (9, fs)), (qm, .inl (km, 841, .inl fm))] sz)) 0 0 (va_A [(h0, .inr (9, fs)), (qm, .inl (km, 841, .inl fm))] sz) := by
  refine Met.ofW (cc := cX9_closes) (maxL := 4) (ret := (some .boolean)) (by decide) rfl ?_
  intro p e s m args below meth c s₁ B hml hv
  obtain ⟨rfl, hsz, hP, hK, hD0, hN⟩ := hv
  have hx := B.exec
  have hb := B.bytes
  have hr := B.returns
  have hts := atoms_spec (ws := (.code yX9_closes cX9_closes 4 (some .boolean) :: G)) B.pre
  have hown : s.vm.findClass RX9 = some m.cls := findClass_of_methodNamed B.named
  have hlocks := B.notSynchronized
  subst hsz
  have hD := hD0.self (sz := s.heap.size)
  generalize hAe : va_A [(h0, .inr (9, fs)), (qm, .inl (km, 841, .inl fm))] s.heap.size = A at hD ⊢
  have hA : ∀ q : Nat, s.heap.size ≤ q → A q := fun q h => by rw [← hAe]; exact Or.inr h
  have hS : va_S A s.heap s.heap [] := va_S.rf
  have hP : va_P D vwCl [(h0, .inr (9, fs)), (qm, .inl (km, 841, .inl fm))] s.heap := hP
  have hl := lv_entry ([.ref h0]) (n := 4) (Nat.le_of_ble_eq_true rfl)
  rw [lg_entry_eq]
  generalize (lg_sl ([.ref h0]) ++ List.replicate (4 - (lg_sl ([.ref h0])).length) Slot.unset).toArray = ls at hl ⊢
  have hl : lv_has ls 4 [(0, .ref h0)] := hl
  refine lv_iconst (v := 0) hx hb dX9_closes_0 (by decide) ?_
  refine lv_istore_n (lv' := [(1, .int 0), (0, .ref h0)]) hx hb dX9_closes_1 rfl hl (by decide) rfl (fun ls hl => ?_)
  have lp2 : ∀ (n i1 : Nat) (f_1 : Nat → Int32) (H : Heap) (locs : List Loc) (ls : Array Slot), i1 ≤ 841 → 841 < i1 + n → va_P D vwCl [(h0, .inr (9, fs)), (qm, .inl (km, 841, .inl f_1))] H → va_D A [(h0, .inr (9, fs)), (qm, .inl (km, 841, .inl f_1))] → va_S A s.heap H locs → lv_has ls 4 [(1, .int (nI i1)), (0, .ref h0)] → W p l e ({ frames := 4, cells := 0, slots := 0, locals := 69 } : Room) s m (([.ref h0] : List Value).toArray) below meth c H locs 0 0 (MQ below (va_Qi (fun (r : Int32) (u : (Nat → Int32)) => True) (fun (u : (Nat → Int32)) => qw D A [(h0, .inr (9, fs)), (qm, .inl (km, 841, .inl u))] []) A) (([.ref h0] : List Value).toArray) s 0 0 A) (F0 m 2 ls []) := by
    intro n
    induction n with
    | zero => intro i1 f_1 H locs ls hi hn; exact absurd hn (by omega)
    | succ n ih2 =>
      intro i1 f_1 H locs ls hi_2 hn_3 hP hD hS hl
      refine lv_iload_n hx hb dX9_closes_2 rfl (lv_at hl 0 rfl) ?_
      refine lv_sipush (v := 841) hx hb dX9_closes_3 (by decide) ?_
      refine lv_icmp_ge (tgt := 38) hx hb dX9_closes_6 (by decide) (fun c_5 => ?_) (fun c_5 => ?_)
      · skip
        have hc_5 := ge_of (i := i1) 841 c_5 rfl (by omega) (by omega)
        refine lv_iconst (v := 0) hx hb dX9_closes_38 (by decide) ?_
        refine lv_istore_n (lv' := [(1, .int 0), (0, .ref h0)]) hx hb dX9_closes_39 rfl hl (by decide) rfl (fun ls hl => ?_)
        have lp40 : ∀ (n i2 : Nat) (f_6 : Nat → Int32) (H : Heap) (locs : List Loc) (ls : Array Slot), i2 ≤ 4 → 4 < i2 + n → va_P D vwCl [(h0, .inr (9, fs)), (qm, .inl (km, 841, .inl f_6))] H → va_D A [(h0, .inr (9, fs)), (qm, .inl (km, 841, .inl f_6))] → va_S A s.heap H locs → lv_has ls 4 [(1, .int (nI i2)), (0, .ref h0)] → W p l e ({ frames := 4, cells := 0, slots := 0, locals := 69 } : Room) s m (([.ref h0] : List Value).toArray) below meth c H locs 0 0 (MQ below (va_Qi (fun (r : Int32) (u : (Nat → Int32)) => True) (fun (u : (Nat → Int32)) => qw D A [(h0, .inr (9, fs)), (qm, .inl (km, 841, .inl u))] []) A) (([.ref h0] : List Value).toArray) s 0 0 A) (F0 m 40 ls []) := by
          intro n
          induction n with
          | zero => intro i2 f_6 H locs ls hi hn; exact absurd hn (by omega)
          | succ n ih40 =>
            intro i2 f_6 H locs ls hi_7 hn_8 hP hD hS hl
            refine lv_iload_n hx hb dX9_closes_40 rfl (lv_at hl 0 rfl) ?_
            refine lv_iconst (v := 4) hx hb dX9_closes_41 (by decide) ?_
            refine lv_icmp_ge (tgt := 85) hx hb dX9_closes_42 (by decide) (fun c_10 => ?_) (fun c_10 => ?_)
            · skip
              have hc_10 := ge_of (i := i2) 4 c_10 rfl (by omega) (by omega)
              refine lv_iconst (v := 0) hx hb dX9_closes_85 (by decide) ?_
              refine lv_istore_n (lv' := [(1, .int 0), (0, .ref h0)]) hx hb dX9_closes_86 rfl hl (by decide) rfl (fun ls hl => ?_)
              have lp87 : ∀ (n i3 : Nat) (f_11 : Nat → Int32) (H : Heap) (locs : List Loc) (ls : Array Slot), i3 ≤ 24 → 24 < i3 + n → va_P D vwCl [(h0, .inr (9, fs)), (qm, .inl (km, 841, .inl f_11))] H → va_D A [(h0, .inr (9, fs)), (qm, .inl (km, 841, .inl f_11))] → va_S A s.heap H locs → lv_has ls 4 [(1, .int (nI i3)), (0, .ref h0)] → W p l e ({ frames := 4, cells := 0, slots := 0, locals := 69 } : Room) s m (([.ref h0] : List Value).toArray) below meth c H locs 0 0 (MQ below (va_Qi (fun (r : Int32) (u : (Nat → Int32)) => True) (fun (u : (Nat → Int32)) => qw D A [(h0, .inr (9, fs)), (qm, .inl (km, 841, .inl u))] []) A) (([.ref h0] : List Value).toArray) s 0 0 A) (F0 m 87 ls []) := by
                intro n
                induction n with
                | zero => intro i3 f_11 H locs ls hi hn; exact absurd hn (by omega)
                | succ n ih87 =>
                  intro i3 f_11 H locs ls hi_12 hn_13 hP hD hS hl
                  refine lv_iload_n hx hb dX9_closes_87 rfl (lv_at hl 0 rfl) ?_
                  refine lv_bipush (v := 24) hx hb dX9_closes_88 (by decide) ?_
                  refine lv_icmp_ge (tgt := 118) hx hb dX9_closes_90 (by decide) (fun c_15 => ?_) (fun c_15 => ?_)
                  · skip
                    have hc_15 := ge_of (i := i3) 24 c_15 rfl (by omega) (by omega)
                    refine lv_iconst (v := 0) hx hb dX9_closes_118 (by decide) ?_
                    refine lv_istore_n (lv' := [(1, .int 0), (0, .ref h0)]) hx hb dX9_closes_119 rfl hl (by decide) rfl (fun ls hl => ?_)
                    refine lv_iload_n hx hb dX9_closes_120 rfl (lv_at hl 0 rfl) ?_
                    refine lv_aload_n hx hb dX9_closes_121 rfl (lv_at hl 1 rfl) ?_
                    refine va_get (D := D) (ci := 9) (v := .int 0) (C := RX9) (T := TX9) (N := 53) hx hb hts (fun w h => List.mem_cons_of_mem _ (inG9 w h)) hown hK hP 0 rfl rfl 3 (by decide) (hts _ (List.mem_cons_of_mem _ gw_252)) (fun _ h9 => h9) hf3 dX9_closes_122 ?_
                    refine lv_icmp_ge (tgt := 148) hx hb dX9_closes_125 (by decide) (fun c_16 => ?_) (fun c_16 => absurd (by decide) c_16)
                    refine lv_iconst (v := 0) hx hb dX9_closes_148 (by decide) ?_
                    refine lv_istore_n (lv' := [(1, .int 0), (0, .ref h0)]) hx hb dX9_closes_149 rfl hl (by decide) rfl (fun ls hl => ?_)
                    have lp150 : ∀ (n k1 : Nat) (f_17 : Nat → Int32) (H : Heap) (locs : List Loc) (ls : Array Slot), k1 ≤ 29 → 29 < k1 + n → va_P D vwCl [(h0, .inr (9, fs)), (qm, .inl (km, 841, .inl f_17))] H → va_D A [(h0, .inr (9, fs)), (qm, .inl (km, 841, .inl f_17))] → va_S A s.heap H locs → lv_has ls 4 [(1, .int (nI k1)), (0, .ref h0)] → W p l e ({ frames := 4, cells := 0, slots := 0, locals := 69 } : Room) s m (([.ref h0] : List Value).toArray) below meth c H locs 0 0 (MQ below (va_Qi (fun (r : Int32) (u : (Nat → Int32)) => True) (fun (u : (Nat → Int32)) => qw D A [(h0, .inr (9, fs)), (qm, .inl (km, 841, .inl u))] []) A) (([.ref h0] : List Value).toArray) s 0 0 A) (F0 m 150 ls []) := by
                      intro n
                      induction n with
                      | zero => intro k1 f_17 H locs ls hi hn; exact absurd hn (by omega)
                      | succ n ih150 =>
                        intro k1 f_17 H locs ls hi_18 hn_19 hP hD hS hl
                        refine lv_iload_n hx hb dX9_closes_150 rfl (lv_at hl 0 rfl) ?_
                        refine lv_bipush (v := 29) hx hb dX9_closes_151 (by decide) ?_
                        refine lv_icmp_ge (tgt := 219) hx hb dX9_closes_153 (by decide) (fun c_21 => ?_) (fun c_21 => ?_)
                        · skip
                          have hc_21 := ge_of (i := k1) 29 c_21 rfl (by omega) (by omega)
                          refine lv_iconst (v := 0) hx hb dX9_closes_219 (by decide) ?_
                          refine lv_istore_n (lv' := [(1, .int 0), (0, .ref h0)]) hx hb dX9_closes_220 rfl hl (by decide) rfl (fun ls hl => ?_)
                          have lp221 : ∀ (n i5 : Nat) (f_22 : Nat → Int32) (H : Heap) (locs : List Loc) (ls : Array Slot), i5 ≤ 29 → 29 < i5 + n → va_P D vwCl [(h0, .inr (9, fs)), (qm, .inl (km, 841, .inl f_22))] H → va_D A [(h0, .inr (9, fs)), (qm, .inl (km, 841, .inl f_22))] → va_S A s.heap H locs → lv_has ls 4 [(1, .int (nI i5)), (0, .ref h0)] → W p l e ({ frames := 4, cells := 0, slots := 0, locals := 69 } : Room) s m (([.ref h0] : List Value).toArray) below meth c H locs 0 0 (MQ below (va_Qi (fun (r : Int32) (u : (Nat → Int32)) => True) (fun (u : (Nat → Int32)) => qw D A [(h0, .inr (9, fs)), (qm, .inl (km, 841, .inl u))] []) A) (([.ref h0] : List Value).toArray) s 0 0 A) (F0 m 221 ls []) := by
                            intro n
                            induction n with
                            | zero => intro i5 f_22 H locs ls hi hn; exact absurd hn (by omega)
                            | succ n ih221 =>
                              intro i5 f_22 H locs ls hi_23 hn_24 hP hD hS hl
                              refine lv_iload_n hx hb dX9_closes_221 rfl (lv_at hl 0 rfl) ?_
                              refine lv_bipush (v := 29) hx hb dX9_closes_222 (by decide) ?_
                              refine lv_icmp_ge (tgt := 249) hx hb dX9_closes_224 (by decide) (fun c_26 => ?_) (fun c_26 => ?_)
                              · skip
                                have hc_26 := ge_of (i := i5) 29 c_26 rfl (by omega) (by omega)
                                refine lv_iconst (v := 1) hx hb dX9_closes_249 (by decide) ?_
                                have hP9 := hP.sub (ws' := [(h0, .inr (9, fs)), (qm, .inl (km, 841, .inl f_22))]) [0, 1] rfl
                                have hD9 := hD.sub (ws' := [(h0, .inr (9, fs)), (qm, .inl (km, 841, .inl f_22))]) [0, 1] (by decide) rfl
                                have hK9 := hK.sub (tys' := []) [] rfl
                                refine W.widen (k := 0) (n := 0) (Nat.le_of_ble_eq_true rfl) (Nat.le_of_ble_eq_true rfl) ?_
                                exact W.zret (v := 1) hx hb hr rfl (fun t ht hW => ⟨⟨1, (f_22), rfl, (by first | trivial | rfl), by rw [ht]; exact hP9, va_K.moved hW.alike hK9, hD9⟩, hS.F ht⟩) hS.2.2 dX9_closes_250
                              · skip
                                have hc_26 := lt_of (i := i5) 29 c_26 rfl (by omega)
                                refine lv_aload_n hx hb dX9_closes_227 rfl (lv_at hl 1 rfl) ?_
                                refine va_get (D := D) (ci := 9) (v := .ref qm) (C := RX9) (T := TX9) (N := 53) hx hb hts (fun w h => List.mem_cons_of_mem _ (inG9 w h)) hown hK hP 0 rfl rfl 28 (by decide) (hts _ (List.mem_cons_of_mem _ gw_251)) (fun _ h9 => h9) hf28 dX9_closes_228 ?_
                                refine lv_bipush (v := 29) hx hb dX9_closes_231 (by decide) ?_
                                refine lv_iload_n hx hb dX9_closes_233 rfl (lv_at hl 0 rfl) ?_
                                refine lv_imul hx hb dX9_closes_234 ?_
                                refine tI (y := nI (29 * i5)) (pk_mul 29 i5) ?_
                                refine lv_iload_n hx hb dX9_closes_235 rfl (lv_at hl 0 rfl) ?_
                                refine lv_iadd hx hb dX9_closes_236 ?_
                                refine tI (y := nI ((29 * i5) + i5)) (nI_add (29 * i5) i5) ?_
                                refine va_iald hx hb hK hP 1 0 rfl rfl (vp_in_nI (n := (29 * i5) + i5) (N := 841) (by omega) (by omega)) dX9_closes_237 ?_
                                refine tF (fun v_27 => ?_)
                                refine lv_if_ge (tgt := 243) hx hb dX9_closes_238 (by decide) (fun c_28 => ?_) (fun c_28 => ?_)
                                · skip
                                  refine lv_iinc (v := (nI (i5 + 1))) (lv' := [(1, .int (nI (i5 + 1))), (0, .ref h0)]) hx hb dX9_closes_243 hl (k := 0) rfl (nI_1 _) (by decide) rfl (fun ls hl => ?_)
                                  refine lv_goto (tgt := 221) hx hb dX9_closes_246 (by decide) ?_
                                  exact ih221 (i5 + 1) _ _ _ _ (by omega) (by omega) (hP.sub [0, 1] rfl) (hD.sub [0, 1] (by decide) rfl) hS (lv_sub hl [0, 1] rfl)
                                · skip
                                  refine lv_iconst (v := 0) hx hb dX9_closes_241 (by decide) ?_
                                  have hP9 := hP.sub (ws' := [(h0, .inr (9, fs)), (qm, .inl (km, 841, .inl f_22))]) [0, 1] rfl
                                  have hD9 := hD.sub (ws' := [(h0, .inr (9, fs)), (qm, .inl (km, 841, .inl f_22))]) [0, 1] (by decide) rfl
                                  have hK9 := hK.sub (tys' := []) [] rfl
                                  refine W.widen (k := 0) (n := 0) (Nat.le_of_ble_eq_true rfl) (Nat.le_of_ble_eq_true rfl) ?_
                                  exact W.zret (v := 0) hx hb hr rfl (fun t ht hW => ⟨⟨0, (f_22), rfl, (by first | trivial | rfl), by rw [ht]; exact hP9, va_K.moved hW.alike hK9, hD9⟩, hS.F ht⟩) hS.2.2 dX9_closes_242
                          exact lp221 (29 + 1) 0 _ _ _ _ (by omega) (by omega) hP hD hS (lv_sub hl [0, 1] rfl)
                        · skip
                          have hc_21 := lt_of (i := k1) 29 c_21 rfl (by omega)
                          refine lv_iconst (v := 0) hx hb dX9_closes_156 (by decide) ?_
                          refine lv_istore_n (lv' := [(2, .int 0), (1, .int (nI k1)), (0, .ref h0)]) hx hb dX9_closes_157 rfl hl (by decide) rfl (fun ls hl => ?_)
                          have lp158 : ∀ (n k2 : Nat) (f_29 : Nat → Int32) (H : Heap) (locs : List Loc) (ls : Array Slot), k2 ≤ 29 → 29 < k2 + n → va_P D vwCl [(h0, .inr (9, fs)), (qm, .inl (km, 841, .inl f_29))] H → va_D A [(h0, .inr (9, fs)), (qm, .inl (km, 841, .inl f_29))] → va_S A s.heap H locs → lv_has ls 4 [(2, .int (nI k2)), (1, .int (nI k1)), (0, .ref h0)] → W p l e ({ frames := 4, cells := 0, slots := 0, locals := 69 } : Room) s m (([.ref h0] : List Value).toArray) below meth c H locs 0 0 (MQ below (va_Qi (fun (r : Int32) (u : (Nat → Int32)) => True) (fun (u : (Nat → Int32)) => qw D A [(h0, .inr (9, fs)), (qm, .inl (km, 841, .inl u))] []) A) (([.ref h0] : List Value).toArray) s 0 0 A) (F0 m 158 ls []) := by
                            intro n
                            induction n with
                            | zero => intro k2 f_29 H locs ls hi hn; exact absurd hn (by omega)
                            | succ n ih158 =>
                              intro k2 f_29 H locs ls hi_30 hn_31 hP hD hS hl
                              refine lv_iload_n hx hb dX9_closes_158 rfl (lv_at hl 0 rfl) ?_
                              refine lv_bipush (v := 29) hx hb dX9_closes_159 (by decide) ?_
                              refine lv_icmp_ge (tgt := 213) hx hb dX9_closes_161 (by decide) (fun c_33 => ?_) (fun c_33 => ?_)
                              · skip
                                have hc_33 := ge_of (i := k2) 29 c_33 rfl (by omega) (by omega)
                                refine lv_iinc (v := (nI (k1 + 1))) (lv' := [(1, .int (nI (k1 + 1))), (2, .int (nI k2)), (0, .ref h0)]) hx hb dX9_closes_213 hl (k := 1) rfl (nI_1 _) (by decide) rfl (fun ls hl => ?_)
                                refine lv_goto (tgt := 150) hx hb dX9_closes_216 (by decide) ?_
                                exact ih150 (k1 + 1) _ _ _ _ (by omega) (by omega) (hP.sub [0, 1] rfl) (hD.sub [0, 1] (by decide) rfl) hS (lv_sub hl [0, 2] rfl)
                              · skip
                                have hc_33 := lt_of (i := k2) 29 c_33 rfl (by omega)
                                refine lv_iconst (v := 0) hx hb dX9_closes_164 (by decide) ?_
                                refine lv_istore_n (lv' := [(3, .int 0), (2, .int (nI k2)), (1, .int (nI k1)), (0, .ref h0)]) hx hb dX9_closes_165 rfl hl (by decide) rfl (fun ls hl => ?_)
                                have lp166 : ∀ (n k3 : Nat) (f_34 : Nat → Int32) (H : Heap) (locs : List Loc) (ls : Array Slot), k3 ≤ 29 → 29 < k3 + n → va_P D vwCl [(h0, .inr (9, fs)), (qm, .inl (km, 841, .inl f_34))] H → va_D A [(h0, .inr (9, fs)), (qm, .inl (km, 841, .inl f_34))] → va_S A s.heap H locs → lv_has ls 4 [(3, .int (nI k3)), (2, .int (nI k2)), (1, .int (nI k1)), (0, .ref h0)] → W p l e ({ frames := 4, cells := 0, slots := 0, locals := 69 } : Room) s m (([.ref h0] : List Value).toArray) below meth c H locs 0 0 (MQ below (va_Qi (fun (r : Int32) (u : (Nat → Int32)) => True) (fun (u : (Nat → Int32)) => qw D A [(h0, .inr (9, fs)), (qm, .inl (km, 841, .inl u))] []) A) (([.ref h0] : List Value).toArray) s 0 0 A) (F0 m 166 ls []) := by
                                  intro n
                                  induction n with
                                  | zero => intro k3 f_34 H locs ls hi hn; exact absurd hn (by omega)
                                  | succ n ih166 =>
                                    intro k3 f_34 H locs ls hi_35 hn_36 hP hD hS hl
                                    refine lv_iload_n hx hb dX9_closes_166 rfl (lv_at hl 0 rfl) ?_
                                    refine lv_bipush (v := 29) hx hb dX9_closes_167 (by decide) ?_
                                    refine lv_icmp_ge (tgt := 207) hx hb dX9_closes_169 (by decide) (fun c_38 => ?_) (fun c_38 => ?_)
                                    · skip
                                      have hc_38 := ge_of (i := k3) 29 c_38 rfl (by omega) (by omega)
                                      refine lv_iinc (v := (nI (k2 + 1))) (lv' := [(2, .int (nI (k2 + 1))), (3, .int (nI k3)), (1, .int (nI k1)), (0, .ref h0)]) hx hb dX9_closes_207 hl (k := 1) rfl (nI_1 _) (by decide) rfl (fun ls hl => ?_)
                                      refine lv_goto (tgt := 158) hx hb dX9_closes_210 (by decide) ?_
                                      exact ih158 (k2 + 1) _ _ _ _ (by omega) (by omega) (hP.sub [0, 1] rfl) (hD.sub [0, 1] (by decide) rfl) hS (lv_sub hl [0, 2, 3] rfl)
                                    · skip
                                      have hc_38 := lt_of (i := k3) 29 c_38 rfl (by omega)
                                      refine lv_aload_n hx hb dX9_closes_172 rfl (lv_at hl 3 rfl) ?_
                                      refine lv_iload_n hx hb dX9_closes_173 rfl (lv_at hl 1 rfl) ?_
                                      refine lv_iload_n hx hb dX9_closes_174 rfl (lv_at hl 0 rfl) ?_
                                      refine lv_aload_n hx hb dX9_closes_175 rfl (lv_at hl 3 rfl) ?_
                                      refine va_get (D := D) (ci := 9) (v := .ref qm) (C := RX9) (T := TX9) (N := 53) hx hb hts (fun w h => List.mem_cons_of_mem _ (inG9 w h)) hown hK hP 0 rfl rfl 28 (by decide) (hts _ (List.mem_cons_of_mem _ gw_251)) (fun _ h9 => h9) hf28 dX9_closes_176 ?_
                                      refine lv_bipush (v := 29) hx hb dX9_closes_179 (by decide) ?_
                                      refine lv_iload_n hx hb dX9_closes_181 rfl (lv_at hl 1 rfl) ?_
                                      refine lv_imul hx hb dX9_closes_182 ?_
                                      refine tI (y := nI (29 * k2)) (pk_mul 29 k2) ?_
                                      refine lv_iload_n hx hb dX9_closes_183 rfl (lv_at hl 2 rfl) ?_
                                      refine lv_iadd hx hb dX9_closes_184 ?_
                                      refine tI (y := nI ((29 * k2) + k1)) (nI_add (29 * k2) k1) ?_
                                      refine va_iald hx hb hK hP 1 0 rfl rfl (vp_in_nI (n := (29 * k2) + k1) (N := 841) (by omega) (by omega)) dX9_closes_185 ?_
                                      refine tF (fun v_39 => ?_)
                                      refine lv_aload_n hx hb dX9_closes_186 rfl (lv_at hl 3 rfl) ?_
                                      refine va_get (D := D) (ci := 9) (v := .ref qm) (C := RX9) (T := TX9) (N := 53) hx hb hts (fun w h => List.mem_cons_of_mem _ (inG9 w h)) hown hK hP 0 rfl rfl 28 (by decide) (hts _ (List.mem_cons_of_mem _ gw_251)) (fun _ h9 => h9) hf28 dX9_closes_187 ?_
                                      refine lv_bipush (v := 29) hx hb dX9_closes_190 (by decide) ?_
                                      refine lv_iload_n hx hb dX9_closes_192 rfl (lv_at hl 2 rfl) ?_
                                      refine lv_imul hx hb dX9_closes_193 ?_
                                      refine tI (y := nI (29 * k1)) (pk_mul 29 k1) ?_
                                      refine lv_iload_n hx hb dX9_closes_194 rfl (lv_at hl 0 rfl) ?_
                                      refine lv_iadd hx hb dX9_closes_195 ?_
                                      refine tI (y := nI ((29 * k1) + k3)) (nI_add (29 * k1) k3) ?_
                                      refine va_iald hx hb hK hP 1 0 rfl rfl (vp_in_nI (n := (29 * k1) + k3) (N := 841) (by omega) (by omega)) dX9_closes_196 ?_
                                      refine tF (fun v_40 => ?_)
                                      refine lv_iadd hx hb dX9_closes_197 ?_
                                      refine tF (fun v_41 => ?_)
                                      refine fr_v (wr := []) (va_runV (As := [.int (nI k2), .int (nI k3), .int v_41]) (rest := []) ⟨hx, hb, hml, hown, hts⟩ (c_X9_bound l D H.size h0 k2 k3 v_41 fs qm km f_34 hf28 (by omega) (by omega)) (cwV 3 hts (gV (fun w h => List.mem_cons_of_mem _ h) gw_254 gw_255 gw_256 gw_245 gw_253) rfl rfl rfl (by decide +kernel) ⟨Nat.le_of_ble_eq_true rfl, Nat.le_of_ble_eq_true rfl⟩) (pw_V [0, 1] [0] hP hD hK hN rfl rfl (by decide) rfl (ci := 9) (q0 := 0) rfl rfl) rfl rfl hl.1 rfl (lv_room (Nat.le_of_ble_eq_true rfl)) dX9_closes_198 ⟨Nat.le_of_ble_eq_true rfl, Nat.le_of_ble_eq_true rfl⟩) hP hD hK hS hA [0, 1] [] rfl rfl (by decide) (by decide) (fun u_42 H locs hw_44 hP hD hK hS => ?_)
                                      obtain ⟨ufm_45, rfl⟩ : ∃ z, z = u_42 := ⟨_, rfl⟩
                                      try dsimp only at hw_44
                                      have hP : va_P D vwCl [(h0, .inr (9, fs)), (qm, .inl (km, 841, .inl ufm_45))] H := hP
                                      have hD : va_D A [(h0, .inr (9, fs)), (qm, .inl (km, 841, .inl ufm_45))] := hD
                                      have hK : va_K D vwCl [(km, .int)] s := hK
                                      refine W.widen (k := 0) (n := 0) (Nat.le_of_ble_eq_true rfl) (Nat.le_of_ble_eq_true rfl) ?_
                                      refine lv_iinc (v := (nI (k3 + 1))) (lv' := [(3, .int (nI (k3 + 1))), (2, .int (nI k2)), (1, .int (nI k1)), (0, .ref h0)]) hx hb dX9_closes_201 hl (k := 0) rfl (nI_1 _) (by decide) rfl (fun ls hl => ?_)
                                      refine lv_goto (tgt := 166) hx hb dX9_closes_204 (by decide) ?_
                                      exact ih166 (k3 + 1) _ _ _ _ (by omega) (by omega) (hP.sub [0, 1] rfl) (hD.sub [0, 1] (by decide) rfl) hS (lv_sub hl [0, 1, 2, 3] rfl)
                                exact lp166 (29 + 1) 0 _ _ _ _ (by omega) (by omega) hP hD hS (lv_sub hl [0, 1, 2, 3] rfl)
                          exact lp158 (29 + 1) 0 _ _ _ _ (by omega) (by omega) hP hD hS (lv_sub hl [0, 1, 2] rfl)
                    exact lp150 (29 + 1) 0 _ _ _ _ (by omega) (by omega) hP hD hS (lv_sub hl [0, 1] rfl)
                  · skip
                    have hc_15 := lt_of (i := i3) 24 c_15 rfl (by omega)
                    refine lv_aload_n hx hb dX9_closes_93 rfl (lv_at hl 1 rfl) ?_
                    refine lv_iconst (v := 5) hx hb dX9_closes_94 (by decide) ?_
                    refine lv_iload_n hx hb dX9_closes_95 rfl (lv_at hl 0 rfl) ?_
                    refine lv_iadd hx hb dX9_closes_96 ?_
                    refine tI (y := nI (5 + i3)) (nI_add 5 i3) ?_
                    refine lv_iconst (v := 0) hx hb dX9_closes_97 (by decide) ?_
                    refine lv_bipush (v := 30) hx hb dX9_closes_98 (by decide) ?_
                    refine fr_v (wr := []) (va_runV (As := [.int (nI (5 + i3)), .int 0, .int 30]) (rest := []) ⟨hx, hb, hml, hown, hts⟩ (c_X9_bound l D H.size h0 (5 + i3) 0 30 fs qm km f_11 hf28 (by omega) (by omega)) (cwV 3 hts (gV (fun w h => List.mem_cons_of_mem _ h) gw_254 gw_255 gw_256 gw_245 gw_253) rfl rfl rfl (by decide +kernel) ⟨Nat.le_of_ble_eq_true rfl, Nat.le_of_ble_eq_true rfl⟩) (pw_V [0, 1] [0] hP hD hK hN rfl rfl (by decide) rfl (ci := 9) (q0 := 0) rfl rfl) rfl rfl hl.1 rfl (lv_room (Nat.le_of_ble_eq_true rfl)) dX9_closes_100 ⟨Nat.le_of_ble_eq_true rfl, Nat.le_of_ble_eq_true rfl⟩) hP hD hK hS hA [0, 1] [] rfl rfl (by decide) (by decide) (fun u_46 H locs hw_48 hP hD hK hS => ?_)
                    obtain ⟨ufm_49, rfl⟩ : ∃ z, z = u_46 := ⟨_, rfl⟩
                    try dsimp only at hw_48
                    have hP : va_P D vwCl [(h0, .inr (9, fs)), (qm, .inl (km, 841, .inl ufm_49))] H := hP
                    have hD : va_D A [(h0, .inr (9, fs)), (qm, .inl (km, 841, .inl ufm_49))] := hD
                    have hK : va_K D vwCl [(km, .int)] s := hK
                    refine W.widen (k := 0) (n := 0) (Nat.le_of_ble_eq_true rfl) (Nat.le_of_ble_eq_true rfl) ?_
                    refine lv_aload_n hx hb dX9_closes_103 rfl (lv_at hl 1 rfl) ?_
                    refine lv_iconst (v := 0) hx hb dX9_closes_104 (by decide) ?_
                    refine lv_iconst (v := 5) hx hb dX9_closes_105 (by decide) ?_
                    refine lv_iload_n hx hb dX9_closes_106 rfl (lv_at hl 0 rfl) ?_
                    refine lv_iadd hx hb dX9_closes_107 ?_
                    refine tI (y := nI (5 + i3)) (nI_add 5 i3) ?_
                    refine lv_iconst (v := (-1)) hx hb dX9_closes_108 (by decide) ?_
                    refine fr_v (wr := []) (va_runV (As := [.int 0, .int (nI (5 + i3)), .int (-1)]) (rest := []) ⟨hx, hb, hml, hown, hts⟩ (c_X9_bound l D H.size h0 0 (5 + i3) (-1) fs qm km ufm_49 hf28 (by omega) (by omega)) (cwV 3 hts (gV (fun w h => List.mem_cons_of_mem _ h) gw_254 gw_255 gw_256 gw_245 gw_253) rfl rfl rfl (by decide +kernel) ⟨Nat.le_of_ble_eq_true rfl, Nat.le_of_ble_eq_true rfl⟩) (pw_V [0, 1] [0] hP hD hK hN rfl rfl (by decide) rfl (ci := 9) (q0 := 0) rfl rfl) rfl rfl hl.1 rfl (lv_room (Nat.le_of_ble_eq_true rfl)) dX9_closes_109 ⟨Nat.le_of_ble_eq_true rfl, Nat.le_of_ble_eq_true rfl⟩) hP hD hK hS hA [0, 1] [] rfl rfl (by decide) (by decide) (fun u_50 H locs hw_52 hP hD hK hS => ?_)
                    obtain ⟨ufm_53, rfl⟩ : ∃ z, z = u_50 := ⟨_, rfl⟩
                    try dsimp only at hw_52
                    have hP : va_P D vwCl [(h0, .inr (9, fs)), (qm, .inl (km, 841, .inl ufm_53))] H := hP
                    have hD : va_D A [(h0, .inr (9, fs)), (qm, .inl (km, 841, .inl ufm_53))] := hD
                    have hK : va_K D vwCl [(km, .int)] s := hK
                    refine W.widen (k := 0) (n := 0) (Nat.le_of_ble_eq_true rfl) (Nat.le_of_ble_eq_true rfl) ?_
                    refine lv_iinc (v := (nI (i3 + 1))) (lv' := [(1, .int (nI (i3 + 1))), (0, .ref h0)]) hx hb dX9_closes_112 hl (k := 0) rfl (nI_1 _) (by decide) rfl (fun ls hl => ?_)
                    refine lv_goto (tgt := 87) hx hb dX9_closes_115 (by decide) ?_
                    exact ih87 (i3 + 1) _ _ _ _ (by omega) (by omega) (hP.sub [0, 1] rfl) (hD.sub [0, 1] (by decide) rfl) hS (lv_sub hl [0, 1] rfl)
              exact lp87 (24 + 1) 0 _ _ _ _ (by omega) (by omega) hP hD hS (lv_sub hl [0, 1] rfl)
            · skip
              have hc_10 := lt_of (i := i2) 4 c_10 rfl (by omega)
              refine lv_aload_n hx hb dX9_closes_45 rfl (lv_at hl 1 rfl) ?_
              refine lv_iconst (v := 1) hx hb dX9_closes_46 (by decide) ?_
              refine lv_iload_n hx hb dX9_closes_47 rfl (lv_at hl 0 rfl) ?_
              refine lv_iadd hx hb dX9_closes_48 ?_
              refine tI (y := nI (1 + i2)) (nI_add 1 i2) ?_
              refine lv_iconst (v := 0) hx hb dX9_closes_49 (by decide) ?_
              refine lv_iload_n hx hb dX9_closes_50 rfl (lv_at hl 0 rfl) ?_
              refine lv_if_ne (tgt := 58) hx hb dX9_closes_51 (by decide) (fun c_54 => ?_) (fun c_54 => ?_)
              · skip
                refine lv_iconst (v := 3) hx hb dX9_closes_58 (by decide) ?_
                refine fr_v (wr := []) (va_runV (As := [.int (nI (1 + i2)), .int 0, .int 3]) (rest := []) ⟨hx, hb, hml, hown, hts⟩ (c_X9_bound l D H.size h0 (1 + i2) 0 3 fs qm km f_6 hf28 (by omega) (by omega)) (cwV 3 hts (gV (fun w h => List.mem_cons_of_mem _ h) gw_254 gw_255 gw_256 gw_245 gw_253) rfl rfl rfl (by decide +kernel) ⟨Nat.le_of_ble_eq_true rfl, Nat.le_of_ble_eq_true rfl⟩) (pw_V [0, 1] [0] hP hD hK hN rfl rfl (by decide) rfl (ci := 9) (q0 := 0) rfl rfl) rfl rfl hl.1 rfl (lv_room (Nat.le_of_ble_eq_true rfl)) dX9_closes_59 ⟨Nat.le_of_ble_eq_true rfl, Nat.le_of_ble_eq_true rfl⟩) hP hD hK hS hA [0, 1] [] rfl rfl (by decide) (by decide) (fun u_55 H locs hw_57 hP hD hK hS => ?_)
                obtain ⟨ufm_58, rfl⟩ : ∃ z, z = u_55 := ⟨_, rfl⟩
                try dsimp only at hw_57
                have hP : va_P D vwCl [(h0, .inr (9, fs)), (qm, .inl (km, 841, .inl ufm_58))] H := hP
                have hD : va_D A [(h0, .inr (9, fs)), (qm, .inl (km, 841, .inl ufm_58))] := hD
                have hK : va_K D vwCl [(km, .int)] s := hK
                refine W.widen (k := 0) (n := 0) (Nat.le_of_ble_eq_true rfl) (Nat.le_of_ble_eq_true rfl) ?_
                refine lv_aload_n hx hb dX9_closes_62 rfl (lv_at hl 1 rfl) ?_
                refine lv_iconst (v := 0) hx hb dX9_closes_63 (by decide) ?_
                refine lv_iconst (v := 1) hx hb dX9_closes_64 (by decide) ?_
                refine lv_iload_n hx hb dX9_closes_65 rfl (lv_at hl 0 rfl) ?_
                refine lv_iadd hx hb dX9_closes_66 ?_
                refine tI (y := nI (1 + i2)) (nI_add 1 i2) ?_
                refine lv_iload_n hx hb dX9_closes_67 rfl (lv_at hl 0 rfl) ?_
                refine lv_if_ne (tgt := 75) hx hb dX9_closes_68 (by decide) (fun c_59 => ?_) (fun c_59 => absurd c_59 c_54)
                refine lv_iconst (v := 3) hx hb dX9_closes_75 (by decide) ?_
                refine fr_v (wr := []) (va_runV (As := [.int 0, .int (nI (1 + i2)), .int 3]) (rest := []) ⟨hx, hb, hml, hown, hts⟩ (c_X9_bound l D H.size h0 0 (1 + i2) 3 fs qm km ufm_58 hf28 (by omega) (by omega)) (cwV 3 hts (gV (fun w h => List.mem_cons_of_mem _ h) gw_254 gw_255 gw_256 gw_245 gw_253) rfl rfl rfl (by decide +kernel) ⟨Nat.le_of_ble_eq_true rfl, Nat.le_of_ble_eq_true rfl⟩) (pw_V [0, 1] [0] hP hD hK hN rfl rfl (by decide) rfl (ci := 9) (q0 := 0) rfl rfl) rfl rfl hl.1 rfl (lv_room (Nat.le_of_ble_eq_true rfl)) dX9_closes_76 ⟨Nat.le_of_ble_eq_true rfl, Nat.le_of_ble_eq_true rfl⟩) hP hD hK hS hA [0, 1] [] rfl rfl (by decide) (by decide) (fun u_60 H locs hw_62 hP hD hK hS => ?_)
                obtain ⟨ufm_63, rfl⟩ : ∃ z, z = u_60 := ⟨_, rfl⟩
                try dsimp only at hw_62
                have hP : va_P D vwCl [(h0, .inr (9, fs)), (qm, .inl (km, 841, .inl ufm_63))] H := hP
                have hD : va_D A [(h0, .inr (9, fs)), (qm, .inl (km, 841, .inl ufm_63))] := hD
                have hK : va_K D vwCl [(km, .int)] s := hK
                refine W.widen (k := 0) (n := 0) (Nat.le_of_ble_eq_true rfl) (Nat.le_of_ble_eq_true rfl) ?_
                refine lv_iinc (v := (nI (i2 + 1))) (lv' := [(1, .int (nI (i2 + 1))), (0, .ref h0)]) hx hb dX9_closes_79 hl (k := 0) rfl (nI_1 _) (by decide) rfl (fun ls hl => ?_)
                refine lv_goto (tgt := 40) hx hb dX9_closes_82 (by decide) ?_
                exact ih40 (i2 + 1) _ _ _ _ (by omega) (by omega) (hP.sub [0, 1] rfl) (hD.sub [0, 1] (by decide) rfl) hS (lv_sub hl [0, 1] rfl)
              · skip
                refine lv_iconst (v := 0) hx hb dX9_closes_54 (by decide) ?_
                refine lv_goto (tgt := 59) hx hb dX9_closes_55 (by decide) ?_
                refine fr_v (wr := []) (va_runV (As := [.int (nI (1 + i2)), .int 0, .int 0]) (rest := []) ⟨hx, hb, hml, hown, hts⟩ (c_X9_bound l D H.size h0 (1 + i2) 0 0 fs qm km f_6 hf28 (by omega) (by omega)) (cwV 3 hts (gV (fun w h => List.mem_cons_of_mem _ h) gw_254 gw_255 gw_256 gw_245 gw_253) rfl rfl rfl (by decide +kernel) ⟨Nat.le_of_ble_eq_true rfl, Nat.le_of_ble_eq_true rfl⟩) (pw_V [0, 1] [0] hP hD hK hN rfl rfl (by decide) rfl (ci := 9) (q0 := 0) rfl rfl) rfl rfl hl.1 rfl (lv_room (Nat.le_of_ble_eq_true rfl)) dX9_closes_59 ⟨Nat.le_of_ble_eq_true rfl, Nat.le_of_ble_eq_true rfl⟩) hP hD hK hS hA [0, 1] [] rfl rfl (by decide) (by decide) (fun u_64 H locs hw_66 hP hD hK hS => ?_)
                obtain ⟨ufm_67, rfl⟩ : ∃ z, z = u_64 := ⟨_, rfl⟩
                try dsimp only at hw_66
                have hP : va_P D vwCl [(h0, .inr (9, fs)), (qm, .inl (km, 841, .inl ufm_67))] H := hP
                have hD : va_D A [(h0, .inr (9, fs)), (qm, .inl (km, 841, .inl ufm_67))] := hD
                have hK : va_K D vwCl [(km, .int)] s := hK
                refine W.widen (k := 0) (n := 0) (Nat.le_of_ble_eq_true rfl) (Nat.le_of_ble_eq_true rfl) ?_
                refine lv_aload_n hx hb dX9_closes_62 rfl (lv_at hl 1 rfl) ?_
                refine lv_iconst (v := 0) hx hb dX9_closes_63 (by decide) ?_
                refine lv_iconst (v := 1) hx hb dX9_closes_64 (by decide) ?_
                refine lv_iload_n hx hb dX9_closes_65 rfl (lv_at hl 0 rfl) ?_
                refine lv_iadd hx hb dX9_closes_66 ?_
                refine tI (y := nI (1 + i2)) (nI_add 1 i2) ?_
                refine lv_iload_n hx hb dX9_closes_67 rfl (lv_at hl 0 rfl) ?_
                refine lv_if_ne (tgt := 75) hx hb dX9_closes_68 (by decide) (fun c_68 => absurd c_54 c_68) (fun c_68 => ?_)
                refine lv_iconst (v := 0) hx hb dX9_closes_71 (by decide) ?_
                refine lv_goto (tgt := 76) hx hb dX9_closes_72 (by decide) ?_
                refine fr_v (wr := []) (va_runV (As := [.int 0, .int (nI (1 + i2)), .int 0]) (rest := []) ⟨hx, hb, hml, hown, hts⟩ (c_X9_bound l D H.size h0 0 (1 + i2) 0 fs qm km ufm_67 hf28 (by omega) (by omega)) (cwV 3 hts (gV (fun w h => List.mem_cons_of_mem _ h) gw_254 gw_255 gw_256 gw_245 gw_253) rfl rfl rfl (by decide +kernel) ⟨Nat.le_of_ble_eq_true rfl, Nat.le_of_ble_eq_true rfl⟩) (pw_V [0, 1] [0] hP hD hK hN rfl rfl (by decide) rfl (ci := 9) (q0 := 0) rfl rfl) rfl rfl hl.1 rfl (lv_room (Nat.le_of_ble_eq_true rfl)) dX9_closes_76 ⟨Nat.le_of_ble_eq_true rfl, Nat.le_of_ble_eq_true rfl⟩) hP hD hK hS hA [0, 1] [] rfl rfl (by decide) (by decide) (fun u_69 H locs hw_71 hP hD hK hS => ?_)
                obtain ⟨ufm_72, rfl⟩ : ∃ z, z = u_69 := ⟨_, rfl⟩
                try dsimp only at hw_71
                have hP : va_P D vwCl [(h0, .inr (9, fs)), (qm, .inl (km, 841, .inl ufm_72))] H := hP
                have hD : va_D A [(h0, .inr (9, fs)), (qm, .inl (km, 841, .inl ufm_72))] := hD
                have hK : va_K D vwCl [(km, .int)] s := hK
                refine W.widen (k := 0) (n := 0) (Nat.le_of_ble_eq_true rfl) (Nat.le_of_ble_eq_true rfl) ?_
                refine lv_iinc (v := (nI (i2 + 1))) (lv' := [(1, .int (nI (i2 + 1))), (0, .ref h0)]) hx hb dX9_closes_79 hl (k := 0) rfl (nI_1 _) (by decide) rfl (fun ls hl => ?_)
                refine lv_goto (tgt := 40) hx hb dX9_closes_82 (by decide) ?_
                exact ih40 (i2 + 1) _ _ _ _ (by omega) (by omega) (hP.sub [0, 1] rfl) (hD.sub [0, 1] (by decide) rfl) hS (lv_sub hl [0, 1] rfl)
        exact lp40 (4 + 1) 0 _ _ _ _ (by omega) (by omega) hP hD hS (lv_sub hl [0, 1] rfl)
      · skip
        have hc_5 := lt_of (i := i1) 841 c_5 rfl (by omega)
        refine lv_aload_n hx hb dX9_closes_9 rfl (lv_at hl 1 rfl) ?_
        refine va_get (D := D) (ci := 9) (v := .ref qm) (C := RX9) (T := TX9) (N := 53) hx hb hts (fun w h => List.mem_cons_of_mem _ (inG9 w h)) hown hK hP 0 rfl rfl 28 (by decide) (hts _ (List.mem_cons_of_mem _ gw_251)) (fun _ h9 => h9) hf28 dX9_closes_10 ?_
        refine lv_iload_n hx hb dX9_closes_13 rfl (lv_at hl 0 rfl) ?_
        refine lv_iload_n hx hb dX9_closes_14 rfl (lv_at hl 0 rfl) ?_
        refine lv_bipush (v := 29) hx hb dX9_closes_15 (by decide) ?_
        refine lv_idiv hx hb dX9_closes_17 (by decide) ?_
        refine tI (y := nI (i1 / 29)) (pk_div (a := i1) (d := 29) (by omega) (by omega) (by omega)) ?_
        refine lv_iload_n hx hb dX9_closes_18 rfl (lv_at hl 0 rfl) ?_
        refine lv_bipush (v := 29) hx hb dX9_closes_19 (by decide) ?_
        refine lv_irem hx hb dX9_closes_21 (by decide) ?_
        refine tI (y := nI (i1 % 29)) (pk_rem (a := i1) (d := 29) (by omega) (by omega) (by omega)) ?_
        refine lv_icmp_ne (tgt := 29) hx hb dX9_closes_22 (by decide) (fun c_73 => ?_) (fun c_73 => ?_)
        · skip
          refine lv_ldc (v := 1048576) hx hb hown (hts _ (List.mem_cons_of_mem _ gw_257)) dX9_closes_29 ?_
          refine va_iast hx hb hK hP hD hS 1 0 rfl rfl (vp_in_nI (n := i1) (N := 841) (by omega) (by omega)) dX9_closes_31 (fun H locs hP hD hS => ?_)
          obtain ⟨f_74, hP, hD⟩ : ∃ f : Nat → Int32, va_P D vwCl [(h0, .inr (9, fs)), (qm, .inl (km, 841, .inl f))] H ∧ va_D A [(h0, .inr (9, fs)), (qm, .inl (km, 841, .inl f))] := ⟨_, hP, hD⟩
          refine lv_iinc (v := (nI (i1 + 1))) (lv' := [(1, .int (nI (i1 + 1))), (0, .ref h0)]) hx hb dX9_closes_32 hl (k := 0) rfl (nI_1 _) (by decide) rfl (fun ls hl => ?_)
          refine lv_goto (tgt := 2) hx hb dX9_closes_35 (by decide) ?_
          exact ih2 (i1 + 1) _ _ _ _ (by omega) (by omega) (hP.sub [0, 1] rfl) (hD.sub [0, 1] (by decide) rfl) hS (lv_sub hl [0, 1] rfl)
        · skip
          refine lv_iconst (v := 0) hx hb dX9_closes_25 (by decide) ?_
          refine lv_goto (tgt := 31) hx hb dX9_closes_26 (by decide) ?_
          refine va_iast hx hb hK hP hD hS 1 0 rfl rfl (vp_in_nI (n := i1) (N := 841) (by omega) (by omega)) dX9_closes_31 (fun H locs hP hD hS => ?_)
          obtain ⟨f_75, hP, hD⟩ : ∃ f : Nat → Int32, va_P D vwCl [(h0, .inr (9, fs)), (qm, .inl (km, 841, .inl f))] H ∧ va_D A [(h0, .inr (9, fs)), (qm, .inl (km, 841, .inl f))] := ⟨_, hP, hD⟩
          refine lv_iinc (v := (nI (i1 + 1))) (lv' := [(1, .int (nI (i1 + 1))), (0, .ref h0)]) hx hb dX9_closes_32 hl (k := 0) rfl (nI_1 _) (by decide) rfl (fun ls hl => ?_)
          refine lv_goto (tgt := 2) hx hb dX9_closes_35 (by decide) ?_
          exact ih2 (i1 + 1) _ _ _ _ (by omega) (by omega) (hP.sub [0, 1] rfl) (hD.sub [0, 1] (by decide) rfl) hS (lv_sub hl [0, 1] rfl)
  exact lp2 (841 + 1) 0 _ _ _ _ (by omega) (by omega) hP hD hS (lv_sub hl [0, 1] rfl)
