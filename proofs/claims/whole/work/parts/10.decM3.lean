theorem d_M_newBlock_11 : decode c_M_newBlock 11 = .ok (.getfield 29, 3) := by decide +kernel
theorem d_M_newBlock_14 : decode c_M_newBlock 14 = .ok (.aload_n 0, 1) := by decide +kernel
theorem d_M_newBlock_15 : decode c_M_newBlock 15 = .ok (.getfield 22, 3) := by decide +kernel
theorem d_M_newBlock_18 : decode c_M_newBlock 18 = .ok (.iload_n 2, 1) := by decide +kernel
theorem d_M_newBlock_19 : decode c_M_newBlock 19 = .ok (.iastore, 1) := by decide +kernel
theorem d_M_newBlock_20 : decode c_M_newBlock 20 = .ok (.aload_n 0, 1) := by decide +kernel
theorem d_M_newBlock_21 : decode c_M_newBlock 21 = .ok (.getfield 32, 3) := by decide +kernel
theorem d_M_newBlock_24 : decode c_M_newBlock 24 = .ok (.aload_n 0, 1) := by decide +kernel
theorem d_M_newBlock_25 : decode c_M_newBlock 25 = .ok (.getfield 22, 3) := by decide +kernel
theorem d_M_newBlock_28 : decode c_M_newBlock 28 = .ok (.iload_n 3, 1) := by decide +kernel
theorem d_M_newBlock_29 : decode c_M_newBlock 29 = .ok (.iastore, 1) := by decide +kernel
theorem d_M_newBlock_30 : decode c_M_newBlock 30 = .ok (.aload_n 0, 1) := by decide +kernel
theorem d_M_newBlock_31 : decode c_M_newBlock 31 = .ok (.dup, 1) := by decide +kernel
theorem d_M_newBlock_32 : decode c_M_newBlock 32 = .ok (.getfield 22, 3) := by decide +kernel
theorem d_M_newBlock_35 : decode c_M_newBlock 35 = .ok (.iconst 1, 1) := by decide +kernel
theorem d_M_newBlock_36 : decode c_M_newBlock 36 = .ok (.iadd, 1) := by decide +kernel
theorem d_M_newBlock_37 : decode c_M_newBlock 37 = .ok (.putfield 22, 3) := by decide +kernel
theorem d_M_newBlock_40 : decode c_M_newBlock 40 = .ok (.aload_n 0, 1) := by decide +kernel
theorem d_M_newBlock_41 : decode c_M_newBlock 41 = .ok (.getfield 22, 3) := by decide +kernel
theorem d_M_newBlock_44 : decode c_M_newBlock 44 = .ok (.iconst 1, 1) := by decide +kernel
theorem d_M_newBlock_45 : decode c_M_newBlock 45 = .ok (.isub, 1) := by decide +kernel
theorem d_M_newBlock_46 : decode c_M_newBlock 46 = .ok (.ireturn, 1) := by decide +kernel
theorem d_M_lead_0 : decode c_M_lead 0 = .ok (.aload_n 0, 1) := by decide +kernel
theorem d_M_lead_1 : decode c_M_lead 1 = .ok (.iload_n 1, 1) := by decide +kernel
theorem d_M_lead_2 : decode c_M_lead 2 = .ok (.invokevirtual 140, 3) := by decide +kernel
theorem d_M_lead_5 : decode c_M_lead 5 = .ok (.ifCond .eq 41, 3) := by decide +kernel
theorem d_M_lead_8 : decode c_M_lead 8 = .ok (.aload_n 0, 1) := by decide +kernel
theorem d_M_lead_9 : decode c_M_lead 9 = .ok (.aload_n 0, 1) := by decide +kernel
theorem d_M_lead_10 : decode c_M_lead 10 = .ok (.getfield 53, 3) := by decide +kernel
theorem d_M_lead_13 : decode c_M_lead 13 = .ok (.iload_n 1, 1) := by decide +kernel
theorem d_M_lead_14 : decode c_M_lead 14 = .ok (.iaload, 1) := by decide +kernel
theorem d_M_lead_15 : decode c_M_lead 15 = .ok (.invokevirtual 127, 3) := by decide +kernel
theorem d_M_lead_18 : decode c_M_lead 18 = .ok (.iload_n 1, 1) := by decide +kernel
theorem d_M_lead_19 : decode c_M_lead 19 = .ok (.if_icmp .ne 27, 3) := by decide +kernel
theorem d_M_lead_22 : decode c_M_lead 22 = .ok (.aload_n 0, 1) := by decide +kernel
theorem d_M_lead_23 : decode c_M_lead 23 = .ok (.getfield 65, 3) := by decide +kernel
theorem d_M_lead_26 : decode c_M_lead 26 = .ok (.iload_n 1, 1) := by decide +kernel
theorem d_M_lead_27 : decode c_M_lead 27 = .ok (.iaload, 1) := by decide +kernel
theorem d_M_lead_28 : decode c_M_lead 28 = .ok (.aload_n 0, 1) := by decide +kernel
theorem d_M_lead_29 : decode c_M_lead 29 = .ok (.getfield 53, 3) := by decide +kernel
theorem d_M_lead_32 : decode c_M_lead 32 = .ok (.iload_n 1, 1) := by decide +kernel
theorem d_M_lead_33 : decode c_M_lead 33 = .ok (.iaload, 1) := by decide +kernel
theorem d_M_lead_34 : decode c_M_lead 34 = .ok (.if_icmp .eq 12, 3) := by decide +kernel
theorem d_M_lead_37 : decode c_M_lead 37 = .ok (.aload_n 0, 1) := by decide +kernel
theorem d_M_lead_38 : decode c_M_lead 38 = .ok (.getfield 22, 3) := by decide +kernel
theorem d_M_lead_41 : decode c_M_lead 41 = .ok (.bipush 40, 2) := by decide +kernel
theorem d_M_lead_43 : decode c_M_lead 43 = .ok (.if_icmp .lt 5, 3) := by decide +kernel
theorem d_M_lead_46 : decode c_M_lead 46 = .ok (.iconst (-1), 1) := by decide +kernel
theorem d_M_lead_47 : decode c_M_lead 47 = .ok (.ireturn, 1) := by decide +kernel
theorem d_M_lead_48 : decode c_M_lead 48 = .ok (.aload_n 0, 1) := by decide +kernel
theorem d_M_lead_49 : decode c_M_lead 49 = .ok (.getfield 53, 3) := by decide +kernel
theorem d_M_lead_52 : decode c_M_lead 52 = .ok (.iload_n 1, 1) := by decide +kernel
theorem d_M_lead_53 : decode c_M_lead 53 = .ok (.iaload, 1) := by decide +kernel
theorem d_M_lead_54 : decode c_M_lead 54 = .ok (.istore_n 2, 1) := by decide +kernel
theorem d_M_lead_55 : decode c_M_lead 55 = .ok (.aload_n 0, 1) := by decide +kernel
theorem d_M_lead_56 : decode c_M_lead 56 = .ok (.iload_n 1, 1) := by decide +kernel
theorem d_M_lead_57 : decode c_M_lead 57 = .ok (.invokevirtual 143, 3) := by decide +kernel
theorem d_M_lead_60 : decode c_M_lead 60 = .ok (.istore_n 3, 1) := by decide +kernel
theorem d_M_lead_61 : decode c_M_lead 61 = .ok (.aload_n 0, 1) := by decide +kernel
theorem d_M_lead_62 : decode c_M_lead 62 = .ok (.iload_n 1, 1) := by decide +kernel
theorem d_M_lead_63 : decode c_M_lead 63 = .ok (.invokevirtual 134, 3) := by decide +kernel
theorem d_M_lead_66 : decode c_M_lead 66 = .ok (.istore 4, 2) := by decide +kernel
theorem d_M_lead_68 : decode c_M_lead 68 = .ok (.iload_n 2, 1) := by decide +kernel
theorem d_M_lead_69 : decode c_M_lead 69 = .ok (.iconst 1, 1) := by decide +kernel
theorem d_M_lead_70 : decode c_M_lead 70 = .ok (.if_icmp .eq 23, 3) := by decide +kernel
theorem d_M_lead_73 : decode c_M_lead 73 = .ok (.aload_n 0, 1) := by decide +kernel
theorem d_M_lead_74 : decode c_M_lead 74 = .ok (.getfield 26, 3) := by decide +kernel
theorem d_M_lead_77 : decode c_M_lead 77 = .ok (.iload_n 3, 1) := by decide +kernel
theorem d_M_lead_78 : decode c_M_lead 78 = .ok (.iaload, 1) := by decide +kernel
theorem d_M_lead_79 : decode c_M_lead 79 = .ok (.iload_n 2, 1) := by decide +kernel
theorem d_M_lead_80 : decode c_M_lead 80 = .ok (.iconst 1, 1) := by decide +kernel
theorem d_M_lead_81 : decode c_M_lead 81 = .ok (.isub, 1) := by decide +kernel
theorem d_M_lead_82 : decode c_M_lead 82 = .ok (.if_icmp .eq 11, 3) := by decide +kernel
theorem d_M_lead_85 : decode c_M_lead 85 = .ok (.iload 4, 2) := by decide +kernel
theorem d_M_lead_87 : decode c_M_lead 87 = .ok (.iload_n 2, 1) := by decide +kernel
theorem d_M_lead_88 : decode c_M_lead 88 = .ok (.if_icmp .ge 5, 3) := by decide +kernel
theorem d_M_lead_91 : decode c_M_lead 91 = .ok (.iconst (-1), 1) := by decide +kernel
theorem d_M_lead_92 : decode c_M_lead 92 = .ok (.ireturn, 1) := by decide +kernel
theorem d_M_lead_93 : decode c_M_lead 93 = .ok (.iconst 0, 1) := by decide +kernel
theorem d_M_lead_94 : decode c_M_lead 94 = .ok (.istore 5, 2) := by decide +kernel
theorem d_M_lead_96 : decode c_M_lead 96 = .ok (.iload_n 3, 1) := by decide +kernel
theorem d_M_lead_97 : decode c_M_lead 97 = .ok (.istore 6, 2) := by decide +kernel
theorem d_M_lead_99 : decode c_M_lead 99 = .ok (.iconst 0, 1) := by decide +kernel
theorem d_M_lead_100 : decode c_M_lead 100 = .ok (.istore 7, 2) := by decide +kernel
theorem d_M_lead_102 : decode c_M_lead 102 = .ok (.iload 7, 2) := by decide +kernel
theorem d_M_lead_104 : decode c_M_lead 104 = .ok (.bipush 40, 2) := by decide +kernel
theorem d_M_lead_106 : decode c_M_lead 106 = .ok (.if_icmp .ge 30, 3) := by decide +kernel
theorem d_M_lead_109 : decode c_M_lead 109 = .ok (.iload 5, 2) := by decide +kernel
theorem d_M_lead_111 : decode c_M_lead 111 = .ok (.aload_n 0, 1) := by decide +kernel
theorem d_M_lead_112 : decode c_M_lead 112 = .ok (.getfield 32, 3) := by decide +kernel
theorem d_M_lead_115 : decode c_M_lead 115 = .ok (.iload 6, 2) := by decide +kernel
theorem d_M_lead_117 : decode c_M_lead 117 = .ok (.iaload, 1) := by decide +kernel
theorem d_M_lead_118 : decode c_M_lead 118 = .ok (.ior, 1) := by decide +kernel
theorem d_M_lead_119 : decode c_M_lead 119 = .ok (.istore 5, 2) := by decide +kernel
theorem d_M_lead_121 : decode c_M_lead 121 = .ok (.aload_n 0, 1) := by decide +kernel
theorem d_M_lead_122 : decode c_M_lead 122 = .ok (.getfield 29, 3) := by decide +kernel
theorem d_M_lead_125 : decode c_M_lead 125 = .ok (.iload 6, 2) := by decide +kernel
theorem d_M_lead_127 : decode c_M_lead 127 = .ok (.iaload, 1) := by decide +kernel
theorem d_M_lead_128 : decode c_M_lead 128 = .ok (.istore 6, 2) := by decide +kernel
theorem d_M_lead_130 : decode c_M_lead 130 = .ok (.iinc 7 1, 3) := by decide +kernel
theorem d_M_lead_133 : decode c_M_lead 133 = .ok (.goto (-31), 3) := by decide +kernel
theorem d_M_lead_136 : decode c_M_lead 136 = .ok (.iconst 0, 1) := by decide +kernel
theorem d_M_lead_137 : decode c_M_lead 137 = .ok (.istore 7, 2) := by decide +kernel
theorem d_M_lead_139 : decode c_M_lead 139 = .ok (.iconst 0, 1) := by decide +kernel
theorem d_M_lead_140 : decode c_M_lead 140 = .ok (.istore 8, 2) := by decide +kernel
theorem d_M_lead_142 : decode c_M_lead 142 = .ok (.iconst 0, 1) := by decide +kernel
theorem d_M_lead_143 : decode c_M_lead 143 = .ok (.istore 9, 2) := by decide +kernel
theorem d_M_lead_145 : decode c_M_lead 145 = .ok (.iload 9, 2) := by decide +kernel
theorem d_M_lead_147 : decode c_M_lead 147 = .ok (.aload_n 0, 1) := by decide +kernel
theorem d_M_lead_148 : decode c_M_lead 148 = .ok (.getfield 137, 3) := by decide +kernel
theorem d_M_lead_151 : decode c_M_lead 151 = .ok (.if_icmp .ge 52, 3) := by decide +kernel
theorem d_M_lead_154 : decode c_M_lead 154 = .ok (.iload 8, 2) := by decide +kernel
theorem d_M_lead_156 : decode c_M_lead 156 = .ok (.iconst 2, 1) := by decide +kernel
theorem d_M_lead_157 : decode c_M_lead 157 = .ok (.if_icmp .ge 46, 3) := by decide +kernel
theorem d_M_lead_160 : decode c_M_lead 160 = .ok (.aload_n 0, 1) := by decide +kernel
theorem d_M_lead_161 : decode c_M_lead 161 = .ok (.getfield 7, 3) := by decide +kernel
theorem d_M_lead_164 : decode c_M_lead 164 = .ok (.iload 9, 2) := by decide +kernel
theorem d_M_lead_166 : decode c_M_lead 166 = .ok (.iaload, 1) := by decide +kernel
theorem d_M_lead_167 : decode c_M_lead 167 = .ok (.iload_n 1, 1) := by decide +kernel
theorem d_M_lead_168 : decode c_M_lead 168 = .ok (.ishr, 1) := by decide +kernel
theorem d_M_lead_169 : decode c_M_lead 169 = .ok (.iconst 1, 1) := by decide +kernel
theorem d_M_lead_170 : decode c_M_lead 170 = .ok (.iand, 1) := by decide +kernel
theorem d_M_lead_171 : decode c_M_lead 171 = .ok (.iconst 1, 1) := by decide +kernel
theorem d_M_lead_172 : decode c_M_lead 172 = .ok (.if_icmp .ne 25, 3) := by decide +kernel
theorem d_M_lead_175 : decode c_M_lead 175 = .ok (.iload 5, 2) := by decide +kernel
theorem d_M_lead_177 : decode c_M_lead 177 = .ok (.iload 9, 2) := by decide +kernel
theorem d_M_lead_179 : decode c_M_lead 179 = .ok (.ishr, 1) := by decide +kernel
theorem d_M_lead_180 : decode c_M_lead 180 = .ok (.iconst 1, 1) := by decide +kernel
theorem d_M_lead_181 : decode c_M_lead 181 = .ok (.iand, 1) := by decide +kernel
theorem d_M_lead_182 : decode c_M_lead 182 = .ok (.ifCond .ne 15, 3) := by decide +kernel
theorem d_M_lead_185 : decode c_M_lead 185 = .ok (.iload 7, 2) := by decide +kernel
theorem d_M_lead_187 : decode c_M_lead 187 = .ok (.iconst 1, 1) := by decide +kernel
theorem d_M_lead_188 : decode c_M_lead 188 = .ok (.iload 9, 2) := by decide +kernel
theorem d_M_lead_190 : decode c_M_lead 190 = .ok (.ishl, 1) := by decide +kernel
theorem d_M_lead_191 : decode c_M_lead 191 = .ok (.ior, 1) := by decide +kernel
theorem d_M_lead_192 : decode c_M_lead 192 = .ok (.istore 7, 2) := by decide +kernel
theorem d_M_lead_194 : decode c_M_lead 194 = .ok (.iinc 8 1, 3) := by decide +kernel
theorem d_M_lead_197 : decode c_M_lead 197 = .ok (.iinc 9 1, 3) := by decide +kernel
theorem d_M_lead_200 : decode c_M_lead 200 = .ok (.goto (-55), 3) := by decide +kernel
theorem d_M_lead_203 : decode c_M_lead 203 = .ok (.aload_n 0, 1) := by decide +kernel
theorem d_M_lead_204 : decode c_M_lead 204 = .ok (.iload_n 2, 1) := by decide +kernel
theorem d_M_lead_205 : decode c_M_lead 205 = .ok (.iload_n 3, 1) := by decide +kernel
theorem d_M_lead_206 : decode c_M_lead 206 = .ok (.iload 7, 2) := by decide +kernel
theorem d_M_lead_208 : decode c_M_lead 208 = .ok (.invokevirtual 146, 3) := by decide +kernel
theorem d_M_lead_211 : decode c_M_lead 211 = .ok (.istore 9, 2) := by decide +kernel
theorem d_M_lead_213 : decode c_M_lead 213 = .ok (.aload_n 0, 1) := by decide +kernel
theorem d_M_lead_214 : decode c_M_lead 214 = .ok (.getfield 65, 3) := by decide +kernel
theorem d_M_lead_217 : decode c_M_lead 217 = .ok (.iload_n 1, 1) := by decide +kernel
theorem d_M_lead_218 : decode c_M_lead 218 = .ok (.iload_n 2, 1) := by decide +kernel
theorem d_M_lead_219 : decode c_M_lead 219 = .ok (.iastore, 1) := by decide +kernel
theorem d_M_lead_220 : decode c_M_lead 220 = .ok (.iconst 0, 1) := by decide +kernel
theorem d_M_lead_221 : decode c_M_lead 221 = .ok (.istore 10, 2) := by decide +kernel
theorem d_M_lead_223 : decode c_M_lead 223 = .ok (.iload 10, 2) := by decide +kernel
theorem d_M_lead_225 : decode c_M_lead 225 = .ok (.aload_n 0, 1) := by decide +kernel
theorem d_M_lead_226 : decode c_M_lead 226 = .ok (.getfield 90, 3) := by decide +kernel
theorem d_M_lead_229 : decode c_M_lead 229 = .ok (.if_icmp .ge 20, 3) := by decide +kernel
theorem d_M_lead_232 : decode c_M_lead 232 = .ok (.aload_n 0, 1) := by decide +kernel
theorem d_M_lead_233 : decode c_M_lead 233 = .ok (.iconst 0, 1) := by decide +kernel
theorem d_M_lead_234 : decode c_M_lead 234 = .ok (.iconst 0, 1) := by decide +kernel
theorem d_M_lead_235 : decode c_M_lead 235 = .ok (.iload 10, 2) := by decide +kernel
theorem d_M_lead_237 : decode c_M_lead 237 = .ok (.iload 9, 2) := by decide +kernel
theorem d_M_lead_239 : decode c_M_lead 239 = .ok (.iconst 0, 1) := by decide +kernel
theorem d_M_lead_240 : decode c_M_lead 240 = .ok (.invokevirtual 130, 3) := by decide +kernel
theorem d_M_lead_243 : decode c_M_lead 243 = .ok (.iinc 10 1, 3) := by decide +kernel
theorem d_M_lead_246 : decode c_M_lead 246 = .ok (.goto (-23), 3) := by decide +kernel
theorem d_M_lead_249 : decode c_M_lead 249 = .ok (.iload 9, 2) := by decide +kernel
theorem d_M_lead_251 : decode c_M_lead 251 = .ok (.ireturn, 1) := by decide +kernel
theorem d_M_tick_0 : decode c_M_tick 0 = .ok (.aload_n 0, 1) := by decide +kernel
theorem d_M_tick_1 : decode c_M_tick 1 = .ok (.iload_n 1, 1) := by decide +kernel
theorem d_M_tick_2 : decode c_M_tick 2 = .ok (.invokevirtual 140, 3) := by decide +kernel
theorem d_M_tick_5 : decode c_M_tick 5 = .ok (.ifCond .ne 5, 3) := by decide +kernel
theorem d_M_tick_8 : decode c_M_tick 8 = .ok (.iconst (-1), 1) := by decide +kernel
theorem d_M_tick_9 : decode c_M_tick 9 = .ok (.ireturn, 1) := by decide +kernel
theorem d_M_tick_10 : decode c_M_tick 10 = .ok (.aload_n 0, 1) := by decide +kernel
theorem d_M_tick_11 : decode c_M_tick 11 = .ok (.getfield 56, 3) := by decide +kernel
theorem d_M_tick_14 : decode c_M_tick 14 = .ok (.iload_n 1, 1) := by decide +kernel
theorem d_M_tick_15 : decode c_M_tick 15 = .ok (.dup2, 1) := by decide +kernel
theorem d_M_tick_16 : decode c_M_tick 16 = .ok (.iaload, 1) := by decide +kernel
theorem d_M_tick_17 : decode c_M_tick 17 = .ok (.iconst 1, 1) := by decide +kernel
theorem d_M_tick_18 : decode c_M_tick 18 = .ok (.iadd, 1) := by decide +kernel
theorem d_M_tick_19 : decode c_M_tick 19 = .ok (.iastore, 1) := by decide +kernel
theorem d_M_tick_20 : decode c_M_tick 20 = .ok (.aload_n 0, 1) := by decide +kernel
theorem d_M_tick_21 : decode c_M_tick 21 = .ok (.getfield 56, 3) := by decide +kernel
theorem d_M_tick_24 : decode c_M_tick 24 = .ok (.iload_n 1, 1) := by decide +kernel
theorem d_M_tick_25 : decode c_M_tick 25 = .ok (.iaload, 1) := by decide +kernel
theorem d_M_tick_26 : decode c_M_tick 26 = .ok (.aload_n 0, 1) := by decide +kernel
theorem d_M_tick_27 : decode c_M_tick 27 = .ok (.getfield 59, 3) := by decide +kernel
theorem d_M_tick_30 : decode c_M_tick 30 = .ok (.iload_n 1, 1) := by decide +kernel
theorem d_M_tick_31 : decode c_M_tick 31 = .ok (.iaload, 1) := by decide +kernel
theorem d_M_tick_32 : decode c_M_tick 32 = .ok (.if_icmp .ne 77, 3) := by decide +kernel
theorem d_M_tick_35 : decode c_M_tick 35 = .ok (.aload_n 0, 1) := by decide +kernel
theorem d_M_tick_36 : decode c_M_tick 36 = .ok (.iload_n 1, 1) := by decide +kernel
theorem d_M_tick_37 : decode c_M_tick 37 = .ok (.aload_n 0, 1) := by decide +kernel
theorem d_M_tick_38 : decode c_M_tick 38 = .ok (.getfield 53, 3) := by decide +kernel
theorem d_M_tick_41 : decode c_M_tick 41 = .ok (.iload_n 1, 1) := by decide +kernel
theorem d_M_tick_42 : decode c_M_tick 42 = .ok (.iaload, 1) := by decide +kernel
theorem d_M_tick_43 : decode c_M_tick 43 = .ok (.iconst 1, 1) := by decide +kernel
theorem d_M_tick_44 : decode c_M_tick 44 = .ok (.iadd, 1) := by decide +kernel
theorem d_M_tick_45 : decode c_M_tick 45 = .ok (.invokevirtual 113, 3) := by decide +kernel
theorem d_M_tick_48 : decode c_M_tick 48 = .ok (.aload_n 0, 1) := by decide +kernel
theorem d_M_tick_49 : decode c_M_tick 49 = .ok (.getfield 59, 3) := by decide +kernel
theorem d_M_tick_52 : decode c_M_tick 52 = .ok (.iload_n 1, 1) := by decide +kernel
theorem d_M_tick_53 : decode c_M_tick 53 = .ok (.aload_n 0, 1) := by decide +kernel
theorem d_M_tick_54 : decode c_M_tick 54 = .ok (.getfield 59, 3) := by decide +kernel
theorem d_M_tick_57 : decode c_M_tick 57 = .ok (.iload_n 1, 1) := by decide +kernel
theorem d_M_tick_58 : decode c_M_tick 58 = .ok (.iaload, 1) := by decide +kernel
theorem d_M_tick_59 : decode c_M_tick 59 = .ok (.bipush 16, 2) := by decide +kernel
theorem d_M_tick_61 : decode c_M_tick 61 = .ok (.if_icmp .le 8, 3) := by decide +kernel
theorem d_M_tick_64 : decode c_M_tick 64 = .ok (.bipush 32, 2) := by decide +kernel
theorem d_M_tick_66 : decode c_M_tick 66 = .ok (.goto 11, 3) := by decide +kernel
theorem d_M_tick_69 : decode c_M_tick 69 = .ok (.iconst 2, 1) := by decide +kernel
theorem d_M_tick_70 : decode c_M_tick 70 = .ok (.aload_n 0, 1) := by decide +kernel
theorem d_M_tick_71 : decode c_M_tick 71 = .ok (.getfield 59, 3) := by decide +kernel
theorem d_M_tick_74 : decode c_M_tick 74 = .ok (.iload_n 1, 1) := by decide +kernel
theorem d_M_tick_75 : decode c_M_tick 75 = .ok (.iaload, 1) := by decide +kernel
theorem d_M_tick_76 : decode c_M_tick 76 = .ok (.imul, 1) := by decide +kernel
theorem d_M_tick_77 : decode c_M_tick 77 = .ok (.iastore, 1) := by decide +kernel
theorem d_M_tick_78 : decode c_M_tick 78 = .ok (.aload_n 0, 1) := by decide +kernel
theorem d_M_tick_79 : decode c_M_tick 79 = .ok (.aload_n 0, 1) := by decide +kernel
theorem d_M_tick_80 : decode c_M_tick 80 = .ok (.getfield 53, 3) := by decide +kernel
theorem d_M_tick_83 : decode c_M_tick 83 = .ok (.iload_n 1, 1) := by decide +kernel
theorem d_M_tick_84 : decode c_M_tick 84 = .ok (.iaload, 1) := by decide +kernel
theorem d_M_tick_85 : decode c_M_tick 85 = .ok (.invokevirtual 127, 3) := by decide +kernel
theorem d_M_tick_88 : decode c_M_tick 88 = .ok (.istore_n 2, 1) := by decide +kernel
theorem d_M_tick_89 : decode c_M_tick 89 = .ok (.aload_n 0, 1) := by decide +kernel
theorem d_M_tick_90 : decode c_M_tick 90 = .ok (.iload_n 1, 1) := by decide +kernel
theorem d_M_tick_91 : decode c_M_tick 91 = .ok (.invokevirtual 143, 3) := by decide +kernel
theorem d_M_tick_94 : decode c_M_tick 94 = .ok (.istore_n 3, 1) := by decide +kernel
theorem d_M_tick_95 : decode c_M_tick 95 = .ok (.aload_n 0, 1) := by decide +kernel
theorem d_M_tick_96 : decode c_M_tick 96 = .ok (.iconst 2, 1) := by decide +kernel
theorem d_M_tick_97 : decode c_M_tick 97 = .ok (.iload_n 1, 1) := by decide +kernel
theorem d_M_tick_98 : decode c_M_tick 98 = .ok (.iload_n 2, 1) := by decide +kernel
theorem d_M_tick_99 : decode c_M_tick 99 = .ok (.iload_n 3, 1) := by decide +kernel
theorem d_M_tick_100 : decode c_M_tick 100 = .ok (.aload_n 0, 1) := by decide +kernel
theorem d_M_tick_101 : decode c_M_tick 101 = .ok (.getfield 53, 3) := by decide +kernel
theorem d_M_tick_104 : decode c_M_tick 104 = .ok (.iload_n 1, 1) := by decide +kernel
theorem d_M_tick_105 : decode c_M_tick 105 = .ok (.iaload, 1) := by decide +kernel
theorem d_M_tick_106 : decode c_M_tick 106 = .ok (.invokevirtual 130, 3) := by decide +kernel
theorem d_M_tick_109 : decode c_M_tick 109 = .ok (.aload_n 0, 1) := by decide +kernel
theorem d_M_tick_110 : decode c_M_tick 110 = .ok (.getfield 53, 3) := by decide +kernel
theorem d_M_tick_113 : decode c_M_tick 113 = .ok (.iload_n 1, 1) := by decide +kernel
theorem d_M_tick_114 : decode c_M_tick 114 = .ok (.iaload, 1) := by decide +kernel
theorem d_M_tick_115 : decode c_M_tick 115 = .ok (.ireturn, 1) := by decide +kernel
theorem d_M_deliver_0 : decode c_M_deliver 0 = .ok (.iload_n 1, 1) := by decide +kernel
theorem d_M_deliver_1 : decode c_M_deliver 1 = .ok (.ifCond .lt 11, 3) := by decide +kernel
theorem d_M_deliver_4 : decode c_M_deliver 4 = .ok (.iload_n 1, 1) := by decide +kernel
theorem d_M_deliver_5 : decode c_M_deliver 5 = .ok (.aload_n 0, 1) := by decide +kernel
theorem d_M_deliver_6 : decode c_M_deliver 6 = .ok (.getfield 107, 3) := by decide +kernel
theorem d_M_deliver_9 : decode c_M_deliver 9 = .ok (.if_icmp .lt 5, 3) := by decide +kernel
theorem d_M_deliver_12 : decode c_M_deliver 12 = .ok (.iconst (-1), 1) := by decide +kernel
theorem d_M_deliver_13 : decode c_M_deliver 13 = .ok (.ireturn, 1) := by decide +kernel
theorem d_M_deliver_14 : decode c_M_deliver 14 = .ok (.aload_n 0, 1) := by decide +kernel
theorem d_M_deliver_15 : decode c_M_deliver 15 = .ok (.getfield 38, 3) := by decide +kernel
theorem d_M_deliver_18 : decode c_M_deliver 18 = .ok (.iload_n 1, 1) := by decide +kernel
theorem d_M_deliver_19 : decode c_M_deliver 19 = .ok (.iaload, 1) := by decide +kernel
theorem d_M_deliver_20 : decode c_M_deliver 20 = .ok (.istore_n 2, 1) := by decide +kernel
theorem d_M_deliver_21 : decode c_M_deliver 21 = .ok (.aload_n 0, 1) := by decide +kernel
theorem d_M_deliver_22 : decode c_M_deliver 22 = .ok (.getfield 44, 3) := by decide +kernel
theorem d_M_deliver_25 : decode c_M_deliver 25 = .ok (.iload_n 1, 1) := by decide +kernel
theorem d_M_deliver_26 : decode c_M_deliver 26 = .ok (.iaload, 1) := by decide +kernel
theorem d_M_deliver_27 : decode c_M_deliver 27 = .ok (.istore_n 3, 1) := by decide +kernel
theorem d_M_deliver_28 : decode c_M_deliver 28 = .ok (.aload_n 0, 1) := by decide +kernel
theorem d_M_deliver_29 : decode c_M_deliver 29 = .ok (.getfield 41, 3) := by decide +kernel
theorem d_M_deliver_32 : decode c_M_deliver 32 = .ok (.iload_n 1, 1) := by decide +kernel
theorem d_M_deliver_33 : decode c_M_deliver 33 = .ok (.iaload, 1) := by decide +kernel
theorem d_M_deliver_34 : decode c_M_deliver 34 = .ok (.istore 4, 2) := by decide +kernel
theorem d_M_deliver_36 : decode c_M_deliver 36 = .ok (.aload_n 0, 1) := by decide +kernel
theorem d_M_deliver_37 : decode c_M_deliver 37 = .ok (.getfield 47, 3) := by decide +kernel
theorem d_M_deliver_40 : decode c_M_deliver 40 = .ok (.iload_n 1, 1) := by decide +kernel
theorem d_M_deliver_41 : decode c_M_deliver 41 = .ok (.iaload, 1) := by decide +kernel
theorem d_M_deliver_42 : decode c_M_deliver 42 = .ok (.istore 5, 2) := by decide +kernel
theorem d_M_deliver_44 : decode c_M_deliver 44 = .ok (.aload_n 0, 1) := by decide +kernel
theorem d_M_deliver_45 : decode c_M_deliver 45 = .ok (.getfield 50, 3) := by decide +kernel
theorem d_M_deliver_48 : decode c_M_deliver 48 = .ok (.iload_n 1, 1) := by decide +kernel
theorem d_M_deliver_49 : decode c_M_deliver 49 = .ok (.iaload, 1) := by decide +kernel
theorem d_M_deliver_50 : decode c_M_deliver 50 = .ok (.istore 6, 2) := by decide +kernel
theorem d_M_deliver_52 : decode c_M_deliver 52 = .ok (.aload_n 0, 1) := by decide +kernel
theorem d_M_deliver_53 : decode c_M_deliver 53 = .ok (.iload_n 1, 1) := by decide +kernel
theorem d_M_deliver_54 : decode c_M_deliver 54 = .ok (.invokevirtual 150, 3) := by decide +kernel
theorem d_M_deliver_57 : decode c_M_deliver 57 = .ok (.aload_n 0, 1) := by decide +kernel
theorem d_M_deliver_58 : decode c_M_deliver 58 = .ok (.iload 4, 2) := by decide +kernel
theorem d_M_deliver_60 : decode c_M_deliver 60 = .ok (.invokevirtual 154, 3) := by decide +kernel
theorem d_M_deliver_63 : decode c_M_deliver 63 = .ok (.ifCond .eq 5, 3) := by decide +kernel
theorem d_M_deliver_66 : decode c_M_deliver 66 = .ok (.iconst 0, 1) := by decide +kernel
theorem d_M_deliver_67 : decode c_M_deliver 67 = .ok (.ireturn, 1) := by decide +kernel
theorem d_M_deliver_68 : decode c_M_deliver 68 = .ok (.iload_n 2, 1) := by decide +kernel
theorem d_M_deliver_69 : decode c_M_deliver 69 = .ok (.ifCond .ne 14, 3) := by decide +kernel
theorem d_M_deliver_72 : decode c_M_deliver 72 = .ok (.aload_n 0, 1) := by decide +kernel
theorem d_M_deliver_73 : decode c_M_deliver 73 = .ok (.iload 4, 2) := by decide +kernel
theorem d_M_deliver_75 : decode c_M_deliver 75 = .ok (.iload 5, 2) := by decide +kernel
theorem d_M_deliver_77 : decode c_M_deliver 77 = .ok (.invokevirtual 157, 3) := by decide +kernel
theorem d_M_deliver_80 : decode c_M_deliver 80 = .ok (.goto 31, 3) := by decide +kernel
theorem d_M_deliver_83 : decode c_M_deliver 83 = .ok (.iload_n 2, 1) := by decide +kernel
theorem d_M_deliver_84 : decode c_M_deliver 84 = .ok (.iconst 1, 1) := by decide +kernel
theorem d_M_deliver_85 : decode c_M_deliver 85 = .ok (.if_icmp .ne 15, 3) := by decide +kernel
theorem d_M_deliver_88 : decode c_M_deliver 88 = .ok (.aload_n 0, 1) := by decide +kernel
theorem d_M_deliver_89 : decode c_M_deliver 89 = .ok (.iload 4, 2) := by decide +kernel
theorem d_M_deliver_91 : decode c_M_deliver 91 = .ok (.iload_n 3, 1) := by decide +kernel
theorem d_M_deliver_92 : decode c_M_deliver 92 = .ok (.iload 5, 2) := by decide +kernel
theorem d_M_deliver_94 : decode c_M_deliver 94 = .ok (.invokevirtual 160, 3) := by decide +kernel
theorem d_M_deliver_97 : decode c_M_deliver 97 = .ok (.goto 14, 3) := by decide +kernel
theorem d_M_deliver_100 : decode c_M_deliver 100 = .ok (.aload_n 0, 1) := by decide +kernel
theorem d_M_deliver_101 : decode c_M_deliver 101 = .ok (.iload 4, 2) := by decide +kernel
theorem d_M_deliver_103 : decode c_M_deliver 103 = .ok (.iload_n 3, 1) := by decide +kernel
theorem d_M_deliver_104 : decode c_M_deliver 104 = .ok (.iload 5, 2) := by decide +kernel
theorem d_M_deliver_106 : decode c_M_deliver 106 = .ok (.iload 6, 2) := by decide +kernel
theorem d_M_deliver_108 : decode c_M_deliver 108 = .ok (.invokevirtual 164, 3) := by decide +kernel
theorem d_M_deliver_111 : decode c_M_deliver 111 = .ok (.iconst 1, 1) := by decide +kernel
theorem d_M_deliver_112 : decode c_M_deliver 112 = .ok (.ireturn, 1) := by decide +kernel
theorem d_M_flow_0 : decode c_M_flow 0 = .ok (.iload_n 1, 1) := by decide +kernel
theorem d_M_flow_1 : decode c_M_flow 1 = .ok (.ifCond .lt 9, 3) := by decide +kernel
theorem d_M_flow_4 : decode c_M_flow 4 = .ok (.iload_n 1, 1) := by decide +kernel
theorem d_M_flow_5 : decode c_M_flow 5 = .ok (.bipush 40, 2) := by decide +kernel
theorem d_M_flow_7 : decode c_M_flow 7 = .ok (.if_icmp .le 5, 3) := by decide +kernel
theorem d_M_flow_10 : decode c_M_flow 10 = .ok (.iconst (-1), 1) := by decide +kernel
theorem d_M_flow_11 : decode c_M_flow 11 = .ok (.ireturn, 1) := by decide +kernel
theorem d_M_flow_12 : decode c_M_flow 12 = .ok (.iconst 0, 1) := by decide +kernel
theorem d_M_flow_13 : decode c_M_flow 13 = .ok (.istore_n 2, 1) := by decide +kernel
theorem d_M_flow_14 : decode c_M_flow 14 = .ok (.iload_n 2, 1) := by decide +kernel
theorem d_M_flow_15 : decode c_M_flow 15 = .ok (.iload_n 1, 1) := by decide +kernel
theorem d_M_flow_16 : decode c_M_flow 16 = .ok (.if_icmp .ge 22, 3) := by decide +kernel
theorem d_M_flow_19 : decode c_M_flow 19 = .ok (.aload_n 0, 1) := by decide +kernel
theorem d_M_flow_20 : decode c_M_flow 20 = .ok (.getfield 107, 3) := by decide +kernel
theorem d_M_flow_23 : decode c_M_flow 23 = .ok (.ifCond .le 15, 3) := by decide +kernel
theorem d_M_flow_26 : decode c_M_flow 26 = .ok (.aload_n 0, 1) := by decide +kernel
theorem d_M_flow_27 : decode c_M_flow 27 = .ok (.iconst 0, 1) := by decide +kernel
theorem d_M_flow_28 : decode c_M_flow 28 = .ok (.invokevirtual 168, 3) := by decide +kernel
theorem d_M_flow_31 : decode c_M_flow 31 = .ok (.pop, 1) := by decide +kernel
theorem d_M_flow_32 : decode c_M_flow 32 = .ok (.iinc 2 1, 3) := by decide +kernel
theorem d_M_flow_35 : decode c_M_flow 35 = .ok (.goto (-21), 3) := by decide +kernel
theorem d_M_flow_38 : decode c_M_flow 38 = .ok (.iload_n 2, 1) := by decide +kernel
theorem d_M_flow_39 : decode c_M_flow 39 = .ok (.ireturn, 1) := by decide +kernel
theorem d_M_drop_0 : decode c_M_drop 0 = .ok (.iload_n 1, 1) := by decide +kernel
theorem d_M_drop_1 : decode c_M_drop 1 = .ok (.ifCond .lt 11, 3) := by decide +kernel
theorem d_M_drop_4 : decode c_M_drop 4 = .ok (.iload_n 1, 1) := by decide +kernel
theorem d_M_drop_5 : decode c_M_drop 5 = .ok (.aload_n 0, 1) := by decide +kernel
theorem d_M_drop_6 : decode c_M_drop 6 = .ok (.getfield 107, 3) := by decide +kernel
theorem d_M_drop_9 : decode c_M_drop 9 = .ok (.if_icmp .lt 5, 3) := by decide +kernel
theorem d_M_drop_12 : decode c_M_drop 12 = .ok (.iconst 0, 1) := by decide +kernel
theorem d_M_drop_13 : decode c_M_drop 13 = .ok (.ireturn, 1) := by decide +kernel
theorem d_M_drop_14 : decode c_M_drop 14 = .ok (.aload_n 0, 1) := by decide +kernel
theorem d_M_drop_15 : decode c_M_drop 15 = .ok (.iload_n 1, 1) := by decide +kernel
theorem d_M_drop_16 : decode c_M_drop 16 = .ok (.invokevirtual 150, 3) := by decide +kernel
theorem d_M_drop_19 : decode c_M_drop 19 = .ok (.iconst 1, 1) := by decide +kernel
theorem d_M_drop_20 : decode c_M_drop 20 = .ok (.ireturn, 1) := by decide +kernel
theorem d_M_forge_0 : decode c_M_forge 0 = .ok (.aload_n 0, 1) := by decide +kernel
theorem d_M_forge_1 : decode c_M_forge 1 = .ok (.iload_n 1, 1) := by decide +kernel
theorem d_M_forge_2 : decode c_M_forge 2 = .ok (.invokevirtual 171, 3) := by decide +kernel
theorem d_M_forge_5 : decode c_M_forge 5 = .ok (.ifCond .eq 37, 3) := by decide +kernel
theorem d_M_forge_8 : decode c_M_forge 8 = .ok (.aload_n 0, 1) := by decide +kernel
theorem d_M_forge_9 : decode c_M_forge 9 = .ok (.iload_n 1, 1) := by decide +kernel
theorem d_M_forge_10 : decode c_M_forge 10 = .ok (.invokevirtual 174, 3) := by decide +kernel
theorem d_M_forge_13 : decode c_M_forge 13 = .ok (.ifCond .eq 29, 3) := by decide +kernel
theorem d_M_forge_16 : decode c_M_forge 16 = .ok (.iload_n 2, 1) := by decide +kernel
theorem d_M_forge_17 : decode c_M_forge 17 = .ok (.aload_n 0, 1) := by decide +kernel
theorem d_M_forge_18 : decode c_M_forge 18 = .ok (.getfield 26, 3) := by decide +kernel
theorem d_M_forge_21 : decode c_M_forge 21 = .ok (.iload_n 1, 1) := by decide +kernel
theorem d_M_forge_22 : decode c_M_forge 22 = .ok (.iaload, 1) := by decide +kernel
theorem d_M_forge_23 : decode c_M_forge 23 = .ok (.if_icmp .le 19, 3) := by decide +kernel
theorem d_M_forge_26 : decode c_M_forge 26 = .ok (.iload_n 2, 1) := by decide +kernel
theorem d_M_forge_27 : decode c_M_forge 27 = .ok (.sipush 9999, 3) := by decide +kernel
theorem d_M_forge_30 : decode c_M_forge 30 = .ok (.if_icmp .gt 12, 3) := by decide +kernel
theorem d_M_forge_33 : decode c_M_forge 33 = .ok (.aload_n 0, 1) := by decide +kernel
theorem d_M_forge_34 : decode c_M_forge 34 = .ok (.getfield 22, 3) := by decide +kernel
theorem d_M_forge_37 : decode c_M_forge 37 = .ok (.bipush 40, 2) := by decide +kernel
theorem d_M_forge_39 : decode c_M_forge 39 = .ok (.if_icmp .lt 5, 3) := by decide +kernel
theorem d_M_forge_42 : decode c_M_forge 42 = .ok (.iconst (-1), 1) := by decide +kernel
theorem d_M_forge_43 : decode c_M_forge 43 = .ok (.ireturn, 1) := by decide +kernel
theorem d_M_forge_44 : decode c_M_forge 44 = .ok (.aload_n 0, 1) := by decide +kernel
theorem d_M_forge_45 : decode c_M_forge 45 = .ok (.iload_n 2, 1) := by decide +kernel
theorem d_M_forge_46 : decode c_M_forge 46 = .ok (.invokevirtual 127, 3) := by decide +kernel
theorem d_M_forge_49 : decode c_M_forge 49 = .ok (.istore 4, 2) := by decide +kernel
theorem d_M_forge_51 : decode c_M_forge 51 = .ok (.aload_n 0, 1) := by decide +kernel
theorem d_M_forge_52 : decode c_M_forge 52 = .ok (.iload 4, 2) := by decide +kernel
theorem d_M_forge_54 : decode c_M_forge 54 = .ok (.invokevirtual 154, 3) := by decide +kernel
theorem d_M_forge_57 : decode c_M_forge 57 = .ok (.ifCond .eq 18, 3) := by decide +kernel
theorem d_M_forge_60 : decode c_M_forge 60 = .ok (.iload_n 3, 1) := by decide +kernel
theorem d_M_forge_61 : decode c_M_forge 61 = .ok (.iconst 1, 1) := by decide +kernel
theorem d_M_forge_62 : decode c_M_forge 62 = .ok (.aload_n 0, 1) := by decide +kernel
theorem d_M_forge_63 : decode c_M_forge 63 = .ok (.getfield 137, 3) := by decide +kernel
theorem d_M_forge_66 : decode c_M_forge 66 = .ok (.ishl, 1) := by decide +kernel
theorem d_M_forge_67 : decode c_M_forge 67 = .ok (.iconst 1, 1) := by decide +kernel
theorem d_M_forge_68 : decode c_M_forge 68 = .ok (.isub, 1) := by decide +kernel
theorem d_M_forge_69 : decode c_M_forge 69 = .ok (.iconst (-1), 1) := by decide +kernel
theorem d_M_forge_70 : decode c_M_forge 70 = .ok (.ixor, 1) := by decide +kernel
theorem d_M_forge_71 : decode c_M_forge 71 = .ok (.iand, 1) := by decide +kernel
theorem d_M_forge_72 : decode c_M_forge 72 = .ok (.ifCond .eq 5, 3) := by decide +kernel
theorem d_M_forge_75 : decode c_M_forge 75 = .ok (.iconst (-1), 1) := by decide +kernel
theorem d_M_forge_76 : decode c_M_forge 76 = .ok (.ireturn, 1) := by decide +kernel
theorem d_M_forge_77 : decode c_M_forge 77 = .ok (.aload_n 0, 1) := by decide +kernel
theorem d_M_forge_78 : decode c_M_forge 78 = .ok (.iload_n 2, 1) := by decide +kernel
theorem d_M_forge_79 : decode c_M_forge 79 = .ok (.iload_n 1, 1) := by decide +kernel
theorem d_M_forge_80 : decode c_M_forge 80 = .ok (.iload_n 3, 1) := by decide +kernel
theorem d_M_forge_81 : decode c_M_forge 81 = .ok (.invokevirtual 146, 3) := by decide +kernel
theorem d_M_forge_84 : decode c_M_forge 84 = .ok (.ireturn, 1) := by decide +kernel
theorem d_M_offer_0 : decode c_M_offer 0 = .ok (.aload_n 0, 1) := by decide +kernel
theorem d_M_offer_1 : decode c_M_offer 1 = .ok (.getfield 96, 3) := by decide +kernel
theorem d_M_offer_4 : decode c_M_offer 4 = .ok (.ifCond .eq 32, 3) := by decide +kernel
theorem d_M_offer_7 : decode c_M_offer 7 = .ok (.iload_n 1, 1) := by decide +kernel
theorem d_M_offer_8 : decode c_M_offer 8 = .ok (.ifCond .eq 28, 3) := by decide +kernel
theorem d_M_offer_11 : decode c_M_offer 11 = .ok (.aload_n 0, 1) := by decide +kernel
theorem d_M_offer_12 : decode c_M_offer 12 = .ok (.iload_n 1, 1) := by decide +kernel
theorem d_M_offer_13 : decode c_M_offer 13 = .ok (.invokevirtual 171, 3) := by decide +kernel
theorem d_M_offer_16 : decode c_M_offer 16 = .ok (.ifCond .eq 20, 3) := by decide +kernel
theorem d_M_offer_19 : decode c_M_offer 19 = .ok (.aload_n 0, 1) := by decide +kernel
theorem d_M_offer_20 : decode c_M_offer 20 = .ok (.iload_n 2, 1) := by decide +kernel
theorem d_M_offer_21 : decode c_M_offer 21 = .ok (.invokevirtual 99, 3) := by decide +kernel
theorem d_M_offer_24 : decode c_M_offer 24 = .ok (.ifCond .eq 12, 3) := by decide +kernel
theorem d_M_offer_27 : decode c_M_offer 27 = .ok (.aload_n 0, 1) := by decide +kernel
theorem d_M_offer_28 : decode c_M_offer 28 = .ok (.getfield 107, 3) := by decide +kernel
theorem d_M_offer_31 : decode c_M_offer 31 = .ok (.bipush 40, 2) := by decide +kernel
theorem d_M_offer_33 : decode c_M_offer 33 = .ok (.if_icmp .lt 5, 3) := by decide +kernel
theorem d_M_offer_36 : decode c_M_offer 36 = .ok (.iconst 0, 1) := by decide +kernel
theorem d_M_offer_37 : decode c_M_offer 37 = .ok (.ireturn, 1) := by decide +kernel
theorem d_M_offer_38 : decode c_M_offer 38 = .ok (.aload_n 0, 1) := by decide +kernel
theorem d_M_offer_39 : decode c_M_offer 39 = .ok (.iconst 0, 1) := by decide +kernel
theorem d_M_offer_40 : decode c_M_offer 40 = .ok (.iconst 0, 1) := by decide +kernel
theorem d_M_offer_41 : decode c_M_offer 41 = .ok (.iload_n 2, 1) := by decide +kernel
theorem d_M_offer_42 : decode c_M_offer 42 = .ok (.iload_n 1, 1) := by decide +kernel
theorem d_M_offer_43 : decode c_M_offer 43 = .ok (.iconst 0, 1) := by decide +kernel
theorem d_M_offer_44 : decode c_M_offer 44 = .ok (.invokevirtual 130, 3) := by decide +kernel
theorem d_M_offer_47 : decode c_M_offer 47 = .ok (.iconst 1, 1) := by decide +kernel
theorem d_M_offer_48 : decode c_M_offer 48 = .ok (.ireturn, 1) := by decide +kernel
theorem d_M_vote_0 : decode c_M_vote 0 = .ok (.aload_n 0, 1) := by decide +kernel
theorem d_M_vote_1 : decode c_M_vote 1 = .ok (.iload_n 1, 1) := by decide +kernel
theorem d_M_vote_2 : decode c_M_vote 2 = .ok (.invokevirtual 154, 3) := by decide +kernel
theorem d_M_vote_5 : decode c_M_vote 5 = .ok (.ifCond .eq 32, 3) := by decide +kernel
theorem d_M_vote_8 : decode c_M_vote 8 = .ok (.iload_n 2, 1) := by decide +kernel
theorem d_M_vote_9 : decode c_M_vote 9 = .ok (.ifCond .eq 28, 3) := by decide +kernel
theorem d_M_vote_12 : decode c_M_vote 12 = .ok (.aload_n 0, 1) := by decide +kernel
theorem d_M_vote_13 : decode c_M_vote 13 = .ok (.iload_n 2, 1) := by decide +kernel
theorem d_M_vote_14 : decode c_M_vote 14 = .ok (.invokevirtual 171, 3) := by decide +kernel
theorem d_M_vote_17 : decode c_M_vote 17 = .ok (.ifCond .eq 20, 3) := by decide +kernel
theorem d_M_vote_20 : decode c_M_vote 20 = .ok (.aload_n 0, 1) := by decide +kernel
theorem d_M_vote_21 : decode c_M_vote 21 = .ok (.iload_n 3, 1) := by decide +kernel
theorem d_M_vote_22 : decode c_M_vote 22 = .ok (.invokevirtual 99, 3) := by decide +kernel
theorem d_M_vote_25 : decode c_M_vote 25 = .ok (.ifCond .eq 12, 3) := by decide +kernel
theorem d_M_vote_28 : decode c_M_vote 28 = .ok (.aload_n 0, 1) := by decide +kernel
theorem d_M_vote_29 : decode c_M_vote 29 = .ok (.getfield 107, 3) := by decide +kernel
theorem d_M_vote_32 : decode c_M_vote 32 = .ok (.bipush 40, 2) := by decide +kernel
theorem d_M_vote_34 : decode c_M_vote 34 = .ok (.if_icmp .lt 5, 3) := by decide +kernel
theorem d_M_vote_37 : decode c_M_vote 37 = .ok (.iconst 0, 1) := by decide +kernel
theorem d_M_vote_38 : decode c_M_vote 38 = .ok (.ireturn, 1) := by decide +kernel
theorem d_M_vote_39 : decode c_M_vote 39 = .ok (.aload_n 0, 1) := by decide +kernel
theorem d_M_vote_40 : decode c_M_vote 40 = .ok (.iconst 1, 1) := by decide +kernel
theorem d_M_vote_41 : decode c_M_vote 41 = .ok (.iload_n 1, 1) := by decide +kernel
theorem d_M_vote_42 : decode c_M_vote 42 = .ok (.iload_n 3, 1) := by decide +kernel
theorem d_M_vote_43 : decode c_M_vote 43 = .ok (.iload_n 2, 1) := by decide +kernel
theorem d_M_vote_44 : decode c_M_vote 44 = .ok (.iconst 0, 1) := by decide +kernel
theorem d_M_vote_45 : decode c_M_vote 45 = .ok (.invokevirtual 130, 3) := by decide +kernel
