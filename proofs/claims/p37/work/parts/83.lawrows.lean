-- ===== decode rows of the law (as printed of the program) =====
theorem dL_law_0 : decode (mC M_L_law) 0 = .ok (.invokestatic 152, 3) := by decide +kernel
theorem dL_law_3 : decode (mC M_L_law) 3 = .ok (.ifCond .eq 9, 3) := by decide +kernel
theorem dL_law_6 : decode (mC M_L_law) 6 = .ok (.invokestatic 156, 3) := by decide +kernel
theorem dL_law_9 : decode (mC M_L_law) 9 = .ok (.ifCond .ne 5, 3) := by decide +kernel
theorem dL_law_12 : decode (mC M_L_law) 12 = .ok (.iconst 0, 1) := by decide +kernel
theorem dL_law_13 : decode (mC M_L_law) 13 = .ok (.ireturn, 1) := by decide +kernel
theorem dL_law_14 : decode (mC M_L_law) 14 = .ok (.new 8, 3) := by decide +kernel
theorem dL_law_17 : decode (mC M_L_law) 17 = .ok (.dup, 1) := by decide +kernel
theorem dL_law_18 : decode (mC M_L_law) 18 = .ok (.invokespecial 131, 3) := by decide +kernel
theorem dL_law_21 : decode (mC M_L_law) 21 = .ok (.astore_n 1, 1) := by decide +kernel
theorem dL_law_22 : decode (mC M_L_law) 22 = .ok (.aload_n 1, 1) := by decide +kernel
theorem dL_law_23 : decode (mC M_L_law) 23 = .ok (.iconst 0, 1) := by decide +kernel
theorem dL_law_24 : decode (mC M_L_law) 24 = .ok (.iconst 0, 1) := by decide +kernel
theorem dL_law_25 : decode (mC M_L_law) 25 = .ok (.iconst 1, 1) := by decide +kernel
theorem dL_law_26 : decode (mC M_L_law) 26 = .ok (.iconst 1, 1) := by decide +kernel
theorem dL_law_27 : decode (mC M_L_law) 27 = .ok (.invokevirtual 29, 3) := by decide +kernel
theorem dL_law_30 : decode (mC M_L_law) 30 = .ok (.ifCond .ne 12, 3) := by decide +kernel
theorem dL_law_33 : decode (mC M_L_law) 33 = .ok (.aload_n 1, 1) := by decide +kernel
theorem dL_law_34 : decode (mC M_L_law) 34 = .ok (.iconst 0, 1) := by decide +kernel
theorem dL_law_35 : decode (mC M_L_law) 35 = .ok (.iconst 0, 1) := by decide +kernel
theorem dL_law_36 : decode (mC M_L_law) 36 = .ok (.invokevirtual 40, 3) := by decide +kernel
theorem dL_law_39 : decode (mC M_L_law) 39 = .ok (.ifCond .eq 5, 3) := by decide +kernel
theorem dL_law_42 : decode (mC M_L_law) 42 = .ok (.iconst 0, 1) := by decide +kernel
theorem dL_law_43 : decode (mC M_L_law) 43 = .ok (.ireturn, 1) := by decide +kernel
theorem dL_law_44 : decode (mC M_L_law) 44 = .ok (.iconst 0, 1) := by decide +kernel
theorem dL_law_45 : decode (mC M_L_law) 45 = .ok (.istore_n 2, 1) := by decide +kernel
theorem dL_law_46 : decode (mC M_L_law) 46 = .ok (.iload_n 2, 1) := by decide +kernel
theorem dL_law_47 : decode (mC M_L_law) 47 = .ok (.bipush 24, 2) := by decide +kernel
theorem dL_law_49 : decode (mC M_L_law) 49 = .ok (.if_icmp .ge 197, 3) := by decide +kernel
theorem dL_law_52 : decode (mC M_L_law) 52 = .ok (.aload_n 0, 1) := by decide +kernel
theorem dL_law_53 : decode (mC M_L_law) 53 = .ok (.arraylength, 1) := by decide +kernel
theorem dL_law_54 : decode (mC M_L_law) 54 = .ok (.ifCond .ne 10, 3) := by decide +kernel
theorem dL_law_57 : decode (mC M_L_law) 57 = .ok (.bipush 71, 2) := by decide +kernel
theorem dL_law_59 : decode (mC M_L_law) 59 = .ok (.iload_n 2, 1) := by decide +kernel
theorem dL_law_60 : decode (mC M_L_law) 60 = .ok (.imul, 1) := by decide +kernel
theorem dL_law_61 : decode (mC M_L_law) 61 = .ok (.goto 12, 3) := by decide +kernel
theorem dL_law_64 : decode (mC M_L_law) 64 = .ok (.aload_n 0, 1) := by decide +kernel
theorem dL_law_65 : decode (mC M_L_law) 65 = .ok (.iload_n 2, 1) := by decide +kernel
theorem dL_law_66 : decode (mC M_L_law) 66 = .ok (.aload_n 0, 1) := by decide +kernel
theorem dL_law_67 : decode (mC M_L_law) 67 = .ok (.arraylength, 1) := by decide +kernel
theorem dL_law_68 : decode (mC M_L_law) 68 = .ok (.irem, 1) := by decide +kernel
theorem dL_law_69 : decode (mC M_L_law) 69 = .ok (.iaload, 1) := by decide +kernel
theorem dL_law_70 : decode (mC M_L_law) 70 = .ok (.bipush 8, 2) := by decide +kernel
theorem dL_law_72 : decode (mC M_L_law) 72 = .ok (.iushr, 1) := by decide +kernel
theorem dL_law_73 : decode (mC M_L_law) 73 = .ok (.istore_n 3, 1) := by decide +kernel
theorem dL_law_74 : decode (mC M_L_law) 74 = .ok (.aload_n 1, 1) := by decide +kernel
theorem dL_law_75 : decode (mC M_L_law) 75 = .ok (.iconst 0, 1) := by decide +kernel
theorem dL_law_76 : decode (mC M_L_law) 76 = .ok (.iload_n 3, 1) := by decide +kernel
theorem dL_law_77 : decode (mC M_L_law) 77 = .ok (.bipush 8, 2) := by decide +kernel
theorem dL_law_79 : decode (mC M_L_law) 79 = .ok (.irem, 1) := by decide +kernel
theorem dL_law_80 : decode (mC M_L_law) 80 = .ok (.iconst 1, 1) := by decide +kernel
theorem dL_law_81 : decode (mC M_L_law) 81 = .ok (.iload_n 3, 1) := by decide +kernel
theorem dL_law_82 : decode (mC M_L_law) 82 = .ok (.bipush 40, 2) := by decide +kernel
theorem dL_law_84 : decode (mC M_L_law) 84 = .ok (.irem, 1) := by decide +kernel
theorem dL_law_85 : decode (mC M_L_law) 85 = .ok (.iadd, 1) := by decide +kernel
theorem dL_law_86 : decode (mC M_L_law) 86 = .ok (.invokevirtual 99, 3) := by decide +kernel
theorem dL_law_89 : decode (mC M_L_law) 89 = .ok (.istore 4, 2) := by decide +kernel
theorem dL_law_91 : decode (mC M_L_law) 91 = .ok (.iload 4, 2) := by decide +kernel
theorem dL_law_93 : decode (mC M_L_law) 93 = .ok (.aload_n 1, 1) := by decide +kernel
theorem dL_law_94 : decode (mC M_L_law) 94 = .ok (.iconst 0, 1) := by decide +kernel
theorem dL_law_95 : decode (mC M_L_law) 95 = .ok (.iload_n 3, 1) := by decide +kernel
theorem dL_law_96 : decode (mC M_L_law) 96 = .ok (.bipush 8, 2) := by decide +kernel
theorem dL_law_98 : decode (mC M_L_law) 98 = .ok (.irem, 1) := by decide +kernel
theorem dL_law_99 : decode (mC M_L_law) 99 = .ok (.iconst 1, 1) := by decide +kernel
theorem dL_law_100 : decode (mC M_L_law) 100 = .ok (.iload_n 3, 1) := by decide +kernel
theorem dL_law_101 : decode (mC M_L_law) 101 = .ok (.bipush 40, 2) := by decide +kernel
theorem dL_law_103 : decode (mC M_L_law) 103 = .ok (.irem, 1) := by decide +kernel
theorem dL_law_104 : decode (mC M_L_law) 104 = .ok (.iadd, 1) := by decide +kernel
theorem dL_law_105 : decode (mC M_L_law) 105 = .ok (.invokevirtual 102, 3) := by decide +kernel
theorem dL_law_108 : decode (mC M_L_law) 108 = .ok (.if_icmp .ne 130, 3) := by decide +kernel
theorem dL_law_111 : decode (mC M_L_law) 111 = .ok (.iload 4, 2) := by decide +kernel
theorem dL_law_113 : decode (mC M_L_law) 113 = .ok (.ifCond .lt 125, 3) := by decide +kernel
theorem dL_law_116 : decode (mC M_L_law) 116 = .ok (.aload_n 1, 1) := by decide +kernel
theorem dL_law_117 : decode (mC M_L_law) 117 = .ok (.iconst 0, 1) := by decide +kernel
theorem dL_law_118 : decode (mC M_L_law) 118 = .ok (.invokevirtual 77, 3) := by decide +kernel
theorem dL_law_121 : decode (mC M_L_law) 121 = .ok (.ifCond .ne 28, 3) := by decide +kernel
theorem dL_law_124 : decode (mC M_L_law) 124 = .ok (.aload_n 1, 1) := by decide +kernel
theorem dL_law_125 : decode (mC M_L_law) 125 = .ok (.bipush 9, 2) := by decide +kernel
theorem dL_law_127 : decode (mC M_L_law) 127 = .ok (.iconst 0, 1) := by decide +kernel
theorem dL_law_128 : decode (mC M_L_law) 128 = .ok (.iload_n 3, 1) := by decide +kernel
theorem dL_law_129 : decode (mC M_L_law) 129 = .ok (.bipush 8, 2) := by decide +kernel
theorem dL_law_131 : decode (mC M_L_law) 131 = .ok (.irem, 1) := by decide +kernel
theorem dL_law_132 : decode (mC M_L_law) 132 = .ok (.iconst 1, 1) := by decide +kernel
theorem dL_law_133 : decode (mC M_L_law) 133 = .ok (.iload_n 3, 1) := by decide +kernel
theorem dL_law_134 : decode (mC M_L_law) 134 = .ok (.bipush 8, 2) := by decide +kernel
theorem dL_law_136 : decode (mC M_L_law) 136 = .ok (.idiv, 1) := by decide +kernel
theorem dL_law_137 : decode (mC M_L_law) 137 = .ok (.bipush 40, 2) := by decide +kernel
theorem dL_law_139 : decode (mC M_L_law) 139 = .ok (.irem, 1) := by decide +kernel
theorem dL_law_140 : decode (mC M_L_law) 140 = .ok (.iadd, 1) := by decide +kernel
theorem dL_law_141 : decode (mC M_L_law) 141 = .ok (.invokestatic 122, 3) := by decide +kernel
theorem dL_law_144 : decode (mC M_L_law) 144 = .ok (.bipush (-7), 2) := by decide +kernel
theorem dL_law_146 : decode (mC M_L_law) 146 = .ok (.if_icmp .lt 92, 3) := by decide +kernel
theorem dL_law_149 : decode (mC M_L_law) 149 = .ok (.aload_n 1, 1) := by decide +kernel
theorem dL_law_150 : decode (mC M_L_law) 150 = .ok (.iconst 0, 1) := by decide +kernel
theorem dL_law_151 : decode (mC M_L_law) 151 = .ok (.iconst 0, 1) := by decide +kernel
theorem dL_law_152 : decode (mC M_L_law) 152 = .ok (.invokevirtual 96, 3) := by decide +kernel
theorem dL_law_155 : decode (mC M_L_law) 155 = .ok (.ifCond .lt 83, 3) := by decide +kernel
theorem dL_law_158 : decode (mC M_L_law) 158 = .ok (.aload_n 1, 1) := by decide +kernel
theorem dL_law_159 : decode (mC M_L_law) 159 = .ok (.iconst 0, 1) := by decide +kernel
theorem dL_law_160 : decode (mC M_L_law) 160 = .ok (.invokevirtual 62, 3) := by decide +kernel
theorem dL_law_163 : decode (mC M_L_law) 163 = .ok (.aload_n 1, 1) := by decide +kernel
theorem dL_law_164 : decode (mC M_L_law) 164 = .ok (.iconst 0, 1) := by decide +kernel
theorem dL_law_165 : decode (mC M_L_law) 165 = .ok (.invokevirtual 65, 3) := by decide +kernel
theorem dL_law_168 : decode (mC M_L_law) 168 = .ok (.if_icmp .ne 70, 3) := by decide +kernel
theorem dL_law_171 : decode (mC M_L_law) 171 = .ok (.aload_n 1, 1) := by decide +kernel
theorem dL_law_172 : decode (mC M_L_law) 172 = .ok (.iconst 1, 1) := by decide +kernel
theorem dL_law_173 : decode (mC M_L_law) 173 = .ok (.iconst 1, 1) := by decide +kernel
theorem dL_law_174 : decode (mC M_L_law) 174 = .ok (.iload_n 3, 1) := by decide +kernel
theorem dL_law_175 : decode (mC M_L_law) 175 = .ok (.iconst 3, 1) := by decide +kernel
theorem dL_law_176 : decode (mC M_L_law) 176 = .ok (.irem, 1) := by decide +kernel
theorem dL_law_177 : decode (mC M_L_law) 177 = .ok (.iadd, 1) := by decide +kernel
theorem dL_law_178 : decode (mC M_L_law) 178 = .ok (.iload_n 3, 1) := by decide +kernel
theorem dL_law_179 : decode (mC M_L_law) 179 = .ok (.bipush 8, 2) := by decide +kernel
theorem dL_law_181 : decode (mC M_L_law) 181 = .ok (.irem, 1) := by decide +kernel
theorem dL_law_182 : decode (mC M_L_law) 182 = .ok (.iconst 0, 1) := by decide +kernel
theorem dL_law_183 : decode (mC M_L_law) 183 = .ok (.invokestatic 122, 3) := by decide +kernel
theorem dL_law_186 : decode (mC M_L_law) 186 = .ok (.bipush (-73), 2) := by decide +kernel
theorem dL_law_188 : decode (mC M_L_law) 188 = .ok (.if_icmp .lt 50, 3) := by decide +kernel
theorem dL_law_191 : decode (mC M_L_law) 191 = .ok (.aload_n 1, 1) := by decide +kernel
theorem dL_law_192 : decode (mC M_L_law) 192 = .ok (.iconst 2, 1) := by decide +kernel
theorem dL_law_193 : decode (mC M_L_law) 193 = .ok (.iconst 1, 1) := by decide +kernel
theorem dL_law_194 : decode (mC M_L_law) 194 = .ok (.iload_n 3, 1) := by decide +kernel
theorem dL_law_195 : decode (mC M_L_law) 195 = .ok (.iconst 3, 1) := by decide +kernel
theorem dL_law_196 : decode (mC M_L_law) 196 = .ok (.idiv, 1) := by decide +kernel
theorem dL_law_197 : decode (mC M_L_law) 197 = .ok (.iconst 3, 1) := by decide +kernel
theorem dL_law_198 : decode (mC M_L_law) 198 = .ok (.irem, 1) := by decide +kernel
theorem dL_law_199 : decode (mC M_L_law) 199 = .ok (.iadd, 1) := by decide +kernel
theorem dL_law_200 : decode (mC M_L_law) 200 = .ok (.iconst 0, 1) := by decide +kernel
theorem dL_law_201 : decode (mC M_L_law) 201 = .ok (.iconst 0, 1) := by decide +kernel
theorem dL_law_202 : decode (mC M_L_law) 202 = .ok (.invokestatic 122, 3) := by decide +kernel
theorem dL_law_205 : decode (mC M_L_law) 205 = .ok (.bipush (-73), 2) := by decide +kernel
theorem dL_law_207 : decode (mC M_L_law) 207 = .ok (.if_icmp .lt 31, 3) := by decide +kernel
theorem dL_law_210 : decode (mC M_L_law) 210 = .ok (.aload_n 1, 1) := by decide +kernel
theorem dL_law_211 : decode (mC M_L_law) 211 = .ok (.iconst 1, 1) := by decide +kernel
theorem dL_law_212 : decode (mC M_L_law) 212 = .ok (.iload_n 3, 1) := by decide +kernel
theorem dL_law_213 : decode (mC M_L_law) 213 = .ok (.bipush 30, 2) := by decide +kernel
theorem dL_law_215 : decode (mC M_L_law) 215 = .ok (.irem, 1) := by decide +kernel
theorem dL_law_216 : decode (mC M_L_law) 216 = .ok (.iadd, 1) := by decide +kernel
theorem dL_law_217 : decode (mC M_L_law) 217 = .ok (.invokevirtual 26, 3) := by decide +kernel
theorem dL_law_220 : decode (mC M_L_law) 220 = .ok (.ifCond .lt 18, 3) := by decide +kernel
theorem dL_law_223 : decode (mC M_L_law) 223 = .ok (.iload_n 2, 1) := by decide +kernel
theorem dL_law_224 : decode (mC M_L_law) 224 = .ok (.bipush 6, 2) := by decide +kernel
theorem dL_law_226 : decode (mC M_L_law) 226 = .ok (.irem, 1) := by decide +kernel
theorem dL_law_227 : decode (mC M_L_law) 227 = .ok (.ifCond .ne 13, 3) := by decide +kernel
theorem dL_law_230 : decode (mC M_L_law) 230 = .ok (.aload_n 1, 1) := by decide +kernel
theorem dL_law_231 : decode (mC M_L_law) 231 = .ok (.iconst 1, 1) := by decide +kernel
theorem dL_law_232 : decode (mC M_L_law) 232 = .ok (.invokestatic 132, 3) := by decide +kernel
theorem dL_law_235 : decode (mC M_L_law) 235 = .ok (.ifCond .ne 5, 3) := by decide +kernel
theorem dL_law_238 : decode (mC M_L_law) 238 = .ok (.iconst 0, 1) := by decide +kernel
theorem dL_law_239 : decode (mC M_L_law) 239 = .ok (.ireturn, 1) := by decide +kernel
theorem dL_law_240 : decode (mC M_L_law) 240 = .ok (.iinc 2 1, 3) := by decide +kernel
theorem dL_law_243 : decode (mC M_L_law) 243 = .ok (.goto (-197), 3) := by decide +kernel
theorem dL_law_246 : decode (mC M_L_law) 246 = .ok (.aload_n 1, 1) := by decide +kernel
theorem dL_law_247 : decode (mC M_L_law) 247 = .ok (.iconst 0, 1) := by decide +kernel
theorem dL_law_248 : decode (mC M_L_law) 248 = .ok (.invokevirtual 105, 3) := by decide +kernel
theorem dL_law_251 : decode (mC M_L_law) 251 = .ok (.ifCond .le 7, 3) := by decide +kernel
theorem dL_law_254 : decode (mC M_L_law) 254 = .ok (.iconst 1, 1) := by decide +kernel
theorem dL_law_255 : decode (mC M_L_law) 255 = .ok (.goto 4, 3) := by decide +kernel
theorem dL_law_258 : decode (mC M_L_law) 258 = .ok (.iconst 0, 1) := by decide +kernel
theorem dL_law_259 : decode (mC M_L_law) 259 = .ok (.ireturn, 1) := by decide +kernel
