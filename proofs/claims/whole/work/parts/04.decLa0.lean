theorem d_La_alike_0 : decode b_La_alike 0 = .ok (.aload 5, 2) := by decide +kernel
theorem d_La_alike_2 : decode b_La_alike 2 = .ok (.iconst 0, 1) := by decide +kernel
theorem d_La_alike_3 : decode b_La_alike 3 = .ok (.aload_n 0, 1) := by decide +kernel
theorem d_La_alike_4 : decode b_La_alike 4 = .ok (.iload_n 1, 1) := by decide +kernel
theorem d_La_alike_5 : decode b_La_alike 5 = .ok (.iload_n 2, 1) := by decide +kernel
theorem d_La_alike_6 : decode b_La_alike 6 = .ok (.iload_n 3, 1) := by decide +kernel
theorem d_La_alike_7 : decode b_La_alike 7 = .ok (.iload 4, 2) := by decide +kernel
theorem d_La_alike_9 : decode b_La_alike 9 = .ok (.invokevirtual 7, 3) := by decide +kernel
theorem d_La_alike_12 : decode b_La_alike 12 = .ok (.ifCond .eq (7), 3) := by decide +kernel
theorem d_La_alike_15 : decode b_La_alike 15 = .ok (.lconst 1, 1) := by decide +kernel
theorem d_La_alike_16 : decode b_La_alike 16 = .ok (.goto (4), 3) := by decide +kernel
theorem d_La_alike_19 : decode b_La_alike 19 = .ok (.lconst 0, 1) := by decide +kernel
theorem d_La_alike_20 : decode b_La_alike 20 = .ok (.lastore, 1) := by decide +kernel
theorem d_La_alike_21 : decode b_La_alike 21 = .ok (.goto (7), 3) := by decide +kernel
theorem d_La_alike_24 : decode b_La_alike 24 = .ok (.astore 6, 2) := by decide +kernel
theorem d_La_alike_26 : decode b_La_alike 26 = .ok (.iconst 1, 1) := by decide +kernel
theorem d_La_alike_27 : decode b_La_alike 27 = .ok (.ireturn, 1) := by decide +kernel
theorem d_La_alike_28 : decode b_La_alike 28 = .ok (.iconst 0, 1) := by decide +kernel
theorem d_La_alike_29 : decode b_La_alike 29 = .ok (.ireturn, 1) := by decide +kernel
theorem d_La_home_0 : decode b_La_home 0 = .ok (.aload_n 2, 1) := by decide +kernel
theorem d_La_home_1 : decode b_La_home 1 = .ok (.iconst 0, 1) := by decide +kernel
theorem d_La_home_2 : decode b_La_home 2 = .ok (.aload_n 0, 1) := by decide +kernel
theorem d_La_home_3 : decode b_La_home 3 = .ok (.iload_n 1, 1) := by decide +kernel
theorem d_La_home_4 : decode b_La_home 4 = .ok (.invokevirtual 15, 3) := by decide +kernel
theorem d_La_home_7 : decode b_La_home 7 = .ok (.i2l, 1) := by decide +kernel
theorem d_La_home_8 : decode b_La_home 8 = .ok (.lastore, 1) := by decide +kernel
theorem d_La_home_9 : decode b_La_home 9 = .ok (.goto (6), 3) := by decide +kernel
theorem d_La_home_12 : decode b_La_home 12 = .ok (.astore_n 3, 1) := by decide +kernel
theorem d_La_home_13 : decode b_La_home 13 = .ok (.iconst 1, 1) := by decide +kernel
theorem d_La_home_14 : decode b_La_home 14 = .ok (.ireturn, 1) := by decide +kernel
theorem d_La_home_15 : decode b_La_home 15 = .ok (.iconst 0, 1) := by decide +kernel
theorem d_La_home_16 : decode b_La_home 16 = .ok (.ireturn, 1) := by decide +kernel
theorem d_La_chain_0 : decode b_La_chain 0 = .ok (.aload_n 3, 1) := by decide +kernel
theorem d_La_chain_1 : decode b_La_chain 1 = .ok (.iconst 0, 1) := by decide +kernel
theorem d_La_chain_2 : decode b_La_chain 2 = .ok (.aload_n 0, 1) := by decide +kernel
theorem d_La_chain_3 : decode b_La_chain 3 = .ok (.iload_n 1, 1) := by decide +kernel
theorem d_La_chain_4 : decode b_La_chain 4 = .ok (.iload_n 2, 1) := by decide +kernel
theorem d_La_chain_5 : decode b_La_chain 5 = .ok (.invokevirtual 21, 3) := by decide +kernel
theorem d_La_chain_8 : decode b_La_chain 8 = .ok (.i2l, 1) := by decide +kernel
theorem d_La_chain_9 : decode b_La_chain 9 = .ok (.lastore, 1) := by decide +kernel
theorem d_La_chain_10 : decode b_La_chain 10 = .ok (.goto (7), 3) := by decide +kernel
theorem d_La_chain_13 : decode b_La_chain 13 = .ok (.astore 4, 2) := by decide +kernel
theorem d_La_chain_15 : decode b_La_chain 15 = .ok (.iconst 1, 1) := by decide +kernel
theorem d_La_chain_16 : decode b_La_chain 16 = .ok (.ireturn, 1) := by decide +kernel
theorem d_La_chain_17 : decode b_La_chain 17 = .ok (.iconst 0, 1) := by decide +kernel
theorem d_La_chain_18 : decode b_La_chain 18 = .ok (.ireturn, 1) := by decide +kernel
theorem d_La_letter_0 : decode b_La_letter 0 = .ok (.aload_n 2, 1) := by decide +kernel
theorem d_La_letter_1 : decode b_La_letter 1 = .ok (.iconst 0, 1) := by decide +kernel
theorem d_La_letter_2 : decode b_La_letter 2 = .ok (.aload_n 0, 1) := by decide +kernel
theorem d_La_letter_3 : decode b_La_letter 3 = .ok (.iload_n 1, 1) := by decide +kernel
theorem d_La_letter_4 : decode b_La_letter 4 = .ok (.invokevirtual 25, 3) := by decide +kernel
theorem d_La_letter_7 : decode b_La_letter 7 = .ok (.i2l, 1) := by decide +kernel
theorem d_La_letter_8 : decode b_La_letter 8 = .ok (.lastore, 1) := by decide +kernel
theorem d_La_letter_9 : decode b_La_letter 9 = .ok (.goto (6), 3) := by decide +kernel
theorem d_La_letter_12 : decode b_La_letter 12 = .ok (.astore_n 3, 1) := by decide +kernel
theorem d_La_letter_13 : decode b_La_letter 13 = .ok (.iconst 1, 1) := by decide +kernel
theorem d_La_letter_14 : decode b_La_letter 14 = .ok (.ireturn, 1) := by decide +kernel
theorem d_La_letter_15 : decode b_La_letter 15 = .ok (.iconst 0, 1) := by decide +kernel
theorem d_La_letter_16 : decode b_La_letter 16 = .ok (.ireturn, 1) := by decide +kernel
theorem d_La_law_0 : decode b_La_law 0 = .ok (.new 8, 3) := by decide +kernel
theorem d_La_law_3 : decode b_La_law 3 = .ok (.dup, 1) := by decide +kernel
theorem d_La_law_4 : decode b_La_law 4 = .ok (.invokespecial 30, 3) := by decide +kernel
theorem d_La_law_7 : decode b_La_law 7 = .ok (.astore_n 1, 1) := by decide +kernel
theorem d_La_law_8 : decode b_La_law 8 = .ok (.new 31, 3) := by decide +kernel
theorem d_La_law_11 : decode b_La_law 11 = .ok (.dup, 1) := by decide +kernel
theorem d_La_law_12 : decode b_La_law 12 = .ok (.invokespecial 33, 3) := by decide +kernel
theorem d_La_law_15 : decode b_La_law 15 = .ok (.astore_n 2, 1) := by decide +kernel
theorem d_La_law_16 : decode b_La_law 16 = .ok (.iconst 1, 1) := by decide +kernel
theorem d_La_law_17 : decode b_La_law 17 = .ok (.newarray .long, 2) := by decide +kernel
theorem d_La_law_19 : decode b_La_law 19 = .ok (.astore_n 3, 1) := by decide +kernel
theorem d_La_law_20 : decode b_La_law 20 = .ok (.iconst 0, 1) := by decide +kernel
theorem d_La_law_21 : decode b_La_law 21 = .ok (.istore 4, 2) := by decide +kernel
theorem d_La_law_23 : decode b_La_law 23 = .ok (.iload 4, 2) := by decide +kernel
theorem d_La_law_25 : decode b_La_law 25 = .ok (.aload_n 0, 1) := by decide +kernel
theorem d_La_law_26 : decode b_La_law 26 = .ok (.arraylength, 1) := by decide +kernel
theorem d_La_law_27 : decode b_La_law 27 = .ok (.bipush (6), 2) := by decide +kernel
theorem d_La_law_29 : decode b_La_law 29 = .ok (.isub, 1) := by decide +kernel
theorem d_La_law_30 : decode b_La_law 30 = .ok (.if_icmp .gt (764), 3) := by decide +kernel
theorem d_La_law_33 : decode b_La_law 33 = .ok (.aload_n 0, 1) := by decide +kernel
theorem d_La_law_34 : decode b_La_law 34 = .ok (.iload 4, 2) := by decide +kernel
theorem d_La_law_36 : decode b_La_law 36 = .ok (.iaload, 1) := by decide +kernel
theorem d_La_law_37 : decode b_La_law 37 = .ok (.bipush (15), 2) := by decide +kernel
theorem d_La_law_39 : decode b_La_law 39 = .ok (.iand, 1) := by decide +kernel
theorem d_La_law_40 : decode b_La_law 40 = .ok (.tableswitch (748) (0) (14) #[(76), (113), (186), (247), (272), (309), (408), (433), (470), (495), (551), (619), (675), (712), (723)], 76) := by decide +kernel
theorem d_La_law_116 : decode b_La_law 116 = .ok (.aload_n 1, 1) := by decide +kernel
theorem d_La_law_117 : decode b_La_law 117 = .ok (.aload_n 0, 1) := by decide +kernel
theorem d_La_law_118 : decode b_La_law 118 = .ok (.iload 4, 2) := by decide +kernel
theorem d_La_law_120 : decode b_La_law 120 = .ok (.iconst 1, 1) := by decide +kernel
theorem d_La_law_121 : decode b_La_law 121 = .ok (.iadd, 1) := by decide +kernel
theorem d_La_law_122 : decode b_La_law 122 = .ok (.iaload, 1) := by decide +kernel
theorem d_La_law_123 : decode b_La_law 123 = .ok (.aload_n 0, 1) := by decide +kernel
theorem d_La_law_124 : decode b_La_law 124 = .ok (.iload 4, 2) := by decide +kernel
theorem d_La_law_126 : decode b_La_law 126 = .ok (.iconst 2, 1) := by decide +kernel
theorem d_La_law_127 : decode b_La_law 127 = .ok (.iadd, 1) := by decide +kernel
theorem d_La_law_128 : decode b_La_law 128 = .ok (.iaload, 1) := by decide +kernel
theorem d_La_law_129 : decode b_La_law 129 = .ok (.invokevirtual 34, 3) := by decide +kernel
theorem d_La_law_132 : decode b_La_law 132 = .ok (.aload_n 2, 1) := by decide +kernel
theorem d_La_law_133 : decode b_La_law 133 = .ok (.aload_n 0, 1) := by decide +kernel
theorem d_La_law_134 : decode b_La_law 134 = .ok (.iload 4, 2) := by decide +kernel
theorem d_La_law_136 : decode b_La_law 136 = .ok (.iconst 1, 1) := by decide +kernel
theorem d_La_law_137 : decode b_La_law 137 = .ok (.iadd, 1) := by decide +kernel
theorem d_La_law_138 : decode b_La_law 138 = .ok (.iaload, 1) := by decide +kernel
theorem d_La_law_139 : decode b_La_law 139 = .ok (.aload_n 0, 1) := by decide +kernel
theorem d_La_law_140 : decode b_La_law 140 = .ok (.iload 4, 2) := by decide +kernel
theorem d_La_law_142 : decode b_La_law 142 = .ok (.iconst 2, 1) := by decide +kernel
theorem d_La_law_143 : decode b_La_law 143 = .ok (.iadd, 1) := by decide +kernel
theorem d_La_law_144 : decode b_La_law 144 = .ok (.iaload, 1) := by decide +kernel
theorem d_La_law_145 : decode b_La_law 145 = .ok (.invokevirtual 37, 3) := by decide +kernel
theorem d_La_law_148 : decode b_La_law 148 = .ok (.if_icmp .eq (640), 3) := by decide +kernel
theorem d_La_law_151 : decode b_La_law 151 = .ok (.iconst 0, 1) := by decide +kernel
theorem d_La_law_152 : decode b_La_law 152 = .ok (.ireturn, 1) := by decide +kernel
theorem d_La_law_153 : decode b_La_law 153 = .ok (.aload_n 1, 1) := by decide +kernel
theorem d_La_law_154 : decode b_La_law 154 = .ok (.aload_n 0, 1) := by decide +kernel
theorem d_La_law_155 : decode b_La_law 155 = .ok (.iload 4, 2) := by decide +kernel
theorem d_La_law_157 : decode b_La_law 157 = .ok (.iconst 1, 1) := by decide +kernel
theorem d_La_law_158 : decode b_La_law 158 = .ok (.iadd, 1) := by decide +kernel
theorem d_La_law_159 : decode b_La_law 159 = .ok (.iaload, 1) := by decide +kernel
theorem d_La_law_160 : decode b_La_law 160 = .ok (.aload_n 0, 1) := by decide +kernel
theorem d_La_law_161 : decode b_La_law 161 = .ok (.iload 4, 2) := by decide +kernel
theorem d_La_law_163 : decode b_La_law 163 = .ok (.iconst 2, 1) := by decide +kernel
theorem d_La_law_164 : decode b_La_law 164 = .ok (.iadd, 1) := by decide +kernel
theorem d_La_law_165 : decode b_La_law 165 = .ok (.iaload, 1) := by decide +kernel
theorem d_La_law_166 : decode b_La_law 166 = .ok (.aload_n 0, 1) := by decide +kernel
theorem d_La_law_167 : decode b_La_law 167 = .ok (.iload 4, 2) := by decide +kernel
theorem d_La_law_169 : decode b_La_law 169 = .ok (.iconst 3, 1) := by decide +kernel
theorem d_La_law_170 : decode b_La_law 170 = .ok (.iadd, 1) := by decide +kernel
theorem d_La_law_171 : decode b_La_law 171 = .ok (.iaload, 1) := by decide +kernel
theorem d_La_law_172 : decode b_La_law 172 = .ok (.aload_n 0, 1) := by decide +kernel
theorem d_La_law_173 : decode b_La_law 173 = .ok (.iload 4, 2) := by decide +kernel
theorem d_La_law_175 : decode b_La_law 175 = .ok (.iconst 4, 1) := by decide +kernel
theorem d_La_law_176 : decode b_La_law 176 = .ok (.iadd, 1) := by decide +kernel
theorem d_La_law_177 : decode b_La_law 177 = .ok (.iaload, 1) := by decide +kernel
theorem d_La_law_178 : decode b_La_law 178 = .ok (.aload_n 0, 1) := by decide +kernel
theorem d_La_law_179 : decode b_La_law 179 = .ok (.iload 4, 2) := by decide +kernel
theorem d_La_law_181 : decode b_La_law 181 = .ok (.iconst 5, 1) := by decide +kernel
theorem d_La_law_182 : decode b_La_law 182 = .ok (.iadd, 1) := by decide +kernel
theorem d_La_law_183 : decode b_La_law 183 = .ok (.iaload, 1) := by decide +kernel
theorem d_La_law_184 : decode b_La_law 184 = .ok (.invokevirtual 38, 3) := by decide +kernel
theorem d_La_law_187 : decode b_La_law 187 = .ok (.aload_n 2, 1) := by decide +kernel
theorem d_La_law_188 : decode b_La_law 188 = .ok (.aload_n 0, 1) := by decide +kernel
theorem d_La_law_189 : decode b_La_law 189 = .ok (.iload 4, 2) := by decide +kernel
theorem d_La_law_191 : decode b_La_law 191 = .ok (.iconst 1, 1) := by decide +kernel
theorem d_La_law_192 : decode b_La_law 192 = .ok (.iadd, 1) := by decide +kernel
theorem d_La_law_193 : decode b_La_law 193 = .ok (.iaload, 1) := by decide +kernel
theorem d_La_law_194 : decode b_La_law 194 = .ok (.aload_n 0, 1) := by decide +kernel
theorem d_La_law_195 : decode b_La_law 195 = .ok (.iload 4, 2) := by decide +kernel
theorem d_La_law_197 : decode b_La_law 197 = .ok (.iconst 2, 1) := by decide +kernel
theorem d_La_law_198 : decode b_La_law 198 = .ok (.iadd, 1) := by decide +kernel
theorem d_La_law_199 : decode b_La_law 199 = .ok (.iaload, 1) := by decide +kernel
theorem d_La_law_200 : decode b_La_law 200 = .ok (.aload_n 0, 1) := by decide +kernel
theorem d_La_law_201 : decode b_La_law 201 = .ok (.iload 4, 2) := by decide +kernel
theorem d_La_law_203 : decode b_La_law 203 = .ok (.iconst 3, 1) := by decide +kernel
theorem d_La_law_204 : decode b_La_law 204 = .ok (.iadd, 1) := by decide +kernel
theorem d_La_law_205 : decode b_La_law 205 = .ok (.iaload, 1) := by decide +kernel
theorem d_La_law_206 : decode b_La_law 206 = .ok (.aload_n 0, 1) := by decide +kernel
theorem d_La_law_207 : decode b_La_law 207 = .ok (.iload 4, 2) := by decide +kernel
theorem d_La_law_209 : decode b_La_law 209 = .ok (.iconst 4, 1) := by decide +kernel
theorem d_La_law_210 : decode b_La_law 210 = .ok (.iadd, 1) := by decide +kernel
theorem d_La_law_211 : decode b_La_law 211 = .ok (.iaload, 1) := by decide +kernel
theorem d_La_law_212 : decode b_La_law 212 = .ok (.aload_n 0, 1) := by decide +kernel
theorem d_La_law_213 : decode b_La_law 213 = .ok (.iload 4, 2) := by decide +kernel
theorem d_La_law_215 : decode b_La_law 215 = .ok (.iconst 5, 1) := by decide +kernel
theorem d_La_law_216 : decode b_La_law 216 = .ok (.iadd, 1) := by decide +kernel
theorem d_La_law_217 : decode b_La_law 217 = .ok (.iaload, 1) := by decide +kernel
theorem d_La_law_218 : decode b_La_law 218 = .ok (.invokevirtual 42, 3) := by decide +kernel
theorem d_La_law_221 : decode b_La_law 221 = .ok (.if_icmp .eq (567), 3) := by decide +kernel
theorem d_La_law_224 : decode b_La_law 224 = .ok (.iconst 0, 1) := by decide +kernel
theorem d_La_law_225 : decode b_La_law 225 = .ok (.ireturn, 1) := by decide +kernel
theorem d_La_law_226 : decode b_La_law 226 = .ok (.aload_n 1, 1) := by decide +kernel
theorem d_La_law_227 : decode b_La_law 227 = .ok (.aload_n 0, 1) := by decide +kernel
theorem d_La_law_228 : decode b_La_law 228 = .ok (.iload 4, 2) := by decide +kernel
theorem d_La_law_230 : decode b_La_law 230 = .ok (.iconst 1, 1) := by decide +kernel
theorem d_La_law_231 : decode b_La_law 231 = .ok (.iadd, 1) := by decide +kernel
theorem d_La_law_232 : decode b_La_law 232 = .ok (.iaload, 1) := by decide +kernel
theorem d_La_law_233 : decode b_La_law 233 = .ok (.aload_n 0, 1) := by decide +kernel
theorem d_La_law_234 : decode b_La_law 234 = .ok (.iload 4, 2) := by decide +kernel
theorem d_La_law_236 : decode b_La_law 236 = .ok (.iconst 2, 1) := by decide +kernel
theorem d_La_law_237 : decode b_La_law 237 = .ok (.iadd, 1) := by decide +kernel
theorem d_La_law_238 : decode b_La_law 238 = .ok (.iaload, 1) := by decide +kernel
theorem d_La_law_239 : decode b_La_law 239 = .ok (.aload_n 0, 1) := by decide +kernel
theorem d_La_law_240 : decode b_La_law 240 = .ok (.iload 4, 2) := by decide +kernel
theorem d_La_law_242 : decode b_La_law 242 = .ok (.iconst 3, 1) := by decide +kernel
theorem d_La_law_243 : decode b_La_law 243 = .ok (.iadd, 1) := by decide +kernel
theorem d_La_law_244 : decode b_La_law 244 = .ok (.iaload, 1) := by decide +kernel
theorem d_La_law_245 : decode b_La_law 245 = .ok (.aload_n 0, 1) := by decide +kernel
theorem d_La_law_246 : decode b_La_law 246 = .ok (.iload 4, 2) := by decide +kernel
theorem d_La_law_248 : decode b_La_law 248 = .ok (.iconst 4, 1) := by decide +kernel
theorem d_La_law_249 : decode b_La_law 249 = .ok (.iadd, 1) := by decide +kernel
theorem d_La_law_250 : decode b_La_law 250 = .ok (.iaload, 1) := by decide +kernel
theorem d_La_law_251 : decode b_La_law 251 = .ok (.invokevirtual 43, 3) := by decide +kernel
theorem d_La_law_254 : decode b_La_law 254 = .ok (.aload_n 2, 1) := by decide +kernel
theorem d_La_law_255 : decode b_La_law 255 = .ok (.aload_n 0, 1) := by decide +kernel
theorem d_La_law_256 : decode b_La_law 256 = .ok (.iload 4, 2) := by decide +kernel
theorem d_La_law_258 : decode b_La_law 258 = .ok (.iconst 1, 1) := by decide +kernel
theorem d_La_law_259 : decode b_La_law 259 = .ok (.iadd, 1) := by decide +kernel
theorem d_La_law_260 : decode b_La_law 260 = .ok (.iaload, 1) := by decide +kernel
theorem d_La_law_261 : decode b_La_law 261 = .ok (.aload_n 0, 1) := by decide +kernel
theorem d_La_law_262 : decode b_La_law 262 = .ok (.iload 4, 2) := by decide +kernel
theorem d_La_law_264 : decode b_La_law 264 = .ok (.iconst 2, 1) := by decide +kernel
theorem d_La_law_265 : decode b_La_law 265 = .ok (.iadd, 1) := by decide +kernel
