abbrev b_LW_cell : ByteArray := method_2_code
def y_LW_cell : MethodName := ⟨"ExploreSharesLaw", "cell", "([II)I"⟩
def w_LW_cell : List Cond := .code y_LW_cell b_LW_cell 2 (some .int) :: xU
theorem d_LW_cell_0 : decode b_LW_cell 0 = .ok (.iload_n 1, 1) := by decide +kernel
theorem d_LW_cell_1 : decode b_LW_cell 1 = .ok (.aload_n 0, 1) := by decide +kernel
theorem d_LW_cell_2 : decode b_LW_cell 2 = .ok (.arraylength, 1) := by decide +kernel
theorem d_LW_cell_3 : decode b_LW_cell 3 = .ok (.if_icmp .ge 9, 3) := by decide +kernel
theorem d_LW_cell_6 : decode b_LW_cell 6 = .ok (.aload_n 0, 1) := by decide +kernel
theorem d_LW_cell_7 : decode b_LW_cell 7 = .ok (.iload_n 1, 1) := by decide +kernel
theorem d_LW_cell_8 : decode b_LW_cell 8 = .ok (.iaload, 1) := by decide +kernel
theorem d_LW_cell_9 : decode b_LW_cell 9 = .ok (.goto 4, 3) := by decide +kernel
theorem d_LW_cell_12 : decode b_LW_cell 12 = .ok (.iconst 0, 1) := by decide +kernel
theorem d_LW_cell_13 : decode b_LW_cell 13 = .ok (.ireturn, 1) := by decide +kernel
abbrev b_LW_fail : ByteArray := method_5_code
def y_LW_fail : MethodName := ⟨"ExploreSharesLaw", "fail", "(LExploreShares;III[J)I"⟩
abbrev h_LW_fail : List (Nat × Nat × Nat × Nat) := [(0, 12, 15, 25), (0, 12, 19, 19), (0, 12, 23, 13)]
def w_LW_fail : List Cond := .codeWith y_LW_fail b_LW_fail 6 (some .int) h_LW_fail :: xU
theorem d_LW_fail_0 : decode b_LW_fail 0 = .ok (.aload 4, 2) := by decide +kernel
theorem d_LW_fail_2 : decode b_LW_fail 2 = .ok (.iconst 0, 1) := by decide +kernel
theorem d_LW_fail_3 : decode b_LW_fail 3 = .ok (.aload_n 0, 1) := by decide +kernel
theorem d_LW_fail_4 : decode b_LW_fail 4 = .ok (.iload_n 1, 1) := by decide +kernel
theorem d_LW_fail_5 : decode b_LW_fail 5 = .ok (.iload_n 2, 1) := by decide +kernel
theorem d_LW_fail_6 : decode b_LW_fail 6 = .ok (.iload_n 3, 1) := by decide +kernel
theorem d_LW_fail_7 : decode b_LW_fail 7 = .ok (.invokevirtual 21, 3) := by decide +kernel
theorem d_LW_fail_10 : decode b_LW_fail 10 = .ok (.i2l, 1) := by decide +kernel
theorem d_LW_fail_11 : decode b_LW_fail 11 = .ok (.lastore, 1) := by decide +kernel
theorem d_LW_fail_12 : decode b_LW_fail 12 = .ok (.goto 15, 3) := by decide +kernel
theorem d_LW_fail_15 : decode b_LW_fail 15 = .ok (.astore 5, 2) := by decide +kernel
theorem d_LW_fail_17 : decode b_LW_fail 17 = .ok (.iconst 1, 1) := by decide +kernel
theorem d_LW_fail_18 : decode b_LW_fail 18 = .ok (.ireturn, 1) := by decide +kernel
theorem d_LW_fail_19 : decode b_LW_fail 19 = .ok (.astore 5, 2) := by decide +kernel
theorem d_LW_fail_21 : decode b_LW_fail 21 = .ok (.iconst 2, 1) := by decide +kernel
theorem d_LW_fail_22 : decode b_LW_fail 22 = .ok (.ireturn, 1) := by decide +kernel
theorem d_LW_fail_23 : decode b_LW_fail 23 = .ok (.astore 5, 2) := by decide +kernel
theorem d_LW_fail_25 : decode b_LW_fail 25 = .ok (.iconst 3, 1) := by decide +kernel
theorem d_LW_fail_26 : decode b_LW_fail 26 = .ok (.ireturn, 1) := by decide +kernel
theorem d_LW_fail_27 : decode b_LW_fail 27 = .ok (.iconst 0, 1) := by decide +kernel
theorem d_LW_fail_28 : decode b_LW_fail 28 = .ok (.ireturn, 1) := by decide +kernel
abbrev b_LW_failed : ByteArray := method_12_code
def y_LW_failed : MethodName := ⟨"ExploreSharesLaw", "failed", "(LExploreShares;II[J)I"⟩
abbrev h_LW_failed : List (Nat × Nat × Nat × Nat) := [(0, 10, 13, 25)]
def w_LW_failed : List Cond := .codeWith y_LW_failed b_LW_failed 5 (some .int) h_LW_failed :: xU
theorem d_LW_failed_0 : decode b_LW_failed 0 = .ok (.aload_n 3, 1) := by decide +kernel
theorem d_LW_failed_1 : decode b_LW_failed 1 = .ok (.iconst 0, 1) := by decide +kernel
theorem d_LW_failed_2 : decode b_LW_failed 2 = .ok (.aload_n 0, 1) := by decide +kernel
theorem d_LW_failed_3 : decode b_LW_failed 3 = .ok (.iload_n 1, 1) := by decide +kernel
theorem d_LW_failed_4 : decode b_LW_failed 4 = .ok (.iload_n 2, 1) := by decide +kernel
theorem d_LW_failed_5 : decode b_LW_failed 5 = .ok (.invokevirtual 48, 3) := by decide +kernel
theorem d_LW_failed_8 : decode b_LW_failed 8 = .ok (.i2l, 1) := by decide +kernel
theorem d_LW_failed_9 : decode b_LW_failed 9 = .ok (.lastore, 1) := by decide +kernel
theorem d_LW_failed_10 : decode b_LW_failed 10 = .ok (.goto 7, 3) := by decide +kernel
theorem d_LW_failed_13 : decode b_LW_failed 13 = .ok (.astore 4, 2) := by decide +kernel
theorem d_LW_failed_15 : decode b_LW_failed 15 = .ok (.iconst 1, 1) := by decide +kernel
theorem d_LW_failed_16 : decode b_LW_failed 16 = .ok (.ireturn, 1) := by decide +kernel
theorem d_LW_failed_17 : decode b_LW_failed 17 = .ok (.iconst 0, 1) := by decide +kernel
theorem d_LW_failed_18 : decode b_LW_failed 18 = .ok (.ireturn, 1) := by decide +kernel
abbrev b_LW_law : ByteArray := code
def y_LW_law : MethodName := ⟨"ExploreSharesLaw", "law", "([I)Z"⟩
def w_LW_law : List Cond := .code y_LW_law b_LW_law 7 (some .boolean) :: xU
theorem d_LW_law_0 : decode b_LW_law 0 = .ok (.new 8, 3) := by decide +kernel
theorem d_LW_law_3 : decode b_LW_law 3 = .ok (.dup, 1) := by decide +kernel
theorem d_LW_law_4 : decode b_LW_law 4 = .ok (.aload_n 0, 1) := by decide +kernel
theorem d_LW_law_5 : decode b_LW_law 5 = .ok (.iconst 0, 1) := by decide +kernel
theorem d_LW_law_6 : decode b_LW_law 6 = .ok (.invokestatic 54, 3) := by decide +kernel
theorem d_LW_law_9 : decode b_LW_law 9 = .ok (.aload_n 0, 1) := by decide +kernel
theorem d_LW_law_10 : decode b_LW_law 10 = .ok (.iconst 1, 1) := by decide +kernel
theorem d_LW_law_11 : decode b_LW_law 11 = .ok (.invokestatic 54, 3) := by decide +kernel
theorem d_LW_law_14 : decode b_LW_law 14 = .ok (.invokespecial 60, 3) := by decide +kernel
theorem d_LW_law_17 : decode b_LW_law 17 = .ok (.astore_n 1, 1) := by decide +kernel
theorem d_LW_law_18 : decode b_LW_law 18 = .ok (.new 63, 3) := by decide +kernel
theorem d_LW_law_21 : decode b_LW_law 21 = .ok (.dup, 1) := by decide +kernel
theorem d_LW_law_22 : decode b_LW_law 22 = .ok (.aload_n 0, 1) := by decide +kernel
theorem d_LW_law_23 : decode b_LW_law 23 = .ok (.iconst 0, 1) := by decide +kernel
theorem d_LW_law_24 : decode b_LW_law 24 = .ok (.invokestatic 54, 3) := by decide +kernel
theorem d_LW_law_27 : decode b_LW_law 27 = .ok (.aload_n 0, 1) := by decide +kernel
theorem d_LW_law_28 : decode b_LW_law 28 = .ok (.iconst 1, 1) := by decide +kernel
theorem d_LW_law_29 : decode b_LW_law 29 = .ok (.invokestatic 54, 3) := by decide +kernel
theorem d_LW_law_32 : decode b_LW_law 32 = .ok (.invokespecial 65, 3) := by decide +kernel
theorem d_LW_law_35 : decode b_LW_law 35 = .ok (.astore_n 2, 1) := by decide +kernel
theorem d_LW_law_36 : decode b_LW_law 36 = .ok (.iconst 1, 1) := by decide +kernel
theorem d_LW_law_37 : decode b_LW_law 37 = .ok (.newarray .long, 2) := by decide +kernel
theorem d_LW_law_39 : decode b_LW_law 39 = .ok (.astore_n 3, 1) := by decide +kernel
theorem d_LW_law_40 : decode b_LW_law 40 = .ok (.iconst 2, 1) := by decide +kernel
theorem d_LW_law_41 : decode b_LW_law 41 = .ok (.istore 4, 2) := by decide +kernel
theorem d_LW_law_43 : decode b_LW_law 43 = .ok (.iload 4, 2) := by decide +kernel
theorem d_LW_law_45 : decode b_LW_law 45 = .ok (.aload_n 0, 1) := by decide +kernel
theorem d_LW_law_46 : decode b_LW_law 46 = .ok (.arraylength, 1) := by decide +kernel
theorem d_LW_law_47 : decode b_LW_law 47 = .ok (.iconst 4, 1) := by decide +kernel
theorem d_LW_law_48 : decode b_LW_law 48 = .ok (.isub, 1) := by decide +kernel
theorem d_LW_law_49 : decode b_LW_law 49 = .ok (.if_icmp .gt 498, 3) := by decide +kernel
theorem d_LW_law_52 : decode b_LW_law 52 = .ok (.aload_n 0, 1) := by decide +kernel
theorem d_LW_law_53 : decode b_LW_law 53 = .ok (.iload 4, 2) := by decide +kernel
theorem d_LW_law_55 : decode b_LW_law 55 = .ok (.iaload, 1) := by decide +kernel
theorem d_LW_law_56 : decode b_LW_law 56 = .ok (.bipush 15, 2) := by decide +kernel
theorem d_LW_law_58 : decode b_LW_law 58 = .ok (.iand, 1) := by decide +kernel
theorem d_LW_law_59 : decode b_LW_law 59 = .ok (.tableswitch 482 0 11 #[61, 77, 117, 169, 225, 253, 281, 309, 349, 389, 429, 457], 61) := by decide +kernel
theorem d_LW_law_120 : decode b_LW_law 120 = .ok (.aload_n 1, 1) := by decide +kernel
theorem d_LW_law_121 : decode b_LW_law 121 = .ok (.aload_n 3, 1) := by decide +kernel
theorem d_LW_law_122 : decode b_LW_law 122 = .ok (.invokestatic 66, 3) := by decide +kernel
theorem d_LW_law_125 : decode b_LW_law 125 = .ok (.istore 5, 2) := by decide +kernel
theorem d_LW_law_127 : decode b_LW_law 127 = .ok (.aload_n 2, 1) := by decide +kernel
theorem d_LW_law_128 : decode b_LW_law 128 = .ok (.invokevirtual 69, 3) := by decide +kernel
theorem d_LW_law_131 : decode b_LW_law 131 = .ok (.istore 6, 2) := by decide +kernel
theorem d_LW_law_133 : decode b_LW_law 133 = .ok (.goto 408, 3) := by decide +kernel
theorem d_LW_law_136 : decode b_LW_law 136 = .ok (.aload_n 1, 1) := by decide +kernel
theorem d_LW_law_137 : decode b_LW_law 137 = .ok (.aload_n 0, 1) := by decide +kernel
theorem d_LW_law_138 : decode b_LW_law 138 = .ok (.iload 4, 2) := by decide +kernel
theorem d_LW_law_140 : decode b_LW_law 140 = .ok (.iconst 1, 1) := by decide +kernel
theorem d_LW_law_141 : decode b_LW_law 141 = .ok (.iadd, 1) := by decide +kernel
theorem d_LW_law_142 : decode b_LW_law 142 = .ok (.iaload, 1) := by decide +kernel
theorem d_LW_law_143 : decode b_LW_law 143 = .ok (.aload_n 0, 1) := by decide +kernel
theorem d_LW_law_144 : decode b_LW_law 144 = .ok (.iload 4, 2) := by decide +kernel
theorem d_LW_law_146 : decode b_LW_law 146 = .ok (.iconst 2, 1) := by decide +kernel
theorem d_LW_law_147 : decode b_LW_law 147 = .ok (.iadd, 1) := by decide +kernel
theorem d_LW_law_148 : decode b_LW_law 148 = .ok (.iaload, 1) := by decide +kernel
theorem d_LW_law_149 : decode b_LW_law 149 = .ok (.aload_n 3, 1) := by decide +kernel
theorem d_LW_law_150 : decode b_LW_law 150 = .ok (.invokestatic 70, 3) := by decide +kernel
theorem d_LW_law_153 : decode b_LW_law 153 = .ok (.istore 5, 2) := by decide +kernel
theorem d_LW_law_155 : decode b_LW_law 155 = .ok (.aload_n 2, 1) := by decide +kernel
theorem d_LW_law_156 : decode b_LW_law 156 = .ok (.aload_n 0, 1) := by decide +kernel
theorem d_LW_law_157 : decode b_LW_law 157 = .ok (.iload 4, 2) := by decide +kernel
theorem d_LW_law_159 : decode b_LW_law 159 = .ok (.iconst 1, 1) := by decide +kernel
theorem d_LW_law_160 : decode b_LW_law 160 = .ok (.iadd, 1) := by decide +kernel
theorem d_LW_law_161 : decode b_LW_law 161 = .ok (.iaload, 1) := by decide +kernel
theorem d_LW_law_162 : decode b_LW_law 162 = .ok (.aload_n 0, 1) := by decide +kernel
theorem d_LW_law_163 : decode b_LW_law 163 = .ok (.iload 4, 2) := by decide +kernel
theorem d_LW_law_165 : decode b_LW_law 165 = .ok (.iconst 2, 1) := by decide +kernel
theorem d_LW_law_166 : decode b_LW_law 166 = .ok (.iadd, 1) := by decide +kernel
theorem d_LW_law_167 : decode b_LW_law 167 = .ok (.iaload, 1) := by decide +kernel
theorem d_LW_law_168 : decode b_LW_law 168 = .ok (.invokevirtual 73, 3) := by decide +kernel
theorem d_LW_law_171 : decode b_LW_law 171 = .ok (.istore 6, 2) := by decide +kernel
theorem d_LW_law_173 : decode b_LW_law 173 = .ok (.goto 368, 3) := by decide +kernel
theorem d_LW_law_176 : decode b_LW_law 176 = .ok (.aload_n 1, 1) := by decide +kernel
theorem d_LW_law_177 : decode b_LW_law 177 = .ok (.aload_n 0, 1) := by decide +kernel
theorem d_LW_law_178 : decode b_LW_law 178 = .ok (.iload 4, 2) := by decide +kernel
theorem d_LW_law_180 : decode b_LW_law 180 = .ok (.iconst 1, 1) := by decide +kernel
theorem d_LW_law_181 : decode b_LW_law 181 = .ok (.iadd, 1) := by decide +kernel
theorem d_LW_law_182 : decode b_LW_law 182 = .ok (.iaload, 1) := by decide +kernel
theorem d_LW_law_183 : decode b_LW_law 183 = .ok (.aload_n 0, 1) := by decide +kernel
theorem d_LW_law_184 : decode b_LW_law 184 = .ok (.iload 4, 2) := by decide +kernel
theorem d_LW_law_186 : decode b_LW_law 186 = .ok (.iconst 2, 1) := by decide +kernel
theorem d_LW_law_187 : decode b_LW_law 187 = .ok (.iadd, 1) := by decide +kernel
theorem d_LW_law_188 : decode b_LW_law 188 = .ok (.iaload, 1) := by decide +kernel
theorem d_LW_law_189 : decode b_LW_law 189 = .ok (.aload_n 0, 1) := by decide +kernel
theorem d_LW_law_190 : decode b_LW_law 190 = .ok (.iload 4, 2) := by decide +kernel
theorem d_LW_law_192 : decode b_LW_law 192 = .ok (.iconst 3, 1) := by decide +kernel
theorem d_LW_law_193 : decode b_LW_law 193 = .ok (.iadd, 1) := by decide +kernel
theorem d_LW_law_194 : decode b_LW_law 194 = .ok (.iaload, 1) := by decide +kernel
theorem d_LW_law_195 : decode b_LW_law 195 = .ok (.aload_n 3, 1) := by decide +kernel
theorem d_LW_law_196 : decode b_LW_law 196 = .ok (.invokestatic 74, 3) := by decide +kernel
theorem d_LW_law_199 : decode b_LW_law 199 = .ok (.istore 5, 2) := by decide +kernel
theorem d_LW_law_201 : decode b_LW_law 201 = .ok (.aload_n 2, 1) := by decide +kernel
theorem d_LW_law_202 : decode b_LW_law 202 = .ok (.aload_n 0, 1) := by decide +kernel
theorem d_LW_law_203 : decode b_LW_law 203 = .ok (.iload 4, 2) := by decide +kernel
theorem d_LW_law_205 : decode b_LW_law 205 = .ok (.iconst 1, 1) := by decide +kernel
theorem d_LW_law_206 : decode b_LW_law 206 = .ok (.iadd, 1) := by decide +kernel
theorem d_LW_law_207 : decode b_LW_law 207 = .ok (.iaload, 1) := by decide +kernel
theorem d_LW_law_208 : decode b_LW_law 208 = .ok (.aload_n 0, 1) := by decide +kernel
theorem d_LW_law_209 : decode b_LW_law 209 = .ok (.iload 4, 2) := by decide +kernel
theorem d_LW_law_211 : decode b_LW_law 211 = .ok (.iconst 2, 1) := by decide +kernel
theorem d_LW_law_212 : decode b_LW_law 212 = .ok (.iadd, 1) := by decide +kernel
theorem d_LW_law_213 : decode b_LW_law 213 = .ok (.iaload, 1) := by decide +kernel
theorem d_LW_law_214 : decode b_LW_law 214 = .ok (.aload_n 0, 1) := by decide +kernel
theorem d_LW_law_215 : decode b_LW_law 215 = .ok (.iload 4, 2) := by decide +kernel
theorem d_LW_law_217 : decode b_LW_law 217 = .ok (.iconst 3, 1) := by decide +kernel
theorem d_LW_law_218 : decode b_LW_law 218 = .ok (.iadd, 1) := by decide +kernel
theorem d_LW_law_219 : decode b_LW_law 219 = .ok (.iaload, 1) := by decide +kernel
theorem d_LW_law_220 : decode b_LW_law 220 = .ok (.invokevirtual 77, 3) := by decide +kernel
theorem d_LW_law_223 : decode b_LW_law 223 = .ok (.istore 6, 2) := by decide +kernel
theorem d_LW_law_225 : decode b_LW_law 225 = .ok (.goto 316, 3) := by decide +kernel
theorem d_LW_law_228 : decode b_LW_law 228 = .ok (.aload_n 1, 1) := by decide +kernel
theorem d_LW_law_229 : decode b_LW_law 229 = .ok (.aload_n 0, 1) := by decide +kernel
theorem d_LW_law_230 : decode b_LW_law 230 = .ok (.iload 4, 2) := by decide +kernel
theorem d_LW_law_232 : decode b_LW_law 232 = .ok (.iconst 1, 1) := by decide +kernel
theorem d_LW_law_233 : decode b_LW_law 233 = .ok (.iadd, 1) := by decide +kernel
theorem d_LW_law_234 : decode b_LW_law 234 = .ok (.iaload, 1) := by decide +kernel
theorem d_LW_law_235 : decode b_LW_law 235 = .ok (.aload_n 3, 1) := by decide +kernel
theorem d_LW_law_236 : decode b_LW_law 236 = .ok (.invokestatic 78, 3) := by decide +kernel
theorem d_LW_law_239 : decode b_LW_law 239 = .ok (.istore 5, 2) := by decide +kernel
theorem d_LW_law_241 : decode b_LW_law 241 = .ok (.aload_n 2, 1) := by decide +kernel
theorem d_LW_law_242 : decode b_LW_law 242 = .ok (.aload_n 0, 1) := by decide +kernel
theorem d_LW_law_243 : decode b_LW_law 243 = .ok (.iload 4, 2) := by decide +kernel
theorem d_LW_law_245 : decode b_LW_law 245 = .ok (.iconst 1, 1) := by decide +kernel
theorem d_LW_law_246 : decode b_LW_law 246 = .ok (.iadd, 1) := by decide +kernel
theorem d_LW_law_247 : decode b_LW_law 247 = .ok (.iaload, 1) := by decide +kernel
theorem d_LW_law_248 : decode b_LW_law 248 = .ok (.invokevirtual 81, 3) := by decide +kernel
theorem d_LW_law_251 : decode b_LW_law 251 = .ok (.istore 6, 2) := by decide +kernel
theorem d_LW_law_253 : decode b_LW_law 253 = .ok (.aload_n 2, 1) := by decide +kernel
theorem d_LW_law_254 : decode b_LW_law 254 = .ok (.invokevirtual 82, 3) := by decide +kernel
theorem d_LW_law_257 : decode b_LW_law 257 = .ok (.iload 5, 2) := by decide +kernel
theorem d_LW_law_259 : decode b_LW_law 259 = .ok (.if_icmp .eq 5, 3) := by decide +kernel
theorem d_LW_law_262 : decode b_LW_law 262 = .ok (.iconst 0, 1) := by decide +kernel
theorem d_LW_law_263 : decode b_LW_law 263 = .ok (.ireturn, 1) := by decide +kernel
theorem d_LW_law_264 : decode b_LW_law 264 = .ok (.iload 5, 2) := by decide +kernel
theorem d_LW_law_266 : decode b_LW_law 266 = .ok (.ifCond .ne 15, 3) := by decide +kernel
theorem d_LW_law_269 : decode b_LW_law 269 = .ok (.aload_n 3, 1) := by decide +kernel
theorem d_LW_law_270 : decode b_LW_law 270 = .ok (.iconst 0, 1) := by decide +kernel
theorem d_LW_law_271 : decode b_LW_law 271 = .ok (.laload, 1) := by decide +kernel
theorem d_LW_law_272 : decode b_LW_law 272 = .ok (.iload 6, 2) := by decide +kernel
theorem d_LW_law_274 : decode b_LW_law 274 = .ok (.i2l, 1) := by decide +kernel
theorem d_LW_law_275 : decode b_LW_law 275 = .ok (.lcmp, 1) := by decide +kernel
theorem d_LW_law_276 : decode b_LW_law 276 = .ok (.ifCond .eq 5, 3) := by decide +kernel
theorem d_LW_law_279 : decode b_LW_law 279 = .ok (.iconst 0, 1) := by decide +kernel
theorem d_LW_law_280 : decode b_LW_law 280 = .ok (.ireturn, 1) := by decide +kernel
theorem d_LW_law_281 : decode b_LW_law 281 = .ok (.goto 260, 3) := by decide +kernel
theorem d_LW_law_284 : decode b_LW_law 284 = .ok (.aload_n 1, 1) := by decide +kernel
theorem d_LW_law_285 : decode b_LW_law 285 = .ok (.aload_n 0, 1) := by decide +kernel
theorem d_LW_law_286 : decode b_LW_law 286 = .ok (.iload 4, 2) := by decide +kernel
theorem d_LW_law_288 : decode b_LW_law 288 = .ok (.iconst 1, 1) := by decide +kernel
theorem d_LW_law_289 : decode b_LW_law 289 = .ok (.iadd, 1) := by decide +kernel
theorem d_LW_law_290 : decode b_LW_law 290 = .ok (.iaload, 1) := by decide +kernel
theorem d_LW_law_291 : decode b_LW_law 291 = .ok (.aload_n 3, 1) := by decide +kernel
theorem d_LW_law_292 : decode b_LW_law 292 = .ok (.invokestatic 85, 3) := by decide +kernel
theorem d_LW_law_295 : decode b_LW_law 295 = .ok (.istore 5, 2) := by decide +kernel
theorem d_LW_law_297 : decode b_LW_law 297 = .ok (.aload_n 2, 1) := by decide +kernel
theorem d_LW_law_298 : decode b_LW_law 298 = .ok (.aload_n 0, 1) := by decide +kernel
theorem d_LW_law_299 : decode b_LW_law 299 = .ok (.iload 4, 2) := by decide +kernel
theorem d_LW_law_301 : decode b_LW_law 301 = .ok (.iconst 1, 1) := by decide +kernel
theorem d_LW_law_302 : decode b_LW_law 302 = .ok (.iadd, 1) := by decide +kernel
theorem d_LW_law_303 : decode b_LW_law 303 = .ok (.iaload, 1) := by decide +kernel
theorem d_LW_law_304 : decode b_LW_law 304 = .ok (.invokevirtual 87, 3) := by decide +kernel
theorem d_LW_law_307 : decode b_LW_law 307 = .ok (.istore 6, 2) := by decide +kernel
theorem d_LW_law_309 : decode b_LW_law 309 = .ok (.goto 232, 3) := by decide +kernel
theorem d_LW_law_312 : decode b_LW_law 312 = .ok (.aload_n 1, 1) := by decide +kernel
theorem d_LW_law_313 : decode b_LW_law 313 = .ok (.aload_n 0, 1) := by decide +kernel
theorem d_LW_law_314 : decode b_LW_law 314 = .ok (.iload 4, 2) := by decide +kernel
theorem d_LW_law_316 : decode b_LW_law 316 = .ok (.iconst 1, 1) := by decide +kernel
theorem d_LW_law_317 : decode b_LW_law 317 = .ok (.iadd, 1) := by decide +kernel
theorem d_LW_law_318 : decode b_LW_law 318 = .ok (.iaload, 1) := by decide +kernel
theorem d_LW_law_319 : decode b_LW_law 319 = .ok (.aload_n 3, 1) := by decide +kernel
theorem d_LW_law_320 : decode b_LW_law 320 = .ok (.invokestatic 88, 3) := by decide +kernel
theorem d_LW_law_323 : decode b_LW_law 323 = .ok (.istore 5, 2) := by decide +kernel
theorem d_LW_law_325 : decode b_LW_law 325 = .ok (.aload_n 2, 1) := by decide +kernel
theorem d_LW_law_326 : decode b_LW_law 326 = .ok (.aload_n 0, 1) := by decide +kernel
theorem d_LW_law_327 : decode b_LW_law 327 = .ok (.iload 4, 2) := by decide +kernel
theorem d_LW_law_329 : decode b_LW_law 329 = .ok (.iconst 1, 1) := by decide +kernel
theorem d_LW_law_330 : decode b_LW_law 330 = .ok (.iadd, 1) := by decide +kernel
theorem d_LW_law_331 : decode b_LW_law 331 = .ok (.iaload, 1) := by decide +kernel
theorem d_LW_law_332 : decode b_LW_law 332 = .ok (.invokevirtual 90, 3) := by decide +kernel
theorem d_LW_law_335 : decode b_LW_law 335 = .ok (.istore 6, 2) := by decide +kernel
theorem d_LW_law_337 : decode b_LW_law 337 = .ok (.goto 204, 3) := by decide +kernel
theorem d_LW_law_340 : decode b_LW_law 340 = .ok (.aload_n 1, 1) := by decide +kernel
theorem d_LW_law_341 : decode b_LW_law 341 = .ok (.aload_n 0, 1) := by decide +kernel
theorem d_LW_law_342 : decode b_LW_law 342 = .ok (.iload 4, 2) := by decide +kernel
theorem d_LW_law_344 : decode b_LW_law 344 = .ok (.iconst 1, 1) := by decide +kernel
theorem d_LW_law_345 : decode b_LW_law 345 = .ok (.iadd, 1) := by decide +kernel
theorem d_LW_law_346 : decode b_LW_law 346 = .ok (.iaload, 1) := by decide +kernel
theorem d_LW_law_347 : decode b_LW_law 347 = .ok (.aload_n 3, 1) := by decide +kernel
theorem d_LW_law_348 : decode b_LW_law 348 = .ok (.invokestatic 91, 3) := by decide +kernel
theorem d_LW_law_351 : decode b_LW_law 351 = .ok (.istore 5, 2) := by decide +kernel
theorem d_LW_law_353 : decode b_LW_law 353 = .ok (.aload_n 2, 1) := by decide +kernel
theorem d_LW_law_354 : decode b_LW_law 354 = .ok (.aload_n 0, 1) := by decide +kernel
theorem d_LW_law_355 : decode b_LW_law 355 = .ok (.iload 4, 2) := by decide +kernel
theorem d_LW_law_357 : decode b_LW_law 357 = .ok (.iconst 1, 1) := by decide +kernel
theorem d_LW_law_358 : decode b_LW_law 358 = .ok (.iadd, 1) := by decide +kernel
theorem d_LW_law_359 : decode b_LW_law 359 = .ok (.iaload, 1) := by decide +kernel
theorem d_LW_law_360 : decode b_LW_law 360 = .ok (.invokevirtual 93, 3) := by decide +kernel
theorem d_LW_law_363 : decode b_LW_law 363 = .ok (.istore 6, 2) := by decide +kernel
theorem d_LW_law_365 : decode b_LW_law 365 = .ok (.goto 176, 3) := by decide +kernel
theorem d_LW_law_368 : decode b_LW_law 368 = .ok (.aload_n 1, 1) := by decide +kernel
theorem d_LW_law_369 : decode b_LW_law 369 = .ok (.aload_n 0, 1) := by decide +kernel
theorem d_LW_law_370 : decode b_LW_law 370 = .ok (.iload 4, 2) := by decide +kernel
theorem d_LW_law_372 : decode b_LW_law 372 = .ok (.iconst 1, 1) := by decide +kernel
theorem d_LW_law_373 : decode b_LW_law 373 = .ok (.iadd, 1) := by decide +kernel
theorem d_LW_law_374 : decode b_LW_law 374 = .ok (.iaload, 1) := by decide +kernel
theorem d_LW_law_375 : decode b_LW_law 375 = .ok (.aload_n 0, 1) := by decide +kernel
theorem d_LW_law_376 : decode b_LW_law 376 = .ok (.iload 4, 2) := by decide +kernel
theorem d_LW_law_378 : decode b_LW_law 378 = .ok (.iconst 2, 1) := by decide +kernel
theorem d_LW_law_379 : decode b_LW_law 379 = .ok (.iadd, 1) := by decide +kernel
theorem d_LW_law_380 : decode b_LW_law 380 = .ok (.iaload, 1) := by decide +kernel
theorem d_LW_law_381 : decode b_LW_law 381 = .ok (.aload_n 3, 1) := by decide +kernel
theorem d_LW_law_382 : decode b_LW_law 382 = .ok (.invokestatic 94, 3) := by decide +kernel
theorem d_LW_law_385 : decode b_LW_law 385 = .ok (.istore 5, 2) := by decide +kernel
theorem d_LW_law_387 : decode b_LW_law 387 = .ok (.aload_n 2, 1) := by decide +kernel
theorem d_LW_law_388 : decode b_LW_law 388 = .ok (.aload_n 0, 1) := by decide +kernel
theorem d_LW_law_389 : decode b_LW_law 389 = .ok (.iload 4, 2) := by decide +kernel
theorem d_LW_law_391 : decode b_LW_law 391 = .ok (.iconst 1, 1) := by decide +kernel
theorem d_LW_law_392 : decode b_LW_law 392 = .ok (.iadd, 1) := by decide +kernel
theorem d_LW_law_393 : decode b_LW_law 393 = .ok (.iaload, 1) := by decide +kernel
theorem d_LW_law_394 : decode b_LW_law 394 = .ok (.aload_n 0, 1) := by decide +kernel
theorem d_LW_law_395 : decode b_LW_law 395 = .ok (.iload 4, 2) := by decide +kernel
theorem d_LW_law_397 : decode b_LW_law 397 = .ok (.iconst 2, 1) := by decide +kernel
theorem d_LW_law_398 : decode b_LW_law 398 = .ok (.iadd, 1) := by decide +kernel
theorem d_LW_law_399 : decode b_LW_law 399 = .ok (.iaload, 1) := by decide +kernel
theorem d_LW_law_400 : decode b_LW_law 400 = .ok (.invokevirtual 96, 3) := by decide +kernel
theorem d_LW_law_403 : decode b_LW_law 403 = .ok (.istore 6, 2) := by decide +kernel
theorem d_LW_law_405 : decode b_LW_law 405 = .ok (.goto 136, 3) := by decide +kernel
theorem d_LW_law_408 : decode b_LW_law 408 = .ok (.aload_n 1, 1) := by decide +kernel
theorem d_LW_law_409 : decode b_LW_law 409 = .ok (.aload_n 0, 1) := by decide +kernel
theorem d_LW_law_410 : decode b_LW_law 410 = .ok (.iload 4, 2) := by decide +kernel
theorem d_LW_law_412 : decode b_LW_law 412 = .ok (.iconst 1, 1) := by decide +kernel
theorem d_LW_law_413 : decode b_LW_law 413 = .ok (.iadd, 1) := by decide +kernel
theorem d_LW_law_414 : decode b_LW_law 414 = .ok (.iaload, 1) := by decide +kernel
theorem d_LW_law_415 : decode b_LW_law 415 = .ok (.aload_n 0, 1) := by decide +kernel
theorem d_LW_law_416 : decode b_LW_law 416 = .ok (.iload 4, 2) := by decide +kernel
theorem d_LW_law_418 : decode b_LW_law 418 = .ok (.iconst 2, 1) := by decide +kernel
theorem d_LW_law_419 : decode b_LW_law 419 = .ok (.iadd, 1) := by decide +kernel
theorem d_LW_law_420 : decode b_LW_law 420 = .ok (.iaload, 1) := by decide +kernel
theorem d_LW_law_421 : decode b_LW_law 421 = .ok (.aload_n 3, 1) := by decide +kernel
theorem d_LW_law_422 : decode b_LW_law 422 = .ok (.invokestatic 97, 3) := by decide +kernel
theorem d_LW_law_425 : decode b_LW_law 425 = .ok (.istore 5, 2) := by decide +kernel
theorem d_LW_law_427 : decode b_LW_law 427 = .ok (.aload_n 2, 1) := by decide +kernel
theorem d_LW_law_428 : decode b_LW_law 428 = .ok (.aload_n 0, 1) := by decide +kernel
theorem d_LW_law_429 : decode b_LW_law 429 = .ok (.iload 4, 2) := by decide +kernel
theorem d_LW_law_431 : decode b_LW_law 431 = .ok (.iconst 1, 1) := by decide +kernel
theorem d_LW_law_432 : decode b_LW_law 432 = .ok (.iadd, 1) := by decide +kernel
theorem d_LW_law_433 : decode b_LW_law 433 = .ok (.iaload, 1) := by decide +kernel
theorem d_LW_law_434 : decode b_LW_law 434 = .ok (.aload_n 0, 1) := by decide +kernel
theorem d_LW_law_435 : decode b_LW_law 435 = .ok (.iload 4, 2) := by decide +kernel
theorem d_LW_law_437 : decode b_LW_law 437 = .ok (.iconst 2, 1) := by decide +kernel
theorem d_LW_law_438 : decode b_LW_law 438 = .ok (.iadd, 1) := by decide +kernel
theorem d_LW_law_439 : decode b_LW_law 439 = .ok (.iaload, 1) := by decide +kernel
theorem d_LW_law_440 : decode b_LW_law 440 = .ok (.invokevirtual 99, 3) := by decide +kernel
theorem d_LW_law_443 : decode b_LW_law 443 = .ok (.istore 6, 2) := by decide +kernel
theorem d_LW_law_445 : decode b_LW_law 445 = .ok (.goto 96, 3) := by decide +kernel
theorem d_LW_law_448 : decode b_LW_law 448 = .ok (.aload_n 1, 1) := by decide +kernel
theorem d_LW_law_449 : decode b_LW_law 449 = .ok (.aload_n 0, 1) := by decide +kernel
theorem d_LW_law_450 : decode b_LW_law 450 = .ok (.iload 4, 2) := by decide +kernel
theorem d_LW_law_452 : decode b_LW_law 452 = .ok (.iconst 1, 1) := by decide +kernel
theorem d_LW_law_453 : decode b_LW_law 453 = .ok (.iadd, 1) := by decide +kernel
theorem d_LW_law_454 : decode b_LW_law 454 = .ok (.iaload, 1) := by decide +kernel
theorem d_LW_law_455 : decode b_LW_law 455 = .ok (.aload_n 0, 1) := by decide +kernel
theorem d_LW_law_456 : decode b_LW_law 456 = .ok (.iload 4, 2) := by decide +kernel
theorem d_LW_law_458 : decode b_LW_law 458 = .ok (.iconst 2, 1) := by decide +kernel
theorem d_LW_law_459 : decode b_LW_law 459 = .ok (.iadd, 1) := by decide +kernel
theorem d_LW_law_460 : decode b_LW_law 460 = .ok (.iaload, 1) := by decide +kernel
theorem d_LW_law_461 : decode b_LW_law 461 = .ok (.aload_n 3, 1) := by decide +kernel
theorem d_LW_law_462 : decode b_LW_law 462 = .ok (.invokestatic 100, 3) := by decide +kernel
theorem d_LW_law_465 : decode b_LW_law 465 = .ok (.istore 5, 2) := by decide +kernel
theorem d_LW_law_467 : decode b_LW_law 467 = .ok (.aload_n 2, 1) := by decide +kernel
theorem d_LW_law_468 : decode b_LW_law 468 = .ok (.aload_n 0, 1) := by decide +kernel
theorem d_LW_law_469 : decode b_LW_law 469 = .ok (.iload 4, 2) := by decide +kernel
theorem d_LW_law_471 : decode b_LW_law 471 = .ok (.iconst 1, 1) := by decide +kernel
theorem d_LW_law_472 : decode b_LW_law 472 = .ok (.iadd, 1) := by decide +kernel
theorem d_LW_law_473 : decode b_LW_law 473 = .ok (.iaload, 1) := by decide +kernel
theorem d_LW_law_474 : decode b_LW_law 474 = .ok (.aload_n 0, 1) := by decide +kernel
theorem d_LW_law_475 : decode b_LW_law 475 = .ok (.iload 4, 2) := by decide +kernel
theorem d_LW_law_477 : decode b_LW_law 477 = .ok (.iconst 2, 1) := by decide +kernel
theorem d_LW_law_478 : decode b_LW_law 478 = .ok (.iadd, 1) := by decide +kernel
theorem d_LW_law_479 : decode b_LW_law 479 = .ok (.iaload, 1) := by decide +kernel
theorem d_LW_law_480 : decode b_LW_law 480 = .ok (.invokevirtual 102, 3) := by decide +kernel
theorem d_LW_law_483 : decode b_LW_law 483 = .ok (.istore 6, 2) := by decide +kernel
theorem d_LW_law_485 : decode b_LW_law 485 = .ok (.goto 56, 3) := by decide +kernel
theorem d_LW_law_488 : decode b_LW_law 488 = .ok (.aload_n 1, 1) := by decide +kernel
theorem d_LW_law_489 : decode b_LW_law 489 = .ok (.aload_n 0, 1) := by decide +kernel
theorem d_LW_law_490 : decode b_LW_law 490 = .ok (.iload 4, 2) := by decide +kernel
theorem d_LW_law_492 : decode b_LW_law 492 = .ok (.iconst 1, 1) := by decide +kernel
theorem d_LW_law_493 : decode b_LW_law 493 = .ok (.iadd, 1) := by decide +kernel
theorem d_LW_law_494 : decode b_LW_law 494 = .ok (.iaload, 1) := by decide +kernel
theorem d_LW_law_495 : decode b_LW_law 495 = .ok (.aload_n 3, 1) := by decide +kernel
theorem d_LW_law_496 : decode b_LW_law 496 = .ok (.invokestatic 103, 3) := by decide +kernel
theorem d_LW_law_499 : decode b_LW_law 499 = .ok (.istore 5, 2) := by decide +kernel
theorem d_LW_law_501 : decode b_LW_law 501 = .ok (.aload_n 2, 1) := by decide +kernel
theorem d_LW_law_502 : decode b_LW_law 502 = .ok (.aload_n 0, 1) := by decide +kernel
theorem d_LW_law_503 : decode b_LW_law 503 = .ok (.iload 4, 2) := by decide +kernel
theorem d_LW_law_505 : decode b_LW_law 505 = .ok (.iconst 1, 1) := by decide +kernel
theorem d_LW_law_506 : decode b_LW_law 506 = .ok (.iadd, 1) := by decide +kernel
theorem d_LW_law_507 : decode b_LW_law 507 = .ok (.iaload, 1) := by decide +kernel
theorem d_LW_law_508 : decode b_LW_law 508 = .ok (.invokevirtual 105, 3) := by decide +kernel
theorem d_LW_law_511 : decode b_LW_law 511 = .ok (.istore 6, 2) := by decide +kernel
theorem d_LW_law_513 : decode b_LW_law 513 = .ok (.goto 28, 3) := by decide +kernel
theorem d_LW_law_516 : decode b_LW_law 516 = .ok (.aload_n 1, 1) := by decide +kernel
theorem d_LW_law_517 : decode b_LW_law 517 = .ok (.aload_n 0, 1) := by decide +kernel
theorem d_LW_law_518 : decode b_LW_law 518 = .ok (.iload 4, 2) := by decide +kernel
theorem d_LW_law_520 : decode b_LW_law 520 = .ok (.iconst 1, 1) := by decide +kernel
theorem d_LW_law_521 : decode b_LW_law 521 = .ok (.iadd, 1) := by decide +kernel
theorem d_LW_law_522 : decode b_LW_law 522 = .ok (.iaload, 1) := by decide +kernel
theorem d_LW_law_523 : decode b_LW_law 523 = .ok (.invokevirtual 106, 3) := by decide +kernel
theorem d_LW_law_526 : decode b_LW_law 526 = .ok (.pop, 1) := by decide +kernel
theorem d_LW_law_527 : decode b_LW_law 527 = .ok (.aload_n 2, 1) := by decide +kernel
theorem d_LW_law_528 : decode b_LW_law 528 = .ok (.aload_n 0, 1) := by decide +kernel
theorem d_LW_law_529 : decode b_LW_law 529 = .ok (.iload 4, 2) := by decide +kernel
theorem d_LW_law_531 : decode b_LW_law 531 = .ok (.iconst 1, 1) := by decide +kernel
theorem d_LW_law_532 : decode b_LW_law 532 = .ok (.iadd, 1) := by decide +kernel
theorem d_LW_law_533 : decode b_LW_law 533 = .ok (.iaload, 1) := by decide +kernel
theorem d_LW_law_534 : decode b_LW_law 534 = .ok (.invokevirtual 109, 3) := by decide +kernel
theorem d_LW_law_537 : decode b_LW_law 537 = .ok (.pop, 1) := by decide +kernel
theorem d_LW_law_538 : decode b_LW_law 538 = .ok (.goto 3, 3) := by decide +kernel
theorem d_LW_law_541 : decode b_LW_law 541 = .ok (.iinc 4 4, 3) := by decide +kernel
theorem d_LW_law_544 : decode b_LW_law 544 = .ok (.goto (-501), 3) := by decide +kernel
theorem d_LW_law_547 : decode b_LW_law 547 = .ok (.iconst 1, 1) := by decide +kernel
theorem d_LW_law_548 : decode b_LW_law 548 = .ok (.ireturn, 1) := by decide +kernel
abbrev b_LW_level : ByteArray := method_7_code
def y_LW_level : MethodName := ⟨"ExploreSharesLaw", "level", "(LExploreShares;I[J)I"⟩
abbrev h_LW_level : List (Nat × Nat × Nat × Nat) := [(0, 9, 12, 25)]
def w_LW_level : List Cond := .codeWith y_LW_level b_LW_level 4 (some .int) h_LW_level :: xU
theorem d_LW_level_0 : decode b_LW_level 0 = .ok (.aload_n 2, 1) := by decide +kernel
theorem d_LW_level_1 : decode b_LW_level 1 = .ok (.iconst 0, 1) := by decide +kernel
theorem d_LW_level_2 : decode b_LW_level 2 = .ok (.aload_n 0, 1) := by decide +kernel
theorem d_LW_level_3 : decode b_LW_level 3 = .ok (.iload_n 1, 1) := by decide +kernel
theorem d_LW_level_4 : decode b_LW_level 4 = .ok (.invokevirtual 33, 3) := by decide +kernel
theorem d_LW_level_7 : decode b_LW_level 7 = .ok (.i2l, 1) := by decide +kernel
theorem d_LW_level_8 : decode b_LW_level 8 = .ok (.lastore, 1) := by decide +kernel
theorem d_LW_level_9 : decode b_LW_level 9 = .ok (.goto 6, 3) := by decide +kernel
theorem d_LW_level_12 : decode b_LW_level 12 = .ok (.astore_n 3, 1) := by decide +kernel
theorem d_LW_level_13 : decode b_LW_level 13 = .ok (.iconst 1, 1) := by decide +kernel
theorem d_LW_level_14 : decode b_LW_level 14 = .ok (.ireturn, 1) := by decide +kernel
theorem d_LW_level_15 : decode b_LW_level 15 = .ok (.iconst 0, 1) := by decide +kernel
theorem d_LW_level_16 : decode b_LW_level 16 = .ok (.ireturn, 1) := by decide +kernel
abbrev b_LW_move : ByteArray := method_4_code
def y_LW_move : MethodName := ⟨"ExploreSharesLaw", "move", "(LExploreShares;II[J)I"⟩
abbrev h_LW_move : List (Nat × Nat × Nat × Nat) := [(0, 10, 13, 19), (0, 10, 17, 13)]
def w_LW_move : List Cond := .codeWith y_LW_move b_LW_move 5 (some .int) h_LW_move :: xU
theorem d_LW_move_0 : decode b_LW_move 0 = .ok (.aload_n 3, 1) := by decide +kernel
theorem d_LW_move_1 : decode b_LW_move 1 = .ok (.iconst 0, 1) := by decide +kernel
theorem d_LW_move_2 : decode b_LW_move 2 = .ok (.aload_n 0, 1) := by decide +kernel
theorem d_LW_move_3 : decode b_LW_move 3 = .ok (.iload_n 1, 1) := by decide +kernel
theorem d_LW_move_4 : decode b_LW_move 4 = .ok (.iload_n 2, 1) := by decide +kernel
theorem d_LW_move_5 : decode b_LW_move 5 = .ok (.invokevirtual 15, 3) := by decide +kernel
theorem d_LW_move_8 : decode b_LW_move 8 = .ok (.i2l, 1) := by decide +kernel
theorem d_LW_move_9 : decode b_LW_move 9 = .ok (.lastore, 1) := by decide +kernel
theorem d_LW_move_10 : decode b_LW_move 10 = .ok (.goto 11, 3) := by decide +kernel
theorem d_LW_move_13 : decode b_LW_move 13 = .ok (.astore 4, 2) := by decide +kernel
theorem d_LW_move_15 : decode b_LW_move 15 = .ok (.iconst 1, 1) := by decide +kernel
theorem d_LW_move_16 : decode b_LW_move 16 = .ok (.ireturn, 1) := by decide +kernel
theorem d_LW_move_17 : decode b_LW_move 17 = .ok (.astore 4, 2) := by decide +kernel
theorem d_LW_move_19 : decode b_LW_move 19 = .ok (.iconst 2, 1) := by decide +kernel
theorem d_LW_move_20 : decode b_LW_move 20 = .ok (.ireturn, 1) := by decide +kernel
theorem d_LW_move_21 : decode b_LW_move 21 = .ok (.iconst 0, 1) := by decide +kernel
theorem d_LW_move_22 : decode b_LW_move 22 = .ok (.ireturn, 1) := by decide +kernel
abbrev b_LW_owner : ByteArray := method_8_code
def y_LW_owner : MethodName := ⟨"ExploreSharesLaw", "owner", "(LExploreShares;I[J)I"⟩
abbrev h_LW_owner : List (Nat × Nat × Nat × Nat) := [(0, 9, 12, 25)]
def w_LW_owner : List Cond := .codeWith y_LW_owner b_LW_owner 4 (some .int) h_LW_owner :: xU
theorem d_LW_owner_0 : decode b_LW_owner 0 = .ok (.aload_n 2, 1) := by decide +kernel
theorem d_LW_owner_1 : decode b_LW_owner 1 = .ok (.iconst 0, 1) := by decide +kernel
theorem d_LW_owner_2 : decode b_LW_owner 2 = .ok (.aload_n 0, 1) := by decide +kernel
theorem d_LW_owner_3 : decode b_LW_owner 3 = .ok (.iload_n 1, 1) := by decide +kernel
theorem d_LW_owner_4 : decode b_LW_owner 4 = .ok (.invokevirtual 36, 3) := by decide +kernel
theorem d_LW_owner_7 : decode b_LW_owner 7 = .ok (.i2l, 1) := by decide +kernel
theorem d_LW_owner_8 : decode b_LW_owner 8 = .ok (.lastore, 1) := by decide +kernel
theorem d_LW_owner_9 : decode b_LW_owner 9 = .ok (.goto 6, 3) := by decide +kernel
theorem d_LW_owner_12 : decode b_LW_owner 12 = .ok (.astore_n 3, 1) := by decide +kernel
theorem d_LW_owner_13 : decode b_LW_owner 13 = .ok (.iconst 1, 1) := by decide +kernel
theorem d_LW_owner_14 : decode b_LW_owner 14 = .ok (.ireturn, 1) := by decide +kernel
theorem d_LW_owner_15 : decode b_LW_owner 15 = .ok (.iconst 0, 1) := by decide +kernel
theorem d_LW_owner_16 : decode b_LW_owner 16 = .ok (.ireturn, 1) := by decide +kernel
abbrev b_LW_run : ByteArray := method_6_code
def y_LW_run : MethodName := ⟨"ExploreSharesLaw", "run", "(LExploreShares;I[J)I"⟩
abbrev h_LW_run : List (Nat × Nat × Nat × Nat) := [(0, 9, 12, 31)]
def w_LW_run : List Cond := .codeWith y_LW_run b_LW_run 4 (some .int) h_LW_run :: xU
theorem d_LW_run_0 : decode b_LW_run 0 = .ok (.aload_n 2, 1) := by decide +kernel
theorem d_LW_run_1 : decode b_LW_run 1 = .ok (.iconst 0, 1) := by decide +kernel
theorem d_LW_run_2 : decode b_LW_run 2 = .ok (.aload_n 0, 1) := by decide +kernel
theorem d_LW_run_3 : decode b_LW_run 3 = .ok (.iload_n 1, 1) := by decide +kernel
theorem d_LW_run_4 : decode b_LW_run 4 = .ok (.invokevirtual 27, 3) := by decide +kernel
theorem d_LW_run_7 : decode b_LW_run 7 = .ok (.i2l, 1) := by decide +kernel
theorem d_LW_run_8 : decode b_LW_run 8 = .ok (.lastore, 1) := by decide +kernel
theorem d_LW_run_9 : decode b_LW_run 9 = .ok (.goto 6, 3) := by decide +kernel
theorem d_LW_run_12 : decode b_LW_run 12 = .ok (.astore_n 3, 1) := by decide +kernel
theorem d_LW_run_13 : decode b_LW_run 13 = .ok (.iconst 1, 1) := by decide +kernel
theorem d_LW_run_14 : decode b_LW_run 14 = .ok (.ireturn, 1) := by decide +kernel
theorem d_LW_run_15 : decode b_LW_run 15 = .ok (.iconst 0, 1) := by decide +kernel
theorem d_LW_run_16 : decode b_LW_run 16 = .ok (.ireturn, 1) := by decide +kernel
abbrev b_LW_size : ByteArray := method_13_code
def y_LW_size : MethodName := ⟨"ExploreSharesLaw", "size", "(LExploreShares;I[J)I"⟩
abbrev h_LW_size : List (Nat × Nat × Nat × Nat) := [(0, 9, 12, 25)]
def w_LW_size : List Cond := .codeWith y_LW_size b_LW_size 4 (some .int) h_LW_size :: xU
theorem d_LW_size_0 : decode b_LW_size 0 = .ok (.aload_n 2, 1) := by decide +kernel
theorem d_LW_size_1 : decode b_LW_size 1 = .ok (.iconst 0, 1) := by decide +kernel
theorem d_LW_size_2 : decode b_LW_size 2 = .ok (.aload_n 0, 1) := by decide +kernel
theorem d_LW_size_3 : decode b_LW_size 3 = .ok (.iload_n 1, 1) := by decide +kernel
theorem d_LW_size_4 : decode b_LW_size 4 = .ok (.invokevirtual 51, 3) := by decide +kernel
theorem d_LW_size_7 : decode b_LW_size 7 = .ok (.i2l, 1) := by decide +kernel
theorem d_LW_size_8 : decode b_LW_size 8 = .ok (.lastore, 1) := by decide +kernel
theorem d_LW_size_9 : decode b_LW_size 9 = .ok (.goto 6, 3) := by decide +kernel
theorem d_LW_size_12 : decode b_LW_size 12 = .ok (.astore_n 3, 1) := by decide +kernel
theorem d_LW_size_13 : decode b_LW_size 13 = .ok (.iconst 1, 1) := by decide +kernel
theorem d_LW_size_14 : decode b_LW_size 14 = .ok (.ireturn, 1) := by decide +kernel
theorem d_LW_size_15 : decode b_LW_size 15 = .ok (.iconst 0, 1) := by decide +kernel
theorem d_LW_size_16 : decode b_LW_size 16 = .ok (.ireturn, 1) := by decide +kernel
abbrev b_LW_state : ByteArray := method_3_code
def y_LW_state : MethodName := ⟨"ExploreSharesLaw", "state", "(LExploreShares;[J)I"⟩
abbrev h_LW_state : List (Nat × Nat × Nat × Nat) := [(0, 8, 11, 13)]
def w_LW_state : List Cond := .codeWith y_LW_state b_LW_state 3 (some .int) h_LW_state :: xU
theorem d_LW_state_0 : decode b_LW_state 0 = .ok (.aload_n 1, 1) := by decide +kernel
theorem d_LW_state_1 : decode b_LW_state 1 = .ok (.iconst 0, 1) := by decide +kernel
theorem d_LW_state_2 : decode b_LW_state 2 = .ok (.aload_n 0, 1) := by decide +kernel
theorem d_LW_state_3 : decode b_LW_state 3 = .ok (.invokevirtual 7, 3) := by decide +kernel
theorem d_LW_state_6 : decode b_LW_state 6 = .ok (.i2l, 1) := by decide +kernel
theorem d_LW_state_7 : decode b_LW_state 7 = .ok (.lastore, 1) := by decide +kernel
theorem d_LW_state_8 : decode b_LW_state 8 = .ok (.goto 6, 3) := by decide +kernel
theorem d_LW_state_11 : decode b_LW_state 11 = .ok (.astore_n 2, 1) := by decide +kernel
theorem d_LW_state_12 : decode b_LW_state 12 = .ok (.iconst 1, 1) := by decide +kernel
theorem d_LW_state_13 : decode b_LW_state 13 = .ok (.ireturn, 1) := by decide +kernel
theorem d_LW_state_14 : decode b_LW_state 14 = .ok (.iconst 0, 1) := by decide +kernel
theorem d_LW_state_15 : decode b_LW_state 15 = .ok (.ireturn, 1) := by decide +kernel
abbrev b_LW_times : ByteArray := method_9_code
def y_LW_times : MethodName := ⟨"ExploreSharesLaw", "times", "(LExploreShares;I[J)I"⟩
abbrev h_LW_times : List (Nat × Nat × Nat × Nat) := [(0, 9, 12, 25)]
def w_LW_times : List Cond := .codeWith y_LW_times b_LW_times 4 (some .int) h_LW_times :: xU
theorem d_LW_times_0 : decode b_LW_times 0 = .ok (.aload_n 2, 1) := by decide +kernel
theorem d_LW_times_1 : decode b_LW_times 1 = .ok (.iconst 0, 1) := by decide +kernel
theorem d_LW_times_2 : decode b_LW_times 2 = .ok (.aload_n 0, 1) := by decide +kernel
theorem d_LW_times_3 : decode b_LW_times 3 = .ok (.iload_n 1, 1) := by decide +kernel
theorem d_LW_times_4 : decode b_LW_times 4 = .ok (.invokevirtual 39, 3) := by decide +kernel
theorem d_LW_times_7 : decode b_LW_times 7 = .ok (.i2l, 1) := by decide +kernel
theorem d_LW_times_8 : decode b_LW_times 8 = .ok (.lastore, 1) := by decide +kernel
theorem d_LW_times_9 : decode b_LW_times 9 = .ok (.goto 6, 3) := by decide +kernel
theorem d_LW_times_12 : decode b_LW_times 12 = .ok (.astore_n 3, 1) := by decide +kernel
theorem d_LW_times_13 : decode b_LW_times 13 = .ok (.iconst 1, 1) := by decide +kernel
theorem d_LW_times_14 : decode b_LW_times 14 = .ok (.ireturn, 1) := by decide +kernel
theorem d_LW_times_15 : decode b_LW_times 15 = .ok (.iconst 0, 1) := by decide +kernel
theorem d_LW_times_16 : decode b_LW_times 16 = .ok (.ireturn, 1) := by decide +kernel
abbrev b_LW_way : ByteArray := method_10_code
def y_LW_way : MethodName := ⟨"ExploreSharesLaw", "way", "(LExploreShares;II[J)I"⟩
abbrev h_LW_way : List (Nat × Nat × Nat × Nat) := [(0, 10, 13, 25)]
def w_LW_way : List Cond := .codeWith y_LW_way b_LW_way 5 (some .int) h_LW_way :: xU
theorem d_LW_way_0 : decode b_LW_way 0 = .ok (.aload_n 3, 1) := by decide +kernel
theorem d_LW_way_1 : decode b_LW_way 1 = .ok (.iconst 0, 1) := by decide +kernel
theorem d_LW_way_2 : decode b_LW_way 2 = .ok (.aload_n 0, 1) := by decide +kernel
theorem d_LW_way_3 : decode b_LW_way 3 = .ok (.iload_n 1, 1) := by decide +kernel
theorem d_LW_way_4 : decode b_LW_way 4 = .ok (.iload_n 2, 1) := by decide +kernel
theorem d_LW_way_5 : decode b_LW_way 5 = .ok (.invokevirtual 42, 3) := by decide +kernel
theorem d_LW_way_8 : decode b_LW_way 8 = .ok (.i2l, 1) := by decide +kernel
theorem d_LW_way_9 : decode b_LW_way 9 = .ok (.lastore, 1) := by decide +kernel
theorem d_LW_way_10 : decode b_LW_way 10 = .ok (.goto 7, 3) := by decide +kernel
theorem d_LW_way_13 : decode b_LW_way 13 = .ok (.astore 4, 2) := by decide +kernel
theorem d_LW_way_15 : decode b_LW_way 15 = .ok (.iconst 1, 1) := by decide +kernel
theorem d_LW_way_16 : decode b_LW_way 16 = .ok (.ireturn, 1) := by decide +kernel
theorem d_LW_way_17 : decode b_LW_way 17 = .ok (.iconst 0, 1) := by decide +kernel
theorem d_LW_way_18 : decode b_LW_way 18 = .ok (.ireturn, 1) := by decide +kernel
abbrev b_LW_worker : ByteArray := method_11_code
def y_LW_worker : MethodName := ⟨"ExploreSharesLaw", "worker", "(LExploreShares;II[J)I"⟩
abbrev h_LW_worker : List (Nat × Nat × Nat × Nat) := [(0, 10, 13, 25)]
def w_LW_worker : List Cond := .codeWith y_LW_worker b_LW_worker 5 (some .int) h_LW_worker :: xU
theorem d_LW_worker_0 : decode b_LW_worker 0 = .ok (.aload_n 3, 1) := by decide +kernel
theorem d_LW_worker_1 : decode b_LW_worker 1 = .ok (.iconst 0, 1) := by decide +kernel
theorem d_LW_worker_2 : decode b_LW_worker 2 = .ok (.aload_n 0, 1) := by decide +kernel
theorem d_LW_worker_3 : decode b_LW_worker 3 = .ok (.iload_n 1, 1) := by decide +kernel
theorem d_LW_worker_4 : decode b_LW_worker 4 = .ok (.iload_n 2, 1) := by decide +kernel
theorem d_LW_worker_5 : decode b_LW_worker 5 = .ok (.invokevirtual 45, 3) := by decide +kernel
theorem d_LW_worker_8 : decode b_LW_worker 8 = .ok (.i2l, 1) := by decide +kernel
theorem d_LW_worker_9 : decode b_LW_worker 9 = .ok (.lastore, 1) := by decide +kernel
theorem d_LW_worker_10 : decode b_LW_worker 10 = .ok (.goto 7, 3) := by decide +kernel
theorem d_LW_worker_13 : decode b_LW_worker 13 = .ok (.astore 4, 2) := by decide +kernel
theorem d_LW_worker_15 : decode b_LW_worker 15 = .ok (.iconst 1, 1) := by decide +kernel
theorem d_LW_worker_16 : decode b_LW_worker 16 = .ok (.ireturn, 1) := by decide +kernel
theorem d_LW_worker_17 : decode b_LW_worker 17 = .ok (.iconst 0, 1) := by decide +kernel
theorem d_LW_worker_18 : decode b_LW_worker 18 = .ok (.ireturn, 1) := by decide +kernel
