/-! what stands at each place of the code, printed -/
theorem dX3_add_0 : decode cX3_add 0 = .ok (.aload_n 0, 1) := by decide +kernel
theorem dX3_add_1 : decode cX3_add 1 = .ok (.getfield 15, 3) := by decide +kernel
theorem dX3_add_4 : decode cX3_add 4 = .ok (.aload_n 0, 1) := by decide +kernel
theorem dX3_add_5 : decode cX3_add 5 = .ok (.getfield 9, 3) := by decide +kernel
theorem dX3_add_8 : decode cX3_add 8 = .ok (.iload_n 1, 1) := by decide +kernel
theorem dX3_add_9 : decode cX3_add 9 = .ok (.i2b, 1) := by decide +kernel
theorem dX3_add_10 : decode cX3_add 10 = .ok (.bastore, 1) := by decide +kernel
theorem dX3_add_11 : decode cX3_add 11 = .ok (.aload_n 0, 1) := by decide +kernel
theorem dX3_add_12 : decode cX3_add 12 = .ok (.dup, 1) := by decide +kernel
theorem dX3_add_13 : decode cX3_add 13 = .ok (.getfield 9, 3) := by decide +kernel
theorem dX3_add_16 : decode cX3_add 16 = .ok (.iconst 1, 1) := by decide +kernel
theorem dX3_add_17 : decode cX3_add 17 = .ok (.iadd, 1) := by decide +kernel
theorem dX3_add_18 : decode cX3_add 18 = .ok (.putfield 9, 3) := by decide +kernel
theorem dX3_add_21 : decode cX3_add 21 = .ok (.aload_n 0, 1) := by decide +kernel
theorem dX3_add_22 : decode cX3_add 22 = .ok (.getfield 9, 3) := by decide +kernel
theorem dX3_add_25 : decode cX3_add 25 = .ok (.ireturn, 1) := by decide +kernel
theorem dX3_clear_0 : decode cX3_clear 0 = .ok (.aload_n 0, 1) := by decide +kernel
theorem dX3_clear_1 : decode cX3_clear 1 = .ok (.getfield 9, 3) := by decide +kernel
theorem dX3_clear_4 : decode cX3_clear 4 = .ok (.istore_n 1, 1) := by decide +kernel
theorem dX3_clear_5 : decode cX3_clear 5 = .ok (.aload_n 0, 1) := by decide +kernel
theorem dX3_clear_6 : decode cX3_clear 6 = .ok (.iconst 0, 1) := by decide +kernel
theorem dX3_clear_7 : decode cX3_clear 7 = .ok (.putfield 9, 3) := by decide +kernel
theorem dX3_clear_10 : decode cX3_clear 10 = .ok (.iload_n 1, 1) := by decide +kernel
theorem dX3_clear_11 : decode cX3_clear 11 = .ok (.ireturn, 1) := by decide +kernel
theorem dX3_byteAt_0 : decode cX3_byteAt 0 = .ok (.iload_n 1, 1) := by decide +kernel
theorem dX3_byteAt_1 : decode cX3_byteAt 1 = .ok (.ifCond .lt 20, 3) := by decide +kernel
theorem dX3_byteAt_4 : decode cX3_byteAt 4 = .ok (.iload_n 1, 1) := by decide +kernel
theorem dX3_byteAt_5 : decode cX3_byteAt 5 = .ok (.aload_n 0, 1) := by decide +kernel
theorem dX3_byteAt_6 : decode cX3_byteAt 6 = .ok (.getfield 9, 3) := by decide +kernel
theorem dX3_byteAt_9 : decode cX3_byteAt 9 = .ok (.if_icmp .ge 12, 3) := by decide +kernel
theorem dX3_byteAt_12 : decode cX3_byteAt 12 = .ok (.aload_n 0, 1) := by decide +kernel
theorem dX3_byteAt_13 : decode cX3_byteAt 13 = .ok (.getfield 15, 3) := by decide +kernel
theorem dX3_byteAt_16 : decode cX3_byteAt 16 = .ok (.iload_n 1, 1) := by decide +kernel
theorem dX3_byteAt_17 : decode cX3_byteAt 17 = .ok (.baload, 1) := by decide +kernel
theorem dX3_byteAt_18 : decode cX3_byteAt 18 = .ok (.goto 4, 3) := by decide +kernel
theorem dX3_byteAt_21 : decode cX3_byteAt 21 = .ok (.iconst (-1), 1) := by decide +kernel
theorem dX3_byteAt_22 : decode cX3_byteAt 22 = .ok (.ireturn, 1) := by decide +kernel
theorem dX3_goToStart_0 : decode cX3_goToStart 0 = .ok (.aload_n 0, 1) := by decide +kernel
theorem dX3_goToStart_1 : decode cX3_goToStart 1 = .ok (.iconst 0, 1) := by decide +kernel
theorem dX3_goToStart_2 : decode cX3_goToStart 2 = .ok (.putfield 19, 3) := by decide +kernel
theorem dX3_goToStart_5 : decode cX3_goToStart 5 = .ok (.return_, 1) := by decide +kernel
theorem dX3_isAtEnd_0 : decode cX3_isAtEnd 0 = .ok (.aload_n 0, 1) := by decide +kernel
theorem dX3_isAtEnd_1 : decode cX3_isAtEnd 1 = .ok (.getfield 19, 3) := by decide +kernel
theorem dX3_isAtEnd_4 : decode cX3_isAtEnd 4 = .ok (.aload_n 0, 1) := by decide +kernel
theorem dX3_isAtEnd_5 : decode cX3_isAtEnd 5 = .ok (.getfield 9, 3) := by decide +kernel
theorem dX3_isAtEnd_8 : decode cX3_isAtEnd 8 = .ok (.if_icmp .lt 7, 3) := by decide +kernel
theorem dX3_isAtEnd_11 : decode cX3_isAtEnd 11 = .ok (.iconst 1, 1) := by decide +kernel
theorem dX3_isAtEnd_12 : decode cX3_isAtEnd 12 = .ok (.goto 4, 3) := by decide +kernel
theorem dX3_isAtEnd_15 : decode cX3_isAtEnd 15 = .ok (.iconst 0, 1) := by decide +kernel
theorem dX3_isAtEnd_16 : decode cX3_isAtEnd 16 = .ok (.ireturn, 1) := by decide +kernel
theorem dX3_findSyntaxError_0 : decode cX3_findSyntaxError 0 = .ok (.aload_n 0, 1) := by decide +kernel
theorem dX3_findSyntaxError_1 : decode cX3_findSyntaxError 1 = .ok (.invokevirtual 34, 3) := by decide +kernel
theorem dX3_findSyntaxError_4 : decode cX3_findSyntaxError 4 = .ok (.iconst 0, 1) := by decide +kernel
theorem dX3_findSyntaxError_5 : decode cX3_findSyntaxError 5 = .ok (.istore_n 1, 1) := by decide +kernel
theorem dX3_findSyntaxError_6 : decode cX3_findSyntaxError 6 = .ok (.iload_n 1, 1) := by decide +kernel
theorem dX3_findSyntaxError_7 : decode cX3_findSyntaxError 7 = .ok (.bipush 100, 2) := by decide +kernel
theorem dX3_findSyntaxError_9 : decode cX3_findSyntaxError 9 = .ok (.if_icmp .ge 28, 3) := by decide +kernel
theorem dX3_findSyntaxError_12 : decode cX3_findSyntaxError 12 = .ok (.aload_n 0, 1) := by decide +kernel
theorem dX3_findSyntaxError_13 : decode cX3_findSyntaxError 13 = .ok (.invokevirtual 37, 3) := by decide +kernel
theorem dX3_findSyntaxError_16 : decode cX3_findSyntaxError 16 = .ok (.ifCond .ne 21, 3) := by decide +kernel
theorem dX3_findSyntaxError_19 : decode cX3_findSyntaxError 19 = .ok (.aload_n 0, 1) := by decide +kernel
theorem dX3_findSyntaxError_20 : decode cX3_findSyntaxError 20 = .ok (.invokevirtual 41, 3) := by decide +kernel
theorem dX3_findSyntaxError_23 : decode cX3_findSyntaxError 23 = .ok (.ifCond .ne 8, 3) := by decide +kernel
theorem dX3_findSyntaxError_26 : decode cX3_findSyntaxError 26 = .ok (.aload_n 0, 1) := by decide +kernel
theorem dX3_findSyntaxError_27 : decode cX3_findSyntaxError 27 = .ok (.getfield 19, 3) := by decide +kernel
theorem dX3_findSyntaxError_30 : decode cX3_findSyntaxError 30 = .ok (.ireturn, 1) := by decide +kernel
theorem dX3_findSyntaxError_31 : decode cX3_findSyntaxError 31 = .ok (.iinc 1 1, 3) := by decide +kernel
theorem dX3_findSyntaxError_34 : decode cX3_findSyntaxError 34 = .ok (.goto (-28), 3) := by decide +kernel
theorem dX3_findSyntaxError_37 : decode cX3_findSyntaxError 37 = .ok (.iconst (-1), 1) := by decide +kernel
theorem dX3_findSyntaxError_38 : decode cX3_findSyntaxError 38 = .ok (.ireturn, 1) := by decide +kernel
theorem dX3_readCommand_0 : decode cX3_readCommand 0 = .ok (.aload_n 0, 1) := by decide +kernel
theorem dX3_readCommand_1 : decode cX3_readCommand 1 = .ok (.aload_n 0, 1) := by decide +kernel
theorem dX3_readCommand_2 : decode cX3_readCommand 2 = .ok (.aload_n 0, 1) := by decide +kernel
theorem dX3_readCommand_3 : decode cX3_readCommand 3 = .ok (.getfield 19, 3) := by decide +kernel
theorem dX3_readCommand_6 : decode cX3_readCommand 6 = .ok (.invokevirtual 44, 3) := by decide +kernel
theorem dX3_readCommand_9 : decode cX3_readCommand 9 = .ok (.putfield 22, 3) := by decide +kernel
theorem dX3_readCommand_12 : decode cX3_readCommand 12 = .ok (.aload_n 0, 1) := by decide +kernel
theorem dX3_readCommand_13 : decode cX3_readCommand 13 = .ok (.getfield 22, 3) := by decide +kernel
theorem dX3_readCommand_16 : decode cX3_readCommand 16 = .ok (.tableswitch 282 99 118 #[248, 282, 282, 282, 282, 282, 282, 282, 282, 96, 147, 282, 282, 282, 282, 207, 147, 248, 96, 147], 96) := by decide +kernel
theorem dX3_readCommand_112 : decode cX3_readCommand 112 = .ok (.aload_n 0, 1) := by decide +kernel
theorem dX3_readCommand_113 : decode cX3_readCommand 113 = .ok (.aload_n 0, 1) := by decide +kernel
theorem dX3_readCommand_114 : decode cX3_readCommand 114 = .ok (.getfield 22, 3) := by decide +kernel
theorem dX3_readCommand_117 : decode cX3_readCommand 117 = .ok (.invokevirtual 48, 3) := by decide +kernel
theorem dX3_readCommand_120 : decode cX3_readCommand 120 = .ok (.ifCond .eq 41, 3) := by decide +kernel
theorem dX3_readCommand_123 : decode cX3_readCommand 123 = .ok (.aload_n 0, 1) := by decide +kernel
theorem dX3_readCommand_124 : decode cX3_readCommand 124 = .ok (.bipush 8, 2) := by decide +kernel
theorem dX3_readCommand_126 : decode cX3_readCommand 126 = .ok (.invokevirtual 52, 3) := by decide +kernel
theorem dX3_readCommand_129 : decode cX3_readCommand 129 = .ok (.ifCond .eq 32, 3) := by decide +kernel
theorem dX3_readCommand_132 : decode cX3_readCommand 132 = .ok (.aload_n 0, 1) := by decide +kernel
theorem dX3_readCommand_133 : decode cX3_readCommand 133 = .ok (.bipush 44, 2) := by decide +kernel
theorem dX3_readCommand_135 : decode cX3_readCommand 135 = .ok (.invokevirtual 48, 3) := by decide +kernel
theorem dX3_readCommand_138 : decode cX3_readCommand 138 = .ok (.ifCond .eq 23, 3) := by decide +kernel
theorem dX3_readCommand_141 : decode cX3_readCommand 141 = .ok (.aload_n 0, 1) := by decide +kernel
theorem dX3_readCommand_142 : decode cX3_readCommand 142 = .ok (.invokevirtual 55, 3) := by decide +kernel
theorem dX3_readCommand_145 : decode cX3_readCommand 145 = .ok (.ifCond .eq 16, 3) := by decide +kernel
theorem dX3_readCommand_148 : decode cX3_readCommand 148 = .ok (.aload_n 0, 1) := by decide +kernel
theorem dX3_readCommand_149 : decode cX3_readCommand 149 = .ok (.bipush 59, 2) := by decide +kernel
theorem dX3_readCommand_151 : decode cX3_readCommand 151 = .ok (.invokevirtual 48, 3) := by decide +kernel
theorem dX3_readCommand_154 : decode cX3_readCommand 154 = .ok (.ifCond .eq 7, 3) := by decide +kernel
theorem dX3_readCommand_157 : decode cX3_readCommand 157 = .ok (.iconst 1, 1) := by decide +kernel
theorem dX3_readCommand_158 : decode cX3_readCommand 158 = .ok (.goto 4, 3) := by decide +kernel
theorem dX3_readCommand_161 : decode cX3_readCommand 161 = .ok (.iconst 0, 1) := by decide +kernel
theorem dX3_readCommand_162 : decode cX3_readCommand 162 = .ok (.ireturn, 1) := by decide +kernel
theorem dX3_readCommand_163 : decode cX3_readCommand 163 = .ok (.aload_n 0, 1) := by decide +kernel
theorem dX3_readCommand_164 : decode cX3_readCommand 164 = .ok (.aload_n 0, 1) := by decide +kernel
theorem dX3_readCommand_165 : decode cX3_readCommand 165 = .ok (.getfield 22, 3) := by decide +kernel
theorem dX3_readCommand_168 : decode cX3_readCommand 168 = .ok (.invokevirtual 48, 3) := by decide +kernel
theorem dX3_readCommand_171 : decode cX3_readCommand 171 = .ok (.ifCond .eq 50, 3) := by decide +kernel
theorem dX3_readCommand_174 : decode cX3_readCommand 174 = .ok (.aload_n 0, 1) := by decide +kernel
theorem dX3_readCommand_175 : decode cX3_readCommand 175 = .ok (.bipush 8, 2) := by decide +kernel
theorem dX3_readCommand_177 : decode cX3_readCommand 177 = .ok (.invokevirtual 52, 3) := by decide +kernel
theorem dX3_readCommand_180 : decode cX3_readCommand 180 = .ok (.ifCond .eq 41, 3) := by decide +kernel
theorem dX3_readCommand_183 : decode cX3_readCommand 183 = .ok (.aload_n 0, 1) := by decide +kernel
theorem dX3_readCommand_184 : decode cX3_readCommand 184 = .ok (.bipush 8, 2) := by decide +kernel
theorem dX3_readCommand_186 : decode cX3_readCommand 186 = .ok (.invokevirtual 58, 3) := by decide +kernel
theorem dX3_readCommand_189 : decode cX3_readCommand 189 = .ok (.ifCond .eq 32, 3) := by decide +kernel
theorem dX3_readCommand_192 : decode cX3_readCommand 192 = .ok (.aload_n 0, 1) := by decide +kernel
theorem dX3_readCommand_193 : decode cX3_readCommand 193 = .ok (.bipush 44, 2) := by decide +kernel
theorem dX3_readCommand_195 : decode cX3_readCommand 195 = .ok (.invokevirtual 48, 3) := by decide +kernel
theorem dX3_readCommand_198 : decode cX3_readCommand 198 = .ok (.ifCond .eq 23, 3) := by decide +kernel
theorem dX3_readCommand_201 : decode cX3_readCommand 201 = .ok (.aload_n 0, 1) := by decide +kernel
theorem dX3_readCommand_202 : decode cX3_readCommand 202 = .ok (.invokevirtual 55, 3) := by decide +kernel
theorem dX3_readCommand_205 : decode cX3_readCommand 205 = .ok (.ifCond .eq 16, 3) := by decide +kernel
theorem dX3_readCommand_208 : decode cX3_readCommand 208 = .ok (.aload_n 0, 1) := by decide +kernel
theorem dX3_readCommand_209 : decode cX3_readCommand 209 = .ok (.bipush 59, 2) := by decide +kernel
theorem dX3_readCommand_211 : decode cX3_readCommand 211 = .ok (.invokevirtual 48, 3) := by decide +kernel
theorem dX3_readCommand_214 : decode cX3_readCommand 214 = .ok (.ifCond .eq 7, 3) := by decide +kernel
theorem dX3_readCommand_217 : decode cX3_readCommand 217 = .ok (.iconst 1, 1) := by decide +kernel
theorem dX3_readCommand_218 : decode cX3_readCommand 218 = .ok (.goto 4, 3) := by decide +kernel
theorem dX3_readCommand_221 : decode cX3_readCommand 221 = .ok (.iconst 0, 1) := by decide +kernel
theorem dX3_readCommand_222 : decode cX3_readCommand 222 = .ok (.ireturn, 1) := by decide +kernel
theorem dX3_readCommand_223 : decode cX3_readCommand 223 = .ok (.aload_n 0, 1) := by decide +kernel
theorem dX3_readCommand_224 : decode cX3_readCommand 224 = .ok (.aload_n 0, 1) := by decide +kernel
theorem dX3_readCommand_225 : decode cX3_readCommand 225 = .ok (.getfield 22, 3) := by decide +kernel
theorem dX3_readCommand_228 : decode cX3_readCommand 228 = .ok (.invokevirtual 48, 3) := by decide +kernel
theorem dX3_readCommand_231 : decode cX3_readCommand 231 = .ok (.ifCond .eq 31, 3) := by decide +kernel
theorem dX3_readCommand_234 : decode cX3_readCommand 234 = .ok (.aload_n 0, 1) := by decide +kernel
theorem dX3_readCommand_235 : decode cX3_readCommand 235 = .ok (.iconst 2, 1) := by decide +kernel
theorem dX3_readCommand_236 : decode cX3_readCommand 236 = .ok (.invokevirtual 52, 3) := by decide +kernel
theorem dX3_readCommand_239 : decode cX3_readCommand 239 = .ok (.ifCond .eq 23, 3) := by decide +kernel
theorem dX3_readCommand_242 : decode cX3_readCommand 242 = .ok (.aload_n 0, 1) := by decide +kernel
theorem dX3_readCommand_243 : decode cX3_readCommand 243 = .ok (.invokevirtual 55, 3) := by decide +kernel
theorem dX3_readCommand_246 : decode cX3_readCommand 246 = .ok (.ifCond .eq 16, 3) := by decide +kernel
theorem dX3_readCommand_249 : decode cX3_readCommand 249 = .ok (.aload_n 0, 1) := by decide +kernel
theorem dX3_readCommand_250 : decode cX3_readCommand 250 = .ok (.bipush 59, 2) := by decide +kernel
theorem dX3_readCommand_252 : decode cX3_readCommand 252 = .ok (.invokevirtual 48, 3) := by decide +kernel
theorem dX3_readCommand_255 : decode cX3_readCommand 255 = .ok (.ifCond .eq 7, 3) := by decide +kernel
theorem dX3_readCommand_258 : decode cX3_readCommand 258 = .ok (.iconst 1, 1) := by decide +kernel
theorem dX3_readCommand_259 : decode cX3_readCommand 259 = .ok (.goto 4, 3) := by decide +kernel
theorem dX3_readCommand_262 : decode cX3_readCommand 262 = .ok (.iconst 0, 1) := by decide +kernel
theorem dX3_readCommand_263 : decode cX3_readCommand 263 = .ok (.ireturn, 1) := by decide +kernel
theorem dX3_readCommand_264 : decode cX3_readCommand 264 = .ok (.aload_n 0, 1) := by decide +kernel
theorem dX3_readCommand_265 : decode cX3_readCommand 265 = .ok (.aload_n 0, 1) := by decide +kernel
theorem dX3_readCommand_266 : decode cX3_readCommand 266 = .ok (.getfield 22, 3) := by decide +kernel
theorem dX3_readCommand_269 : decode cX3_readCommand 269 = .ok (.invokevirtual 48, 3) := by decide +kernel
theorem dX3_readCommand_272 : decode cX3_readCommand 272 = .ok (.ifCond .eq 24, 3) := by decide +kernel
theorem dX3_readCommand_275 : decode cX3_readCommand 275 = .ok (.aload_n 0, 1) := by decide +kernel
theorem dX3_readCommand_276 : decode cX3_readCommand 276 = .ok (.iconst 2, 1) := by decide +kernel
theorem dX3_readCommand_277 : decode cX3_readCommand 277 = .ok (.invokevirtual 52, 3) := by decide +kernel
theorem dX3_readCommand_280 : decode cX3_readCommand 280 = .ok (.ifCond .eq 16, 3) := by decide +kernel
theorem dX3_readCommand_283 : decode cX3_readCommand 283 = .ok (.aload_n 0, 1) := by decide +kernel
theorem dX3_readCommand_284 : decode cX3_readCommand 284 = .ok (.bipush 59, 2) := by decide +kernel
theorem dX3_readCommand_286 : decode cX3_readCommand 286 = .ok (.invokevirtual 48, 3) := by decide +kernel
theorem dX3_readCommand_289 : decode cX3_readCommand 289 = .ok (.ifCond .eq 7, 3) := by decide +kernel
theorem dX3_readCommand_292 : decode cX3_readCommand 292 = .ok (.iconst 1, 1) := by decide +kernel
theorem dX3_readCommand_293 : decode cX3_readCommand 293 = .ok (.goto 4, 3) := by decide +kernel
theorem dX3_readCommand_296 : decode cX3_readCommand 296 = .ok (.iconst 0, 1) := by decide +kernel
theorem dX3_readCommand_297 : decode cX3_readCommand 297 = .ok (.ireturn, 1) := by decide +kernel
theorem dX3_readCommand_298 : decode cX3_readCommand 298 = .ok (.iconst 0, 1) := by decide +kernel
theorem dX3_readCommand_299 : decode cX3_readCommand 299 = .ok (.ireturn, 1) := by decide +kernel
theorem dX3_readSign_0 : decode cX3_readSign 0 = .ok (.aload_n 0, 1) := by decide +kernel
theorem dX3_readSign_1 : decode cX3_readSign 1 = .ok (.aload_n 0, 1) := by decide +kernel
theorem dX3_readSign_2 : decode cX3_readSign 2 = .ok (.getfield 19, 3) := by decide +kernel
theorem dX3_readSign_5 : decode cX3_readSign 5 = .ok (.invokevirtual 44, 3) := by decide +kernel
theorem dX3_readSign_8 : decode cX3_readSign 8 = .ok (.iload_n 1, 1) := by decide +kernel
theorem dX3_readSign_9 : decode cX3_readSign 9 = .ok (.if_icmp .eq 5, 3) := by decide +kernel
theorem dX3_readSign_12 : decode cX3_readSign 12 = .ok (.iconst 0, 1) := by decide +kernel
theorem dX3_readSign_13 : decode cX3_readSign 13 = .ok (.ireturn, 1) := by decide +kernel
theorem dX3_readSign_14 : decode cX3_readSign 14 = .ok (.aload_n 0, 1) := by decide +kernel
theorem dX3_readSign_15 : decode cX3_readSign 15 = .ok (.dup, 1) := by decide +kernel
theorem dX3_readSign_16 : decode cX3_readSign 16 = .ok (.getfield 19, 3) := by decide +kernel
theorem dX3_readSign_19 : decode cX3_readSign 19 = .ok (.iconst 1, 1) := by decide +kernel
theorem dX3_readSign_20 : decode cX3_readSign 20 = .ok (.iadd, 1) := by decide +kernel
theorem dX3_readSign_21 : decode cX3_readSign 21 = .ok (.putfield 19, 3) := by decide +kernel
theorem dX3_readSign_24 : decode cX3_readSign 24 = .ok (.iconst 1, 1) := by decide +kernel
theorem dX3_readSign_25 : decode cX3_readSign 25 = .ok (.ireturn, 1) := by decide +kernel
theorem dX3_readFirst_0 : decode cX3_readFirst 0 = .ok (.aload_n 0, 1) := by decide +kernel
theorem dX3_readFirst_1 : decode cX3_readFirst 1 = .ok (.aload_n 0, 1) := by decide +kernel
theorem dX3_readFirst_2 : decode cX3_readFirst 2 = .ok (.iload_n 1, 1) := by decide +kernel
theorem dX3_readFirst_3 : decode cX3_readFirst 3 = .ok (.invokevirtual 61, 3) := by decide +kernel
theorem dX3_readFirst_6 : decode cX3_readFirst 6 = .ok (.putfield 25, 3) := by decide +kernel
theorem dX3_readFirst_9 : decode cX3_readFirst 9 = .ok (.aload_n 0, 1) := by decide +kernel
theorem dX3_readFirst_10 : decode cX3_readFirst 10 = .ok (.iconst 0, 1) := by decide +kernel
theorem dX3_readFirst_11 : decode cX3_readFirst 11 = .ok (.putfield 28, 3) := by decide +kernel
theorem dX3_readFirst_14 : decode cX3_readFirst 14 = .ok (.aload_n 0, 1) := by decide +kernel
theorem dX3_readFirst_15 : decode cX3_readFirst 15 = .ok (.getfield 25, 3) := by decide +kernel
theorem dX3_readFirst_18 : decode cX3_readFirst 18 = .ok (.iconst (-1), 1) := by decide +kernel
theorem dX3_readFirst_19 : decode cX3_readFirst 19 = .ok (.if_icmp .eq 7, 3) := by decide +kernel
theorem dX3_readFirst_22 : decode cX3_readFirst 22 = .ok (.iconst 1, 1) := by decide +kernel
theorem dX3_readFirst_23 : decode cX3_readFirst 23 = .ok (.goto 4, 3) := by decide +kernel
theorem dX3_readFirst_26 : decode cX3_readFirst 26 = .ok (.iconst 0, 1) := by decide +kernel
theorem dX3_readFirst_27 : decode cX3_readFirst 27 = .ok (.ireturn, 1) := by decide +kernel
theorem dX3_readSecond_0 : decode cX3_readSecond 0 = .ok (.aload_n 0, 1) := by decide +kernel
theorem dX3_readSecond_1 : decode cX3_readSecond 1 = .ok (.aload_n 0, 1) := by decide +kernel
theorem dX3_readSecond_2 : decode cX3_readSecond 2 = .ok (.iload_n 1, 1) := by decide +kernel
theorem dX3_readSecond_3 : decode cX3_readSecond 3 = .ok (.invokevirtual 61, 3) := by decide +kernel
theorem dX3_readSecond_6 : decode cX3_readSecond 6 = .ok (.putfield 28, 3) := by decide +kernel
theorem dX3_readSecond_9 : decode cX3_readSecond 9 = .ok (.aload_n 0, 1) := by decide +kernel
theorem dX3_readSecond_10 : decode cX3_readSecond 10 = .ok (.getfield 28, 3) := by decide +kernel
theorem dX3_readSecond_13 : decode cX3_readSecond 13 = .ok (.iconst (-1), 1) := by decide +kernel
theorem dX3_readSecond_14 : decode cX3_readSecond 14 = .ok (.if_icmp .eq 7, 3) := by decide +kernel
theorem dX3_readSecond_17 : decode cX3_readSecond 17 = .ok (.iconst 1, 1) := by decide +kernel
theorem dX3_readSecond_18 : decode cX3_readSecond 18 = .ok (.goto 4, 3) := by decide +kernel
theorem dX3_readSecond_21 : decode cX3_readSecond 21 = .ok (.iconst 0, 1) := by decide +kernel
theorem dX3_readSecond_22 : decode cX3_readSecond 22 = .ok (.ireturn, 1) := by decide +kernel
theorem dX3_readDigit_0 : decode cX3_readDigit 0 = .ok (.aload_n 0, 1) := by decide +kernel
theorem dX3_readDigit_1 : decode cX3_readDigit 1 = .ok (.aload_n 0, 1) := by decide +kernel
theorem dX3_readDigit_2 : decode cX3_readDigit 2 = .ok (.getfield 19, 3) := by decide +kernel
theorem dX3_readDigit_5 : decode cX3_readDigit 5 = .ok (.invokevirtual 44, 3) := by decide +kernel
theorem dX3_readDigit_8 : decode cX3_readDigit 8 = .ok (.bipush 48, 2) := by decide +kernel
theorem dX3_readDigit_10 : decode cX3_readDigit 10 = .ok (.isub, 1) := by decide +kernel
theorem dX3_readDigit_11 : decode cX3_readDigit 11 = .ok (.istore_n 2, 1) := by decide +kernel
theorem dX3_readDigit_12 : decode cX3_readDigit 12 = .ok (.iload_n 2, 1) := by decide +kernel
theorem dX3_readDigit_13 : decode cX3_readDigit 13 = .ok (.ifCond .lt 8, 3) := by decide +kernel
theorem dX3_readDigit_16 : decode cX3_readDigit 16 = .ok (.iload_n 2, 1) := by decide +kernel
theorem dX3_readDigit_17 : decode cX3_readDigit 17 = .ok (.iload_n 1, 1) := by decide +kernel
theorem dX3_readDigit_18 : decode cX3_readDigit 18 = .ok (.if_icmp .lt 5, 3) := by decide +kernel
theorem dX3_readDigit_21 : decode cX3_readDigit 21 = .ok (.iconst (-1), 1) := by decide +kernel
theorem dX3_readDigit_22 : decode cX3_readDigit 22 = .ok (.ireturn, 1) := by decide +kernel
theorem dX3_readDigit_23 : decode cX3_readDigit 23 = .ok (.aload_n 0, 1) := by decide +kernel
theorem dX3_readDigit_24 : decode cX3_readDigit 24 = .ok (.dup, 1) := by decide +kernel
theorem dX3_readDigit_25 : decode cX3_readDigit 25 = .ok (.getfield 19, 3) := by decide +kernel
theorem dX3_readDigit_28 : decode cX3_readDigit 28 = .ok (.iconst 1, 1) := by decide +kernel
theorem dX3_readDigit_29 : decode cX3_readDigit 29 = .ok (.iadd, 1) := by decide +kernel
theorem dX3_readDigit_30 : decode cX3_readDigit 30 = .ok (.putfield 19, 3) := by decide +kernel
theorem dX3_readDigit_33 : decode cX3_readDigit 33 = .ok (.iload_n 2, 1) := by decide +kernel
theorem dX3_readDigit_34 : decode cX3_readDigit 34 = .ok (.ireturn, 1) := by decide +kernel
theorem dX3_readNumber_0 : decode cX3_readNumber 0 = .ok (.aload_n 0, 1) := by decide +kernel
theorem dX3_readNumber_1 : decode cX3_readNumber 1 = .ok (.getfield 19, 3) := by decide +kernel
theorem dX3_readNumber_4 : decode cX3_readNumber 4 = .ok (.istore_n 1, 1) := by decide +kernel
theorem dX3_readNumber_5 : decode cX3_readNumber 5 = .ok (.aload_n 0, 1) := by decide +kernel
theorem dX3_readNumber_6 : decode cX3_readNumber 6 = .ok (.iconst 0, 1) := by decide +kernel
theorem dX3_readNumber_7 : decode cX3_readNumber 7 = .ok (.putfield 31, 3) := by decide +kernel
theorem dX3_readNumber_10 : decode cX3_readNumber 10 = .ok (.iconst 0, 1) := by decide +kernel
theorem dX3_readNumber_11 : decode cX3_readNumber 11 = .ok (.istore_n 2, 1) := by decide +kernel
theorem dX3_readNumber_12 : decode cX3_readNumber 12 = .ok (.iload_n 2, 1) := by decide +kernel
theorem dX3_readNumber_13 : decode cX3_readNumber 13 = .ok (.iconst 2, 1) := by decide +kernel
theorem dX3_readNumber_14 : decode cX3_readNumber 14 = .ok (.if_icmp .ge 56, 3) := by decide +kernel
theorem dX3_readNumber_17 : decode cX3_readNumber 17 = .ok (.aload_n 0, 1) := by decide +kernel
theorem dX3_readNumber_18 : decode cX3_readNumber 18 = .ok (.aload_n 0, 1) := by decide +kernel
theorem dX3_readNumber_19 : decode cX3_readNumber 19 = .ok (.getfield 19, 3) := by decide +kernel
theorem dX3_readNumber_22 : decode cX3_readNumber 22 = .ok (.invokevirtual 44, 3) := by decide +kernel
theorem dX3_readNumber_25 : decode cX3_readNumber 25 = .ok (.invokestatic 64, 3) := by decide +kernel
theorem dX3_readNumber_28 : decode cX3_readNumber 28 = .ok (.ifCond .eq 42, 3) := by decide +kernel
theorem dX3_readNumber_31 : decode cX3_readNumber 31 = .ok (.aload_n 0, 1) := by decide +kernel
theorem dX3_readNumber_32 : decode cX3_readNumber 32 = .ok (.bipush 10, 2) := by decide +kernel
theorem dX3_readNumber_34 : decode cX3_readNumber 34 = .ok (.aload_n 0, 1) := by decide +kernel
theorem dX3_readNumber_35 : decode cX3_readNumber 35 = .ok (.getfield 31, 3) := by decide +kernel
theorem dX3_readNumber_38 : decode cX3_readNumber 38 = .ok (.imul, 1) := by decide +kernel
theorem dX3_readNumber_39 : decode cX3_readNumber 39 = .ok (.aload_n 0, 1) := by decide +kernel
theorem dX3_readNumber_40 : decode cX3_readNumber 40 = .ok (.aload_n 0, 1) := by decide +kernel
theorem dX3_readNumber_41 : decode cX3_readNumber 41 = .ok (.getfield 19, 3) := by decide +kernel
theorem dX3_readNumber_44 : decode cX3_readNumber 44 = .ok (.invokevirtual 44, 3) := by decide +kernel
theorem dX3_readNumber_47 : decode cX3_readNumber 47 = .ok (.bipush 48, 2) := by decide +kernel
theorem dX3_readNumber_49 : decode cX3_readNumber 49 = .ok (.isub, 1) := by decide +kernel
theorem dX3_readNumber_50 : decode cX3_readNumber 50 = .ok (.iadd, 1) := by decide +kernel
theorem dX3_readNumber_51 : decode cX3_readNumber 51 = .ok (.putfield 31, 3) := by decide +kernel
theorem dX3_readNumber_54 : decode cX3_readNumber 54 = .ok (.aload_n 0, 1) := by decide +kernel
theorem dX3_readNumber_55 : decode cX3_readNumber 55 = .ok (.dup, 1) := by decide +kernel
theorem dX3_readNumber_56 : decode cX3_readNumber 56 = .ok (.getfield 19, 3) := by decide +kernel
theorem dX3_readNumber_59 : decode cX3_readNumber 59 = .ok (.iconst 1, 1) := by decide +kernel
theorem dX3_readNumber_60 : decode cX3_readNumber 60 = .ok (.iadd, 1) := by decide +kernel
theorem dX3_readNumber_61 : decode cX3_readNumber 61 = .ok (.putfield 19, 3) := by decide +kernel
theorem dX3_readNumber_64 : decode cX3_readNumber 64 = .ok (.iinc 2 1, 3) := by decide +kernel
theorem dX3_readNumber_67 : decode cX3_readNumber 67 = .ok (.goto (-55), 3) := by decide +kernel
theorem dX3_readNumber_70 : decode cX3_readNumber 70 = .ok (.aload_n 0, 1) := by decide +kernel
theorem dX3_readNumber_71 : decode cX3_readNumber 71 = .ok (.getfield 19, 3) := by decide +kernel
theorem dX3_readNumber_74 : decode cX3_readNumber 74 = .ok (.iload_n 1, 1) := by decide +kernel
theorem dX3_readNumber_75 : decode cX3_readNumber 75 = .ok (.if_icmp .eq 17, 3) := by decide +kernel
theorem dX3_readNumber_78 : decode cX3_readNumber 78 = .ok (.aload_n 0, 1) := by decide +kernel
theorem dX3_readNumber_79 : decode cX3_readNumber 79 = .ok (.aload_n 0, 1) := by decide +kernel
theorem dX3_readNumber_80 : decode cX3_readNumber 80 = .ok (.getfield 19, 3) := by decide +kernel
theorem dX3_readNumber_83 : decode cX3_readNumber 83 = .ok (.invokevirtual 44, 3) := by decide +kernel
theorem dX3_readNumber_86 : decode cX3_readNumber 86 = .ok (.invokestatic 64, 3) := by decide +kernel
theorem dX3_readNumber_89 : decode cX3_readNumber 89 = .ok (.ifCond .eq 5, 3) := by decide +kernel
theorem dX3_readNumber_92 : decode cX3_readNumber 92 = .ok (.iconst 0, 1) := by decide +kernel
theorem dX3_readNumber_93 : decode cX3_readNumber 93 = .ok (.ireturn, 1) := by decide +kernel
theorem dX3_readNumber_94 : decode cX3_readNumber 94 = .ok (.aload_n 0, 1) := by decide +kernel
theorem dX3_readNumber_95 : decode cX3_readNumber 95 = .ok (.getfield 31, 3) := by decide +kernel
theorem dX3_readNumber_98 : decode cX3_readNumber 98 = .ok (.iconst 1, 1) := by decide +kernel
theorem dX3_readNumber_99 : decode cX3_readNumber 99 = .ok (.if_icmp .ge 10, 3) := by decide +kernel
theorem dX3_readNumber_102 : decode cX3_readNumber 102 = .ok (.aload_n 0, 1) := by decide +kernel
theorem dX3_readNumber_103 : decode cX3_readNumber 103 = .ok (.iload_n 1, 1) := by decide +kernel
theorem dX3_readNumber_104 : decode cX3_readNumber 104 = .ok (.putfield 19, 3) := by decide +kernel
theorem dX3_readNumber_107 : decode cX3_readNumber 107 = .ok (.iconst 0, 1) := by decide +kernel
theorem dX3_readNumber_108 : decode cX3_readNumber 108 = .ok (.ireturn, 1) := by decide +kernel
theorem dX3_readNumber_109 : decode cX3_readNumber 109 = .ok (.iconst 1, 1) := by decide +kernel
theorem dX3_readNumber_110 : decode cX3_readNumber 110 = .ok (.ireturn, 1) := by decide +kernel
theorem dX3_isDigit_0 : decode cX3_isDigit 0 = .ok (.iload_n 0, 1) := by decide +kernel
theorem dX3_isDigit_1 : decode cX3_isDigit 1 = .ok (.bipush 48, 2) := by decide +kernel
theorem dX3_isDigit_3 : decode cX3_isDigit 3 = .ok (.if_icmp .lt 13, 3) := by decide +kernel
theorem dX3_isDigit_6 : decode cX3_isDigit 6 = .ok (.iload_n 0, 1) := by decide +kernel
theorem dX3_isDigit_7 : decode cX3_isDigit 7 = .ok (.bipush 57, 2) := by decide +kernel
theorem dX3_isDigit_9 : decode cX3_isDigit 9 = .ok (.if_icmp .gt 7, 3) := by decide +kernel
theorem dX3_isDigit_12 : decode cX3_isDigit 12 = .ok (.iconst 1, 1) := by decide +kernel
theorem dX3_isDigit_13 : decode cX3_isDigit 13 = .ok (.goto 4, 3) := by decide +kernel
theorem dX3_isDigit_16 : decode cX3_isDigit 16 = .ok (.iconst 0, 1) := by decide +kernel
theorem dX3_isDigit_17 : decode cX3_isDigit 17 = .ok (.ireturn, 1) := by decide +kernel
theorem dX4_init_0 : decode cX4_init 0 = .ok (.aload_n 0, 1) := by decide +kernel
theorem dX4_init_1 : decode cX4_init 1 = .ok (.invokespecial 1, 3) := by decide +kernel
theorem dX4_init_4 : decode cX4_init 4 = .ok (.aload_n 0, 1) := by decide +kernel
theorem dX4_init_5 : decode cX4_init 5 = .ok (.new 7, 3) := by decide +kernel
theorem dX4_init_8 : decode cX4_init 8 = .ok (.dup, 1) := by decide +kernel
theorem dX4_init_9 : decode cX4_init 9 = .ok (.invokespecial 9, 3) := by decide +kernel
theorem dX4_init_12 : decode cX4_init 12 = .ok (.putfield 10, 3) := by decide +kernel
theorem dX4_init_15 : decode cX4_init 15 = .ok (.aload_n 0, 1) := by decide +kernel
theorem dX4_init_16 : decode cX4_init 16 = .ok (.iconst 4, 1) := by decide +kernel
theorem dX4_init_17 : decode cX4_init 17 = .ok (.anewarray 7, 3) := by decide +kernel
theorem dX4_init_20 : decode cX4_init 20 = .ok (.putfield 16, 3) := by decide +kernel
theorem dX4_init_23 : decode cX4_init 23 = .ok (.aload_n 0, 1) := by decide +kernel
theorem dX4_init_24 : decode cX4_init 24 = .ok (.iconst 0, 1) := by decide +kernel
theorem dX4_init_25 : decode cX4_init 25 = .ok (.putfield 20, 3) := by decide +kernel
theorem dX4_init_28 : decode cX4_init 28 = .ok (.aload_n 0, 1) := by decide +kernel
theorem dX4_init_29 : decode cX4_init 29 = .ok (.new 24, 3) := by decide +kernel
theorem dX4_init_32 : decode cX4_init 32 = .ok (.dup, 1) := by decide +kernel
theorem dX4_init_33 : decode cX4_init 33 = .ok (.invokespecial 26, 3) := by decide +kernel
theorem dX4_init_36 : decode cX4_init 36 = .ok (.putfield 27, 3) := by decide +kernel
theorem dX4_init_39 : decode cX4_init 39 = .ok (.aload_n 0, 1) := by decide +kernel
theorem dX4_init_40 : decode cX4_init 40 = .ok (.bipush 8, 2) := by decide +kernel
theorem dX4_init_42 : decode cX4_init 42 = .ok (.newarray .int, 2) := by decide +kernel
theorem dX4_init_44 : decode cX4_init 44 = .ok (.putfield 31, 3) := by decide +kernel
theorem dX4_init_47 : decode cX4_init 47 = .ok (.iconst 0, 1) := by decide +kernel
theorem dX4_init_48 : decode cX4_init 48 = .ok (.istore_n 1, 1) := by decide +kernel
theorem dX4_init_49 : decode cX4_init 49 = .ok (.iload_n 1, 1) := by decide +kernel
theorem dX4_init_50 : decode cX4_init 50 = .ok (.iconst 4, 1) := by decide +kernel
theorem dX4_init_51 : decode cX4_init 51 = .ok (.if_icmp .ge 22, 3) := by decide +kernel
theorem dX4_init_54 : decode cX4_init 54 = .ok (.aload_n 0, 1) := by decide +kernel
theorem dX4_init_55 : decode cX4_init 55 = .ok (.getfield 16, 3) := by decide +kernel
theorem dX4_init_58 : decode cX4_init 58 = .ok (.iload_n 1, 1) := by decide +kernel
theorem dX4_init_59 : decode cX4_init 59 = .ok (.new 7, 3) := by decide +kernel
theorem dX4_init_62 : decode cX4_init 62 = .ok (.dup, 1) := by decide +kernel
theorem dX4_init_63 : decode cX4_init 63 = .ok (.invokespecial 9, 3) := by decide +kernel
theorem dX4_init_66 : decode cX4_init 66 = .ok (.aastore, 1) := by decide +kernel
theorem dX4_init_67 : decode cX4_init 67 = .ok (.iinc 1 1, 3) := by decide +kernel
theorem dX4_init_70 : decode cX4_init 70 = .ok (.goto (-21), 3) := by decide +kernel
theorem dX4_init_73 : decode cX4_init 73 = .ok (.return_, 1) := by decide +kernel
theorem dX4_begin_0 : decode cX4_begin 0 = .ok (.iload_n 1, 1) := by decide +kernel
theorem dX4_begin_1 : decode cX4_begin 1 = .ok (.iconst 4, 1) := by decide +kernel
theorem dX4_begin_2 : decode cX4_begin 2 = .ok (.if_icmp .lt 9, 3) := by decide +kernel
theorem dX4_begin_5 : decode cX4_begin 5 = .ok (.iload_n 1, 1) := by decide +kernel
theorem dX4_begin_6 : decode cX4_begin 6 = .ok (.bipush 32, 2) := by decide +kernel
theorem dX4_begin_8 : decode cX4_begin 8 = .ok (.if_icmp .le 13, 3) := by decide +kernel
theorem dX4_begin_11 : decode cX4_begin 11 = .ok (.new 35, 3) := by decide +kernel
theorem dX4_begin_14 : decode cX4_begin 14 = .ok (.dup, 1) := by decide +kernel
theorem dX4_begin_15 : decode cX4_begin 15 = .ok (.ldc 37, 2) := by decide +kernel
theorem dX4_begin_17 : decode cX4_begin 17 = .ok (.invokespecial 39, 3) := by decide +kernel
theorem dX4_begin_20 : decode cX4_begin 20 = .ok (.athrow, 1) := by decide +kernel
theorem dX4_begin_21 : decode cX4_begin 21 = .ok (.aload_n 0, 1) := by decide +kernel
theorem dX4_begin_22 : decode cX4_begin 22 = .ok (.invokevirtual 42, 3) := by decide +kernel
theorem dX4_begin_25 : decode cX4_begin 25 = .ok (.aload_n 0, 1) := by decide +kernel
theorem dX4_begin_26 : decode cX4_begin 26 = .ok (.getfield 10, 3) := by decide +kernel
theorem dX4_begin_29 : decode cX4_begin 29 = .ok (.getfield 45, 3) := by decide +kernel
theorem dX4_begin_32 : decode cX4_begin 32 = .ok (.invokevirtual 49, 3) := by decide +kernel
theorem dX4_begin_35 : decode cX4_begin 35 = .ok (.istore_n 2, 1) := by decide +kernel
theorem dX4_begin_36 : decode cX4_begin 36 = .ok (.aload_n 0, 1) := by decide +kernel
theorem dX4_begin_37 : decode cX4_begin 37 = .ok (.getfield 10, 3) := by decide +kernel
theorem dX4_begin_40 : decode cX4_begin 40 = .ok (.iload_n 1, 1) := by decide +kernel
theorem dX4_begin_41 : decode cX4_begin 41 = .ok (.invokevirtual 55, 3) := by decide +kernel
theorem dX4_begin_44 : decode cX4_begin 44 = .ok (.iload_n 2, 1) := by decide +kernel
theorem dX4_begin_45 : decode cX4_begin 45 = .ok (.ireturn, 1) := by decide +kernel
theorem dX4_write_0 : decode cX4_write 0 = .ok (.iload_n 1, 1) := by decide +kernel
theorem dX4_write_1 : decode cX4_write 1 = .ok (.iload_n 2, 1) := by decide +kernel
theorem dX4_write_2 : decode cX4_write 2 = .ok (.iload_n 3, 1) := by decide +kernel
theorem dX4_write_3 : decode cX4_write 3 = .ok (.iload 4, 2) := by decide +kernel
theorem dX4_write_5 : decode cX4_write 5 = .ok (.invokestatic 59, 3) := by decide +kernel
theorem dX4_write_8 : decode cX4_write 8 = .ok (.ifCond .ne 13, 3) := by decide +kernel
theorem dX4_write_11 : decode cX4_write 11 = .ok (.new 35, 3) := by decide +kernel
theorem dX4_write_14 : decode cX4_write 14 = .ok (.dup, 1) := by decide +kernel
theorem dX4_write_15 : decode cX4_write 15 = .ok (.ldc 63, 2) := by decide +kernel
theorem dX4_write_17 : decode cX4_write 17 = .ok (.invokespecial 39, 3) := by decide +kernel
theorem dX4_write_20 : decode cX4_write 20 = .ok (.athrow, 1) := by decide +kernel
theorem dX4_write_21 : decode cX4_write 21 = .ok (.aload_n 0, 1) := by decide +kernel
theorem dX4_write_22 : decode cX4_write 22 = .ok (.getfield 10, 3) := by decide +kernel
theorem dX4_write_25 : decode cX4_write 25 = .ok (.getfield 45, 3) := by decide +kernel
theorem dX4_write_28 : decode cX4_write 28 = .ok (.invokevirtual 65, 3) := by decide +kernel
theorem dX4_write_31 : decode cX4_write 31 = .ok (.ifCond .eq 13, 3) := by decide +kernel
theorem dX4_write_34 : decode cX4_write 34 = .ok (.new 69, 3) := by decide +kernel
theorem dX4_write_37 : decode cX4_write 37 = .ok (.dup, 1) := by decide +kernel
theorem dX4_write_38 : decode cX4_write 38 = .ok (.ldc 71, 2) := by decide +kernel
theorem dX4_write_40 : decode cX4_write 40 = .ok (.invokespecial 73, 3) := by decide +kernel
theorem dX4_write_43 : decode cX4_write 43 = .ok (.athrow, 1) := by decide +kernel
theorem dX4_write_44 : decode cX4_write 44 = .ok (.aload_n 0, 1) := by decide +kernel
theorem dX4_write_45 : decode cX4_write 45 = .ok (.invokevirtual 42, 3) := by decide +kernel
theorem dX4_write_48 : decode cX4_write 48 = .ok (.aload_n 0, 1) := by decide +kernel
theorem dX4_write_49 : decode cX4_write 49 = .ok (.getfield 10, 3) := by decide +kernel
theorem dX4_write_52 : decode cX4_write 52 = .ok (.getfield 45, 3) := by decide +kernel
theorem dX4_write_55 : decode cX4_write 55 = .ok (.iload_n 1, 1) := by decide +kernel
theorem dX4_write_56 : decode cX4_write 56 = .ok (.iload_n 2, 1) := by decide +kernel
theorem dX4_write_57 : decode cX4_write 57 = .ok (.iload_n 3, 1) := by decide +kernel
theorem dX4_write_58 : decode cX4_write 58 = .ok (.iload 4, 2) := by decide +kernel
theorem dX4_write_60 : decode cX4_write 60 = .ok (.invokevirtual 74, 3) := by decide +kernel
theorem dX4_write_63 : decode cX4_write 63 = .ok (.ireturn, 1) := by decide +kernel
theorem dX4_spoil_0 : decode cX4_spoil 0 = .ok (.aload_n 0, 1) := by decide +kernel
theorem dX4_spoil_1 : decode cX4_spoil 1 = .ok (.iload_n 1, 1) := by decide +kernel
theorem dX4_spoil_2 : decode cX4_spoil 2 = .ok (.invokevirtual 78, 3) := by decide +kernel
theorem dX4_spoil_5 : decode cX4_spoil 5 = .ok (.iload_n 2, 1) := by decide +kernel
theorem dX4_spoil_6 : decode cX4_spoil 6 = .ok (.ifCond .lt 8, 3) := by decide +kernel
theorem dX4_spoil_9 : decode cX4_spoil 9 = .ok (.iload_n 2, 1) := by decide +kernel
theorem dX4_spoil_10 : decode cX4_spoil 10 = .ok (.iconst 2, 1) := by decide +kernel
theorem dX4_spoil_11 : decode cX4_spoil 11 = .ok (.if_icmp .lt 13, 3) := by decide +kernel
theorem dX4_spoil_14 : decode cX4_spoil 14 = .ok (.new 35, 3) := by decide +kernel
theorem dX4_spoil_17 : decode cX4_spoil 17 = .ok (.dup, 1) := by decide +kernel
theorem dX4_spoil_18 : decode cX4_spoil 18 = .ok (.ldc 81, 2) := by decide +kernel
theorem dX4_spoil_20 : decode cX4_spoil 20 = .ok (.invokespecial 39, 3) := by decide +kernel
theorem dX4_spoil_23 : decode cX4_spoil 23 = .ok (.athrow, 1) := by decide +kernel
theorem dX4_spoil_24 : decode cX4_spoil 24 = .ok (.aload_n 0, 1) := by decide +kernel
theorem dX4_spoil_25 : decode cX4_spoil 25 = .ok (.invokevirtual 42, 3) := by decide +kernel
theorem dX4_spoil_28 : decode cX4_spoil 28 = .ok (.aload_n 0, 1) := by decide +kernel
theorem dX4_spoil_29 : decode cX4_spoil 29 = .ok (.getfield 10, 3) := by decide +kernel
theorem dX4_spoil_32 : decode cX4_spoil 32 = .ok (.getfield 45, 3) := by decide +kernel
theorem dX4_spoil_35 : decode cX4_spoil 35 = .ok (.iload_n 1, 1) := by decide +kernel
theorem dX4_spoil_36 : decode cX4_spoil 36 = .ok (.iload_n 2, 1) := by decide +kernel
theorem dX4_spoil_37 : decode cX4_spoil 37 = .ok (.invokevirtual 83, 3) := by decide +kernel
theorem dX4_spoil_40 : decode cX4_spoil 40 = .ok (.ireturn, 1) := by decide +kernel
theorem dX4_repair_0 : decode cX4_repair 0 = .ok (.aload_n 0, 1) := by decide +kernel
theorem dX4_repair_1 : decode cX4_repair 1 = .ok (.invokevirtual 42, 3) := by decide +kernel
theorem dX4_repair_4 : decode cX4_repair 4 = .ok (.aload_n 0, 1) := by decide +kernel
theorem dX4_repair_5 : decode cX4_repair 5 = .ok (.getfield 10, 3) := by decide +kernel
theorem dX4_repair_8 : decode cX4_repair 8 = .ok (.invokevirtual 87, 3) := by decide +kernel
theorem dX4_repair_11 : decode cX4_repair 11 = .ok (.ireturn, 1) := by decide +kernel
theorem dX4_replay_0 : decode cX4_replay 0 = .ok (.iload_n 1, 1) := by decide +kernel
theorem dX4_replay_1 : decode cX4_replay 1 = .ok (.invokestatic 90, 3) := by decide +kernel
theorem dX4_replay_4 : decode cX4_replay 4 = .ok (.iload_n 2, 1) := by decide +kernel
theorem dX4_replay_5 : decode cX4_replay 5 = .ok (.iconst 1, 1) := by decide +kernel
theorem dX4_replay_6 : decode cX4_replay 6 = .ok (.if_icmp .lt 9, 3) := by decide +kernel
theorem dX4_replay_9 : decode cX4_replay 9 = .ok (.iload_n 2, 1) := by decide +kernel
theorem dX4_replay_10 : decode cX4_replay 10 = .ok (.bipush 99, 2) := by decide +kernel
theorem dX4_replay_12 : decode cX4_replay 12 = .ok (.if_icmp .le 13, 3) := by decide +kernel
theorem dX4_replay_15 : decode cX4_replay 15 = .ok (.new 35, 3) := by decide +kernel
theorem dX4_replay_18 : decode cX4_replay 18 = .ok (.dup, 1) := by decide +kernel
theorem dX4_replay_19 : decode cX4_replay 19 = .ok (.ldc 93, 2) := by decide +kernel
theorem dX4_replay_21 : decode cX4_replay 21 = .ok (.invokespecial 39, 3) := by decide +kernel
theorem dX4_replay_24 : decode cX4_replay 24 = .ok (.athrow, 1) := by decide +kernel
theorem dX4_replay_25 : decode cX4_replay 25 = .ok (.aload_n 0, 1) := by decide +kernel
theorem dX4_replay_26 : decode cX4_replay 26 = .ok (.invokevirtual 42, 3) := by decide +kernel
theorem dX4_replay_29 : decode cX4_replay 29 = .ok (.aload_n 0, 1) := by decide +kernel
theorem dX4_replay_30 : decode cX4_replay 30 = .ok (.getfield 10, 3) := by decide +kernel
theorem dX4_replay_33 : decode cX4_replay 33 = .ok (.aload_n 0, 1) := by decide +kernel
theorem dX4_replay_34 : decode cX4_replay 34 = .ok (.getfield 10, 3) := by decide +kernel
theorem dX4_replay_37 : decode cX4_replay 37 = .ok (.iload_n 1, 1) := by decide +kernel
theorem dX4_replay_38 : decode cX4_replay 38 = .ok (.invokevirtual 95, 3) := by decide +kernel
theorem dX4_replay_41 : decode cX4_replay 41 = .ok (.iload_n 2, 1) := by decide +kernel
theorem dX4_replay_42 : decode cX4_replay 42 = .ok (.invokevirtual 99, 3) := by decide +kernel
theorem dX4_replay_45 : decode cX4_replay 45 = .ok (.ireturn, 1) := by decide +kernel
theorem dX4_snapshot_0 : decode cX4_snapshot 0 = .ok (.iload_n 1, 1) := by decide +kernel
theorem dX4_snapshot_1 : decode cX4_snapshot 1 = .ok (.invokestatic 90, 3) := by decide +kernel
theorem dX4_snapshot_4 : decode cX4_snapshot 4 = .ok (.aload_n 0, 1) := by decide +kernel
theorem dX4_snapshot_5 : decode cX4_snapshot 5 = .ok (.getfield 10, 3) := by decide +kernel
theorem dX4_snapshot_8 : decode cX4_snapshot 8 = .ok (.iload_n 1, 1) := by decide +kernel
theorem dX4_snapshot_9 : decode cX4_snapshot 9 = .ok (.invokevirtual 95, 3) := by decide +kernel
theorem dX4_snapshot_12 : decode cX4_snapshot 12 = .ok (.getfield 103, 3) := by decide +kernel
theorem dX4_snapshot_15 : decode cX4_snapshot 15 = .ok (.ifCond .ne 13, 3) := by decide +kernel
theorem dX4_snapshot_18 : decode cX4_snapshot 18 = .ok (.new 69, 3) := by decide +kernel
theorem dX4_snapshot_21 : decode cX4_snapshot 21 = .ok (.dup, 1) := by decide +kernel
theorem dX4_snapshot_22 : decode cX4_snapshot 22 = .ok (.ldc 109, 2) := by decide +kernel
theorem dX4_snapshot_24 : decode cX4_snapshot 24 = .ok (.invokespecial 73, 3) := by decide +kernel
theorem dX4_snapshot_27 : decode cX4_snapshot 27 = .ok (.athrow, 1) := by decide +kernel
theorem dX4_snapshot_28 : decode cX4_snapshot 28 = .ok (.aload_n 0, 1) := by decide +kernel
theorem dX4_snapshot_29 : decode cX4_snapshot 29 = .ok (.invokevirtual 42, 3) := by decide +kernel
theorem dX4_snapshot_32 : decode cX4_snapshot 32 = .ok (.aload_n 0, 1) := by decide +kernel
theorem dX4_snapshot_33 : decode cX4_snapshot 33 = .ok (.getfield 10, 3) := by decide +kernel
theorem dX4_snapshot_36 : decode cX4_snapshot 36 = .ok (.aload_n 0, 1) := by decide +kernel
theorem dX4_snapshot_37 : decode cX4_snapshot 37 = .ok (.getfield 10, 3) := by decide +kernel
theorem dX4_snapshot_40 : decode cX4_snapshot 40 = .ok (.iload_n 1, 1) := by decide +kernel
theorem dX4_snapshot_41 : decode cX4_snapshot 41 = .ok (.invokevirtual 95, 3) := by decide +kernel
theorem dX4_snapshot_44 : decode cX4_snapshot 44 = .ok (.invokevirtual 111, 3) := by decide +kernel
theorem dX4_snapshot_47 : decode cX4_snapshot 47 = .ok (.ireturn, 1) := by decide +kernel
theorem dX4_crash_0 : decode cX4_crash 0 = .ok (.iload_n 1, 1) := by decide +kernel
theorem dX4_crash_1 : decode cX4_crash 1 = .ok (.invokestatic 90, 3) := by decide +kernel
theorem dX4_crash_4 : decode cX4_crash 4 = .ok (.aload_n 0, 1) := by decide +kernel
theorem dX4_crash_5 : decode cX4_crash 5 = .ok (.invokevirtual 42, 3) := by decide +kernel
theorem dX4_crash_8 : decode cX4_crash 8 = .ok (.aload_n 0, 1) := by decide +kernel
theorem dX4_crash_9 : decode cX4_crash 9 = .ok (.getfield 10, 3) := by decide +kernel
theorem dX4_crash_12 : decode cX4_crash 12 = .ok (.iload_n 1, 1) := by decide +kernel
theorem dX4_crash_13 : decode cX4_crash 13 = .ok (.invokevirtual 95, 3) := by decide +kernel
theorem dX4_crash_16 : decode cX4_crash 16 = .ok (.invokevirtual 115, 3) := by decide +kernel
theorem dX4_crash_19 : decode cX4_crash 19 = .ok (.ireturn, 1) := by decide +kernel
theorem dX4_link_0 : decode cX4_link 0 = .ok (.iload_n 1, 1) := by decide +kernel
theorem dX4_link_1 : decode cX4_link 1 = .ok (.invokestatic 90, 3) := by decide +kernel
theorem dX4_link_4 : decode cX4_link 4 = .ok (.aload_n 0, 1) := by decide +kernel
theorem dX4_link_5 : decode cX4_link 5 = .ok (.getfield 10, 3) := by decide +kernel
theorem dX4_link_8 : decode cX4_link 8 = .ok (.iload_n 1, 1) := by decide +kernel
theorem dX4_link_9 : decode cX4_link 9 = .ok (.invokevirtual 95, 3) := by decide +kernel
theorem dX4_link_12 : decode cX4_link 12 = .ok (.getfield 103, 3) := by decide +kernel
theorem dX4_link_15 : decode cX4_link 15 = .ok (.iload_n 2, 1) := by decide +kernel
theorem dX4_link_16 : decode cX4_link 16 = .ok (.if_icmp .ne 13, 3) := by decide +kernel
theorem dX4_link_19 : decode cX4_link 19 = .ok (.new 69, 3) := by decide +kernel
theorem dX4_link_22 : decode cX4_link 22 = .ok (.dup, 1) := by decide +kernel
theorem dX4_link_23 : decode cX4_link 23 = .ok (.ldc 118, 2) := by decide +kernel
theorem dX4_link_25 : decode cX4_link 25 = .ok (.invokespecial 73, 3) := by decide +kernel
theorem dX4_link_28 : decode cX4_link 28 = .ok (.athrow, 1) := by decide +kernel
theorem dX4_link_29 : decode cX4_link 29 = .ok (.aload_n 0, 1) := by decide +kernel
theorem dX4_link_30 : decode cX4_link 30 = .ok (.invokevirtual 42, 3) := by decide +kernel
theorem dX4_link_33 : decode cX4_link 33 = .ok (.aload_n 0, 1) := by decide +kernel
theorem dX4_link_34 : decode cX4_link 34 = .ok (.getfield 10, 3) := by decide +kernel
theorem dX4_link_37 : decode cX4_link 37 = .ok (.iload_n 1, 1) := by decide +kernel
theorem dX4_link_38 : decode cX4_link 38 = .ok (.invokevirtual 95, 3) := by decide +kernel
theorem dX4_link_41 : decode cX4_link 41 = .ok (.iload_n 2, 1) := by decide +kernel
theorem dX4_link_42 : decode cX4_link 42 = .ok (.putfield 103, 3) := by decide +kernel
theorem dX4_link_45 : decode cX4_link 45 = .ok (.aload_n 0, 1) := by decide +kernel
theorem dX4_link_46 : decode cX4_link 46 = .ok (.getfield 10, 3) := by decide +kernel
theorem dX4_link_49 : decode cX4_link 49 = .ok (.invokevirtual 120, 3) := by decide +kernel
theorem dX4_link_52 : decode cX4_link 52 = .ok (.ireturn, 1) := by decide +kernel
theorem dX4_order_0 : decode cX4_order 0 = .ok (.aload_n 0, 1) := by decide +kernel
theorem dX4_order_1 : decode cX4_order 1 = .ok (.iload_n 1, 1) := by decide +kernel
theorem dX4_order_2 : decode cX4_order 2 = .ok (.invokevirtual 78, 3) := by decide +kernel
theorem dX4_order_5 : decode cX4_order 5 = .ok (.iload_n 2, 1) := by decide +kernel
theorem dX4_order_6 : decode cX4_order 6 = .ok (.tableswitch 107 0 5 #[38, 50, 62, 74, 86, 98], 38) := by decide +kernel
theorem dX4_order_44 : decode cX4_order 44 = .ok (.aload_n 0, 1) := by decide +kernel
theorem dX4_order_45 : decode cX4_order 45 = .ok (.getfield 10, 3) := by decide +kernel
theorem dX4_order_48 : decode cX4_order 48 = .ok (.getfield 45, 3) := by decide +kernel
theorem dX4_order_51 : decode cX4_order 51 = .ok (.iload_n 1, 1) := by decide +kernel
theorem dX4_order_52 : decode cX4_order 52 = .ok (.invokevirtual 123, 3) := by decide +kernel
theorem dX4_order_55 : decode cX4_order 55 = .ok (.ireturn, 1) := by decide +kernel
theorem dX4_order_56 : decode cX4_order 56 = .ok (.aload_n 0, 1) := by decide +kernel
theorem dX4_order_57 : decode cX4_order 57 = .ok (.getfield 10, 3) := by decide +kernel
theorem dX4_order_60 : decode cX4_order 60 = .ok (.getfield 45, 3) := by decide +kernel
theorem dX4_order_63 : decode cX4_order 63 = .ok (.iload_n 1, 1) := by decide +kernel
theorem dX4_order_64 : decode cX4_order 64 = .ok (.invokevirtual 127, 3) := by decide +kernel
theorem dX4_order_67 : decode cX4_order 67 = .ok (.ireturn, 1) := by decide +kernel
theorem dX4_order_68 : decode cX4_order 68 = .ok (.aload_n 0, 1) := by decide +kernel
theorem dX4_order_69 : decode cX4_order 69 = .ok (.getfield 10, 3) := by decide +kernel
theorem dX4_order_72 : decode cX4_order 72 = .ok (.getfield 45, 3) := by decide +kernel
theorem dX4_order_75 : decode cX4_order 75 = .ok (.iload_n 1, 1) := by decide +kernel
theorem dX4_order_76 : decode cX4_order 76 = .ok (.invokevirtual 130, 3) := by decide +kernel
theorem dX4_order_79 : decode cX4_order 79 = .ok (.ireturn, 1) := by decide +kernel
theorem dX4_order_80 : decode cX4_order 80 = .ok (.aload_n 0, 1) := by decide +kernel
theorem dX4_order_81 : decode cX4_order 81 = .ok (.getfield 10, 3) := by decide +kernel
theorem dX4_order_84 : decode cX4_order 84 = .ok (.getfield 45, 3) := by decide +kernel
theorem dX4_order_87 : decode cX4_order 87 = .ok (.iload_n 1, 1) := by decide +kernel
theorem dX4_order_88 : decode cX4_order 88 = .ok (.invokevirtual 133, 3) := by decide +kernel
theorem dX4_order_91 : decode cX4_order 91 = .ok (.ireturn, 1) := by decide +kernel
theorem dX4_order_92 : decode cX4_order 92 = .ok (.aload_n 0, 1) := by decide +kernel
theorem dX4_order_93 : decode cX4_order 93 = .ok (.getfield 10, 3) := by decide +kernel
theorem dX4_order_96 : decode cX4_order 96 = .ok (.getfield 45, 3) := by decide +kernel
theorem dX4_order_99 : decode cX4_order 99 = .ok (.iload_n 1, 1) := by decide +kernel
theorem dX4_order_100 : decode cX4_order 100 = .ok (.invokevirtual 136, 3) := by decide +kernel
theorem dX4_order_103 : decode cX4_order 103 = .ok (.ireturn, 1) := by decide +kernel
theorem dX4_order_104 : decode cX4_order 104 = .ok (.aload_n 0, 1) := by decide +kernel
theorem dX4_order_105 : decode cX4_order 105 = .ok (.getfield 10, 3) := by decide +kernel
theorem dX4_order_108 : decode cX4_order 108 = .ok (.iload_n 1, 1) := by decide +kernel
theorem dX4_order_109 : decode cX4_order 109 = .ok (.invokevirtual 139, 3) := by decide +kernel
theorem dX4_order_112 : decode cX4_order 112 = .ok (.ireturn, 1) := by decide +kernel
theorem dX4_order_113 : decode cX4_order 113 = .ok (.new 35, 3) := by decide +kernel
theorem dX4_order_116 : decode cX4_order 116 = .ok (.dup, 1) := by decide +kernel
theorem dX4_order_117 : decode cX4_order 117 = .ok (.ldc 142, 2) := by decide +kernel
theorem dX4_order_119 : decode cX4_order 119 = .ok (.invokespecial 39, 3) := by decide +kernel
theorem dX4_order_122 : decode cX4_order 122 = .ok (.athrow, 1) := by decide +kernel
theorem dX4_ship_0 : decode cX4_ship 0 = .ok (.iload_n 1, 1) := by decide +kernel
theorem dX4_ship_1 : decode cX4_ship 1 = .ok (.invokestatic 90, 3) := by decide +kernel
theorem dX4_ship_4 : decode cX4_ship 4 = .ok (.aload_n 0, 1) := by decide +kernel
theorem dX4_ship_5 : decode cX4_ship 5 = .ok (.getfield 10, 3) := by decide +kernel
theorem dX4_ship_8 : decode cX4_ship 8 = .ok (.iload_n 1, 1) := by decide +kernel
theorem dX4_ship_9 : decode cX4_ship 9 = .ok (.invokevirtual 95, 3) := by decide +kernel
theorem dX4_ship_12 : decode cX4_ship 12 = .ok (.astore_n 3, 1) := by decide +kernel
theorem dX4_ship_13 : decode cX4_ship 13 = .ok (.iload_n 2, 1) := by decide +kernel
theorem dX4_ship_14 : decode cX4_ship 14 = .ok (.tableswitch 76 0 5 #[38, 43, 48, 61, 66, 71], 38) := by decide +kernel
theorem dX4_ship_52 : decode cX4_ship 52 = .ok (.aload_n 3, 1) := by decide +kernel
theorem dX4_ship_53 : decode cX4_ship 53 = .ok (.getfield 144, 3) := by decide +kernel
theorem dX4_ship_56 : decode cX4_ship 56 = .ok (.ireturn, 1) := by decide +kernel
theorem dX4_ship_57 : decode cX4_ship 57 = .ok (.aload_n 3, 1) := by decide +kernel
theorem dX4_ship_58 : decode cX4_ship 58 = .ok (.getfield 147, 3) := by decide +kernel
theorem dX4_ship_61 : decode cX4_ship 61 = .ok (.ireturn, 1) := by decide +kernel
theorem dX4_ship_62 : decode cX4_ship 62 = .ok (.aload_n 3, 1) := by decide +kernel
theorem dX4_ship_63 : decode cX4_ship 63 = .ok (.getfield 103, 3) := by decide +kernel
theorem dX4_ship_66 : decode cX4_ship 66 = .ok (.ifCond .eq 7, 3) := by decide +kernel
theorem dX4_ship_69 : decode cX4_ship 69 = .ok (.iconst 1, 1) := by decide +kernel
theorem dX4_ship_70 : decode cX4_ship 70 = .ok (.goto 4, 3) := by decide +kernel
theorem dX4_ship_73 : decode cX4_ship 73 = .ok (.iconst 0, 1) := by decide +kernel
theorem dX4_ship_74 : decode cX4_ship 74 = .ok (.ireturn, 1) := by decide +kernel
theorem dX4_ship_75 : decode cX4_ship 75 = .ok (.aload_n 3, 1) := by decide +kernel
theorem dX4_ship_76 : decode cX4_ship 76 = .ok (.invokevirtual 150, 3) := by decide +kernel
theorem dX4_ship_79 : decode cX4_ship 79 = .ok (.ireturn, 1) := by decide +kernel
theorem dX4_ship_80 : decode cX4_ship 80 = .ok (.aload_n 3, 1) := by decide +kernel
theorem dX4_ship_81 : decode cX4_ship 81 = .ok (.getfield 153, 3) := by decide +kernel
theorem dX4_ship_84 : decode cX4_ship 84 = .ok (.ireturn, 1) := by decide +kernel
theorem dX4_ship_85 : decode cX4_ship 85 = .ok (.aload_n 3, 1) := by decide +kernel
theorem dX4_ship_86 : decode cX4_ship 86 = .ok (.getfield 156, 3) := by decide +kernel
theorem dX4_ship_89 : decode cX4_ship 89 = .ok (.ireturn, 1) := by decide +kernel
theorem dX4_ship_90 : decode cX4_ship 90 = .ok (.new 35, 3) := by decide +kernel
theorem dX4_ship_93 : decode cX4_ship 93 = .ok (.dup, 1) := by decide +kernel
theorem dX4_ship_94 : decode cX4_ship 94 = .ok (.ldc 159, 2) := by decide +kernel
theorem dX4_ship_96 : decode cX4_ship 96 = .ok (.invokespecial 39, 3) := by decide +kernel
theorem dX4_ship_99 : decode cX4_ship 99 = .ok (.athrow, 1) := by decide +kernel
theorem dX4_hold_0 : decode cX4_hold 0 = .ok (.iload_n 1, 1) := by decide +kernel
theorem dX4_hold_1 : decode cX4_hold 1 = .ok (.invokestatic 90, 3) := by decide +kernel
theorem dX4_hold_4 : decode cX4_hold 4 = .ok (.iload_n 2, 1) := by decide +kernel
theorem dX4_hold_5 : decode cX4_hold 5 = .ok (.invokestatic 161, 3) := by decide +kernel
theorem dX4_hold_8 : decode cX4_hold 8 = .ok (.aload_n 0, 1) := by decide +kernel
theorem dX4_hold_9 : decode cX4_hold 9 = .ok (.getfield 10, 3) := by decide +kernel
theorem dX4_hold_12 : decode cX4_hold 12 = .ok (.iload_n 1, 1) := by decide +kernel
theorem dX4_hold_13 : decode cX4_hold 13 = .ok (.invokevirtual 95, 3) := by decide +kernel
theorem dX4_hold_16 : decode cX4_hold 16 = .ok (.getfield 164, 3) := by decide +kernel
theorem dX4_hold_19 : decode cX4_hold 19 = .ok (.iload_n 2, 1) := by decide +kernel
theorem dX4_hold_20 : decode cX4_hold 20 = .ok (.iaload, 1) := by decide +kernel
theorem dX4_hold_21 : decode cX4_hold 21 = .ok (.ireturn, 1) := by decide +kernel
theorem dX4_value_0 : decode cX4_value 0 = .ok (.iload_n 1, 1) := by decide +kernel
theorem dX4_value_1 : decode cX4_value 1 = .ok (.tableswitch 117 0 6 #[43, 54, 65, 76, 87, 98, 109], 43) := by decide +kernel
theorem dX4_value_44 : decode cX4_value 44 = .ok (.aload_n 0, 1) := by decide +kernel
theorem dX4_value_45 : decode cX4_value 45 = .ok (.getfield 10, 3) := by decide +kernel
theorem dX4_value_48 : decode cX4_value 48 = .ok (.getfield 45, 3) := by decide +kernel
theorem dX4_value_51 : decode cX4_value 51 = .ok (.getfield 167, 3) := by decide +kernel
theorem dX4_value_54 : decode cX4_value 54 = .ok (.ireturn, 1) := by decide +kernel
theorem dX4_value_55 : decode cX4_value 55 = .ok (.aload_n 0, 1) := by decide +kernel
theorem dX4_value_56 : decode cX4_value 56 = .ok (.getfield 10, 3) := by decide +kernel
theorem dX4_value_59 : decode cX4_value 59 = .ok (.getfield 45, 3) := by decide +kernel
theorem dX4_value_62 : decode cX4_value 62 = .ok (.getfield 170, 3) := by decide +kernel
theorem dX4_value_65 : decode cX4_value 65 = .ok (.ireturn, 1) := by decide +kernel
theorem dX4_value_66 : decode cX4_value 66 = .ok (.aload_n 0, 1) := by decide +kernel
theorem dX4_value_67 : decode cX4_value 67 = .ok (.getfield 10, 3) := by decide +kernel
theorem dX4_value_70 : decode cX4_value 70 = .ok (.getfield 45, 3) := by decide +kernel
theorem dX4_value_73 : decode cX4_value 73 = .ok (.getfield 173, 3) := by decide +kernel
theorem dX4_value_76 : decode cX4_value 76 = .ok (.ireturn, 1) := by decide +kernel
theorem dX4_value_77 : decode cX4_value 77 = .ok (.aload_n 0, 1) := by decide +kernel
theorem dX4_value_78 : decode cX4_value 78 = .ok (.getfield 10, 3) := by decide +kernel
theorem dX4_value_81 : decode cX4_value 81 = .ok (.getfield 45, 3) := by decide +kernel
theorem dX4_value_84 : decode cX4_value 84 = .ok (.invokevirtual 49, 3) := by decide +kernel
theorem dX4_value_87 : decode cX4_value 87 = .ok (.ireturn, 1) := by decide +kernel
theorem dX4_value_88 : decode cX4_value 88 = .ok (.aload_n 0, 1) := by decide +kernel
theorem dX4_value_89 : decode cX4_value 89 = .ok (.getfield 10, 3) := by decide +kernel
theorem dX4_value_92 : decode cX4_value 92 = .ok (.getfield 45, 3) := by decide +kernel
theorem dX4_value_95 : decode cX4_value 95 = .ok (.invokevirtual 176, 3) := by decide +kernel
theorem dX4_value_98 : decode cX4_value 98 = .ok (.ireturn, 1) := by decide +kernel
theorem dX4_value_99 : decode cX4_value 99 = .ok (.aload_n 0, 1) := by decide +kernel
theorem dX4_value_100 : decode cX4_value 100 = .ok (.getfield 10, 3) := by decide +kernel
theorem dX4_value_103 : decode cX4_value 103 = .ok (.getfield 45, 3) := by decide +kernel
theorem dX4_value_106 : decode cX4_value 106 = .ok (.invokevirtual 179, 3) := by decide +kernel
theorem dX4_value_109 : decode cX4_value 109 = .ok (.ireturn, 1) := by decide +kernel
theorem dX4_value_110 : decode cX4_value 110 = .ok (.aload_n 0, 1) := by decide +kernel
theorem dX4_value_111 : decode cX4_value 111 = .ok (.getfield 10, 3) := by decide +kernel
theorem dX4_value_114 : decode cX4_value 114 = .ok (.getfield 182, 3) := by decide +kernel
theorem dX4_value_117 : decode cX4_value 117 = .ok (.ireturn, 1) := by decide +kernel
theorem dX4_value_118 : decode cX4_value 118 = .ok (.new 35, 3) := by decide +kernel
theorem dX4_value_121 : decode cX4_value 121 = .ok (.dup, 1) := by decide +kernel
theorem dX4_value_122 : decode cX4_value 122 = .ok (.ldc 185, 2) := by decide +kernel
theorem dX4_value_124 : decode cX4_value 124 = .ok (.invokespecial 39, 3) := by decide +kernel
theorem dX4_value_127 : decode cX4_value 127 = .ok (.athrow, 1) := by decide +kernel
theorem dX4_ahead_0 : decode cX4_ahead 0 = .ok (.iload_n 1, 1) := by decide +kernel
theorem dX4_ahead_1 : decode cX4_ahead 1 = .ok (.invokestatic 90, 3) := by decide +kernel
theorem dX4_ahead_4 : decode cX4_ahead 4 = .ok (.aload_n 0, 1) := by decide +kernel
theorem dX4_ahead_5 : decode cX4_ahead 5 = .ok (.getfield 10, 3) := by decide +kernel
theorem dX4_ahead_8 : decode cX4_ahead 8 = .ok (.iload_n 1, 1) := by decide +kernel
theorem dX4_ahead_9 : decode cX4_ahead 9 = .ok (.invokevirtual 95, 3) := by decide +kernel
theorem dX4_ahead_12 : decode cX4_ahead 12 = .ok (.astore_n 2, 1) := by decide +kernel
theorem dX4_ahead_13 : decode cX4_ahead 13 = .ok (.aload_n 2, 1) := by decide +kernel
theorem dX4_ahead_14 : decode cX4_ahead 14 = .ok (.getfield 103, 3) := by decide +kernel
theorem dX4_ahead_17 : decode cX4_ahead 17 = .ok (.ifCond .eq 25, 3) := by decide +kernel
theorem dX4_ahead_20 : decode cX4_ahead 20 = .ok (.aload_n 0, 1) := by decide +kernel
theorem dX4_ahead_21 : decode cX4_ahead 21 = .ok (.getfield 10, 3) := by decide +kernel
theorem dX4_ahead_24 : decode cX4_ahead 24 = .ok (.getfield 45, 3) := by decide +kernel
theorem dX4_ahead_27 : decode cX4_ahead 27 = .ok (.aload_n 2, 1) := by decide +kernel
theorem dX4_ahead_28 : decode cX4_ahead 28 = .ok (.getfield 144, 3) := by decide +kernel
theorem dX4_ahead_31 : decode cX4_ahead 31 = .ok (.invokevirtual 187, 3) := by decide +kernel
theorem dX4_ahead_34 : decode cX4_ahead 34 = .ok (.aload_n 2, 1) := by decide +kernel
theorem dX4_ahead_35 : decode cX4_ahead 35 = .ok (.getfield 144, 3) := by decide +kernel
theorem dX4_ahead_38 : decode cX4_ahead 38 = .ok (.isub, 1) := by decide +kernel
theorem dX4_ahead_39 : decode cX4_ahead 39 = .ok (.goto 4, 3) := by decide +kernel
theorem dX4_ahead_42 : decode cX4_ahead 42 = .ok (.iconst 0, 1) := by decide +kernel
theorem dX4_ahead_43 : decode cX4_ahead 43 = .ok (.ireturn, 1) := by decide +kernel
theorem dX4_stop_0 : decode cX4_stop 0 = .ok (.iload_n 1, 1) := by decide +kernel
theorem dX4_stop_1 : decode cX4_stop 1 = .ok (.invokestatic 90, 3) := by decide +kernel
theorem dX4_stop_4 : decode cX4_stop 4 = .ok (.aload_n 0, 1) := by decide +kernel
theorem dX4_stop_5 : decode cX4_stop 5 = .ok (.getfield 10, 3) := by decide +kernel
theorem dX4_stop_8 : decode cX4_stop 8 = .ok (.getfield 45, 3) := by decide +kernel
theorem dX4_stop_11 : decode cX4_stop 11 = .ok (.aload_n 0, 1) := by decide +kernel
theorem dX4_stop_12 : decode cX4_stop 12 = .ok (.getfield 10, 3) := by decide +kernel
theorem dX4_stop_15 : decode cX4_stop 15 = .ok (.iload_n 1, 1) := by decide +kernel
theorem dX4_stop_16 : decode cX4_stop 16 = .ok (.invokevirtual 95, 3) := by decide +kernel
theorem dX4_stop_19 : decode cX4_stop 19 = .ok (.getfield 144, 3) := by decide +kernel
theorem dX4_stop_22 : decode cX4_stop 22 = .ok (.invokevirtual 187, 3) := by decide +kernel
theorem dX4_stop_25 : decode cX4_stop 25 = .ok (.ireturn, 1) := by decide +kernel
theorem dX4_tonsAt_0 : decode cX4_tonsAt 0 = .ok (.iload_n 2, 1) := by decide +kernel
theorem dX4_tonsAt_1 : decode cX4_tonsAt 1 = .ok (.invokestatic 161, 3) := by decide +kernel
theorem dX4_tonsAt_4 : decode cX4_tonsAt 4 = .ok (.aload_n 0, 1) := by decide +kernel
theorem dX4_tonsAt_5 : decode cX4_tonsAt 5 = .ok (.getfield 10, 3) := by decide +kernel
theorem dX4_tonsAt_8 : decode cX4_tonsAt 8 = .ok (.invokevirtual 190, 3) := by decide +kernel
theorem dX4_tonsAt_11 : decode cX4_tonsAt 11 = .ok (.astore_n 3, 1) := by decide +kernel
theorem dX4_tonsAt_12 : decode cX4_tonsAt 12 = .ok (.iload_n 1, 1) := by decide +kernel
theorem dX4_tonsAt_13 : decode cX4_tonsAt 13 = .ok (.aload_n 3, 1) := by decide +kernel
theorem dX4_tonsAt_14 : decode cX4_tonsAt 14 = .ok (.getfield 147, 3) := by decide +kernel
theorem dX4_tonsAt_17 : decode cX4_tonsAt 17 = .ok (.if_icmp .lt 17, 3) := by decide +kernel
theorem dX4_tonsAt_20 : decode cX4_tonsAt 20 = .ok (.iload_n 1, 1) := by decide +kernel
theorem dX4_tonsAt_21 : decode cX4_tonsAt 21 = .ok (.aload_n 0, 1) := by decide +kernel
theorem dX4_tonsAt_22 : decode cX4_tonsAt 22 = .ok (.getfield 10, 3) := by decide +kernel
theorem dX4_tonsAt_25 : decode cX4_tonsAt 25 = .ok (.getfield 45, 3) := by decide +kernel
theorem dX4_tonsAt_28 : decode cX4_tonsAt 28 = .ok (.getfield 173, 3) := by decide +kernel
theorem dX4_tonsAt_31 : decode cX4_tonsAt 31 = .ok (.if_icmp .le 5, 3) := by decide +kernel
theorem dX4_tonsAt_34 : decode cX4_tonsAt 34 = .ok (.iconst (-1), 1) := by decide +kernel
theorem dX4_tonsAt_35 : decode cX4_tonsAt 35 = .ok (.ireturn, 1) := by decide +kernel
theorem dX4_tonsAt_36 : decode cX4_tonsAt 36 = .ok (.aload_n 3, 1) := by decide +kernel
theorem dX4_tonsAt_37 : decode cX4_tonsAt 37 = .ok (.getfield 194, 3) := by decide +kernel
theorem dX4_tonsAt_40 : decode cX4_tonsAt 40 = .ok (.iconst 0, 1) := by decide +kernel
theorem dX4_tonsAt_41 : decode cX4_tonsAt 41 = .ok (.aload_n 0, 1) := by decide +kernel
theorem dX4_tonsAt_42 : decode cX4_tonsAt 42 = .ok (.getfield 31, 3) := by decide +kernel
theorem dX4_tonsAt_45 : decode cX4_tonsAt 45 = .ok (.iconst 0, 1) := by decide +kernel
theorem dX4_tonsAt_46 : decode cX4_tonsAt 46 = .ok (.bipush 8, 2) := by decide +kernel
theorem dX4_tonsAt_48 : decode cX4_tonsAt 48 = .ok (.invokestatic 197, 3) := by decide +kernel
theorem dX4_tonsAt_51 : decode cX4_tonsAt 51 = .ok (.aload_n 0, 1) := by decide +kernel
theorem dX4_tonsAt_52 : decode cX4_tonsAt 52 = .ok (.getfield 10, 3) := by decide +kernel
theorem dX4_tonsAt_55 : decode cX4_tonsAt 55 = .ok (.getfield 45, 3) := by decide +kernel
theorem dX4_tonsAt_58 : decode cX4_tonsAt 58 = .ok (.aload_n 0, 1) := by decide +kernel
theorem dX4_tonsAt_59 : decode cX4_tonsAt 59 = .ok (.getfield 31, 3) := by decide +kernel
theorem dX4_tonsAt_62 : decode cX4_tonsAt 62 = .ok (.aload_n 3, 1) := by decide +kernel
theorem dX4_tonsAt_63 : decode cX4_tonsAt 63 = .ok (.getfield 147, 3) := by decide +kernel
theorem dX4_tonsAt_66 : decode cX4_tonsAt 66 = .ok (.iload_n 1, 1) := by decide +kernel
theorem dX4_tonsAt_67 : decode cX4_tonsAt 67 = .ok (.invokevirtual 203, 3) := by decide +kernel
theorem dX4_tonsAt_70 : decode cX4_tonsAt 70 = .ok (.istore 4, 2) := by decide +kernel
theorem dX4_tonsAt_72 : decode cX4_tonsAt 72 = .ok (.iload 4, 2) := by decide +kernel
theorem dX4_tonsAt_74 : decode cX4_tonsAt 74 = .ok (.ifCond .eq 12, 3) := by decide +kernel
theorem dX4_tonsAt_77 : decode cX4_tonsAt 77 = .ok (.aload_n 0, 1) := by decide +kernel
theorem dX4_tonsAt_78 : decode cX4_tonsAt 78 = .ok (.getfield 31, 3) := by decide +kernel
theorem dX4_tonsAt_81 : decode cX4_tonsAt 81 = .ok (.iload_n 2, 1) := by decide +kernel
theorem dX4_tonsAt_82 : decode cX4_tonsAt 82 = .ok (.iaload, 1) := by decide +kernel
theorem dX4_tonsAt_83 : decode cX4_tonsAt 83 = .ok (.goto 4, 3) := by decide +kernel
theorem dX4_tonsAt_86 : decode cX4_tonsAt 86 = .ok (.iconst (-1), 1) := by decide +kernel
theorem dX4_tonsAt_87 : decode cX4_tonsAt 87 = .ok (.ireturn, 1) := by decide +kernel
theorem dX4_agree_0 : decode cX4_agree 0 = .ok (.aload_n 0, 1) := by decide +kernel
theorem dX4_agree_1 : decode cX4_agree 1 = .ok (.getfield 10, 3) := by decide +kernel
theorem dX4_agree_4 : decode cX4_agree 4 = .ok (.invokevirtual 207, 3) := by decide +kernel
theorem dX4_agree_7 : decode cX4_agree 7 = .ok (.astore_n 1, 1) := by decide +kernel
theorem dX4_agree_8 : decode cX4_agree 8 = .ok (.aload_n 0, 1) := by decide +kernel
theorem dX4_agree_9 : decode cX4_agree 9 = .ok (.getfield 10, 3) := by decide +kernel
theorem dX4_agree_12 : decode cX4_agree 12 = .ok (.aload_n 1, 1) := by decide +kernel
theorem dX4_agree_13 : decode cX4_agree 13 = .ok (.invokevirtual 210, 3) := by decide +kernel
theorem dX4_agree_16 : decode cX4_agree 16 = .ok (.astore_n 2, 1) := by decide +kernel
theorem dX4_agree_17 : decode cX4_agree 17 = .ok (.aload_n 1, 1) := by decide +kernel
theorem dX4_agree_18 : decode cX4_agree 18 = .ok (.getfield 164, 3) := by decide +kernel
theorem dX4_agree_21 : decode cX4_agree 21 = .ok (.iconst 0, 1) := by decide +kernel
theorem dX4_agree_22 : decode cX4_agree 22 = .ok (.aload_n 0, 1) := by decide +kernel
theorem dX4_agree_23 : decode cX4_agree 23 = .ok (.getfield 31, 3) := by decide +kernel
theorem dX4_agree_26 : decode cX4_agree 26 = .ok (.iconst 0, 1) := by decide +kernel
theorem dX4_agree_27 : decode cX4_agree 27 = .ok (.bipush 8, 2) := by decide +kernel
theorem dX4_agree_29 : decode cX4_agree 29 = .ok (.invokestatic 197, 3) := by decide +kernel
theorem dX4_agree_32 : decode cX4_agree 32 = .ok (.aload_n 0, 1) := by decide +kernel
theorem dX4_agree_33 : decode cX4_agree 33 = .ok (.getfield 10, 3) := by decide +kernel
theorem dX4_agree_36 : decode cX4_agree 36 = .ok (.getfield 45, 3) := by decide +kernel
theorem dX4_agree_39 : decode cX4_agree 39 = .ok (.aload_n 0, 1) := by decide +kernel
theorem dX4_agree_40 : decode cX4_agree 40 = .ok (.getfield 31, 3) := by decide +kernel
theorem dX4_agree_43 : decode cX4_agree 43 = .ok (.aload_n 1, 1) := by decide +kernel
theorem dX4_agree_44 : decode cX4_agree 44 = .ok (.getfield 144, 3) := by decide +kernel
theorem dX4_agree_47 : decode cX4_agree 47 = .ok (.aload_n 2, 1) := by decide +kernel
theorem dX4_agree_48 : decode cX4_agree 48 = .ok (.getfield 144, 3) := by decide +kernel
theorem dX4_agree_51 : decode cX4_agree 51 = .ok (.invokevirtual 203, 3) := by decide +kernel
theorem dX4_agree_54 : decode cX4_agree 54 = .ok (.ifCond .ne 5, 3) := by decide +kernel
theorem dX4_agree_57 : decode cX4_agree 57 = .ok (.iconst (-1), 1) := by decide +kernel
theorem dX4_agree_58 : decode cX4_agree 58 = .ok (.ireturn, 1) := by decide +kernel
theorem dX4_agree_59 : decode cX4_agree 59 = .ok (.aload_n 2, 1) := by decide +kernel
theorem dX4_agree_60 : decode cX4_agree 60 = .ok (.aload_n 0, 1) := by decide +kernel
theorem dX4_agree_61 : decode cX4_agree 61 = .ok (.getfield 31, 3) := by decide +kernel
theorem dX4_agree_64 : decode cX4_agree 64 = .ok (.invokevirtual 214, 3) := by decide +kernel
theorem dX4_agree_67 : decode cX4_agree 67 = .ok (.ifCond .eq 7, 3) := by decide +kernel
theorem dX4_agree_70 : decode cX4_agree 70 = .ok (.iconst 1, 1) := by decide +kernel
theorem dX4_agree_71 : decode cX4_agree 71 = .ok (.goto 4, 3) := by decide +kernel
theorem dX4_agree_74 : decode cX4_agree 74 = .ok (.iconst 0, 1) := by decide +kernel
theorem dX4_agree_75 : decode cX4_agree 75 = .ok (.ireturn, 1) := by decide +kernel
theorem dX4_roomBy_0 : decode cX4_roomBy 0 = .ok (.iload_n 1, 1) := by decide +kernel
theorem dX4_roomBy_1 : decode cX4_roomBy 1 = .ok (.invokestatic 90, 3) := by decide +kernel
theorem dX4_roomBy_4 : decode cX4_roomBy 4 = .ok (.aload_n 0, 1) := by decide +kernel
theorem dX4_roomBy_5 : decode cX4_roomBy 5 = .ok (.getfield 10, 3) := by decide +kernel
theorem dX4_roomBy_8 : decode cX4_roomBy 8 = .ok (.iload_n 1, 1) := by decide +kernel
theorem dX4_roomBy_9 : decode cX4_roomBy 9 = .ok (.invokevirtual 95, 3) := by decide +kernel
theorem dX4_roomBy_12 : decode cX4_roomBy 12 = .ok (.astore_n 2, 1) := by decide +kernel
theorem dX4_roomBy_13 : decode cX4_roomBy 13 = .ok (.aload_n 2, 1) := by decide +kernel
theorem dX4_roomBy_14 : decode cX4_roomBy 14 = .ok (.getfield 144, 3) := by decide +kernel
theorem dX4_roomBy_17 : decode cX4_roomBy 17 = .ok (.aload_n 0, 1) := by decide +kernel
theorem dX4_roomBy_18 : decode cX4_roomBy 18 = .ok (.getfield 10, 3) := by decide +kernel
theorem dX4_roomBy_21 : decode cX4_roomBy 21 = .ok (.aload_n 2, 1) := by decide +kernel
theorem dX4_roomBy_22 : decode cX4_roomBy 22 = .ok (.invokevirtual 210, 3) := by decide +kernel
theorem dX4_roomBy_25 : decode cX4_roomBy 25 = .ok (.getfield 147, 3) := by decide +kernel
theorem dX4_roomBy_28 : decode cX4_roomBy 28 = .ok (.invokestatic 218, 3) := by decide +kernel
theorem dX4_roomBy_31 : decode cX4_roomBy 31 = .ok (.istore_n 3, 1) := by decide +kernel
theorem dX4_roomBy_32 : decode cX4_roomBy 32 = .ok (.aload_n 0, 1) := by decide +kernel
theorem dX4_roomBy_33 : decode cX4_roomBy 33 = .ok (.getfield 10, 3) := by decide +kernel
theorem dX4_roomBy_36 : decode cX4_roomBy 36 = .ok (.getfield 45, 3) := by decide +kernel
theorem dX4_roomBy_39 : decode cX4_roomBy 39 = .ok (.getfield 167, 3) := by decide +kernel
theorem dX4_roomBy_42 : decode cX4_roomBy 42 = .ok (.aload_n 0, 1) := by decide +kernel
theorem dX4_roomBy_43 : decode cX4_roomBy 43 = .ok (.getfield 10, 3) := by decide +kernel
theorem dX4_roomBy_46 : decode cX4_roomBy 46 = .ok (.getfield 45, 3) := by decide +kernel
theorem dX4_roomBy_49 : decode cX4_roomBy 49 = .ok (.getfield 173, 3) := by decide +kernel
theorem dX4_roomBy_52 : decode cX4_roomBy 52 = .ok (.iload_n 3, 1) := by decide +kernel
theorem dX4_roomBy_53 : decode cX4_roomBy 53 = .ok (.isub, 1) := by decide +kernel
theorem dX4_roomBy_54 : decode cX4_roomBy 54 = .ok (.isub, 1) := by decide +kernel
theorem dX4_roomBy_55 : decode cX4_roomBy 55 = .ok (.ireturn, 1) := by decide +kernel
theorem dX4_slower_0 : decode cX4_slower 0 = .ok (.aload_n 0, 1) := by decide +kernel
theorem dX4_slower_1 : decode cX4_slower 1 = .ok (.getfield 10, 3) := by decide +kernel
theorem dX4_slower_4 : decode cX4_slower 4 = .ok (.getfield 223, 3) := by decide +kernel
theorem dX4_slower_7 : decode cX4_slower 7 = .ok (.getfield 147, 3) := by decide +kernel
theorem dX4_slower_10 : decode cX4_slower 10 = .ok (.aload_n 0, 1) := by decide +kernel
theorem dX4_slower_11 : decode cX4_slower 11 = .ok (.getfield 10, 3) := by decide +kernel
theorem dX4_slower_14 : decode cX4_slower 14 = .ok (.getfield 227, 3) := by decide +kernel
theorem dX4_slower_17 : decode cX4_slower 17 = .ok (.getfield 147, 3) := by decide +kernel
theorem dX4_slower_20 : decode cX4_slower 20 = .ok (.if_icmp .ne 5, 3) := by decide +kernel
theorem dX4_slower_23 : decode cX4_slower 23 = .ok (.iconst 2, 1) := by decide +kernel
theorem dX4_slower_24 : decode cX4_slower 24 = .ok (.ireturn, 1) := by decide +kernel
theorem dX4_slower_25 : decode cX4_slower 25 = .ok (.aload_n 0, 1) := by decide +kernel
theorem dX4_slower_26 : decode cX4_slower 26 = .ok (.getfield 10, 3) := by decide +kernel
theorem dX4_slower_29 : decode cX4_slower 29 = .ok (.getfield 223, 3) := by decide +kernel
theorem dX4_slower_32 : decode cX4_slower 32 = .ok (.getfield 147, 3) := by decide +kernel
theorem dX4_slower_35 : decode cX4_slower 35 = .ok (.aload_n 0, 1) := by decide +kernel
theorem dX4_slower_36 : decode cX4_slower 36 = .ok (.getfield 10, 3) := by decide +kernel
theorem dX4_slower_39 : decode cX4_slower 39 = .ok (.getfield 227, 3) := by decide +kernel
theorem dX4_slower_42 : decode cX4_slower 42 = .ok (.getfield 147, 3) := by decide +kernel
theorem dX4_slower_45 : decode cX4_slower 45 = .ok (.if_icmp .ge 7, 3) := by decide +kernel
theorem dX4_slower_48 : decode cX4_slower 48 = .ok (.iconst 0, 1) := by decide +kernel
theorem dX4_slower_49 : decode cX4_slower 49 = .ok (.goto 4, 3) := by decide +kernel
theorem dX4_slower_52 : decode cX4_slower 52 = .ok (.iconst 1, 1) := by decide +kernel
theorem dX4_slower_53 : decode cX4_slower 53 = .ok (.ireturn, 1) := by decide +kernel
theorem dX4_append_0 : decode cX4_append 0 = .ok (.iload_n 1, 1) := by decide +kernel
theorem dX4_append_1 : decode cX4_append 1 = .ok (.ifCond .lt 9, 3) := by decide +kernel
theorem dX4_append_4 : decode cX4_append 4 = .ok (.iload_n 1, 1) := by decide +kernel
theorem dX4_append_5 : decode cX4_append 5 = .ok (.bipush 127, 2) := by decide +kernel
theorem dX4_append_7 : decode cX4_append 7 = .ok (.if_icmp .le 13, 3) := by decide +kernel
theorem dX4_append_10 : decode cX4_append 10 = .ok (.new 35, 3) := by decide +kernel
theorem dX4_append_13 : decode cX4_append 13 = .ok (.dup, 1) := by decide +kernel
theorem dX4_append_14 : decode cX4_append 14 = .ok (.ldc 230, 2) := by decide +kernel
theorem dX4_append_16 : decode cX4_append 16 = .ok (.invokespecial 39, 3) := by decide +kernel
theorem dX4_append_19 : decode cX4_append 19 = .ok (.athrow, 1) := by decide +kernel
theorem dX4_append_20 : decode cX4_append 20 = .ok (.aload_n 0, 1) := by decide +kernel
theorem dX4_append_21 : decode cX4_append 21 = .ok (.getfield 27, 3) := by decide +kernel
theorem dX4_append_24 : decode cX4_append 24 = .ok (.invokevirtual 232, 3) := by decide +kernel
theorem dX4_append_27 : decode cX4_append 27 = .ok (.ifCond .eq 13, 3) := by decide +kernel
theorem dX4_append_30 : decode cX4_append 30 = .ok (.new 69, 3) := by decide +kernel
theorem dX4_append_33 : decode cX4_append 33 = .ok (.dup, 1) := by decide +kernel
theorem dX4_append_34 : decode cX4_append 34 = .ok (.ldc 233, 2) := by decide +kernel
theorem dX4_append_36 : decode cX4_append 36 = .ok (.invokespecial 73, 3) := by decide +kernel
theorem dX4_append_39 : decode cX4_append 39 = .ok (.athrow, 1) := by decide +kernel
theorem dX4_append_40 : decode cX4_append 40 = .ok (.aload_n 0, 1) := by decide +kernel
theorem dX4_append_41 : decode cX4_append 41 = .ok (.getfield 27, 3) := by decide +kernel
theorem dX4_append_44 : decode cX4_append 44 = .ok (.iload_n 1, 1) := by decide +kernel
theorem dX4_append_45 : decode cX4_append 45 = .ok (.invokevirtual 235, 3) := by decide +kernel
theorem dX4_append_48 : decode cX4_append 48 = .ok (.ireturn, 1) := by decide +kernel
theorem dX4_clearText_0 : decode cX4_clearText 0 = .ok (.aload_n 0, 1) := by decide +kernel
theorem dX4_clearText_1 : decode cX4_clearText 1 = .ok (.getfield 27, 3) := by decide +kernel
theorem dX4_clearText_4 : decode cX4_clearText 4 = .ok (.invokevirtual 237, 3) := by decide +kernel
theorem dX4_clearText_7 : decode cX4_clearText 7 = .ok (.ireturn, 1) := by decide +kernel
theorem dX4_carryOut_0 : decode cX4_carryOut 0 = .ok (.aload_n 0, 1) := by decide +kernel
theorem dX4_carryOut_1 : decode cX4_carryOut 1 = .ok (.getfield 27, 3) := by decide +kernel
theorem dX4_carryOut_4 : decode cX4_carryOut 4 = .ok (.invokevirtual 240, 3) := by decide +kernel
theorem dX4_carryOut_7 : decode cX4_carryOut 7 = .ok (.istore_n 1, 1) := by decide +kernel
theorem dX4_carryOut_8 : decode cX4_carryOut 8 = .ok (.iload_n 1, 1) := by decide +kernel
theorem dX4_carryOut_9 : decode cX4_carryOut 9 = .ok (.iconst (-1), 1) := by decide +kernel
theorem dX4_carryOut_10 : decode cX4_carryOut 10 = .ok (.if_icmp .eq 8, 3) := by decide +kernel
theorem dX4_carryOut_13 : decode cX4_carryOut 13 = .ok (.bipush (-10), 2) := by decide +kernel
theorem dX4_carryOut_15 : decode cX4_carryOut 15 = .ok (.iload_n 1, 1) := by decide +kernel
theorem dX4_carryOut_16 : decode cX4_carryOut 16 = .ok (.isub, 1) := by decide +kernel
theorem dX4_carryOut_17 : decode cX4_carryOut 17 = .ok (.ireturn, 1) := by decide +kernel
theorem dX4_carryOut_18 : decode cX4_carryOut 18 = .ok (.aload_n 0, 1) := by decide +kernel
theorem dX4_carryOut_19 : decode cX4_carryOut 19 = .ok (.invokevirtual 42, 3) := by decide +kernel
theorem dX4_carryOut_22 : decode cX4_carryOut 22 = .ok (.aload_n 0, 1) := by decide +kernel
theorem dX4_carryOut_23 : decode cX4_carryOut 23 = .ok (.getfield 27, 3) := by decide +kernel
theorem dX4_carryOut_26 : decode cX4_carryOut 26 = .ok (.invokevirtual 243, 3) := by decide +kernel
theorem dX4_carryOut_29 : decode cX4_carryOut 29 = .ok (.iconst 0, 1) := by decide +kernel
theorem dX4_carryOut_30 : decode cX4_carryOut 30 = .ok (.istore_n 2, 1) := by decide +kernel
theorem dX4_carryOut_31 : decode cX4_carryOut 31 = .ok (.iload_n 2, 1) := by decide +kernel
theorem dX4_carryOut_32 : decode cX4_carryOut 32 = .ok (.bipush 100, 2) := by decide +kernel
theorem dX4_carryOut_34 : decode cX4_carryOut 34 = .ok (.if_icmp .ge 38, 3) := by decide +kernel
theorem dX4_carryOut_37 : decode cX4_carryOut 37 = .ok (.aload_n 0, 1) := by decide +kernel
theorem dX4_carryOut_38 : decode cX4_carryOut 38 = .ok (.getfield 27, 3) := by decide +kernel
theorem dX4_carryOut_41 : decode cX4_carryOut 41 = .ok (.invokevirtual 246, 3) := by decide +kernel
theorem dX4_carryOut_44 : decode cX4_carryOut 44 = .ok (.ifCond .ne 20, 3) := by decide +kernel
theorem dX4_carryOut_47 : decode cX4_carryOut 47 = .ok (.aload_n 0, 1) := by decide +kernel
theorem dX4_carryOut_48 : decode cX4_carryOut 48 = .ok (.getfield 27, 3) := by decide +kernel
theorem dX4_carryOut_51 : decode cX4_carryOut 51 = .ok (.invokevirtual 249, 3) := by decide +kernel
theorem dX4_carryOut_54 : decode cX4_carryOut 54 = .ok (.ifCond .eq 10, 3) := by decide +kernel
theorem dX4_carryOut_57 : decode cX4_carryOut 57 = .ok (.aload_n 0, 1) := by decide +kernel
theorem dX4_carryOut_58 : decode cX4_carryOut 58 = .ok (.invokevirtual 252, 3) := by decide +kernel
theorem dX4_carryOut_61 : decode cX4_carryOut 61 = .ok (.ifCond .ne 5, 3) := by decide +kernel
theorem dX4_carryOut_64 : decode cX4_carryOut 64 = .ok (.iload_n 2, 1) := by decide +kernel
theorem dX4_carryOut_65 : decode cX4_carryOut 65 = .ok (.ireturn, 1) := by decide +kernel
theorem dX4_carryOut_66 : decode cX4_carryOut 66 = .ok (.iinc 2 1, 3) := by decide +kernel
theorem dX4_carryOut_69 : decode cX4_carryOut 69 = .ok (.goto (-38), 3) := by decide +kernel
theorem dX4_carryOut_72 : decode cX4_carryOut 72 = .ok (.bipush 100, 2) := by decide +kernel
theorem dX4_carryOut_74 : decode cX4_carryOut 74 = .ok (.ireturn, 1) := by decide +kernel
