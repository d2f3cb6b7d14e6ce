theorem dl_0 : decode code 0 = .ok (.new 7, 3) := by decide +kernel
theorem dl_3 : decode code 3 = .ok (.dup, 1) := by decide +kernel
theorem dl_4 : decode code 4 = .ok (.invokespecial 9, 3) := by decide +kernel
theorem dl_7 : decode code 7 = .ok (.astore_n 1, 1) := by decide +kernel
theorem dl_8 : decode code 8 = .ok (.new 10, 3) := by decide +kernel
theorem dl_11 : decode code 11 = .ok (.dup, 1) := by decide +kernel
theorem dl_12 : decode code 12 = .ok (.invokespecial 12, 3) := by decide +kernel
theorem dl_15 : decode code 15 = .ok (.astore_n 2, 1) := by decide +kernel
theorem dl_16 : decode code 16 = .ok (.iconst 0, 1) := by decide +kernel
theorem dl_17 : decode code 17 = .ok (.istore_n 3, 1) := by decide +kernel
theorem dl_18 : decode code 18 = .ok (.iload_n 3, 1) := by decide +kernel
theorem dl_19 : decode code 19 = .ok (.aload_n 0, 1) := by decide +kernel
theorem dl_20 : decode code 20 = .ok (.arraylength, 1) := by decide +kernel
theorem dl_21 : decode code 21 = .ok (.bipush 6, 2) := by decide +kernel
theorem dl_23 : decode code 23 = .ok (.isub, 1) := by decide +kernel
theorem dl_24 : decode code 24 = .ok (.if_icmp .gt 1207, 3) := by decide +kernel
theorem dl_27 : decode code 27 = .ok (.aload_n 0, 1) := by decide +kernel
theorem dl_28 : decode code 28 = .ok (.iload_n 3, 1) := by decide +kernel
theorem dl_29 : decode code 29 = .ok (.iaload, 1) := by decide +kernel
theorem dl_30 : decode code 30 = .ok (.bipush 63, 2) := by decide +kernel
theorem dl_32 : decode code 32 = .ok (.iand, 1) := by decide +kernel
theorem dl_33 : decode code 33 = .ok (.tableswitch 1192 0 36 #[163, 226, 249, 262, 301, 324, 347, 380, 429, 478, 527, 560, 593, 616, 649, 672, 705, 718, 741, 790, 803, 836, 849, 898, 911, 960, 999, 1012, 1035, 1058, 1071, 1094, 1107, 1120, 1133, 1156, 1169], 163) := by decide +kernel
theorem dl_196 : decode code 196 = .ok (.aload_n 1, 1) := by decide +kernel
theorem dl_197 : decode code 197 = .ok (.aload_n 0, 1) := by decide +kernel
theorem dl_198 : decode code 198 = .ok (.iload_n 3, 1) := by decide +kernel
theorem dl_199 : decode code 199 = .ok (.iconst 1, 1) := by decide +kernel
theorem dl_200 : decode code 200 = .ok (.iadd, 1) := by decide +kernel
theorem dl_201 : decode code 201 = .ok (.iaload, 1) := by decide +kernel
theorem dl_202 : decode code 202 = .ok (.aload_n 0, 1) := by decide +kernel
theorem dl_203 : decode code 203 = .ok (.iload_n 3, 1) := by decide +kernel
theorem dl_204 : decode code 204 = .ok (.iconst 2, 1) := by decide +kernel
theorem dl_205 : decode code 205 = .ok (.iadd, 1) := by decide +kernel
theorem dl_206 : decode code 206 = .ok (.iaload, 1) := by decide +kernel
theorem dl_207 : decode code 207 = .ok (.aload_n 0, 1) := by decide +kernel
theorem dl_208 : decode code 208 = .ok (.iload_n 3, 1) := by decide +kernel
theorem dl_209 : decode code 209 = .ok (.iconst 3, 1) := by decide +kernel
theorem dl_210 : decode code 210 = .ok (.iadd, 1) := by decide +kernel
theorem dl_211 : decode code 211 = .ok (.iaload, 1) := by decide +kernel
theorem dl_212 : decode code 212 = .ok (.aload_n 0, 1) := by decide +kernel
theorem dl_213 : decode code 213 = .ok (.iload_n 3, 1) := by decide +kernel
theorem dl_214 : decode code 214 = .ok (.iconst 4, 1) := by decide +kernel
theorem dl_215 : decode code 215 = .ok (.iadd, 1) := by decide +kernel
theorem dl_216 : decode code 216 = .ok (.iaload, 1) := by decide +kernel
theorem dl_217 : decode code 217 = .ok (.aload_n 0, 1) := by decide +kernel
theorem dl_218 : decode code 218 = .ok (.iload_n 3, 1) := by decide +kernel
theorem dl_219 : decode code 219 = .ok (.iconst 5, 1) := by decide +kernel
theorem dl_220 : decode code 220 = .ok (.iadd, 1) := by decide +kernel
theorem dl_221 : decode code 221 = .ok (.iaload, 1) := by decide +kernel
theorem dl_222 : decode code 222 = .ok (.invokevirtual 13, 3) := by decide +kernel
theorem dl_225 : decode code 225 = .ok (.pop, 1) := by decide +kernel
theorem dl_226 : decode code 226 = .ok (.aload_n 2, 1) := by decide +kernel
theorem dl_227 : decode code 227 = .ok (.aload_n 0, 1) := by decide +kernel
theorem dl_228 : decode code 228 = .ok (.iload_n 3, 1) := by decide +kernel
theorem dl_229 : decode code 229 = .ok (.iconst 1, 1) := by decide +kernel
theorem dl_230 : decode code 230 = .ok (.iadd, 1) := by decide +kernel
theorem dl_231 : decode code 231 = .ok (.iaload, 1) := by decide +kernel
theorem dl_232 : decode code 232 = .ok (.aload_n 0, 1) := by decide +kernel
theorem dl_233 : decode code 233 = .ok (.iload_n 3, 1) := by decide +kernel
theorem dl_234 : decode code 234 = .ok (.iconst 2, 1) := by decide +kernel
theorem dl_235 : decode code 235 = .ok (.iadd, 1) := by decide +kernel
theorem dl_236 : decode code 236 = .ok (.iaload, 1) := by decide +kernel
theorem dl_237 : decode code 237 = .ok (.aload_n 0, 1) := by decide +kernel
theorem dl_238 : decode code 238 = .ok (.iload_n 3, 1) := by decide +kernel
theorem dl_239 : decode code 239 = .ok (.iconst 3, 1) := by decide +kernel
theorem dl_240 : decode code 240 = .ok (.iadd, 1) := by decide +kernel
theorem dl_241 : decode code 241 = .ok (.iaload, 1) := by decide +kernel
theorem dl_242 : decode code 242 = .ok (.aload_n 0, 1) := by decide +kernel
theorem dl_243 : decode code 243 = .ok (.iload_n 3, 1) := by decide +kernel
theorem dl_244 : decode code 244 = .ok (.iconst 4, 1) := by decide +kernel
theorem dl_245 : decode code 245 = .ok (.iadd, 1) := by decide +kernel
theorem dl_246 : decode code 246 = .ok (.iaload, 1) := by decide +kernel
theorem dl_247 : decode code 247 = .ok (.aload_n 0, 1) := by decide +kernel
theorem dl_248 : decode code 248 = .ok (.iload_n 3, 1) := by decide +kernel
theorem dl_249 : decode code 249 = .ok (.iconst 5, 1) := by decide +kernel
theorem dl_250 : decode code 250 = .ok (.iadd, 1) := by decide +kernel
theorem dl_251 : decode code 251 = .ok (.iaload, 1) := by decide +kernel
theorem dl_252 : decode code 252 = .ok (.invokevirtual 17, 3) := by decide +kernel
theorem dl_255 : decode code 255 = .ok (.pop, 1) := by decide +kernel
theorem dl_256 : decode code 256 = .ok (.goto 969, 3) := by decide +kernel
theorem dl_259 : decode code 259 = .ok (.aload_n 1, 1) := by decide +kernel
theorem dl_260 : decode code 260 = .ok (.aload_n 0, 1) := by decide +kernel
theorem dl_261 : decode code 261 = .ok (.iload_n 3, 1) := by decide +kernel
theorem dl_262 : decode code 262 = .ok (.iconst 1, 1) := by decide +kernel
theorem dl_263 : decode code 263 = .ok (.iadd, 1) := by decide +kernel
theorem dl_264 : decode code 264 = .ok (.iaload, 1) := by decide +kernel
theorem dl_265 : decode code 265 = .ok (.invokevirtual 18, 3) := by decide +kernel
theorem dl_268 : decode code 268 = .ok (.pop, 1) := by decide +kernel
theorem dl_269 : decode code 269 = .ok (.aload_n 2, 1) := by decide +kernel
theorem dl_270 : decode code 270 = .ok (.aload_n 0, 1) := by decide +kernel
theorem dl_271 : decode code 271 = .ok (.iload_n 3, 1) := by decide +kernel
theorem dl_272 : decode code 272 = .ok (.iconst 1, 1) := by decide +kernel
theorem dl_273 : decode code 273 = .ok (.iadd, 1) := by decide +kernel
theorem dl_274 : decode code 274 = .ok (.iaload, 1) := by decide +kernel
theorem dl_275 : decode code 275 = .ok (.invokevirtual 22, 3) := by decide +kernel
theorem dl_278 : decode code 278 = .ok (.pop, 1) := by decide +kernel
theorem dl_279 : decode code 279 = .ok (.goto 946, 3) := by decide +kernel
theorem dl_282 : decode code 282 = .ok (.aload_n 1, 1) := by decide +kernel
theorem dl_283 : decode code 283 = .ok (.invokevirtual 23, 3) := by decide +kernel
theorem dl_286 : decode code 286 = .ok (.pop, 1) := by decide +kernel
theorem dl_287 : decode code 287 = .ok (.aload_n 2, 1) := by decide +kernel
theorem dl_288 : decode code 288 = .ok (.invokevirtual 27, 3) := by decide +kernel
theorem dl_291 : decode code 291 = .ok (.pop, 1) := by decide +kernel
theorem dl_292 : decode code 292 = .ok (.goto 933, 3) := by decide +kernel
theorem dl_295 : decode code 295 = .ok (.aload_n 1, 1) := by decide +kernel
theorem dl_296 : decode code 296 = .ok (.aload_n 0, 1) := by decide +kernel
theorem dl_297 : decode code 297 = .ok (.iload_n 3, 1) := by decide +kernel
theorem dl_298 : decode code 298 = .ok (.iconst 1, 1) := by decide +kernel
theorem dl_299 : decode code 299 = .ok (.iadd, 1) := by decide +kernel
theorem dl_300 : decode code 300 = .ok (.iaload, 1) := by decide +kernel
theorem dl_301 : decode code 301 = .ok (.ifCond .eq 7, 3) := by decide +kernel
