/-! the law, instruction by instruction -/
theorem d_law_0 : decode code 0 = .ok (.new 8, 3) := by decide +kernel
theorem d_law_3 : decode code 3 = .ok (.dup, 1) := by decide +kernel
theorem d_law_4 : decode code 4 = .ok (.invokespecial 15, 3) := by decide +kernel
theorem d_law_7 : decode code 7 = .ok (.astore_n 1, 1) := by decide +kernel
theorem d_law_8 : decode code 8 = .ok (.new 16, 3) := by decide +kernel
theorem d_law_11 : decode code 11 = .ok (.dup, 1) := by decide +kernel
theorem d_law_12 : decode code 12 = .ok (.invokespecial 18, 3) := by decide +kernel
theorem d_law_15 : decode code 15 = .ok (.astore_n 2, 1) := by decide +kernel
theorem d_law_16 : decode code 16 = .ok (.iconst 1, 1) := by decide +kernel
theorem d_law_17 : decode code 17 = .ok (.newarray .long, 2) := by decide +kernel
theorem d_law_19 : decode code 19 = .ok (.astore_n 3, 1) := by decide +kernel
theorem d_law_20 : decode code 20 = .ok (.iconst 0, 1) := by decide +kernel
theorem d_law_21 : decode code 21 = .ok (.istore 4, 2) := by decide +kernel
theorem d_law_23 : decode code 23 = .ok (.iload 4, 2) := by decide +kernel
theorem d_law_25 : decode code 25 = .ok (.aload_n 0, 1) := by decide +kernel
theorem d_law_26 : decode code 26 = .ok (.arraylength, 1) := by decide +kernel
theorem d_law_27 : decode code 27 = .ok (.iconst 5, 1) := by decide +kernel
theorem d_law_28 : decode code 28 = .ok (.isub, 1) := by decide +kernel
theorem d_law_29 : decode code 29 = .ok (.if_icmp .gt 1285, 3) := by decide +kernel
theorem d_law_32 : decode code 32 = .ok (.aload_n 0, 1) := by decide +kernel
theorem d_law_33 : decode code 33 = .ok (.iload 4, 2) := by decide +kernel
theorem d_law_35 : decode code 35 = .ok (.iaload, 1) := by decide +kernel
theorem d_law_36 : decode code 36 = .ok (.bipush 63, 2) := by decide +kernel
theorem d_law_38 : decode code 38 = .ok (.iand, 1) := by decide +kernel
theorem d_law_39 : decode code 39 = .ok (.tableswitch 1269 0 37 #[165, 190, 215, 228, 241, 309, 370, 407, 420, 446, 483, 533, 546, 571, 596, 621, 659, 684, 697, 734, 759, 796, 821, 858, 883, 920, 969, 994, 1031, 1068, 1093, 1106, 1131, 1144, 1169, 1194, 1219, 1244], 165) := by decide +kernel
theorem d_law_204 : decode code 204 = .ok (.aload_n 1, 1) := by decide +kernel
theorem d_law_205 : decode code 205 = .ok (.aload_n 0, 1) := by decide +kernel
theorem d_law_206 : decode code 206 = .ok (.iload 4, 2) := by decide +kernel
theorem d_law_208 : decode code 208 = .ok (.iconst 1, 1) := by decide +kernel
theorem d_law_209 : decode code 209 = .ok (.iadd, 1) := by decide +kernel
theorem d_law_210 : decode code 210 = .ok (.iaload, 1) := by decide +kernel
theorem d_law_211 : decode code 211 = .ok (.invokevirtual 19, 3) := by decide +kernel
theorem d_law_214 : decode code 214 = .ok (.aload_n 2, 1) := by decide +kernel
theorem d_law_215 : decode code 215 = .ok (.aload_n 0, 1) := by decide +kernel
theorem d_law_216 : decode code 216 = .ok (.iload 4, 2) := by decide +kernel
theorem d_law_218 : decode code 218 = .ok (.iconst 1, 1) := by decide +kernel
theorem d_law_219 : decode code 219 = .ok (.iadd, 1) := by decide +kernel
theorem d_law_220 : decode code 220 = .ok (.iaload, 1) := by decide +kernel
theorem d_law_221 : decode code 221 = .ok (.invokevirtual 23, 3) := by decide +kernel
theorem d_law_224 : decode code 224 = .ok (.if_icmp .eq 1084, 3) := by decide +kernel
theorem d_law_227 : decode code 227 = .ok (.iconst 0, 1) := by decide +kernel
theorem d_law_228 : decode code 228 = .ok (.ireturn, 1) := by decide +kernel
theorem d_law_229 : decode code 229 = .ok (.aload_n 1, 1) := by decide +kernel
theorem d_law_230 : decode code 230 = .ok (.aload_n 0, 1) := by decide +kernel
theorem d_law_231 : decode code 231 = .ok (.iload 4, 2) := by decide +kernel
theorem d_law_233 : decode code 233 = .ok (.iconst 1, 1) := by decide +kernel
theorem d_law_234 : decode code 234 = .ok (.iadd, 1) := by decide +kernel
theorem d_law_235 : decode code 235 = .ok (.iaload, 1) := by decide +kernel
theorem d_law_236 : decode code 236 = .ok (.invokevirtual 24, 3) := by decide +kernel
theorem d_law_239 : decode code 239 = .ok (.aload_n 2, 1) := by decide +kernel
theorem d_law_240 : decode code 240 = .ok (.aload_n 0, 1) := by decide +kernel
theorem d_law_241 : decode code 241 = .ok (.iload 4, 2) := by decide +kernel
theorem d_law_243 : decode code 243 = .ok (.iconst 1, 1) := by decide +kernel
theorem d_law_244 : decode code 244 = .ok (.iadd, 1) := by decide +kernel
theorem d_law_245 : decode code 245 = .ok (.iaload, 1) := by decide +kernel
theorem d_law_246 : decode code 246 = .ok (.invokevirtual 28, 3) := by decide +kernel
theorem d_law_249 : decode code 249 = .ok (.if_icmp .eq 1059, 3) := by decide +kernel
theorem d_law_252 : decode code 252 = .ok (.iconst 0, 1) := by decide +kernel
theorem d_law_253 : decode code 253 = .ok (.ireturn, 1) := by decide +kernel
theorem d_law_254 : decode code 254 = .ok (.aload_n 1, 1) := by decide +kernel
theorem d_law_255 : decode code 255 = .ok (.invokevirtual 29, 3) := by decide +kernel
theorem d_law_258 : decode code 258 = .ok (.aload_n 2, 1) := by decide +kernel
theorem d_law_259 : decode code 259 = .ok (.invokevirtual 33, 3) := by decide +kernel
theorem d_law_262 : decode code 262 = .ok (.if_icmp .eq 1046, 3) := by decide +kernel
theorem d_law_265 : decode code 265 = .ok (.iconst 0, 1) := by decide +kernel
theorem d_law_266 : decode code 266 = .ok (.ireturn, 1) := by decide +kernel
theorem d_law_267 : decode code 267 = .ok (.aload_n 1, 1) := by decide +kernel
theorem d_law_268 : decode code 268 = .ok (.invokevirtual 34, 3) := by decide +kernel
theorem d_law_271 : decode code 271 = .ok (.aload_n 2, 1) := by decide +kernel
theorem d_law_272 : decode code 272 = .ok (.invokevirtual 37, 3) := by decide +kernel
theorem d_law_275 : decode code 275 = .ok (.if_icmp .eq 1033, 3) := by decide +kernel
theorem d_law_278 : decode code 278 = .ok (.iconst 0, 1) := by decide +kernel
theorem d_law_279 : decode code 279 = .ok (.ireturn, 1) := by decide +kernel
theorem d_law_280 : decode code 280 = .ok (.aload_n 1, 1) := by decide +kernel
theorem d_law_281 : decode code 281 = .ok (.aload_n 0, 1) := by decide +kernel
theorem d_law_282 : decode code 282 = .ok (.iload 4, 2) := by decide +kernel
theorem d_law_284 : decode code 284 = .ok (.iconst 1, 1) := by decide +kernel
theorem d_law_285 : decode code 285 = .ok (.iadd, 1) := by decide +kernel
theorem d_law_286 : decode code 286 = .ok (.iaload, 1) := by decide +kernel
theorem d_law_287 : decode code 287 = .ok (.aload_n 0, 1) := by decide +kernel
theorem d_law_288 : decode code 288 = .ok (.iload 4, 2) := by decide +kernel
theorem d_law_290 : decode code 290 = .ok (.iconst 2, 1) := by decide +kernel
theorem d_law_291 : decode code 291 = .ok (.iadd, 1) := by decide +kernel
theorem d_law_292 : decode code 292 = .ok (.iaload, 1) := by decide +kernel
theorem d_law_293 : decode code 293 = .ok (.aload_n 3, 1) := by decide +kernel
theorem d_law_294 : decode code 294 = .ok (.invokestatic 38, 3) := by decide +kernel
theorem d_law_297 : decode code 297 = .ok (.istore 5, 2) := by decide +kernel
theorem d_law_299 : decode code 299 = .ok (.aload_n 2, 1) := by decide +kernel
theorem d_law_300 : decode code 300 = .ok (.aload_n 0, 1) := by decide +kernel
theorem d_law_301 : decode code 301 = .ok (.iload 4, 2) := by decide +kernel
theorem d_law_303 : decode code 303 = .ok (.iconst 1, 1) := by decide +kernel
theorem d_law_304 : decode code 304 = .ok (.iadd, 1) := by decide +kernel
theorem d_law_305 : decode code 305 = .ok (.iaload, 1) := by decide +kernel
theorem d_law_306 : decode code 306 = .ok (.aload_n 0, 1) := by decide +kernel
theorem d_law_307 : decode code 307 = .ok (.iload 4, 2) := by decide +kernel
theorem d_law_309 : decode code 309 = .ok (.iconst 2, 1) := by decide +kernel
theorem d_law_310 : decode code 310 = .ok (.iadd, 1) := by decide +kernel
theorem d_law_311 : decode code 311 = .ok (.iaload, 1) := by decide +kernel
theorem d_law_312 : decode code 312 = .ok (.invokevirtual 43, 3) := by decide +kernel
theorem d_law_315 : decode code 315 = .ok (.istore 6, 2) := by decide +kernel
