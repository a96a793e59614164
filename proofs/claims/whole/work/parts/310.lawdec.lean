theorem jd_law_0 : decode code 0 = .ok (.new 7, 3) := by decide +kernel
theorem jd_law_3 : decode code 3 = .ok (.dup, 1) := by decide +kernel
theorem jd_law_4 : decode code 4 = .ok (.invokespecial 9, 3) := by decide +kernel
theorem jd_law_7 : decode code 7 = .ok (.astore_n 1, 1) := by decide +kernel
theorem jd_law_8 : decode code 8 = .ok (.new 10, 3) := by decide +kernel
theorem jd_law_11 : decode code 11 = .ok (.dup, 1) := by decide +kernel
theorem jd_law_12 : decode code 12 = .ok (.invokespecial 12, 3) := by decide +kernel
theorem jd_law_15 : decode code 15 = .ok (.astore_n 2, 1) := by decide +kernel
theorem jd_law_16 : decode code 16 = .ok (.iconst 0, 1) := by decide +kernel
theorem jd_law_17 : decode code 17 = .ok (.istore_n 3, 1) := by decide +kernel
theorem jd_law_18 : decode code 18 = .ok (.iload_n 3, 1) := by decide +kernel
theorem jd_law_19 : decode code 19 = .ok (.aload_n 0, 1) := by decide +kernel
theorem jd_law_20 : decode code 20 = .ok (.arraylength, 1) := by decide +kernel
theorem jd_law_21 : decode code 21 = .ok (.bipush 6, 2) := by decide +kernel
theorem jd_law_23 : decode code 23 = .ok (.isub, 1) := by decide +kernel
theorem jd_law_24 : decode code 24 = .ok (.if_icmp .gt 1010, 3) := by decide +kernel
theorem jd_law_27 : decode code 27 = .ok (.aload_n 0, 1) := by decide +kernel
theorem jd_law_28 : decode code 28 = .ok (.iload_n 3, 1) := by decide +kernel
theorem jd_law_29 : decode code 29 = .ok (.iaload, 1) := by decide +kernel
theorem jd_law_30 : decode code 30 = .ok (.bipush 31, 2) := by decide +kernel
theorem jd_law_32 : decode code 32 = .ok (.iand, 1) := by decide +kernel
theorem jd_law_33 : decode code 33 = .ok (.tableswitch 995 0 29 #[135, 158, 171, 184, 197, 230, 263, 296, 339, 362, 405, 438, 461, 494, 507, 550, 573, 616, 639, 672, 705, 748, 781, 794, 807, 840, 903, 946, 959, 972], 135) := by decide +kernel
theorem jd_law_168 : decode code 168 = .ok (.aload_n 1, 1) := by decide +kernel
theorem jd_law_169 : decode code 169 = .ok (.aload_n 0, 1) := by decide +kernel
theorem jd_law_170 : decode code 170 = .ok (.iload_n 3, 1) := by decide +kernel
theorem jd_law_171 : decode code 171 = .ok (.iconst 1, 1) := by decide +kernel
theorem jd_law_172 : decode code 172 = .ok (.iadd, 1) := by decide +kernel
theorem jd_law_173 : decode code 173 = .ok (.iaload, 1) := by decide +kernel
theorem jd_law_174 : decode code 174 = .ok (.invokevirtual 13, 3) := by decide +kernel
theorem jd_law_177 : decode code 177 = .ok (.aload_n 2, 1) := by decide +kernel
theorem jd_law_178 : decode code 178 = .ok (.aload_n 0, 1) := by decide +kernel
theorem jd_law_179 : decode code 179 = .ok (.iload_n 3, 1) := by decide +kernel
theorem jd_law_180 : decode code 180 = .ok (.iconst 1, 1) := by decide +kernel
theorem jd_law_181 : decode code 181 = .ok (.iadd, 1) := by decide +kernel
theorem jd_law_182 : decode code 182 = .ok (.iaload, 1) := by decide +kernel
theorem jd_law_183 : decode code 183 = .ok (.invokevirtual 17, 3) := by decide +kernel
theorem jd_law_186 : decode code 186 = .ok (.if_icmp .eq 842, 3) := by decide +kernel
theorem jd_law_189 : decode code 189 = .ok (.iconst 0, 1) := by decide +kernel
theorem jd_law_190 : decode code 190 = .ok (.ireturn, 1) := by decide +kernel
theorem jd_law_191 : decode code 191 = .ok (.aload_n 1, 1) := by decide +kernel
theorem jd_law_192 : decode code 192 = .ok (.invokevirtual 18, 3) := by decide +kernel
theorem jd_law_195 : decode code 195 = .ok (.aload_n 2, 1) := by decide +kernel
theorem jd_law_196 : decode code 196 = .ok (.invokevirtual 22, 3) := by decide +kernel
theorem jd_law_199 : decode code 199 = .ok (.if_icmp .eq 829, 3) := by decide +kernel
theorem jd_law_202 : decode code 202 = .ok (.iconst 0, 1) := by decide +kernel
theorem jd_law_203 : decode code 203 = .ok (.ireturn, 1) := by decide +kernel
theorem jd_law_204 : decode code 204 = .ok (.aload_n 1, 1) := by decide +kernel
theorem jd_law_205 : decode code 205 = .ok (.invokevirtual 23, 3) := by decide +kernel
theorem jd_law_208 : decode code 208 = .ok (.aload_n 2, 1) := by decide +kernel
theorem jd_law_209 : decode code 209 = .ok (.invokevirtual 26, 3) := by decide +kernel
theorem jd_law_212 : decode code 212 = .ok (.if_icmp .eq 816, 3) := by decide +kernel
theorem jd_law_215 : decode code 215 = .ok (.iconst 0, 1) := by decide +kernel
theorem jd_law_216 : decode code 216 = .ok (.ireturn, 1) := by decide +kernel
theorem jd_law_217 : decode code 217 = .ok (.aload_n 1, 1) := by decide +kernel
theorem jd_law_218 : decode code 218 = .ok (.invokevirtual 27, 3) := by decide +kernel
theorem jd_law_221 : decode code 221 = .ok (.aload_n 2, 1) := by decide +kernel
theorem jd_law_222 : decode code 222 = .ok (.invokevirtual 30, 3) := by decide +kernel
theorem jd_law_225 : decode code 225 = .ok (.if_icmp .eq 803, 3) := by decide +kernel
theorem jd_law_228 : decode code 228 = .ok (.iconst 0, 1) := by decide +kernel
theorem jd_law_229 : decode code 229 = .ok (.ireturn, 1) := by decide +kernel
theorem jd_law_230 : decode code 230 = .ok (.aload_n 1, 1) := by decide +kernel
theorem jd_law_231 : decode code 231 = .ok (.aload_n 0, 1) := by decide +kernel
theorem jd_law_232 : decode code 232 = .ok (.iload_n 3, 1) := by decide +kernel
theorem jd_law_233 : decode code 233 = .ok (.iconst 1, 1) := by decide +kernel
theorem jd_law_234 : decode code 234 = .ok (.iadd, 1) := by decide +kernel
theorem jd_law_235 : decode code 235 = .ok (.iaload, 1) := by decide +kernel
theorem jd_law_236 : decode code 236 = .ok (.aload_n 0, 1) := by decide +kernel
theorem jd_law_237 : decode code 237 = .ok (.iload_n 3, 1) := by decide +kernel
theorem jd_law_238 : decode code 238 = .ok (.iconst 2, 1) := by decide +kernel
theorem jd_law_239 : decode code 239 = .ok (.iadd, 1) := by decide +kernel
theorem jd_law_240 : decode code 240 = .ok (.iaload, 1) := by decide +kernel
theorem jd_law_241 : decode code 241 = .ok (.invokevirtual 31, 3) := by decide +kernel
theorem jd_law_244 : decode code 244 = .ok (.aload_n 2, 1) := by decide +kernel
theorem jd_law_245 : decode code 245 = .ok (.aload_n 0, 1) := by decide +kernel
theorem jd_law_246 : decode code 246 = .ok (.iload_n 3, 1) := by decide +kernel
theorem jd_law_247 : decode code 247 = .ok (.iconst 1, 1) := by decide +kernel
theorem jd_law_248 : decode code 248 = .ok (.iadd, 1) := by decide +kernel
theorem jd_law_249 : decode code 249 = .ok (.iaload, 1) := by decide +kernel
theorem jd_law_250 : decode code 250 = .ok (.aload_n 0, 1) := by decide +kernel
theorem jd_law_251 : decode code 251 = .ok (.iload_n 3, 1) := by decide +kernel
theorem jd_law_252 : decode code 252 = .ok (.iconst 2, 1) := by decide +kernel
theorem jd_law_253 : decode code 253 = .ok (.iadd, 1) := by decide +kernel
theorem jd_law_254 : decode code 254 = .ok (.iaload, 1) := by decide +kernel
theorem jd_law_255 : decode code 255 = .ok (.invokevirtual 35, 3) := by decide +kernel
theorem jd_law_258 : decode code 258 = .ok (.if_icmp .eq 770, 3) := by decide +kernel
theorem jd_law_261 : decode code 261 = .ok (.iconst 0, 1) := by decide +kernel
theorem jd_law_262 : decode code 262 = .ok (.ireturn, 1) := by decide +kernel
theorem jd_law_263 : decode code 263 = .ok (.aload_n 1, 1) := by decide +kernel
theorem jd_law_264 : decode code 264 = .ok (.aload_n 0, 1) := by decide +kernel
theorem jd_law_265 : decode code 265 = .ok (.iload_n 3, 1) := by decide +kernel
theorem jd_law_266 : decode code 266 = .ok (.iconst 1, 1) := by decide +kernel
theorem jd_law_267 : decode code 267 = .ok (.iadd, 1) := by decide +kernel
theorem jd_law_268 : decode code 268 = .ok (.iaload, 1) := by decide +kernel
theorem jd_law_269 : decode code 269 = .ok (.aload_n 0, 1) := by decide +kernel
theorem jd_law_270 : decode code 270 = .ok (.iload_n 3, 1) := by decide +kernel
theorem jd_law_271 : decode code 271 = .ok (.iconst 2, 1) := by decide +kernel
theorem jd_law_272 : decode code 272 = .ok (.iadd, 1) := by decide +kernel
theorem jd_law_273 : decode code 273 = .ok (.iaload, 1) := by decide +kernel
theorem jd_law_274 : decode code 274 = .ok (.invokevirtual 36, 3) := by decide +kernel
theorem jd_law_277 : decode code 277 = .ok (.aload_n 2, 1) := by decide +kernel
theorem jd_law_278 : decode code 278 = .ok (.aload_n 0, 1) := by decide +kernel
theorem jd_law_279 : decode code 279 = .ok (.iload_n 3, 1) := by decide +kernel
theorem jd_law_280 : decode code 280 = .ok (.iconst 1, 1) := by decide +kernel
theorem jd_law_281 : decode code 281 = .ok (.iadd, 1) := by decide +kernel
theorem jd_law_282 : decode code 282 = .ok (.iaload, 1) := by decide +kernel
theorem jd_law_283 : decode code 283 = .ok (.aload_n 0, 1) := by decide +kernel
theorem jd_law_284 : decode code 284 = .ok (.iload_n 3, 1) := by decide +kernel
theorem jd_law_285 : decode code 285 = .ok (.iconst 2, 1) := by decide +kernel
theorem jd_law_286 : decode code 286 = .ok (.iadd, 1) := by decide +kernel
theorem jd_law_287 : decode code 287 = .ok (.iaload, 1) := by decide +kernel
theorem jd_law_288 : decode code 288 = .ok (.invokevirtual 39, 3) := by decide +kernel
theorem jd_law_291 : decode code 291 = .ok (.if_icmp .eq 737, 3) := by decide +kernel
theorem jd_law_294 : decode code 294 = .ok (.iconst 0, 1) := by decide +kernel
theorem jd_law_295 : decode code 295 = .ok (.ireturn, 1) := by decide +kernel
theorem jd_law_296 : decode code 296 = .ok (.aload_n 1, 1) := by decide +kernel
theorem jd_law_297 : decode code 297 = .ok (.aload_n 0, 1) := by decide +kernel
theorem jd_law_298 : decode code 298 = .ok (.iload_n 3, 1) := by decide +kernel
theorem jd_law_299 : decode code 299 = .ok (.iconst 1, 1) := by decide +kernel
theorem jd_law_300 : decode code 300 = .ok (.iadd, 1) := by decide +kernel
theorem jd_law_301 : decode code 301 = .ok (.iaload, 1) := by decide +kernel
