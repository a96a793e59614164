theorem jq_650 : Jvm.Cond.code ({ cls := "HayTalkModel", name := "<init>", desc := "()V" } : Jvm.MethodName) prog_9_method_1_code (3 : Nat) (Option.none : Option Jvm.ClassFile.FieldType) ∈ lw_gd := lw_in 650 (by decide +kernel) rfl
theorem jq_651 : Jvm.Cond.methodLink "HayTalkModel" (1 : Nat) ({ cls := "java/lang/Object", name := "<init>", desc := "()V" } : Jvm.MethodName) ∈ lw_gd := lw_in 651 (by decide +kernel) rfl
theorem jq_652 : Jvm.Cond.methodLink "HayTalkModel" (65 : Nat) ({ cls := "HayTalkModel", name := "lay", desc := "()I" } : Jvm.MethodName) ∈ lw_gd := lw_in 652 (by decide +kernel) rfl
theorem jq_653 : Jvm.Cond.instanceMethod ({ cls := "HayTalkModel", name := "lay", desc := "()I" } : Jvm.MethodName) ∈ lw_gd := lw_in 653 (by decide +kernel) rfl
theorem jq_654 : Jvm.Cond.selects "HayTalkModel" ({ cls := "HayTalkModel", name := "lay", desc := "()I" } : Jvm.MethodName) ({ cls := "HayTalkModel", name := "lay", desc := "()I" } : Jvm.MethodName) ∈ lw_gd := lw_in 654 (by decide +kernel) rfl
abbrev jb_M_init : ByteArray := prog_9_method_1_code
abbrev jy_M_init : MethodName := ⟨"HayTalkModel", "<init>", "()V"⟩
abbrev jr_M_init : Room := { frames := 7, cells := 18, slots := 1507, locals := 161 }
theorem jl_M_init : hk_L jy_M_init jb_M_init 3 none 0 := ⟨jq_650, jq_13, by decide, by decide, by decide +kernel⟩
theorem jd_M_init_0 : decode jb_M_init 0 = .ok (.aload_n 0, 1) := by decide +kernel
theorem jd_M_init_1 : decode jb_M_init 1 = .ok (.invokespecial 1, 3) := by decide +kernel
theorem jd_M_init_4 : decode jb_M_init 4 = .ok (.aload_n 0, 1) := by decide +kernel
theorem jd_M_init_5 : decode jb_M_init 5 = .ok (.sipush 200, 3) := by decide +kernel
theorem jd_M_init_8 : decode jb_M_init 8 = .ok (.newarray .int, 2) := by decide +kernel
theorem jd_M_init_10 : decode jb_M_init 10 = .ok (.putfield 7, 3) := by decide +kernel
theorem jd_M_init_13 : decode jb_M_init 13 = .ok (.aload_n 0, 1) := by decide +kernel
theorem jd_M_init_14 : decode jb_M_init 14 = .ok (.iconst 5, 1) := by decide +kernel
theorem jd_M_init_15 : decode jb_M_init 15 = .ok (.newarray .int, 2) := by decide +kernel
theorem jd_M_init_17 : decode jb_M_init 17 = .ok (.putfield 13, 3) := by decide +kernel
theorem jd_M_init_20 : decode jb_M_init 20 = .ok (.aload_n 0, 1) := by decide +kernel
theorem jd_M_init_21 : decode jb_M_init 21 = .ok (.bipush 45, 2) := by decide +kernel
theorem jd_M_init_23 : decode jb_M_init 23 = .ok (.newarray .int, 2) := by decide +kernel
theorem jd_M_init_25 : decode jb_M_init 25 = .ok (.putfield 16, 3) := by decide +kernel
theorem jd_M_init_28 : decode jb_M_init 28 = .ok (.aload_n 0, 1) := by decide +kernel
theorem jd_M_init_29 : decode jb_M_init 29 = .ok (.bipush 9, 2) := by decide +kernel
theorem jd_M_init_31 : decode jb_M_init 31 = .ok (.newarray .int, 2) := by decide +kernel
theorem jd_M_init_33 : decode jb_M_init 33 = .ok (.putfield 19, 3) := by decide +kernel
theorem jd_M_init_36 : decode jb_M_init 36 = .ok (.aload_n 0, 1) := by decide +kernel
theorem jd_M_init_37 : decode jb_M_init 37 = .ok (.iconst 4, 1) := by decide +kernel
theorem jd_M_init_38 : decode jb_M_init 38 = .ok (.newarray .int, 2) := by decide +kernel
theorem jd_M_init_40 : decode jb_M_init 40 = .ok (.putfield 22, 3) := by decide +kernel
theorem jd_M_init_43 : decode jb_M_init 43 = .ok (.aload_n 0, 1) := by decide +kernel
theorem jd_M_init_44 : decode jb_M_init 44 = .ok (.iconst 3, 1) := by decide +kernel
theorem jd_M_init_45 : decode jb_M_init 45 = .ok (.newarray .int, 2) := by decide +kernel
theorem jd_M_init_47 : decode jb_M_init 47 = .ok (.putfield 25, 3) := by decide +kernel
theorem jd_M_init_50 : decode jb_M_init 50 = .ok (.aload_n 0, 1) := by decide +kernel
theorem jd_M_init_51 : decode jb_M_init 51 = .ok (.iconst 5, 1) := by decide +kernel
theorem jd_M_init_52 : decode jb_M_init 52 = .ok (.newarray .int, 2) := by decide +kernel
theorem jd_M_init_54 : decode jb_M_init 54 = .ok (.putfield 28, 3) := by decide +kernel
theorem jd_M_init_57 : decode jb_M_init 57 = .ok (.aload_n 0, 1) := by decide +kernel
theorem jd_M_init_58 : decode jb_M_init 58 = .ok (.bipush 45, 2) := by decide +kernel
theorem jd_M_init_60 : decode jb_M_init 60 = .ok (.newarray .int, 2) := by decide +kernel
theorem jd_M_init_62 : decode jb_M_init 62 = .ok (.putfield 31, 3) := by decide +kernel
theorem jd_M_init_65 : decode jb_M_init 65 = .ok (.aload_n 0, 1) := by decide +kernel
theorem jd_M_init_66 : decode jb_M_init 66 = .ok (.bipush 9, 2) := by decide +kernel
theorem jd_M_init_68 : decode jb_M_init 68 = .ok (.newarray .int, 2) := by decide +kernel
theorem jd_M_init_70 : decode jb_M_init 70 = .ok (.putfield 34, 3) := by decide +kernel
theorem jd_M_init_73 : decode jb_M_init 73 = .ok (.aload_n 0, 1) := by decide +kernel
theorem jd_M_init_74 : decode jb_M_init 74 = .ok (.iconst 4, 1) := by decide +kernel
theorem jd_M_init_75 : decode jb_M_init 75 = .ok (.newarray .int, 2) := by decide +kernel
theorem jd_M_init_77 : decode jb_M_init 77 = .ok (.putfield 37, 3) := by decide +kernel
theorem jd_M_init_80 : decode jb_M_init 80 = .ok (.aload_n 0, 1) := by decide +kernel
theorem jd_M_init_81 : decode jb_M_init 81 = .ok (.iconst 3, 1) := by decide +kernel
theorem jd_M_init_82 : decode jb_M_init 82 = .ok (.newarray .int, 2) := by decide +kernel
theorem jd_M_init_84 : decode jb_M_init 84 = .ok (.putfield 40, 3) := by decide +kernel
theorem jd_M_init_87 : decode jb_M_init 87 = .ok (.aload_n 0, 1) := by decide +kernel
theorem jd_M_init_88 : decode jb_M_init 88 = .ok (.bipush 93, 2) := by decide +kernel
theorem jd_M_init_90 : decode jb_M_init 90 = .ok (.newarray .int, 2) := by decide +kernel
theorem jd_M_init_92 : decode jb_M_init 92 = .ok (.putfield 43, 3) := by decide +kernel
theorem jd_M_init_95 : decode jb_M_init 95 = .ok (.aload_n 0, 1) := by decide +kernel
theorem jd_M_init_96 : decode jb_M_init 96 = .ok (.sipush 744, 3) := by decide +kernel
theorem jd_M_init_99 : decode jb_M_init 99 = .ok (.newarray .int, 2) := by decide +kernel
theorem jd_M_init_101 : decode jb_M_init 101 = .ok (.putfield 46, 3) := by decide +kernel
theorem jd_M_init_104 : decode jb_M_init 104 = .ok (.aload_n 0, 1) := by decide +kernel
theorem jd_M_init_105 : decode jb_M_init 105 = .ok (.bipush 93, 2) := by decide +kernel
theorem jd_M_init_107 : decode jb_M_init 107 = .ok (.newarray .int, 2) := by decide +kernel
theorem jd_M_init_109 : decode jb_M_init 109 = .ok (.putfield 49, 3) := by decide +kernel
theorem jd_M_init_112 : decode jb_M_init 112 = .ok (.aload_n 0, 1) := by decide +kernel
theorem jd_M_init_113 : decode jb_M_init 113 = .ok (.bipush 6, 2) := by decide +kernel
theorem jd_M_init_115 : decode jb_M_init 115 = .ok (.newarray .int, 2) := by decide +kernel
theorem jd_M_init_117 : decode jb_M_init 117 = .ok (.putfield 52, 3) := by decide +kernel
theorem jd_M_init_120 : decode jb_M_init 120 = .ok (.aload_n 0, 1) := by decide +kernel
theorem jd_M_init_121 : decode jb_M_init 121 = .ok (.bipush 6, 2) := by decide +kernel
theorem jd_M_init_123 : decode jb_M_init 123 = .ok (.newarray .int, 2) := by decide +kernel
theorem jd_M_init_125 : decode jb_M_init 125 = .ok (.putfield 55, 3) := by decide +kernel
theorem jd_M_init_128 : decode jb_M_init 128 = .ok (.aload_n 0, 1) := by decide +kernel
theorem jd_M_init_129 : decode jb_M_init 129 = .ok (.sipush 186, 3) := by decide +kernel
theorem jd_M_init_132 : decode jb_M_init 132 = .ok (.newarray .int, 2) := by decide +kernel
theorem jd_M_init_134 : decode jb_M_init 134 = .ok (.putfield 58, 3) := by decide +kernel
theorem jd_M_init_137 : decode jb_M_init 137 = .ok (.bipush 47, 2) := by decide +kernel
theorem jd_M_init_139 : decode jb_M_init 139 = .ok (.newarray .int, 2) := by decide +kernel
theorem jd_M_init_141 : decode jb_M_init 141 = .ok (.dup, 1) := by decide +kernel
theorem jd_M_init_142 : decode jb_M_init 142 = .ok (.iconst 0, 1) := by decide +kernel
theorem jd_M_init_143 : decode jb_M_init 143 = .ok (.bipush 109, 2) := by decide +kernel
theorem jd_M_init_145 : decode jb_M_init 145 = .ok (.iastore, 1) := by decide +kernel
theorem jd_M_init_146 : decode jb_M_init 146 = .ok (.dup, 1) := by decide +kernel
theorem jd_M_init_147 : decode jb_M_init 147 = .ok (.iconst 1, 1) := by decide +kernel
theorem jd_M_init_148 : decode jb_M_init 148 = .ok (.bipush 51, 2) := by decide +kernel
theorem jd_M_init_150 : decode jb_M_init 150 = .ok (.iastore, 1) := by decide +kernel
theorem jd_M_init_151 : decode jb_M_init 151 = .ok (.dup, 1) := by decide +kernel
theorem jd_M_init_152 : decode jb_M_init 152 = .ok (.iconst 2, 1) := by decide +kernel
theorem jd_M_init_153 : decode jb_M_init 153 = .ok (.bipush 49, 2) := by decide +kernel
theorem jd_M_init_155 : decode jb_M_init 155 = .ok (.iastore, 1) := by decide +kernel
theorem jd_M_init_156 : decode jb_M_init 156 = .ok (.dup, 1) := by decide +kernel
theorem jd_M_init_157 : decode jb_M_init 157 = .ok (.iconst 3, 1) := by decide +kernel
theorem jd_M_init_158 : decode jb_M_init 158 = .ok (.bipush 52, 2) := by decide +kernel
theorem jd_M_init_160 : decode jb_M_init 160 = .ok (.iastore, 1) := by decide +kernel
theorem jd_M_init_161 : decode jb_M_init 161 = .ok (.dup, 1) := by decide +kernel
theorem jd_M_init_162 : decode jb_M_init 162 = .ok (.iconst 4, 1) := by decide +kernel
theorem jd_M_init_163 : decode jb_M_init 163 = .ok (.bipush 59, 2) := by decide +kernel
theorem jd_M_init_165 : decode jb_M_init 165 = .ok (.iastore, 1) := by decide +kernel
theorem jd_M_init_166 : decode jb_M_init 166 = .ok (.dup, 1) := by decide +kernel
theorem jd_M_init_167 : decode jb_M_init 167 = .ok (.iconst 5, 1) := by decide +kernel
theorem jd_M_init_168 : decode jb_M_init 168 = .ok (.bipush 109, 2) := by decide +kernel
theorem jd_M_init_170 : decode jb_M_init 170 = .ok (.iastore, 1) := by decide +kernel
theorem jd_M_init_171 : decode jb_M_init 171 = .ok (.dup, 1) := by decide +kernel
theorem jd_M_init_172 : decode jb_M_init 172 = .ok (.bipush 6, 2) := by decide +kernel
theorem jd_M_init_174 : decode jb_M_init 174 = .ok (.bipush 50, 2) := by decide +kernel
theorem jd_M_init_176 : decode jb_M_init 176 = .ok (.iastore, 1) := by decide +kernel
theorem jd_M_init_177 : decode jb_M_init 177 = .ok (.dup, 1) := by decide +kernel
theorem jd_M_init_178 : decode jb_M_init 178 = .ok (.bipush 7, 2) := by decide +kernel
theorem jd_M_init_180 : decode jb_M_init 180 = .ok (.bipush 55, 2) := by decide +kernel
theorem jd_M_init_182 : decode jb_M_init 182 = .ok (.iastore, 1) := by decide +kernel
theorem jd_M_init_183 : decode jb_M_init 183 = .ok (.dup, 1) := by decide +kernel
theorem jd_M_init_184 : decode jb_M_init 184 = .ok (.bipush 8, 2) := by decide +kernel
theorem jd_M_init_186 : decode jb_M_init 186 = .ok (.bipush 49, 2) := by decide +kernel
theorem jd_M_init_188 : decode jb_M_init 188 = .ok (.iastore, 1) := by decide +kernel
theorem jd_M_init_189 : decode jb_M_init 189 = .ok (.dup, 1) := by decide +kernel
theorem jd_M_init_190 : decode jb_M_init 190 = .ok (.bipush 9, 2) := by decide +kernel
theorem jd_M_init_192 : decode jb_M_init 192 = .ok (.bipush 56, 2) := by decide +kernel
theorem jd_M_init_194 : decode jb_M_init 194 = .ok (.iastore, 1) := by decide +kernel
theorem jd_M_init_195 : decode jb_M_init 195 = .ok (.dup, 1) := by decide +kernel
theorem jd_M_init_196 : decode jb_M_init 196 = .ok (.bipush 10, 2) := by decide +kernel
theorem jd_M_init_198 : decode jb_M_init 198 = .ok (.bipush 59, 2) := by decide +kernel
theorem jd_M_init_200 : decode jb_M_init 200 = .ok (.iastore, 1) := by decide +kernel
theorem jd_M_init_201 : decode jb_M_init 201 = .ok (.dup, 1) := by decide +kernel
theorem jd_M_init_202 : decode jb_M_init 202 = .ok (.bipush 11, 2) := by decide +kernel
theorem jd_M_init_204 : decode jb_M_init 204 = .ok (.bipush 109, 2) := by decide +kernel
theorem jd_M_init_206 : decode jb_M_init 206 = .ok (.iastore, 1) := by decide +kernel
theorem jd_M_init_207 : decode jb_M_init 207 = .ok (.dup, 1) := by decide +kernel
theorem jd_M_init_208 : decode jb_M_init 208 = .ok (.bipush 12, 2) := by decide +kernel
theorem jd_M_init_210 : decode jb_M_init 210 = .ok (.bipush 53, 2) := by decide +kernel
theorem jd_M_init_212 : decode jb_M_init 212 = .ok (.iastore, 1) := by decide +kernel
theorem jd_M_init_213 : decode jb_M_init 213 = .ok (.dup, 1) := by decide +kernel
theorem jd_M_init_214 : decode jb_M_init 214 = .ok (.bipush 13, 2) := by decide +kernel
theorem jd_M_init_216 : decode jb_M_init 216 = .ok (.bipush 59, 2) := by decide +kernel
theorem jd_M_init_218 : decode jb_M_init 218 = .ok (.iastore, 1) := by decide +kernel
theorem jd_M_init_219 : decode jb_M_init 219 = .ok (.dup, 1) := by decide +kernel
theorem jd_M_init_220 : decode jb_M_init 220 = .ok (.bipush 14, 2) := by decide +kernel
theorem jd_M_init_222 : decode jb_M_init 222 = .ok (.bipush 109, 2) := by decide +kernel
theorem jd_M_init_224 : decode jb_M_init 224 = .ok (.iastore, 1) := by decide +kernel
theorem jd_M_init_225 : decode jb_M_init 225 = .ok (.dup, 1) := by decide +kernel
theorem jd_M_init_226 : decode jb_M_init 226 = .ok (.bipush 15, 2) := by decide +kernel
theorem jd_M_init_228 : decode jb_M_init 228 = .ok (.bipush 57, 2) := by decide +kernel
theorem jd_M_init_230 : decode jb_M_init 230 = .ok (.iastore, 1) := by decide +kernel
theorem jd_M_init_231 : decode jb_M_init 231 = .ok (.dup, 1) := by decide +kernel
theorem jd_M_init_232 : decode jb_M_init 232 = .ok (.bipush 16, 2) := by decide +kernel
theorem jd_M_init_234 : decode jb_M_init 234 = .ok (.bipush 57, 2) := by decide +kernel
theorem jd_M_init_236 : decode jb_M_init 236 = .ok (.iastore, 1) := by decide +kernel
theorem jd_M_init_237 : decode jb_M_init 237 = .ok (.dup, 1) := by decide +kernel
theorem jd_M_init_238 : decode jb_M_init 238 = .ok (.bipush 17, 2) := by decide +kernel
theorem jd_M_init_240 : decode jb_M_init 240 = .ok (.bipush 48, 2) := by decide +kernel
theorem jd_M_init_242 : decode jb_M_init 242 = .ok (.iastore, 1) := by decide +kernel
theorem jd_M_init_243 : decode jb_M_init 243 = .ok (.dup, 1) := by decide +kernel
theorem jd_M_init_244 : decode jb_M_init 244 = .ok (.bipush 18, 2) := by decide +kernel
theorem jd_M_init_246 : decode jb_M_init 246 = .ok (.bipush 50, 2) := by decide +kernel
theorem jd_M_init_248 : decode jb_M_init 248 = .ok (.iastore, 1) := by decide +kernel
theorem jd_M_init_249 : decode jb_M_init 249 = .ok (.dup, 1) := by decide +kernel
theorem jd_M_init_250 : decode jb_M_init 250 = .ok (.bipush 19, 2) := by decide +kernel
theorem jd_M_init_252 : decode jb_M_init 252 = .ok (.bipush 59, 2) := by decide +kernel
theorem jd_M_init_254 : decode jb_M_init 254 = .ok (.iastore, 1) := by decide +kernel
theorem jd_M_init_255 : decode jb_M_init 255 = .ok (.dup, 1) := by decide +kernel
theorem jd_M_init_256 : decode jb_M_init 256 = .ok (.bipush 20, 2) := by decide +kernel
theorem jd_M_init_258 : decode jb_M_init 258 = .ok (.bipush 101, 2) := by decide +kernel
theorem jd_M_init_260 : decode jb_M_init 260 = .ok (.iastore, 1) := by decide +kernel
theorem jd_M_init_261 : decode jb_M_init 261 = .ok (.dup, 1) := by decide +kernel
theorem jd_M_init_262 : decode jb_M_init 262 = .ok (.bipush 21, 2) := by decide +kernel
theorem jd_M_init_264 : decode jb_M_init 264 = .ok (.bipush 48, 2) := by decide +kernel
theorem jd_M_init_266 : decode jb_M_init 266 = .ok (.iastore, 1) := by decide +kernel
theorem jd_M_init_267 : decode jb_M_init 267 = .ok (.dup, 1) := by decide +kernel
theorem jd_M_init_268 : decode jb_M_init 268 = .ok (.bipush 22, 2) := by decide +kernel
theorem jd_M_init_270 : decode jb_M_init 270 = .ok (.bipush 49, 2) := by decide +kernel
theorem jd_M_init_272 : decode jb_M_init 272 = .ok (.iastore, 1) := by decide +kernel
theorem jd_M_init_273 : decode jb_M_init 273 = .ok (.dup, 1) := by decide +kernel
theorem jd_M_init_274 : decode jb_M_init 274 = .ok (.bipush 23, 2) := by decide +kernel
theorem jd_M_init_276 : decode jb_M_init 276 = .ok (.bipush 50, 2) := by decide +kernel
theorem jd_M_init_278 : decode jb_M_init 278 = .ok (.iastore, 1) := by decide +kernel
theorem jd_M_init_279 : decode jb_M_init 279 = .ok (.dup, 1) := by decide +kernel
theorem jd_M_init_280 : decode jb_M_init 280 = .ok (.bipush 24, 2) := by decide +kernel
theorem jd_M_init_282 : decode jb_M_init 282 = .ok (.bipush 48, 2) := by decide +kernel
theorem jd_M_init_284 : decode jb_M_init 284 = .ok (.iastore, 1) := by decide +kernel
theorem jd_M_init_285 : decode jb_M_init 285 = .ok (.dup, 1) := by decide +kernel
theorem jd_M_init_286 : decode jb_M_init 286 = .ok (.bipush 25, 2) := by decide +kernel
theorem jd_M_init_288 : decode jb_M_init 288 = .ok (.bipush 59, 2) := by decide +kernel
theorem jd_M_init_290 : decode jb_M_init 290 = .ok (.iastore, 1) := by decide +kernel
theorem jd_M_init_291 : decode jb_M_init 291 = .ok (.dup, 1) := by decide +kernel
theorem jd_M_init_292 : decode jb_M_init 292 = .ok (.bipush 26, 2) := by decide +kernel
theorem jd_M_init_294 : decode jb_M_init 294 = .ok (.bipush 99, 2) := by decide +kernel
theorem jd_M_init_296 : decode jb_M_init 296 = .ok (.iastore, 1) := by decide +kernel
theorem jd_M_init_297 : decode jb_M_init 297 = .ok (.dup, 1) := by decide +kernel
theorem jd_M_init_298 : decode jb_M_init 298 = .ok (.bipush 27, 2) := by decide +kernel
theorem jd_M_init_300 : decode jb_M_init 300 = .ok (.bipush 48, 2) := by decide +kernel
theorem jd_M_init_302 : decode jb_M_init 302 = .ok (.iastore, 1) := by decide +kernel
theorem jd_M_init_303 : decode jb_M_init 303 = .ok (.dup, 1) := by decide +kernel
theorem jd_M_init_304 : decode jb_M_init 304 = .ok (.bipush 28, 2) := by decide +kernel
theorem jd_M_init_306 : decode jb_M_init 306 = .ok (.bipush 59, 2) := by decide +kernel
theorem jd_M_init_308 : decode jb_M_init 308 = .ok (.iastore, 1) := by decide +kernel
theorem jd_M_init_309 : decode jb_M_init 309 = .ok (.dup, 1) := by decide +kernel
theorem jd_M_init_310 : decode jb_M_init 310 = .ok (.bipush 29, 2) := by decide +kernel
theorem jd_M_init_312 : decode jb_M_init 312 = .ok (.bipush 99, 2) := by decide +kernel
theorem jd_M_init_314 : decode jb_M_init 314 = .ok (.iastore, 1) := by decide +kernel
theorem jd_M_init_315 : decode jb_M_init 315 = .ok (.dup, 1) := by decide +kernel
theorem jd_M_init_316 : decode jb_M_init 316 = .ok (.bipush 30, 2) := by decide +kernel
theorem jd_M_init_318 : decode jb_M_init 318 = .ok (.bipush 49, 2) := by decide +kernel
theorem jd_M_init_320 : decode jb_M_init 320 = .ok (.iastore, 1) := by decide +kernel
theorem jd_M_init_321 : decode jb_M_init 321 = .ok (.dup, 1) := by decide +kernel
theorem jd_M_init_322 : decode jb_M_init 322 = .ok (.bipush 31, 2) := by decide +kernel
theorem jd_M_init_324 : decode jb_M_init 324 = .ok (.bipush 59, 2) := by decide +kernel
theorem jd_M_init_326 : decode jb_M_init 326 = .ok (.iastore, 1) := by decide +kernel
theorem jd_M_init_327 : decode jb_M_init 327 = .ok (.dup, 1) := by decide +kernel
theorem jd_M_init_328 : decode jb_M_init 328 = .ok (.bipush 32, 2) := by decide +kernel
theorem jd_M_init_330 : decode jb_M_init 330 = .ok (.bipush 99, 2) := by decide +kernel
theorem jd_M_init_332 : decode jb_M_init 332 = .ok (.iastore, 1) := by decide +kernel
theorem jd_M_init_333 : decode jb_M_init 333 = .ok (.dup, 1) := by decide +kernel
theorem jd_M_init_334 : decode jb_M_init 334 = .ok (.bipush 33, 2) := by decide +kernel
theorem jd_M_init_336 : decode jb_M_init 336 = .ok (.bipush 50, 2) := by decide +kernel
theorem jd_M_init_338 : decode jb_M_init 338 = .ok (.iastore, 1) := by decide +kernel
theorem jd_M_init_339 : decode jb_M_init 339 = .ok (.dup, 1) := by decide +kernel
theorem jd_M_init_340 : decode jb_M_init 340 = .ok (.bipush 34, 2) := by decide +kernel
theorem jd_M_init_342 : decode jb_M_init 342 = .ok (.bipush 59, 2) := by decide +kernel
theorem jd_M_init_344 : decode jb_M_init 344 = .ok (.iastore, 1) := by decide +kernel
theorem jd_M_init_345 : decode jb_M_init 345 = .ok (.dup, 1) := by decide +kernel
theorem jd_M_init_346 : decode jb_M_init 346 = .ok (.bipush 35, 2) := by decide +kernel
theorem jd_M_init_348 : decode jb_M_init 348 = .ok (.bipush 99, 2) := by decide +kernel
theorem jd_M_init_350 : decode jb_M_init 350 = .ok (.iastore, 1) := by decide +kernel
theorem jd_M_init_351 : decode jb_M_init 351 = .ok (.dup, 1) := by decide +kernel
theorem jd_M_init_352 : decode jb_M_init 352 = .ok (.bipush 36, 2) := by decide +kernel
theorem jd_M_init_354 : decode jb_M_init 354 = .ok (.bipush 51, 2) := by decide +kernel
theorem jd_M_init_356 : decode jb_M_init 356 = .ok (.iastore, 1) := by decide +kernel
theorem jd_M_init_357 : decode jb_M_init 357 = .ok (.dup, 1) := by decide +kernel
theorem jd_M_init_358 : decode jb_M_init 358 = .ok (.bipush 37, 2) := by decide +kernel
theorem jd_M_init_360 : decode jb_M_init 360 = .ok (.bipush 59, 2) := by decide +kernel
theorem jd_M_init_362 : decode jb_M_init 362 = .ok (.iastore, 1) := by decide +kernel
theorem jd_M_init_363 : decode jb_M_init 363 = .ok (.dup, 1) := by decide +kernel
theorem jd_M_init_364 : decode jb_M_init 364 = .ok (.bipush 38, 2) := by decide +kernel
theorem jd_M_init_366 : decode jb_M_init 366 = .ok (.bipush 107, 2) := by decide +kernel
theorem jd_M_init_368 : decode jb_M_init 368 = .ok (.iastore, 1) := by decide +kernel
theorem jd_M_init_369 : decode jb_M_init 369 = .ok (.dup, 1) := by decide +kernel
theorem jd_M_init_370 : decode jb_M_init 370 = .ok (.bipush 39, 2) := by decide +kernel
theorem jd_M_init_372 : decode jb_M_init 372 = .ok (.bipush 50, 2) := by decide +kernel
theorem jd_M_init_374 : decode jb_M_init 374 = .ok (.iastore, 1) := by decide +kernel
theorem jd_M_init_375 : decode jb_M_init 375 = .ok (.dup, 1) := by decide +kernel
theorem jd_M_init_376 : decode jb_M_init 376 = .ok (.bipush 40, 2) := by decide +kernel
theorem jd_M_init_378 : decode jb_M_init 378 = .ok (.bipush 59, 2) := by decide +kernel
theorem jd_M_init_380 : decode jb_M_init 380 = .ok (.iastore, 1) := by decide +kernel
theorem jd_M_init_381 : decode jb_M_init 381 = .ok (.dup, 1) := by decide +kernel
theorem jd_M_init_382 : decode jb_M_init 382 = .ok (.bipush 41, 2) := by decide +kernel
theorem jd_M_init_384 : decode jb_M_init 384 = .ok (.bipush 107, 2) := by decide +kernel
theorem jd_M_init_386 : decode jb_M_init 386 = .ok (.iastore, 1) := by decide +kernel
theorem jd_M_init_387 : decode jb_M_init 387 = .ok (.dup, 1) := by decide +kernel
theorem jd_M_init_388 : decode jb_M_init 388 = .ok (.bipush 42, 2) := by decide +kernel
theorem jd_M_init_390 : decode jb_M_init 390 = .ok (.bipush 48, 2) := by decide +kernel
theorem jd_M_init_392 : decode jb_M_init 392 = .ok (.iastore, 1) := by decide +kernel
theorem jd_M_init_393 : decode jb_M_init 393 = .ok (.dup, 1) := by decide +kernel
theorem jd_M_init_394 : decode jb_M_init 394 = .ok (.bipush 43, 2) := by decide +kernel
theorem jd_M_init_396 : decode jb_M_init 396 = .ok (.bipush 59, 2) := by decide +kernel
theorem jd_M_init_398 : decode jb_M_init 398 = .ok (.iastore, 1) := by decide +kernel
theorem jd_M_init_399 : decode jb_M_init 399 = .ok (.dup, 1) := by decide +kernel
theorem jd_M_init_400 : decode jb_M_init 400 = .ok (.bipush 44, 2) := by decide +kernel
theorem jd_M_init_402 : decode jb_M_init 402 = .ok (.bipush 107, 2) := by decide +kernel
theorem jd_M_init_404 : decode jb_M_init 404 = .ok (.iastore, 1) := by decide +kernel
theorem jd_M_init_405 : decode jb_M_init 405 = .ok (.dup, 1) := by decide +kernel
theorem jd_M_init_406 : decode jb_M_init 406 = .ok (.bipush 45, 2) := by decide +kernel
theorem jd_M_init_408 : decode jb_M_init 408 = .ok (.bipush 53, 2) := by decide +kernel
theorem jd_M_init_410 : decode jb_M_init 410 = .ok (.iastore, 1) := by decide +kernel
theorem jd_M_init_411 : decode jb_M_init 411 = .ok (.dup, 1) := by decide +kernel
theorem jd_M_init_412 : decode jb_M_init 412 = .ok (.bipush 46, 2) := by decide +kernel
theorem jd_M_init_414 : decode jb_M_init 414 = .ok (.bipush 59, 2) := by decide +kernel
theorem jd_M_init_416 : decode jb_M_init 416 = .ok (.iastore, 1) := by decide +kernel
theorem jd_M_init_417 : decode jb_M_init 417 = .ok (.astore_n 1, 1) := by decide +kernel
theorem jd_M_init_418 : decode jb_M_init 418 = .ok (.iconst 0, 1) := by decide +kernel
theorem jd_M_init_419 : decode jb_M_init 419 = .ok (.istore_n 2, 1) := by decide +kernel
theorem jd_M_init_420 : decode jb_M_init 420 = .ok (.iload_n 2, 1) := by decide +kernel
theorem jd_M_init_421 : decode jb_M_init 421 = .ok (.aload_n 1, 1) := by decide +kernel
theorem jd_M_init_422 : decode jb_M_init 422 = .ok (.arraylength, 1) := by decide +kernel
theorem jd_M_init_423 : decode jb_M_init 423 = .ok (.if_icmp .ge 18, 3) := by decide +kernel
theorem jd_M_init_426 : decode jb_M_init 426 = .ok (.aload_n 0, 1) := by decide +kernel
theorem jd_M_init_427 : decode jb_M_init 427 = .ok (.getfield 7, 3) := by decide +kernel
theorem jd_M_init_430 : decode jb_M_init 430 = .ok (.iload_n 2, 1) := by decide +kernel
theorem jd_M_init_431 : decode jb_M_init 431 = .ok (.aload_n 1, 1) := by decide +kernel
theorem jd_M_init_432 : decode jb_M_init 432 = .ok (.iload_n 2, 1) := by decide +kernel
theorem jd_M_init_433 : decode jb_M_init 433 = .ok (.iaload, 1) := by decide +kernel
theorem jd_M_init_434 : decode jb_M_init 434 = .ok (.iastore, 1) := by decide +kernel
theorem jd_M_init_435 : decode jb_M_init 435 = .ok (.iinc 2 1, 3) := by decide +kernel
theorem jd_M_init_438 : decode jb_M_init 438 = .ok (.goto (-18), 3) := by decide +kernel
theorem jd_M_init_441 : decode jb_M_init 441 = .ok (.aload_n 0, 1) := by decide +kernel
theorem jd_M_init_442 : decode jb_M_init 442 = .ok (.aload_n 1, 1) := by decide +kernel
theorem jd_M_init_443 : decode jb_M_init 443 = .ok (.arraylength, 1) := by decide +kernel
theorem jd_M_init_444 : decode jb_M_init 444 = .ok (.putfield 61, 3) := by decide +kernel
theorem jd_M_init_447 : decode jb_M_init 447 = .ok (.aload_n 0, 1) := by decide +kernel
theorem jd_M_init_448 : decode jb_M_init 448 = .ok (.invokevirtual 65, 3) := by decide +kernel
theorem jd_M_init_451 : decode jb_M_init 451 = .ok (.pop, 1) := by decide +kernel
theorem jd_M_init_452 : decode jb_M_init 452 = .ok (.aload_n 0, 1) := by decide +kernel
theorem jd_M_init_453 : decode jb_M_init 453 = .ok (.iconst 0, 1) := by decide +kernel
theorem jd_M_init_454 : decode jb_M_init 454 = .ok (.putfield 61, 3) := by decide +kernel
theorem jd_M_init_457 : decode jb_M_init 457 = .ok (.return_, 1) := by decide +kernel
