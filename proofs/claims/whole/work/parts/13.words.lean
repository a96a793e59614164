theorem jq_4 : Jvm.Cond.initialized "HayTalk$Pile" ∈ lw_gd := lw_in 4 (by decide +kernel) rfl
theorem jq_31 : Jvm.Cond.fieldLinkNest "HayTalk" (76 : Nat) "HayTalk$Text" "length" "I" "HayTalk" ∈ lw_nt := lw_inN 31 (by decide +kernel) rfl
theorem jq_47 : Jvm.Cond.fieldLinkNest "HayTalk" (104 : Nat) "HayTalk$Field" "lying" "[I" "HayTalk" ∈ lw_nt := lw_inN 47 (by decide +kernel) rfl
theorem jq_49 : Jvm.Cond.fieldLinkNest "HayTalk" (114 : Nat) "HayTalk$Field" "damp" "[I" "HayTalk" ∈ lw_nt := lw_inN 49 (by decide +kernel) rfl
theorem jq_51 : Jvm.Cond.fieldLinkNest "HayTalk" (124 : Nat) "HayTalk$Field" "told" "[I" "HayTalk" ∈ lw_nt := lw_inN 51 (by decide +kernel) rfl
theorem jq_53 : Jvm.Cond.fieldLinkNest "HayTalk" (243 : Nat) "HayTalk$Field" "heights" "[I" "HayTalk" ∈ lw_nt := lw_inN 53 (by decide +kernel) rfl
theorem jq_55 : Jvm.Cond.fieldLinkNest "HayTalk" (139 : Nat) "HayTalk$Field" "burnt" "[I" "HayTalk" ∈ lw_nt := lw_inN 55 (by decide +kernel) rfl
theorem jq_60 : Jvm.Cond.fieldLinkNest "HayTalk" (97 : Nat) "HayTalk$Field" "hours" "I" "HayTalk" ∈ lw_nt := lw_inN 60 (by decide +kernel) rfl
theorem jq_92 : Jvm.Cond.fieldLink "HayTalk$Pile" (15 : Nat) "HayTalk$Pile" "fields" "[LHayTalk$Field;" ∈ lw_gd := lw_in 92 (by decide +kernel) rfl
theorem jq_93 : Jvm.Cond.fieldLink "HayTalk$Pile" (26 : Nat) "HayTalk$Pile" "newest" "I" ∈ lw_gd := lw_in 93 (by decide +kernel) rfl
theorem jq_94 : Jvm.Cond.fieldLink "HayTalk$Pile" (22 : Nat) "HayTalk$Pile" "size" "I" ∈ lw_gd := lw_in 94 (by decide +kernel) rfl
theorem jq_95 : Jvm.Cond.fieldLinkNest "HayTalk" (178 : Nat) "HayTalk$Pile" "size" "I" "HayTalk" ∈ lw_nt := lw_inN 95 (by decide +kernel) rfl
theorem jq_112 : Jvm.Cond.fieldLinkNest "HayTalk" (87 : Nat) "HayTalk$Seen" "size" "I" "HayTalk" ∈ lw_nt := lw_inN 112 (by decide +kernel) rfl
theorem jq_133 : Jvm.Cond.fieldLinkNest "HayTalk" (90 : Nat) "HayTalk$Land" "mowers" "I" "HayTalk" ∈ lw_nt := lw_inN 133 (by decide +kernel) rfl
theorem jq_136 : Jvm.Cond.fieldLinkNest "HayTalk" (251 : Nat) "HayTalk$Land" "cows" "I" "HayTalk" ∈ lw_nt := lw_inN 136 (by decide +kernel) rfl
theorem jq_139 : Jvm.Cond.fieldLinkNest "HayTalk" (189 : Nat) "HayTalk$Land" "ricks" "I" "HayTalk" ∈ lw_nt := lw_inN 139 (by decide +kernel) rfl
theorem jq_214 : Jvm.Cond.instanceMethod ({ cls := "HayTalk$Text", name := "add", desc := "(I)V" } : Jvm.MethodName) ∈ lw_gd := lw_in 214 (by decide +kernel) rfl
theorem jq_215 : Jvm.Cond.selects "HayTalk$Text" ({ cls := "HayTalk$Text", name := "add", desc := "(I)V" } : Jvm.MethodName) ({ cls := "HayTalk$Text", name := "add", desc := "(I)V" } : Jvm.MethodName) ∈ lw_gd := lw_in 215 (by decide +kernel) rfl
theorem jq_224 : Jvm.Cond.methodLink "HayTalk" (61 : Nat) ({ cls := "HayTalk$Land", name := "readText", desc := "(LHayTalk$Text;)I" } : Jvm.MethodName) ∈ lw_gd := lw_in 224 (by decide +kernel) rfl
theorem jq_225 : Jvm.Cond.instanceMethod ({ cls := "HayTalk$Land", name := "readText", desc := "(LHayTalk$Text;)I" } : Jvm.MethodName) ∈ lw_gd := lw_in 225 (by decide +kernel) rfl
theorem jq_226 : Jvm.Cond.selects "HayTalk$Land" ({ cls := "HayTalk$Land", name := "readText", desc := "(LHayTalk$Text;)I" } : Jvm.MethodName) ({ cls := "HayTalk$Land", name := "readText", desc := "(LHayTalk$Text;)I" } : Jvm.MethodName) ∈ lw_gd := lw_in 226 (by decide +kernel) rfl
theorem jq_272 : Jvm.Cond.fieldLink "HayTalk" (10 : Nat) "HayTalk" "text" "LHayTalk$Text;" ∈ lw_gd := lw_in 272 (by decide +kernel) rfl
theorem jq_273 : Jvm.Cond.fieldLink "HayTalk" (19 : Nat) "HayTalk" "field" "LHayTalk$Field;" ∈ lw_gd := lw_in 273 (by decide +kernel) rfl
theorem jq_274 : Jvm.Cond.fieldLink "HayTalk" (23 : Nat) "HayTalk" "trial" "LHayTalk$Field;" ∈ lw_gd := lw_in 274 (by decide +kernel) rfl
theorem jq_275 : Jvm.Cond.fieldLink "HayTalk" (31 : Nat) "HayTalk" "past" "LHayTalk$Pile;" ∈ lw_gd := lw_in 275 (by decide +kernel) rfl
theorem jq_276 : Jvm.Cond.fieldLink "HayTalk" (35 : Nat) "HayTalk" "kept" "LHayTalk$Pile;" ∈ lw_gd := lw_in 276 (by decide +kernel) rfl
theorem jq_277 : Jvm.Cond.fieldLink "HayTalk" (41 : Nat) "HayTalk" "seen" "LHayTalk$Seen;" ∈ lw_gd := lw_in 277 (by decide +kernel) rfl
theorem jq_278 : Jvm.Cond.fieldLink "HayTalk" (48 : Nat) "HayTalk" "land" "LHayTalk$Land;" ∈ lw_gd := lw_in 278 (by decide +kernel) rfl
theorem jq_279 : Jvm.Cond.fieldLink "HayTalk" (52 : Nat) "HayTalk" "draft" "LHayTalk$Land;" ∈ lw_gd := lw_in 279 (by decide +kernel) rfl
theorem jq_301 : Jvm.Cond.code ({ cls := "HayTalk", name := "write", desc := "(I)I" } : Jvm.MethodName) prog_1_method_2_code (2 : Nat) (Option.some Jvm.ClassFile.FieldType.int) ∈ lw_gd := lw_in 301 (by decide +kernel) rfl
theorem jq_302 : Jvm.Cond.methodLink "HayTalk" (65 : Nat) ({ cls := "HayTalk", name := "isWithin", desc := "(III)Z" } : Jvm.MethodName) ∈ lw_gd := lw_in 302 (by decide +kernel) rfl
theorem jq_303 : Jvm.Cond.methodLink "HayTalk" (69 : Nat) ({ cls := "HayTalk$Text", name := "isFull", desc := "()Z" } : Jvm.MethodName) ∈ lw_gd := lw_in 303 (by decide +kernel) rfl
theorem jq_304 : Jvm.Cond.methodLink "HayTalk" (73 : Nat) ({ cls := "HayTalk$Text", name := "add", desc := "(I)V" } : Jvm.MethodName) ∈ lw_gd := lw_in 304 (by decide +kernel) rfl
theorem jq_308 : Jvm.Cond.code ({ cls := "HayTalk", name := "wipe", desc := "()I" } : Jvm.MethodName) prog_1_method_3_code (2 : Nat) (Option.some Jvm.ClassFile.FieldType.int) ∈ lw_gd := lw_in 308 (by decide +kernel) rfl
theorem jq_312 : Jvm.Cond.code ({ cls := "HayTalk", name := "fault", desc := "()I" } : Jvm.MethodName) prog_1_method_4_code (1 : Nat) (Option.some Jvm.ClassFile.FieldType.int) ∈ lw_gd := lw_in 312 (by decide +kernel) rfl
theorem jq_316 : Jvm.Cond.code ({ cls := "HayTalk", name := "lay", desc := "()I" } : Jvm.MethodName) prog_1_method_5_code (2 : Nat) (Option.some Jvm.ClassFile.FieldType.int) ∈ lw_gd := lw_in 316 (by decide +kernel) rfl
theorem jq_317 : Jvm.Cond.methodLink "HayTalk" (80 : Nat) ({ cls := "HayTalk$Land", name := "isWhole", desc := "()Z" } : Jvm.MethodName) ∈ lw_gd := lw_in 317 (by decide +kernel) rfl
theorem jq_318 : Jvm.Cond.instanceMethod ({ cls := "HayTalk$Land", name := "isWhole", desc := "()Z" } : Jvm.MethodName) ∈ lw_gd := lw_in 318 (by decide +kernel) rfl
theorem jq_319 : Jvm.Cond.selects "HayTalk$Land" ({ cls := "HayTalk$Land", name := "isWhole", desc := "()Z" } : Jvm.MethodName) ({ cls := "HayTalk$Land", name := "isWhole", desc := "()Z" } : Jvm.MethodName) ∈ lw_gd := lw_in 319 (by decide +kernel) rfl
theorem jq_321 : Jvm.Cond.methodLink "HayTalk" (83 : Nat) ({ cls := "HayTalk$Field", name := "clear", desc := "()V" } : Jvm.MethodName) ∈ lw_gd := lw_in 321 (by decide +kernel) rfl
theorem jq_322 : Jvm.Cond.instanceMethod ({ cls := "HayTalk$Field", name := "clear", desc := "()V" } : Jvm.MethodName) ∈ lw_gd := lw_in 322 (by decide +kernel) rfl
theorem jq_323 : Jvm.Cond.selects "HayTalk$Field" ({ cls := "HayTalk$Field", name := "clear", desc := "()V" } : Jvm.MethodName) ({ cls := "HayTalk$Field", name := "clear", desc := "()V" } : Jvm.MethodName) ∈ lw_gd := lw_in 323 (by decide +kernel) rfl
theorem jq_328 : Jvm.Cond.methodLink "HayTalk" (86 : Nat) ({ cls := "HayTalk$Pile", name := "clear", desc := "()V" } : Jvm.MethodName) ∈ lw_gd := lw_in 328 (by decide +kernel) rfl
theorem jq_329 : Jvm.Cond.instanceMethod ({ cls := "HayTalk$Pile", name := "clear", desc := "()V" } : Jvm.MethodName) ∈ lw_gd := lw_in 329 (by decide +kernel) rfl
theorem jq_330 : Jvm.Cond.selects "HayTalk$Pile" ({ cls := "HayTalk$Pile", name := "clear", desc := "()V" } : Jvm.MethodName) ({ cls := "HayTalk$Pile", name := "clear", desc := "()V" } : Jvm.MethodName) ∈ lw_gd := lw_in 330 (by decide +kernel) rfl
theorem jq_331 : Jvm.Cond.code ({ cls := "HayTalk$Pile", name := "clear", desc := "()V" } : Jvm.MethodName) prog_4_method_3_code (1 : Nat) (Option.none : Option Jvm.ClassFile.FieldType) ∈ lw_gd := lw_in 331 (by decide +kernel) rfl
theorem jq_335 : Jvm.Cond.code ({ cls := "HayTalk", name := "mower", desc := "(II)I" } : Jvm.MethodName) prog_1_method_6_code (3 : Nat) (Option.some Jvm.ClassFile.FieldType.int) ∈ lw_gd := lw_in 335 (by decide +kernel) rfl
theorem jq_336 : Jvm.Cond.methodLink "HayTalk" (93 : Nat) ({ cls := "HayTalk", name := "isMower", desc := "(I)Z" } : Jvm.MethodName) ∈ lw_gd := lw_in 336 (by decide +kernel) rfl
theorem jq_338 : Jvm.Cond.instanceMethod ({ cls := "HayTalk", name := "isMower", desc := "(I)Z" } : Jvm.MethodName) ∈ lw_gd := lw_in 338 (by decide +kernel) rfl
theorem jq_339 : Jvm.Cond.code ({ cls := "HayTalk", name := "isMower", desc := "(I)Z" } : Jvm.MethodName) prog_1_method_34_code (2 : Nat) (Option.some Jvm.ClassFile.FieldType.boolean) ∈ lw_gd := lw_in 339 (by decide +kernel) rfl
theorem jq_340 : Jvm.Cond.methodLink "HayTalk" (100 : Nat) ({ cls := "HayTalk$Land", name := "wordOf", desc := "(II)I" } : Jvm.MethodName) ∈ lw_gd := lw_in 340 (by decide +kernel) rfl
theorem jq_350 : Jvm.Cond.methodLink "HayTalk" (108 : Nat) ({ cls := "HayTalk$Rows", name := "at", desc := "([II)I" } : Jvm.MethodName) ∈ lw_gd := lw_in 350 (by decide +kernel) rfl
theorem jq_354 : Jvm.Cond.code ({ cls := "HayTalk", name := "cow", desc := "(II)I" } : Jvm.MethodName) prog_1_method_7_code (3 : Nat) (Option.some Jvm.ClassFile.FieldType.int) ∈ lw_gd := lw_in 354 (by decide +kernel) rfl
theorem jq_355 : Jvm.Cond.methodLink "HayTalk" (117 : Nat) ({ cls := "HayTalk", name := "isCow", desc := "(I)Z" } : Jvm.MethodName) ∈ lw_gd := lw_in 355 (by decide +kernel) rfl
theorem jq_357 : Jvm.Cond.instanceMethod ({ cls := "HayTalk", name := "isCow", desc := "(I)Z" } : Jvm.MethodName) ∈ lw_gd := lw_in 357 (by decide +kernel) rfl
theorem jq_358 : Jvm.Cond.code ({ cls := "HayTalk", name := "isCow", desc := "(I)Z" } : Jvm.MethodName) prog_1_method_35_code (2 : Nat) (Option.some Jvm.ClassFile.FieldType.boolean) ∈ lw_gd := lw_in 358 (by decide +kernel) rfl
theorem jq_359 : Jvm.Cond.methodLink "HayTalk" (120 : Nat) ({ cls := "HayTalk$Land", name := "kindOf", desc := "(I)I" } : Jvm.MethodName) ∈ lw_gd := lw_in 359 (by decide +kernel) rfl
theorem jq_360 : Jvm.Cond.instanceMethod ({ cls := "HayTalk$Land", name := "kindOf", desc := "(I)I" } : Jvm.MethodName) ∈ lw_gd := lw_in 360 (by decide +kernel) rfl
theorem jq_361 : Jvm.Cond.selects "HayTalk$Land" ({ cls := "HayTalk$Land", name := "kindOf", desc := "(I)I" } : Jvm.MethodName) ({ cls := "HayTalk$Land", name := "kindOf", desc := "(I)I" } : Jvm.MethodName) ∈ lw_gd := lw_in 361 (by decide +kernel) rfl
theorem jq_366 : Jvm.Cond.code ({ cls := "HayTalk", name := "rick", desc := "(II)I" } : Jvm.MethodName) prog_1_method_8_code (3 : Nat) (Option.some Jvm.ClassFile.FieldType.int) ∈ lw_gd := lw_in 366 (by decide +kernel) rfl
theorem jq_367 : Jvm.Cond.methodLink "HayTalk" (127 : Nat) ({ cls := "HayTalk", name := "isRick", desc := "(I)Z" } : Jvm.MethodName) ∈ lw_gd := lw_in 367 (by decide +kernel) rfl
theorem jq_369 : Jvm.Cond.instanceMethod ({ cls := "HayTalk", name := "isRick", desc := "(I)Z" } : Jvm.MethodName) ∈ lw_gd := lw_in 369 (by decide +kernel) rfl
theorem jq_370 : Jvm.Cond.code ({ cls := "HayTalk", name := "isRick", desc := "(I)Z" } : Jvm.MethodName) prog_1_method_36_code (2 : Nat) (Option.some Jvm.ClassFile.FieldType.boolean) ∈ lw_gd := lw_in 370 (by decide +kernel) rfl
theorem jq_371 : Jvm.Cond.methodLink "HayTalk" (130 : Nat) ({ cls := "HayTalk$Land", name := "thatchOf", desc := "(I)I" } : Jvm.MethodName) ∈ lw_gd := lw_in 371 (by decide +kernel) rfl
theorem jq_375 : Jvm.Cond.methodLink "HayTalk" (133 : Nat) ({ cls := "HayTalk$Field", name := "heightOf", desc := "(I)I" } : Jvm.MethodName) ∈ lw_gd := lw_in 375 (by decide +kernel) rfl
theorem jq_380 : Jvm.Cond.methodLink "HayTalk" (136 : Nat) ({ cls := "HayTalk$Field", name := "hottestOf", desc := "(I)I" } : Jvm.MethodName) ∈ lw_gd := lw_in 380 (by decide +kernel) rfl
theorem jq_393 : Jvm.Cond.code ({ cls := "HayTalk", name := "layer", desc := "(III)I" } : Jvm.MethodName) prog_1_method_9_code (4 : Nat) (Option.some Jvm.ClassFile.FieldType.int) ∈ lw_gd := lw_in 393 (by decide +kernel) rfl
theorem jq_394 : Jvm.Cond.methodLink "HayTalk" (142 : Nat) ({ cls := "HayTalk$Field", name := "wordsOf", desc := "(II)I" } : Jvm.MethodName) ∈ lw_gd := lw_in 394 (by decide +kernel) rfl
theorem jq_398 : Jvm.Cond.methodLink "HayTalk" (145 : Nat) ({ cls := "HayTalk$Field", name := "wetnessOf", desc := "(II)I" } : Jvm.MethodName) ∈ lw_gd := lw_in 398 (by decide +kernel) rfl
theorem jq_402 : Jvm.Cond.methodLink "HayTalk" (148 : Nat) ({ cls := "HayTalk$Field", name := "heatOf", desc := "(II)I" } : Jvm.MethodName) ∈ lw_gd := lw_in 402 (by decide +kernel) rfl
theorem jq_406 : Jvm.Cond.code ({ cls := "HayTalk", name := "pass", desc := "(I)I" } : Jvm.MethodName) prog_1_method_10_code (2 : Nat) (Option.some Jvm.ClassFile.FieldType.int) ∈ lw_gd := lw_in 406 (by decide +kernel) rfl
theorem jq_407 : Jvm.Cond.methodLink "HayTalk" (151 : Nat) ({ cls := "HayTalk$Pile", name := "push", desc := "(LHayTalk$Field;)V" } : Jvm.MethodName) ∈ lw_gd := lw_in 407 (by decide +kernel) rfl
theorem jq_408 : Jvm.Cond.instanceMethod ({ cls := "HayTalk$Pile", name := "push", desc := "(LHayTalk$Field;)V" } : Jvm.MethodName) ∈ lw_gd := lw_in 408 (by decide +kernel) rfl
theorem jq_409 : Jvm.Cond.selects "HayTalk$Pile" ({ cls := "HayTalk$Pile", name := "push", desc := "(LHayTalk$Field;)V" } : Jvm.MethodName) ({ cls := "HayTalk$Pile", name := "push", desc := "(LHayTalk$Field;)V" } : Jvm.MethodName) ∈ lw_gd := lw_in 409 (by decide +kernel) rfl
theorem jq_410 : Jvm.Cond.code ({ cls := "HayTalk$Pile", name := "push", desc := "(LHayTalk$Field;)V" } : Jvm.MethodName) prog_4_method_4_code (3 : Nat) (Option.none : Option Jvm.ClassFile.FieldType) ∈ lw_gd := lw_in 410 (by decide +kernel) rfl
theorem jq_411 : Jvm.Cond.methodLink "HayTalk$Pile" (29 : Nat) ({ cls := "HayTalk$Pile", name := "newestField", desc := "()LHayTalk$Field;" } : Jvm.MethodName) ∈ lw_gd := lw_in 411 (by decide +kernel) rfl
theorem jq_413 : Jvm.Cond.instanceMethod ({ cls := "HayTalk$Pile", name := "newestField", desc := "()LHayTalk$Field;" } : Jvm.MethodName) ∈ lw_gd := lw_in 413 (by decide +kernel) rfl
theorem jq_414 : Jvm.Cond.code ({ cls := "HayTalk$Pile", name := "newestField", desc := "()LHayTalk$Field;" } : Jvm.MethodName) prog_4_method_6_code (1 : Nat) (Option.some (Jvm.ClassFile.FieldType.object "HayTalk$Field")) ∈ lw_gd := lw_in 414 (by decide +kernel) rfl
theorem jq_415 : Jvm.Cond.methodLink "HayTalk$Pile" (33 : Nat) ({ cls := "HayTalk$Field", name := "copyFrom", desc := "(LHayTalk$Field;)V" } : Jvm.MethodName) ∈ lw_gd := lw_in 415 (by decide +kernel) rfl
theorem jq_416 : Jvm.Cond.instanceMethod ({ cls := "HayTalk$Field", name := "copyFrom", desc := "(LHayTalk$Field;)V" } : Jvm.MethodName) ∈ lw_gd := lw_in 416 (by decide +kernel) rfl
theorem jq_417 : Jvm.Cond.selects "HayTalk$Field" ({ cls := "HayTalk$Field", name := "copyFrom", desc := "(LHayTalk$Field;)V" } : Jvm.MethodName) ({ cls := "HayTalk$Field", name := "copyFrom", desc := "(LHayTalk$Field;)V" } : Jvm.MethodName) ∈ lw_gd := lw_in 417 (by decide +kernel) rfl
theorem jq_422 : Jvm.Cond.methodLink "HayTalk$Pile" (37 : Nat) ({ cls := "java/lang/Math", name := "min", desc := "(II)I" } : Jvm.MethodName) ∈ lw_gd := lw_in 422 (by decide +kernel) rfl
theorem jq_425 : Jvm.Cond.methodLink "HayTalk" (155 : Nat) ({ cls := "HayTalk$Field", name := "hoursGoBy", desc := "(LHayTalk$Land;I)V" } : Jvm.MethodName) ∈ lw_gd := lw_in 425 (by decide +kernel) rfl
theorem jq_426 : Jvm.Cond.instanceMethod ({ cls := "HayTalk$Field", name := "hoursGoBy", desc := "(LHayTalk$Land;I)V" } : Jvm.MethodName) ∈ lw_gd := lw_in 426 (by decide +kernel) rfl
theorem jq_427 : Jvm.Cond.selects "HayTalk$Field" ({ cls := "HayTalk$Field", name := "hoursGoBy", desc := "(LHayTalk$Land;I)V" } : Jvm.MethodName) ({ cls := "HayTalk$Field", name := "hoursGoBy", desc := "(LHayTalk$Land;I)V" } : Jvm.MethodName) ∈ lw_gd := lw_in 427 (by decide +kernel) rfl
theorem jq_450 : Jvm.Cond.code ({ cls := "HayTalk", name := "rake", desc := "(III)I" } : Jvm.MethodName) prog_1_method_11_code (4 : Nat) (Option.some Jvm.ClassFile.FieldType.int) ∈ lw_gd := lw_in 450 (by decide +kernel) rfl
theorem jq_451 : Jvm.Cond.methodLink "HayTalk" (159 : Nat) ({ cls := "HayTalk$Field", name := "lyingIn", desc := "(II)I" } : Jvm.MethodName) ∈ lw_gd := lw_in 451 (by decide +kernel) rfl
theorem jq_455 : Jvm.Cond.methodLink "HayTalk" (162 : Nat) ({ cls := "HayTalk$Field", name := "gather", desc := "(III)V" } : Jvm.MethodName) ∈ lw_gd := lw_in 455 (by decide +kernel) rfl
theorem jq_456 : Jvm.Cond.instanceMethod ({ cls := "HayTalk$Field", name := "gather", desc := "(III)V" } : Jvm.MethodName) ∈ lw_gd := lw_in 456 (by decide +kernel) rfl
theorem jq_457 : Jvm.Cond.selects "HayTalk$Field" ({ cls := "HayTalk$Field", name := "gather", desc := "(III)V" } : Jvm.MethodName) ({ cls := "HayTalk$Field", name := "gather", desc := "(III)V" } : Jvm.MethodName) ∈ lw_gd := lw_in 457 (by decide +kernel) rfl
theorem jq_467 : Jvm.Cond.code ({ cls := "HayTalk", name := "cut", desc := "(II)I" } : Jvm.MethodName) prog_1_method_12_code (3 : Nat) (Option.some Jvm.ClassFile.FieldType.int) ∈ lw_gd := lw_in 467 (by decide +kernel) rfl
theorem jq_468 : Jvm.Cond.methodLink "HayTalk" (166 : Nat) ({ cls := "HayTalk$Field", name := "feed", desc := "(III)I" } : Jvm.MethodName) ∈ lw_gd := lw_in 468 (by decide +kernel) rfl
theorem jq_469 : Jvm.Cond.instanceMethod ({ cls := "HayTalk$Field", name := "feed", desc := "(III)I" } : Jvm.MethodName) ∈ lw_gd := lw_in 469 (by decide +kernel) rfl
theorem jq_470 : Jvm.Cond.selects "HayTalk$Field" ({ cls := "HayTalk$Field", name := "feed", desc := "(III)I" } : Jvm.MethodName) ({ cls := "HayTalk$Field", name := "feed", desc := "(III)I" } : Jvm.MethodName) ∈ lw_gd := lw_in 470 (by decide +kernel) rfl
theorem jq_490 : Jvm.Cond.code ({ cls := "HayTalk", name := "turn", desc := "(I)I" } : Jvm.MethodName) prog_1_method_13_code (3 : Nat) (Option.some Jvm.ClassFile.FieldType.int) ∈ lw_gd := lw_in 490 (by decide +kernel) rfl
theorem jq_491 : Jvm.Cond.methodLink "HayTalk" (170 : Nat) ({ cls := "HayTalk$Rows", name := "put", desc := "([III)V" } : Jvm.MethodName) ∈ lw_gd := lw_in 491 (by decide +kernel) rfl
theorem jq_495 : Jvm.Cond.code ({ cls := "HayTalk", name := "heap", desc := "(II)I" } : Jvm.MethodName) prog_1_method_14_code (3 : Nat) (Option.some Jvm.ClassFile.FieldType.int) ∈ lw_gd := lw_in 495 (by decide +kernel) rfl
theorem jq_496 : Jvm.Cond.methodLink "HayTalk" (174 : Nat) ({ cls := "HayTalk$Field", name := "stack", desc := "(II)V" } : Jvm.MethodName) ∈ lw_gd := lw_in 496 (by decide +kernel) rfl
theorem jq_497 : Jvm.Cond.instanceMethod ({ cls := "HayTalk$Field", name := "stack", desc := "(II)V" } : Jvm.MethodName) ∈ lw_gd := lw_in 497 (by decide +kernel) rfl
theorem jq_498 : Jvm.Cond.selects "HayTalk$Field" ({ cls := "HayTalk$Field", name := "stack", desc := "(II)V" } : Jvm.MethodName) ({ cls := "HayTalk$Field", name := "stack", desc := "(II)V" } : Jvm.MethodName) ∈ lw_gd := lw_in 498 (by decide +kernel) rfl
theorem jq_503 : Jvm.Cond.code ({ cls := "HayTalk", name := "undo", desc := "()I" } : Jvm.MethodName) prog_1_method_15_code (1 : Nat) (Option.some Jvm.ClassFile.FieldType.int) ∈ lw_gd := lw_in 503 (by decide +kernel) rfl
theorem jq_504 : Jvm.Cond.methodLink "HayTalk" (179 : Nat) ({ cls := "HayTalk$Pile", name := "popInto", desc := "(LHayTalk$Field;)V" } : Jvm.MethodName) ∈ lw_gd := lw_in 504 (by decide +kernel) rfl
theorem jq_505 : Jvm.Cond.instanceMethod ({ cls := "HayTalk$Pile", name := "popInto", desc := "(LHayTalk$Field;)V" } : Jvm.MethodName) ∈ lw_gd := lw_in 505 (by decide +kernel) rfl
theorem jq_506 : Jvm.Cond.selects "HayTalk$Pile" ({ cls := "HayTalk$Pile", name := "popInto", desc := "(LHayTalk$Field;)V" } : Jvm.MethodName) ({ cls := "HayTalk$Pile", name := "popInto", desc := "(LHayTalk$Field;)V" } : Jvm.MethodName) ∈ lw_gd := lw_in 506 (by decide +kernel) rfl
theorem jq_507 : Jvm.Cond.code ({ cls := "HayTalk$Pile", name := "popInto", desc := "(LHayTalk$Field;)V" } : Jvm.MethodName) prog_4_method_5_code (3 : Nat) (Option.none : Option Jvm.ClassFile.FieldType) ∈ lw_gd := lw_in 507 (by decide +kernel) rfl
theorem jq_511 : Jvm.Cond.code ({ cls := "HayTalk", name := "behind", desc := "(III)I" } : Jvm.MethodName) prog_1_method_16_code (4 : Nat) (Option.some Jvm.ClassFile.FieldType.int) ∈ lw_gd := lw_in 511 (by decide +kernel) rfl
theorem jq_512 : Jvm.Cond.methodLink "HayTalk" (182 : Nat) ({ cls := "HayTalk$Field", name := "copyFrom", desc := "(LHayTalk$Field;)V" } : Jvm.MethodName) ∈ lw_gd := lw_in 512 (by decide +kernel) rfl
theorem jq_516 : Jvm.Cond.code ({ cls := "HayTalk", name := "burns", desc := "(I)I" } : Jvm.MethodName) prog_1_method_17_code (4 : Nat) (Option.some Jvm.ClassFile.FieldType.int) ∈ lw_gd := lw_in 516 (by decide +kernel) rfl
theorem jq_517 : Jvm.Cond.methodLink "HayTalk" (185 : Nat) ({ cls := "HayTalk$Field", name := "hourGoesBy", desc := "(LHayTalk$Land;)V" } : Jvm.MethodName) ∈ lw_gd := lw_in 517 (by decide +kernel) rfl
theorem jq_521 : Jvm.Cond.code ({ cls := "HayTalk", name := "tell", desc := "(III)I" } : Jvm.MethodName) prog_1_method_18_code (8 : Nat) (Option.some Jvm.ClassFile.FieldType.int) ∈ lw_gd := lw_in 521 (by decide +kernel) rfl
theorem jq_522 : Jvm.Cond.methodLink "HayTalk" (192 : Nat) ({ cls := "HayTalk", name := "fewestCuts", desc := "(II)I" } : Jvm.MethodName) ∈ lw_gd := lw_in 522 (by decide +kernel) rfl
theorem jq_524 : Jvm.Cond.instanceMethod ({ cls := "HayTalk", name := "fewestCuts", desc := "(II)I" } : Jvm.MethodName) ∈ lw_gd := lw_in 524 (by decide +kernel) rfl
theorem jq_525 : Jvm.Cond.code ({ cls := "HayTalk", name := "fewestCuts", desc := "(II)I" } : Jvm.MethodName) prog_1_method_37_code (11 : Nat) (Option.some Jvm.ClassFile.FieldType.int) ∈ lw_gd := lw_in 525 (by decide +kernel) rfl
theorem jq_526 : Jvm.Cond.methodLink "HayTalk" (254 : Nat) ({ cls := "HayTalk", name := "cutsOfThird", desc := "(III)I" } : Jvm.MethodName) ∈ lw_gd := lw_in 526 (by decide +kernel) rfl
theorem jq_528 : Jvm.Cond.instanceMethod ({ cls := "HayTalk", name := "cutsOfThird", desc := "(III)I" } : Jvm.MethodName) ∈ lw_gd := lw_in 528 (by decide +kernel) rfl
theorem jq_529 : Jvm.Cond.code ({ cls := "HayTalk", name := "cutsOfThird", desc := "(III)I" } : Jvm.MethodName) prog_1_method_38_code (6 : Nat) (Option.some Jvm.ClassFile.FieldType.int) ∈ lw_gd := lw_in 529 (by decide +kernel) rfl
theorem jq_530 : Jvm.Cond.methodLink "HayTalk" (257 : Nat) ({ cls := "HayTalk$Field", name := "wordsFromTop", desc := "(II)I" } : Jvm.MethodName) ∈ lw_gd := lw_in 530 (by decide +kernel) rfl
theorem jq_531 : Jvm.Cond.methodLink "HayTalk" (219 : Nat) ({ cls := "HayTalk", name := "heardBy", desc := "(III)I" } : Jvm.MethodName) ∈ lw_gd := lw_in 531 (by decide +kernel) rfl
theorem jq_535 : Jvm.Cond.code ({ cls := "HayTalk", name := "rakes", desc := "(I)I" } : Jvm.MethodName) prog_1_method_19_code (8 : Nat) (Option.some Jvm.ClassFile.FieldType.int) ∈ lw_gd := lw_in 535 (by decide +kernel) rfl
theorem jq_536 : Jvm.Cond.methodLink "HayTalk" (195 : Nat) ({ cls := "java/lang/Integer", name := "bitCount", desc := "(I)I" } : Jvm.MethodName) ∈ lw_gd := lw_in 536 (by decide +kernel) rfl
theorem jq_545 : Jvm.Cond.code ({ cls := "HayTalk", name := "most", desc := "(II)I" } : Jvm.MethodName) prog_1_method_20_code (7 : Nat) (Option.some Jvm.ClassFile.FieldType.int) ∈ lw_gd := lw_in 545 (by decide +kernel) rfl
theorem jq_546 : Jvm.Cond.methodLink "HayTalk" (200 : Nat) ({ cls := "HayTalk$Field", name := "freshFor", desc := "(III)I" } : Jvm.MethodName) ∈ lw_gd := lw_in 546 (by decide +kernel) rfl
theorem jq_550 : Jvm.Cond.code ({ cls := "HayTalk", name := "first", desc := "(II)I" } : Jvm.MethodName) prog_1_method_21_code (5 : Nat) (Option.some Jvm.ClassFile.FieldType.int) ∈ lw_gd := lw_in 550 (by decide +kernel) rfl
theorem jq_551 : Jvm.Cond.methodLink "HayTalk" (203 : Nat) ({ cls := "HayTalk", name := "isWord", desc := "(I)Z" } : Jvm.MethodName) ∈ lw_gd := lw_in 551 (by decide +kernel) rfl
theorem jq_552 : Jvm.Cond.static ({ cls := "HayTalk", name := "isWord", desc := "(I)Z" } : Jvm.MethodName) ∈ lw_gd := lw_in 552 (by decide +kernel) rfl
theorem jq_553 : Jvm.Cond.code ({ cls := "HayTalk", name := "isWord", desc := "(I)Z" } : Jvm.MethodName) prog_1_method_33_code (1 : Nat) (Option.some Jvm.ClassFile.FieldType.boolean) ∈ lw_gd := lw_in 553 (by decide +kernel) rfl
theorem jq_557 : Jvm.Cond.code ({ cls := "HayTalk", name := "needle", desc := "(III)I" } : Jvm.MethodName) prog_1_method_22_code (6 : Nat) (Option.some Jvm.ClassFile.FieldType.int) ∈ lw_gd := lw_in 557 (by decide +kernel) rfl
theorem jq_558 : Jvm.Cond.methodLink "HayTalk" (206 : Nat) ({ cls := "HayTalk$Field", name := "placesOf", desc := "(II)I" } : Jvm.MethodName) ∈ lw_gd := lw_in 558 (by decide +kernel) rfl
theorem jq_559 : Jvm.Cond.instanceMethod ({ cls := "HayTalk$Field", name := "placesOf", desc := "(II)I" } : Jvm.MethodName) ∈ lw_gd := lw_in 559 (by decide +kernel) rfl
theorem jq_560 : Jvm.Cond.selects "HayTalk$Field" ({ cls := "HayTalk$Field", name := "placesOf", desc := "(II)I" } : Jvm.MethodName) ({ cls := "HayTalk$Field", name := "placesOf", desc := "(II)I" } : Jvm.MethodName) ∈ lw_gd := lw_in 560 (by decide +kernel) rfl
theorem jq_562 : Jvm.Cond.methodLink "HayTalk" (209 : Nat) ({ cls := "HayTalk", name := "inLowestTerms", desc := "(III)I" } : Jvm.MethodName) ∈ lw_gd := lw_in 562 (by decide +kernel) rfl
theorem jq_563 : Jvm.Cond.static ({ cls := "HayTalk", name := "inLowestTerms", desc := "(III)I" } : Jvm.MethodName) ∈ lw_gd := lw_in 563 (by decide +kernel) rfl
theorem jq_564 : Jvm.Cond.code ({ cls := "HayTalk", name := "inLowestTerms", desc := "(III)I" } : Jvm.MethodName) prog_1_method_46_code (7 : Nat) (Option.some Jvm.ClassFile.FieldType.int) ∈ lw_gd := lw_in 564 (by decide +kernel) rfl
theorem jq_568 : Jvm.Cond.code ({ cls := "HayTalk", name := "see", desc := "(II)I" } : Jvm.MethodName) prog_1_method_23_code (3 : Nat) (Option.some Jvm.ClassFile.FieldType.int) ∈ lw_gd := lw_in 568 (by decide +kernel) rfl
theorem jq_569 : Jvm.Cond.methodLink "HayTalk" (212 : Nat) ({ cls := "HayTalk$Seen", name := "isFull", desc := "()Z" } : Jvm.MethodName) ∈ lw_gd := lw_in 569 (by decide +kernel) rfl
theorem jq_570 : Jvm.Cond.instanceMethod ({ cls := "HayTalk$Seen", name := "isFull", desc := "()Z" } : Jvm.MethodName) ∈ lw_gd := lw_in 570 (by decide +kernel) rfl
theorem jq_571 : Jvm.Cond.selects "HayTalk$Seen" ({ cls := "HayTalk$Seen", name := "isFull", desc := "()Z" } : Jvm.MethodName) ({ cls := "HayTalk$Seen", name := "isFull", desc := "()Z" } : Jvm.MethodName) ∈ lw_gd := lw_in 571 (by decide +kernel) rfl
theorem jq_573 : Jvm.Cond.methodLink "HayTalk" (213 : Nat) ({ cls := "HayTalk$Seen", name := "add", desc := "(II)V" } : Jvm.MethodName) ∈ lw_gd := lw_in 573 (by decide +kernel) rfl
theorem jq_574 : Jvm.Cond.instanceMethod ({ cls := "HayTalk$Seen", name := "add", desc := "(II)V" } : Jvm.MethodName) ∈ lw_gd := lw_in 574 (by decide +kernel) rfl
theorem jq_575 : Jvm.Cond.selects "HayTalk$Seen" ({ cls := "HayTalk$Seen", name := "add", desc := "(II)V" } : Jvm.MethodName) ({ cls := "HayTalk$Seen", name := "add", desc := "(II)V" } : Jvm.MethodName) ∈ lw_gd := lw_in 575 (by decide +kernel) rfl
theorem jq_581 : Jvm.Cond.code ({ cls := "HayTalk", name := "forget", desc := "()I" } : Jvm.MethodName) prog_1_method_24_code (2 : Nat) (Option.some Jvm.ClassFile.FieldType.int) ∈ lw_gd := lw_in 581 (by decide +kernel) rfl
theorem jq_585 : Jvm.Cond.code ({ cls := "HayTalk", name := "which", desc := "()I" } : Jvm.MethodName) prog_1_method_25_code (3 : Nat) (Option.some Jvm.ClassFile.FieldType.int) ∈ lw_gd := lw_in 585 (by decide +kernel) rfl
theorem jq_586 : Jvm.Cond.methodLink "HayTalk" (215 : Nat) ({ cls := "HayTalk$Seen", name := "isSoOf", desc := "(LHayTalk$Land;I)Z" } : Jvm.MethodName) ∈ lw_gd := lw_in 586 (by decide +kernel) rfl
theorem jq_587 : Jvm.Cond.instanceMethod ({ cls := "HayTalk$Seen", name := "isSoOf", desc := "(LHayTalk$Land;I)Z" } : Jvm.MethodName) ∈ lw_gd := lw_in 587 (by decide +kernel) rfl
theorem jq_588 : Jvm.Cond.selects "HayTalk$Seen" ({ cls := "HayTalk$Seen", name := "isSoOf", desc := "(LHayTalk$Land;I)Z" } : Jvm.MethodName) ({ cls := "HayTalk$Seen", name := "isSoOf", desc := "(LHayTalk$Land;I)Z" } : Jvm.MethodName) ∈ lw_gd := lw_in 588 (by decide +kernel) rfl
theorem jq_595 : Jvm.Cond.code ({ cls := "HayTalk", name := "kinds", desc := "(II)I" } : Jvm.MethodName) prog_1_method_26_code (5 : Nat) (Option.some Jvm.ClassFile.FieldType.int) ∈ lw_gd := lw_in 595 (by decide +kernel) rfl
theorem jq_599 : Jvm.Cond.code ({ cls := "HayTalk", name := "rain", desc := "(IIIII)I" } : Jvm.MethodName) prog_1_method_27_code (9 : Nat) (Option.some Jvm.ClassFile.FieldType.int) ∈ lw_gd := lw_in 599 (by decide +kernel) rfl
theorem jq_600 : Jvm.Cond.methodLink "HayTalk" (222 : Nat) ({ cls := "java/lang/Math", name := "min", desc := "(II)I" } : Jvm.MethodName) ∈ lw_gd := lw_in 600 (by decide +kernel) rfl
theorem jq_601 : Jvm.Cond.methodLink "HayTalk" (227 : Nat) ({ cls := "HayTalk", name := "waysOf", desc := "(II)I" } : Jvm.MethodName) ∈ lw_gd := lw_in 601 (by decide +kernel) rfl
theorem jq_602 : Jvm.Cond.static ({ cls := "HayTalk", name := "waysOf", desc := "(II)I" } : Jvm.MethodName) ∈ lw_gd := lw_in 602 (by decide +kernel) rfl
theorem jq_603 : Jvm.Cond.code ({ cls := "HayTalk", name := "waysOf", desc := "(II)I" } : Jvm.MethodName) prog_1_method_45_code (4 : Nat) (Option.some Jvm.ClassFile.FieldType.int) ∈ lw_gd := lw_in 603 (by decide +kernel) rfl
theorem jq_604 : Jvm.Cond.methodLink "HayTalk" (230 : Nat) ({ cls := "HayTalk", name := "power", desc := "(II)I" } : Jvm.MethodName) ∈ lw_gd := lw_in 604 (by decide +kernel) rfl
theorem jq_605 : Jvm.Cond.static ({ cls := "HayTalk", name := "power", desc := "(II)I" } : Jvm.MethodName) ∈ lw_gd := lw_in 605 (by decide +kernel) rfl
theorem jq_606 : Jvm.Cond.code ({ cls := "HayTalk", name := "power", desc := "(II)I" } : Jvm.MethodName) prog_1_method_44_code (4 : Nat) (Option.some Jvm.ClassFile.FieldType.int) ∈ lw_gd := lw_in 606 (by decide +kernel) rfl
theorem jq_610 : Jvm.Cond.code ({ cls := "HayTalk", name := "february", desc := "(III)I" } : Jvm.MethodName) prog_1_method_28_code (5 : Nat) (Option.some Jvm.ClassFile.FieldType.int) ∈ lw_gd := lw_in 610 (by decide +kernel) rfl
theorem jq_611 : Jvm.Cond.methodLink "HayTalk" (233 : Nat) ({ cls := "HayTalk", name := "drawOf", desc := "(II)I" } : Jvm.MethodName) ∈ lw_gd := lw_in 611 (by decide +kernel) rfl
theorem jq_612 : Jvm.Cond.static ({ cls := "HayTalk", name := "drawOf", desc := "(II)I" } : Jvm.MethodName) ∈ lw_gd := lw_in 612 (by decide +kernel) rfl
theorem jq_613 : Jvm.Cond.code ({ cls := "HayTalk", name := "drawOf", desc := "(II)I" } : Jvm.MethodName) prog_1_method_41_code (4 : Nat) (Option.some Jvm.ClassFile.FieldType.int) ∈ lw_gd := lw_in 613 (by decide +kernel) rfl
theorem jq_614 : Jvm.Cond.constantLong "HayTalk" (263 : Nat) (7919 : Int64) ∈ lw_gd := lw_in 614 (by decide +kernel) rfl
theorem jq_615 : Jvm.Cond.constantLong "HayTalk" (265 : Nat) (6151 : Int64) ∈ lw_gd := lw_in 615 (by decide +kernel) rfl
theorem jq_616 : Jvm.Cond.constantLong "HayTalk" (267 : Nat) (65521 : Int64) ∈ lw_gd := lw_in 616 (by decide +kernel) rfl
theorem jq_617 : Jvm.Cond.methodLink "HayTalk" (236 : Nat) ({ cls := "HayTalk", name := "actByDraw", desc := "(I)V" } : Jvm.MethodName) ∈ lw_gd := lw_in 617 (by decide +kernel) rfl
theorem jq_619 : Jvm.Cond.instanceMethod ({ cls := "HayTalk", name := "actByDraw", desc := "(I)V" } : Jvm.MethodName) ∈ lw_gd := lw_in 619 (by decide +kernel) rfl
theorem jq_620 : Jvm.Cond.code ({ cls := "HayTalk", name := "actByDraw", desc := "(I)V" } : Jvm.MethodName) prog_1_method_42_code (5 : Nat) (Option.none : Option Jvm.ClassFile.FieldType) ∈ lw_gd := lw_in 620 (by decide +kernel) rfl
theorem jq_621 : Jvm.Cond.methodLink "HayTalk" (269 : Nat) ({ cls := "HayTalk", name := "remainder", desc := "(II)I" } : Jvm.MethodName) ∈ lw_gd := lw_in 621 (by decide +kernel) rfl
theorem jq_622 : Jvm.Cond.methodLink "HayTalk" (239 : Nat) ({ cls := "HayTalk$Field", name := "wordsTold", desc := "()I" } : Jvm.MethodName) ∈ lw_gd := lw_in 622 (by decide +kernel) rfl
theorem jq_623 : Jvm.Cond.instanceMethod ({ cls := "HayTalk$Field", name := "wordsTold", desc := "()I" } : Jvm.MethodName) ∈ lw_gd := lw_in 623 (by decide +kernel) rfl
theorem jq_624 : Jvm.Cond.selects "HayTalk$Field" ({ cls := "HayTalk$Field", name := "wordsTold", desc := "()I" } : Jvm.MethodName) ({ cls := "HayTalk$Field", name := "wordsTold", desc := "()I" } : Jvm.MethodName) ∈ lw_gd := lw_in 624 (by decide +kernel) rfl
theorem jq_627 : Jvm.Cond.methodLink "HayTalk" (246 : Nat) ({ cls := "HayTalk$Rows", name := "sum", desc := "([I)I" } : Jvm.MethodName) ∈ lw_gd := lw_in 627 (by decide +kernel) rfl
theorem jq_628 : Jvm.Cond.static ({ cls := "HayTalk$Rows", name := "sum", desc := "([I)I" } : Jvm.MethodName) ∈ lw_gd := lw_in 628 (by decide +kernel) rfl
theorem jq_633 : Jvm.Cond.code ({ cls := "HayTalk", name := "keep", desc := "()I" } : Jvm.MethodName) prog_1_method_29_code (1 : Nat) (Option.some Jvm.ClassFile.FieldType.int) ∈ lw_gd := lw_in 633 (by decide +kernel) rfl
theorem jq_634 : Jvm.Cond.methodLink "HayTalk" (250 : Nat) ({ cls := "HayTalk$Pile", name := "isFull", desc := "()Z" } : Jvm.MethodName) ∈ lw_gd := lw_in 634 (by decide +kernel) rfl
theorem jq_635 : Jvm.Cond.instanceMethod ({ cls := "HayTalk$Pile", name := "isFull", desc := "()Z" } : Jvm.MethodName) ∈ lw_gd := lw_in 635 (by decide +kernel) rfl
theorem jq_636 : Jvm.Cond.selects "HayTalk$Pile" ({ cls := "HayTalk$Pile", name := "isFull", desc := "()Z" } : Jvm.MethodName) ({ cls := "HayTalk$Pile", name := "isFull", desc := "()Z" } : Jvm.MethodName) ∈ lw_gd := lw_in 636 (by decide +kernel) rfl
theorem jq_637 : Jvm.Cond.code ({ cls := "HayTalk$Pile", name := "isFull", desc := "()Z" } : Jvm.MethodName) prog_4_method_2_code (1 : Nat) (Option.some Jvm.ClassFile.FieldType.boolean) ∈ lw_gd := lw_in 637 (by decide +kernel) rfl
theorem jq_641 : Jvm.Cond.code ({ cls := "HayTalk", name := "back", desc := "()I" } : Jvm.MethodName) prog_1_method_30_code (1 : Nat) (Option.some Jvm.ClassFile.FieldType.int) ∈ lw_gd := lw_in 641 (by decide +kernel) rfl
theorem jq_645 : Jvm.Cond.code ({ cls := "HayTalk", name := "count", desc := "(I)I" } : Jvm.MethodName) prog_1_method_31_code (2 : Nat) (Option.some Jvm.ClassFile.FieldType.int) ∈ lw_gd := lw_in 645 (by decide +kernel) rfl
theorem jq0_13 : Cond.selects "HayTalk" ({ cls := "HayTalk", name := "actByDraw", desc := "(I)V" } : Jvm.MethodName) ({ cls := "HayTalk", name := "actByDraw", desc := "(I)V" } : Jvm.MethodName) ∈ lw_gd := lw_in0 13 (by decide +kernel) rfl
theorem jq0_12 : Cond.selects "HayTalk" ({ cls := "HayTalk", name := "cutsOfThird", desc := "(III)I" } : Jvm.MethodName) ({ cls := "HayTalk", name := "cutsOfThird", desc := "(III)I" } : Jvm.MethodName) ∈ lw_gd := lw_in0 12 (by decide +kernel) rfl
theorem jq0_11 : Cond.selects "HayTalk" ({ cls := "HayTalk", name := "fewestCuts", desc := "(II)I" } : Jvm.MethodName) ({ cls := "HayTalk", name := "fewestCuts", desc := "(II)I" } : Jvm.MethodName) ∈ lw_gd := lw_in0 11 (by decide +kernel) rfl
theorem jq0_6 : Cond.selects "HayTalk" ({ cls := "HayTalk", name := "isCow", desc := "(I)Z" } : Jvm.MethodName) ({ cls := "HayTalk", name := "isCow", desc := "(I)Z" } : Jvm.MethodName) ∈ lw_gd := lw_in0 6 (by decide +kernel) rfl
theorem jq0_5 : Cond.selects "HayTalk" ({ cls := "HayTalk", name := "isMower", desc := "(I)Z" } : Jvm.MethodName) ({ cls := "HayTalk", name := "isMower", desc := "(I)Z" } : Jvm.MethodName) ∈ lw_gd := lw_in0 5 (by decide +kernel) rfl
theorem jq0_7 : Cond.selects "HayTalk" ({ cls := "HayTalk", name := "isRick", desc := "(I)Z" } : Jvm.MethodName) ({ cls := "HayTalk", name := "isRick", desc := "(I)Z" } : Jvm.MethodName) ∈ lw_gd := lw_in0 7 (by decide +kernel) rfl
theorem jq0_8 : Cond.selects "HayTalk$Pile" ({ cls := "HayTalk$Pile", name := "newestField", desc := "()LHayTalk$Field;" } : Jvm.MethodName) ({ cls := "HayTalk$Pile", name := "newestField", desc := "()LHayTalk$Field;" } : Jvm.MethodName) ∈ lw_gd := lw_in0 8 (by decide +kernel) rfl
