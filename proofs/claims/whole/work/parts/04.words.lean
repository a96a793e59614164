abbrev jFV : Type := (Nat → Int32) × (Nat → Int32) × (Nat → Int32) × (Nat → Int32) × (Nat → Int32) × (Nat → Int32) × (Nat → Int32) × (Nat → Int32) × Int32
abbrev wT (cI : ClassId) (a : Nat → Nat) (letters : Nat → Int32) (length : Int32) : va_W := [(a 0, .inr (1, [.ref (a 1), .int length])), (a 1, .inl (cI, 200, .inl letters))]
abbrev wF (cI : ClassId) (a : Nat → Nat) (lying : Nat → Int32) (damp : Nat → Int32) (told : Nat → Int32) (heights : Nat → Int32) (burnt : Nat → Int32) (layerWords : Nat → Int32) (layerWetness : Nat → Int32) (layerHeat : Nat → Int32) (hours : Int32) : va_W := [(a 0, .inr (2, [.ref (a 1), .ref (a 2), .ref (a 3), .ref (a 4), .ref (a 5), .ref (a 6), .ref (a 7), .ref (a 8), .int hours])), (a 1, .inl (cI, 5, .inl lying)), (a 2, .inl (cI, 5, .inl damp)), (a 3, .inl (cI, 4, .inl told)), (a 4, .inl (cI, 3, .inl heights)), (a 5, .inl (cI, 3, .inl burnt)), (a 6, .inl (cI, 24, .inl layerWords)), (a 7, .inl (cI, 24, .inl layerWetness)), (a 8, .inl (cI, 24, .inl layerHeat))]
abbrev wS (cI : ClassId) (a : Nat → Nat) (words : Nat → Int32) (hours : Nat → Int32) (size : Int32) : va_W := [(a 0, .inr (4, [.ref (a 1), .ref (a 2), .int size])), (a 1, .inl (cI, 6, .inl words)), (a 2, .inl (cI, 6, .inl hours))]
abbrev wL (cI : ClassId) (a : Nat → Nat) (speeches : Nat → Int32) (speechLengths : Nat → Int32) (weather : Nat → Int32) (kindsOfCows : Nat → Int32) (thatches : Nat → Int32) (weatherLength : Int32) (mowers : Int32) (cows : Int32) (ricks : Int32) : va_W := [(a 0, .inr (5, [.ref (a 1), .ref (a 2), .ref (a 3), .ref (a 4), .ref (a 5), .int weatherLength, .int mowers, .int cows, .int ricks])), (a 1, .inl (cI, 45, .inl speeches)), (a 2, .inl (cI, 5, .inl speechLengths)), (a 3, .inl (cI, 9, .inl weather)), (a 4, .inl (cI, 4, .inl kindsOfCows)), (a 5, .inl (cI, 3, .inl thatches))]
abbrev wM (cI : ClassId) (a : Nat → Nat) (text : Nat → Int32) (letters : Int32) (mowers : Int32) (cows : Int32) (ricks : Int32) (weathers : Int32) (says : Nat → Int32) (words : Nat → Int32) (weather : Nat → Int32) (kindOf : Nat → Int32) (thatch : Nat → Int32) (newMowers : Int32) (newCows : Int32) (newRicks : Int32) (newWeathers : Int32) (newSays : Nat → Int32) (newWords : Nat → Int32) (newWeather : Nat → Int32) (newKind : Nat → Int32) (newThatch : Nat → Int32) (st : Nat → Int32) (pasts : Int32) (past : Nat → Int32) (aside : Nat → Int32) (seen : Int32) (seenWord : Nat → Int32) (seenHour : Nat → Int32) (keeps : Int32) (kept : Nat → Int32) : va_W := [(a 0, .inr (6, [.ref (a 1), .int letters, .int mowers, .int cows, .int ricks, .int weathers, .ref (a 2), .ref (a 3), .ref (a 4), .ref (a 5), .ref (a 6), .int newMowers, .int newCows, .int newRicks, .int newWeathers, .ref (a 7), .ref (a 8), .ref (a 9), .ref (a 10), .ref (a 11), .ref (a 12), .int pasts, .ref (a 13), .ref (a 14), .int seen, .ref (a 15), .ref (a 16), .int keeps, .ref (a 17)])), (a 1, .inl (cI, 200, .inl text)), (a 2, .inl (cI, 5, .inl says)), (a 3, .inl (cI, 45, .inl words)), (a 4, .inl (cI, 9, .inl weather)), (a 5, .inl (cI, 4, .inl kindOf)), (a 6, .inl (cI, 3, .inl thatch)), (a 7, .inl (cI, 5, .inl newSays)), (a 8, .inl (cI, 45, .inl newWords)), (a 9, .inl (cI, 9, .inl newWeather)), (a 10, .inl (cI, 4, .inl newKind)), (a 11, .inl (cI, 3, .inl newThatch)), (a 12, .inl (cI, 93, .inl st)), (a 13, .inl (cI, 744, .inl past)), (a 14, .inl (cI, 93, .inl aside)), (a 15, .inl (cI, 6, .inl seenWord)), (a 16, .inl (cI, 6, .inl seenHour)), (a 17, .inl (cI, 186, .inl kept))]
abbrev wA (cI : ClassId) (a : Nat → Nat) (n : Nat) (u : Nat → Int32) : va_W := [(a 0, .inl (cI, n, .inl u))]
abbrev wH (a aText aField aTrial aPast aKept aSeen aLand aDraft : Nat → Nat) : va_W := [(a 0, .inr (0, [.ref (aText 0), .ref (aField 0), .ref (aTrial 0), .ref (aPast 0), .ref (aKept 0), .ref (aSeen 0), .ref (aLand 0), .ref (aDraft 0)]))]
abbrev wFv (cI : ClassId) (a : Nat → Nat) (x : jFV) : va_W := wF cI a x.1 x.2.1 x.2.2.1 x.2.2.2.1 x.2.2.2.2.1 x.2.2.2.2.2.1 x.2.2.2.2.2.2.1 x.2.2.2.2.2.2.2.1 x.2.2.2.2.2.2.2.2
def wPb (cI : ClassId) (n : Nat) (a : Nat → Nat) (v : Nat → jFV) : List va_W := (List.range n).map (fun i => wFv cI (fun j => a (2 + 9 * i + j)) (v i))
def wPh (cF : ClassId) (n : Nat) (a : Nat → Nat) (newest size : Int32) : va_W := [(a 0, .inr (3, [.ref (a 1), .int newest, .int size])), (a 1, .inl (cF, n, .inr (.inr (.inr (.inr (fun j => some (a (2 + 9 * j))))))))]
abbrev wP (cI cF : ClassId) (n : Nat) (a : Nat → Nat) (newest size : Int32) (v : Nat → jFV) : va_W := (a 0, .inr (3, [.ref (a 1), .int newest, .int size])) :: (a 1, .inl (cF, n, .inr (.inr (.inr (.inr (fun j => some (a (2 + 9 * j)))))))) :: (wPb cI n a v).flatten
theorem jk_H : hk_cls 0 cR_H cF_H 8 ct_H := ⟨rfl, hk_gdws ci_H (by decide +kernel), ct_H_ok, cn_H⟩
theorem jk_T : hk_cls 1 cR_T cF_T 2 ct_T := ⟨rfl, hk_gdws ci_T (by decide +kernel), ct_T_ok, cn_T⟩
theorem jk_F : hk_cls 2 cR_F cF_F 9 ct_F := ⟨rfl, hk_gdws ci_F (by decide +kernel), ct_F_ok, cn_F⟩
theorem jk_P : hk_cls 3 cR_P cF_P 3 ct_P := ⟨rfl, hk_gdws ci_P (by decide +kernel), ct_P_ok, cn_P⟩
theorem jk_S : hk_cls 4 cR_S cF_S 3 ct_S := ⟨rfl, hk_gdws ci_S (by decide +kernel), ct_S_ok, cn_S⟩
theorem jk_L : hk_cls 5 cR_L cF_L 9 ct_L := ⟨rfl, hk_gdws ci_L (by decide +kernel), ct_L_ok, cn_L⟩
theorem jk_M : hk_cls 6 cR_M cF_M 29 ct_M := ⟨rfl, hk_gdws ci_M (by decide +kernel), ct_M_ok, cn_M⟩
theorem jq_1 : Jvm.Cond.initialized "HayTalk" ∈ lw_gd := lw_in 1 (by decide +kernel) rfl
theorem jq_2 : Jvm.Cond.initialized "HayTalk$Text" ∈ lw_gd := lw_in 2 (by decide +kernel) rfl
theorem jq_3 : Jvm.Cond.initialized "HayTalk$Field" ∈ lw_gd := lw_in 3 (by decide +kernel) rfl
theorem jq_6 : Jvm.Cond.initialized "HayTalk$Seen" ∈ lw_gd := lw_in 6 (by decide +kernel) rfl
theorem jq_7 : Jvm.Cond.initialized "HayTalk$Land" ∈ lw_gd := lw_in 7 (by decide +kernel) rfl
theorem jq_12 : Jvm.Cond.initialized "HayTalk$Rows" ∈ lw_gd := lw_in 12 (by decide +kernel) rfl
theorem jq_13 : Jvm.Cond.initialized "HayTalkModel" ∈ lw_gd := lw_in 13 (by decide +kernel) rfl
theorem jq_14 : Jvm.Cond.initialized "java/util/Arrays" ∈ lw_gd := lw_in 14 (by decide +kernel) rfl
theorem jq_15 : Jvm.Cond.initialized "java/lang/Integer" ∈ lw_gd := lw_in 15 (by decide +kernel) rfl
theorem jq_30 : Jvm.Cond.fieldLink "HayTalk$Text" (11 : Nat) "HayTalk$Text" "letters" "[I" ∈ lw_gd := lw_in 30 (by decide +kernel) rfl
theorem jq_32 : Jvm.Cond.fieldLink "HayTalk$Text" (30 : Nat) "HayTalk$Text" "length" "I" ∈ lw_gd := lw_in 32 (by decide +kernel) rfl
theorem jq_33 : Jvm.Cond.fieldLinkNest "HayTalk$Land" (52 : Nat) "HayTalk$Text" "length" "I" "HayTalk" ∈ lw_nt := lw_inN 33 (by decide +kernel) rfl
theorem jq_46 : Jvm.Cond.fieldLink "HayTalk$Field" (9 : Nat) "HayTalk$Field" "lying" "[I" ∈ lw_gd := lw_in 46 (by decide +kernel) rfl
theorem jq_48 : Jvm.Cond.fieldLink "HayTalk$Field" (15 : Nat) "HayTalk$Field" "damp" "[I" ∈ lw_gd := lw_in 48 (by decide +kernel) rfl
theorem jq_50 : Jvm.Cond.fieldLink "HayTalk$Field" (18 : Nat) "HayTalk$Field" "told" "[I" ∈ lw_gd := lw_in 50 (by decide +kernel) rfl
theorem jq_52 : Jvm.Cond.fieldLink "HayTalk$Field" (21 : Nat) "HayTalk$Field" "heights" "[I" ∈ lw_gd := lw_in 52 (by decide +kernel) rfl
theorem jq_54 : Jvm.Cond.fieldLink "HayTalk$Field" (24 : Nat) "HayTalk$Field" "burnt" "[I" ∈ lw_gd := lw_in 54 (by decide +kernel) rfl
theorem jq_56 : Jvm.Cond.fieldLink "HayTalk$Field" (27 : Nat) "HayTalk$Field" "layerWords" "[I" ∈ lw_gd := lw_in 56 (by decide +kernel) rfl
theorem jq_57 : Jvm.Cond.fieldLink "HayTalk$Field" (30 : Nat) "HayTalk$Field" "layerWetness" "[I" ∈ lw_gd := lw_in 57 (by decide +kernel) rfl
theorem jq_58 : Jvm.Cond.fieldLink "HayTalk$Field" (33 : Nat) "HayTalk$Field" "layerHeat" "[I" ∈ lw_gd := lw_in 58 (by decide +kernel) rfl
theorem jq_59 : Jvm.Cond.fieldLink "HayTalk$Field" (36 : Nat) "HayTalk$Field" "hours" "I" ∈ lw_gd := lw_in 59 (by decide +kernel) rfl
theorem jq_109 : Jvm.Cond.fieldLink "HayTalk$Seen" (9 : Nat) "HayTalk$Seen" "words" "[I" ∈ lw_gd := lw_in 109 (by decide +kernel) rfl
theorem jq_110 : Jvm.Cond.fieldLink "HayTalk$Seen" (13 : Nat) "HayTalk$Seen" "hours" "[I" ∈ lw_gd := lw_in 110 (by decide +kernel) rfl
theorem jq_111 : Jvm.Cond.fieldLink "HayTalk$Seen" (16 : Nat) "HayTalk$Seen" "size" "I" ∈ lw_gd := lw_in 111 (by decide +kernel) rfl
theorem jq_126 : Jvm.Cond.fieldLink "HayTalk$Land" (11 : Nat) "HayTalk$Land" "speeches" "[I" ∈ lw_gd := lw_in 126 (by decide +kernel) rfl
theorem jq_127 : Jvm.Cond.fieldLink "HayTalk$Land" (15 : Nat) "HayTalk$Land" "speechLengths" "[I" ∈ lw_gd := lw_in 127 (by decide +kernel) rfl
theorem jq_128 : Jvm.Cond.fieldLink "HayTalk$Land" (18 : Nat) "HayTalk$Land" "weather" "[I" ∈ lw_gd := lw_in 128 (by decide +kernel) rfl
theorem jq_129 : Jvm.Cond.fieldLink "HayTalk$Land" (21 : Nat) "HayTalk$Land" "kindsOfCows" "[I" ∈ lw_gd := lw_in 129 (by decide +kernel) rfl
theorem jq_130 : Jvm.Cond.fieldLink "HayTalk$Land" (24 : Nat) "HayTalk$Land" "thatches" "[I" ∈ lw_gd := lw_in 130 (by decide +kernel) rfl
theorem jq_131 : Jvm.Cond.fieldLink "HayTalk$Land" (47 : Nat) "HayTalk$Land" "weatherLength" "I" ∈ lw_gd := lw_in 131 (by decide +kernel) rfl
theorem jq_132 : Jvm.Cond.fieldLink "HayTalk$Land" (27 : Nat) "HayTalk$Land" "mowers" "I" ∈ lw_gd := lw_in 132 (by decide +kernel) rfl
theorem jq_134 : Jvm.Cond.fieldLinkNest "HayTalk$Field" (96 : Nat) "HayTalk$Land" "mowers" "I" "HayTalk" ∈ lw_nt := lw_inN 134 (by decide +kernel) rfl
theorem jq_135 : Jvm.Cond.fieldLink "HayTalk$Land" (31 : Nat) "HayTalk$Land" "cows" "I" ∈ lw_gd := lw_in 135 (by decide +kernel) rfl
theorem jq_137 : Jvm.Cond.fieldLink "HayTalk$Land" (34 : Nat) "HayTalk$Land" "ricks" "I" ∈ lw_gd := lw_in 137 (by decide +kernel) rfl
theorem jq_138 : Jvm.Cond.fieldLinkNest "HayTalk$Field" (81 : Nat) "HayTalk$Land" "ricks" "I" "HayTalk" ∈ lw_nt := lw_inN 138 (by decide +kernel) rfl
theorem jq_216 : Jvm.Cond.code ({ cls := "HayTalk$Text", name := "add", desc := "(I)V" } : Jvm.MethodName) prog_7_method_4_code (2 : Nat) (Option.none : Option Jvm.ClassFile.FieldType) ∈ lw_gd := lw_in 216 (by decide +kernel) rfl
theorem jq_217 : Jvm.Cond.methodLink "HayTalk$Text" (33 : Nat) ({ cls := "HayTalk$Text", name := "isFull", desc := "()Z" } : Jvm.MethodName) ∈ lw_gd := lw_in 217 (by decide +kernel) rfl
theorem jq_218 : Jvm.Cond.instanceMethod ({ cls := "HayTalk$Text", name := "isFull", desc := "()Z" } : Jvm.MethodName) ∈ lw_gd := lw_in 218 (by decide +kernel) rfl
theorem jq_219 : Jvm.Cond.selects "HayTalk$Text" ({ cls := "HayTalk$Text", name := "isFull", desc := "()Z" } : Jvm.MethodName) ({ cls := "HayTalk$Text", name := "isFull", desc := "()Z" } : Jvm.MethodName) ∈ lw_gd := lw_in 219 (by decide +kernel) rfl
theorem jq_220 : Jvm.Cond.code ({ cls := "HayTalk$Text", name := "isFull", desc := "()Z" } : Jvm.MethodName) prog_7_method_3_code (1 : Nat) (Option.some Jvm.ClassFile.FieldType.boolean) ∈ lw_gd := lw_in 220 (by decide +kernel) rfl
theorem jq_221 : Jvm.Cond.methodLink "HayTalk$Text" (37 : Nat) ({ cls := "HayTalk$Rows", name := "put", desc := "([III)V" } : Jvm.MethodName) ∈ lw_gd := lw_in 221 (by decide +kernel) rfl
theorem jq_222 : Jvm.Cond.static ({ cls := "HayTalk$Rows", name := "put", desc := "([III)V" } : Jvm.MethodName) ∈ lw_gd := lw_in 222 (by decide +kernel) rfl
theorem jq_223 : Jvm.Cond.code ({ cls := "HayTalk$Rows", name := "put", desc := "([III)V" } : Jvm.MethodName) prog_5_method_3_code (3 : Nat) (Option.none : Option Jvm.ClassFile.FieldType) ∈ lw_gd := lw_in 223 (by decide +kernel) rfl
theorem jq_227 : Jvm.Cond.code ({ cls := "HayTalk$Land", name := "readText", desc := "(LHayTalk$Text;)I" } : Jvm.MethodName) prog_3_method_7_code (5 : Nat) (Option.some Jvm.ClassFile.FieldType.int) ∈ lw_gd := lw_in 227 (by decide +kernel) rfl
theorem jq_228 : Jvm.Cond.methodLink "HayTalk$Land" (55 : Nat) ({ cls := "HayTalk$Text", name := "endFrom", desc := "(I)I" } : Jvm.MethodName) ∈ lw_gd := lw_in 228 (by decide +kernel) rfl
theorem jq_229 : Jvm.Cond.instanceMethod ({ cls := "HayTalk$Text", name := "endFrom", desc := "(I)I" } : Jvm.MethodName) ∈ lw_gd := lw_in 229 (by decide +kernel) rfl
theorem jq_230 : Jvm.Cond.selects "HayTalk$Text" ({ cls := "HayTalk$Text", name := "endFrom", desc := "(I)I" } : Jvm.MethodName) ({ cls := "HayTalk$Text", name := "endFrom", desc := "(I)I" } : Jvm.MethodName) ∈ lw_gd := lw_in 230 (by decide +kernel) rfl
theorem jq_231 : Jvm.Cond.code ({ cls := "HayTalk$Text", name := "endFrom", desc := "(I)I" } : Jvm.MethodName) prog_7_method_7_code (3 : Nat) (Option.some Jvm.ClassFile.FieldType.int) ∈ lw_gd := lw_in 231 (by decide +kernel) rfl
theorem jq_232 : Jvm.Cond.methodLink "HayTalk$Text" (43 : Nat) ({ cls := "HayTalk$Text", name := "letterAt", desc := "(I)I" } : Jvm.MethodName) ∈ lw_gd := lw_in 232 (by decide +kernel) rfl
theorem jq_233 : Jvm.Cond.instanceMethod ({ cls := "HayTalk$Text", name := "letterAt", desc := "(I)I" } : Jvm.MethodName) ∈ lw_gd := lw_in 233 (by decide +kernel) rfl
theorem jq_234 : Jvm.Cond.selects "HayTalk$Text" ({ cls := "HayTalk$Text", name := "letterAt", desc := "(I)I" } : Jvm.MethodName) ({ cls := "HayTalk$Text", name := "letterAt", desc := "(I)I" } : Jvm.MethodName) ∈ lw_gd := lw_in 234 (by decide +kernel) rfl
theorem jq_235 : Jvm.Cond.code ({ cls := "HayTalk$Text", name := "letterAt", desc := "(I)I" } : Jvm.MethodName) prog_7_method_5_code (2 : Nat) (Option.some Jvm.ClassFile.FieldType.int) ∈ lw_gd := lw_in 235 (by decide +kernel) rfl
theorem jq_236 : Jvm.Cond.methodLink "HayTalk$Land" (59 : Nat) ({ cls := "HayTalk$Land", name := "readItem", desc := "(LHayTalk$Text;II)Z" } : Jvm.MethodName) ∈ lw_gd := lw_in 236 (by decide +kernel) rfl
theorem jq_238 : Jvm.Cond.instanceMethod ({ cls := "HayTalk$Land", name := "readItem", desc := "(LHayTalk$Text;II)Z" } : Jvm.MethodName) ∈ lw_gd := lw_in 238 (by decide +kernel) rfl
theorem jq_239 : Jvm.Cond.code ({ cls := "HayTalk$Land", name := "readItem", desc := "(LHayTalk$Text;II)Z" } : Jvm.MethodName) prog_3_method_8_code (4 : Nat) (Option.some Jvm.ClassFile.FieldType.boolean) ∈ lw_gd := lw_in 239 (by decide +kernel) rfl
theorem jq_240 : Jvm.Cond.methodLink "HayTalk$Land" (63 : Nat) ({ cls := "HayTalk$Text", name := "letterAt", desc := "(I)I" } : Jvm.MethodName) ∈ lw_gd := lw_in 240 (by decide +kernel) rfl
theorem jq_241 : Jvm.Cond.methodLink "HayTalk$Land" (66 : Nat) ({ cls := "HayTalk$Land", name := "readMower", desc := "(LHayTalk$Text;II)Z" } : Jvm.MethodName) ∈ lw_gd := lw_in 241 (by decide +kernel) rfl
theorem jq_243 : Jvm.Cond.instanceMethod ({ cls := "HayTalk$Land", name := "readMower", desc := "(LHayTalk$Text;II)Z" } : Jvm.MethodName) ∈ lw_gd := lw_in 243 (by decide +kernel) rfl
theorem jq_244 : Jvm.Cond.code ({ cls := "HayTalk$Land", name := "readMower", desc := "(LHayTalk$Text;II)Z" } : Jvm.MethodName) prog_3_method_9_code (4 : Nat) (Option.some Jvm.ClassFile.FieldType.boolean) ∈ lw_gd := lw_in 244 (by decide +kernel) rfl
theorem jq_245 : Jvm.Cond.methodLink "HayTalk$Land" (78 : Nat) ({ cls := "HayTalk$Land", name := "readRow", desc := "(LHayTalk$Text;III[II)Z" } : Jvm.MethodName) ∈ lw_gd := lw_in 245 (by decide +kernel) rfl
theorem jq_246 : Jvm.Cond.static ({ cls := "HayTalk$Land", name := "readRow", desc := "(LHayTalk$Text;III[II)Z" } : Jvm.MethodName) ∈ lw_gd := lw_in 246 (by decide +kernel) rfl
theorem jq_247 : Jvm.Cond.code ({ cls := "HayTalk$Land", name := "readRow", desc := "(LHayTalk$Text;III[II)Z" } : Jvm.MethodName) prog_3_method_13_code (9 : Nat) (Option.some Jvm.ClassFile.FieldType.boolean) ∈ lw_gd := lw_in 247 (by decide +kernel) rfl
theorem jq_248 : Jvm.Cond.methodLinkNest "HayTalk$Land" (90 : Nat) ({ cls := "HayTalk", name := "isWithin", desc := "(III)Z" } : Jvm.MethodName) "HayTalk" ∈ lw_nt := lw_inN 248 (by decide +kernel) rfl
theorem jq_249 : Jvm.Cond.static ({ cls := "HayTalk", name := "isWithin", desc := "(III)Z" } : Jvm.MethodName) ∈ lw_gd := lw_in 249 (by decide +kernel) rfl
theorem jq_250 : Jvm.Cond.code ({ cls := "HayTalk", name := "isWithin", desc := "(III)Z" } : Jvm.MethodName) prog_1_method_32_code (3 : Nat) (Option.some Jvm.ClassFile.FieldType.boolean) ∈ lw_gd := lw_in 250 (by decide +kernel) rfl
theorem jq_251 : Jvm.Cond.methodLink "HayTalk$Land" (94 : Nat) ({ cls := "HayTalk$Text", name := "figureAt", desc := "(I)I" } : Jvm.MethodName) ∈ lw_gd := lw_in 251 (by decide +kernel) rfl
theorem jq_252 : Jvm.Cond.instanceMethod ({ cls := "HayTalk$Text", name := "figureAt", desc := "(I)I" } : Jvm.MethodName) ∈ lw_gd := lw_in 252 (by decide +kernel) rfl
theorem jq_253 : Jvm.Cond.selects "HayTalk$Text" ({ cls := "HayTalk$Text", name := "figureAt", desc := "(I)I" } : Jvm.MethodName) ({ cls := "HayTalk$Text", name := "figureAt", desc := "(I)I" } : Jvm.MethodName) ∈ lw_gd := lw_in 253 (by decide +kernel) rfl
theorem jq_254 : Jvm.Cond.code ({ cls := "HayTalk$Text", name := "figureAt", desc := "(I)I" } : Jvm.MethodName) prog_7_method_6_code (3 : Nat) (Option.some Jvm.ClassFile.FieldType.int) ∈ lw_gd := lw_in 254 (by decide +kernel) rfl
theorem jq_255 : Jvm.Cond.methodLinkNest "HayTalk$Text" (47 : Nat) ({ cls := "HayTalk", name := "isWithin", desc := "(III)Z" } : Jvm.MethodName) "HayTalk" ∈ lw_nt := lw_inN 255 (by decide +kernel) rfl
theorem jq_256 : Jvm.Cond.methodLink "HayTalk$Land" (82 : Nat) ({ cls := "HayTalk$Rows", name := "put", desc := "([III)V" } : Jvm.MethodName) ∈ lw_gd := lw_in 256 (by decide +kernel) rfl
theorem jq_257 : Jvm.Cond.methodLink "HayTalk$Land" (69 : Nat) ({ cls := "HayTalk$Land", name := "readWeather", desc := "(LHayTalk$Text;II)Z" } : Jvm.MethodName) ∈ lw_gd := lw_in 257 (by decide +kernel) rfl
theorem jq_259 : Jvm.Cond.instanceMethod ({ cls := "HayTalk$Land", name := "readWeather", desc := "(LHayTalk$Text;II)Z" } : Jvm.MethodName) ∈ lw_gd := lw_in 259 (by decide +kernel) rfl
theorem jq_260 : Jvm.Cond.code ({ cls := "HayTalk$Land", name := "readWeather", desc := "(LHayTalk$Text;II)Z" } : Jvm.MethodName) prog_3_method_10_code (4 : Nat) (Option.some Jvm.ClassFile.FieldType.boolean) ∈ lw_gd := lw_in 260 (by decide +kernel) rfl
theorem jq_261 : Jvm.Cond.methodLink "HayTalk$Land" (72 : Nat) ({ cls := "HayTalk$Land", name := "readCow", desc := "(LHayTalk$Text;II)Z" } : Jvm.MethodName) ∈ lw_gd := lw_in 261 (by decide +kernel) rfl
theorem jq_263 : Jvm.Cond.instanceMethod ({ cls := "HayTalk$Land", name := "readCow", desc := "(LHayTalk$Text;II)Z" } : Jvm.MethodName) ∈ lw_gd := lw_in 263 (by decide +kernel) rfl
theorem jq_264 : Jvm.Cond.code ({ cls := "HayTalk$Land", name := "readCow", desc := "(LHayTalk$Text;II)Z" } : Jvm.MethodName) prog_3_method_11_code (5 : Nat) (Option.some Jvm.ClassFile.FieldType.boolean) ∈ lw_gd := lw_in 264 (by decide +kernel) rfl
theorem jq_265 : Jvm.Cond.methodLink "HayTalk$Land" (86 : Nat) ({ cls := "HayTalk$Land", name := "numberIn", desc := "(LHayTalk$Text;II)I" } : Jvm.MethodName) ∈ lw_gd := lw_in 265 (by decide +kernel) rfl
theorem jq_266 : Jvm.Cond.static ({ cls := "HayTalk$Land", name := "numberIn", desc := "(LHayTalk$Text;II)I" } : Jvm.MethodName) ∈ lw_gd := lw_in 266 (by decide +kernel) rfl
theorem jq_267 : Jvm.Cond.code ({ cls := "HayTalk$Land", name := "numberIn", desc := "(LHayTalk$Text;II)I" } : Jvm.MethodName) prog_3_method_14_code (7 : Nat) (Option.some Jvm.ClassFile.FieldType.int) ∈ lw_gd := lw_in 267 (by decide +kernel) rfl
theorem jq_268 : Jvm.Cond.methodLink "HayTalk$Land" (75 : Nat) ({ cls := "HayTalk$Land", name := "readRick", desc := "(LHayTalk$Text;II)Z" } : Jvm.MethodName) ∈ lw_gd := lw_in 268 (by decide +kernel) rfl
theorem jq_270 : Jvm.Cond.instanceMethod ({ cls := "HayTalk$Land", name := "readRick", desc := "(LHayTalk$Text;II)Z" } : Jvm.MethodName) ∈ lw_gd := lw_in 270 (by decide +kernel) rfl
theorem jq_271 : Jvm.Cond.code ({ cls := "HayTalk$Land", name := "readRick", desc := "(LHayTalk$Text;II)Z" } : Jvm.MethodName) prog_3_method_12_code (5 : Nat) (Option.some Jvm.ClassFile.FieldType.boolean) ∈ lw_gd := lw_in 271 (by decide +kernel) rfl
theorem jq_320 : Jvm.Cond.code ({ cls := "HayTalk$Land", name := "isWhole", desc := "()Z" } : Jvm.MethodName) prog_3_method_2_code (1 : Nat) (Option.some Jvm.ClassFile.FieldType.boolean) ∈ lw_gd := lw_in 320 (by decide +kernel) rfl
theorem jq_324 : Jvm.Cond.code ({ cls := "HayTalk$Field", name := "clear", desc := "()V" } : Jvm.MethodName) prog_2_method_2_code (1 : Nat) (Option.none : Option Jvm.ClassFile.FieldType) ∈ lw_gd := lw_in 324 (by decide +kernel) rfl
theorem jq_325 : Jvm.Cond.methodLink "HayTalk$Field" (40 : Nat) ({ cls := "java/util/Arrays", name := "fill", desc := "([II)V" } : Jvm.MethodName) ∈ lw_gd := lw_in 325 (by decide +kernel) rfl
theorem jq_326 : Jvm.Cond.static ({ cls := "java/util/Arrays", name := "fill", desc := "([II)V" } : Jvm.MethodName) ∈ lw_gd := lw_in 326 (by decide +kernel) rfl
theorem jq_327 : Jvm.Cond.code ({ cls := "java/util/Arrays", name := "fill", desc := "([II)V" } : Jvm.MethodName) prog_15_method_103_code (4 : Nat) (Option.none : Option Jvm.ClassFile.FieldType) ∈ lw_gd := lw_in 327 (by decide +kernel) rfl
theorem jq_341 : Jvm.Cond.instanceMethod ({ cls := "HayTalk$Land", name := "wordOf", desc := "(II)I" } : Jvm.MethodName) ∈ lw_gd := lw_in 341 (by decide +kernel) rfl
theorem jq_342 : Jvm.Cond.selects "HayTalk$Land" ({ cls := "HayTalk$Land", name := "wordOf", desc := "(II)I" } : Jvm.MethodName) ({ cls := "HayTalk$Land", name := "wordOf", desc := "(II)I" } : Jvm.MethodName) ∈ lw_gd := lw_in 342 (by decide +kernel) rfl
theorem jq_343 : Jvm.Cond.code ({ cls := "HayTalk$Land", name := "wordOf", desc := "(II)I" } : Jvm.MethodName) prog_3_method_3_code (3 : Nat) (Option.some Jvm.ClassFile.FieldType.int) ∈ lw_gd := lw_in 343 (by decide +kernel) rfl
theorem jq_344 : Jvm.Cond.methodLink "HayTalk$Land" (37 : Nat) ({ cls := "HayTalk$Rows", name := "at", desc := "([II)I" } : Jvm.MethodName) ∈ lw_gd := lw_in 344 (by decide +kernel) rfl
theorem jq_345 : Jvm.Cond.static ({ cls := "HayTalk$Rows", name := "at", desc := "([II)I" } : Jvm.MethodName) ∈ lw_gd := lw_in 345 (by decide +kernel) rfl
theorem jq_346 : Jvm.Cond.code ({ cls := "HayTalk$Rows", name := "at", desc := "([II)I" } : Jvm.MethodName) prog_5_method_2_code (2 : Nat) (Option.some Jvm.ClassFile.FieldType.int) ∈ lw_gd := lw_in 346 (by decide +kernel) rfl
theorem jq_347 : Jvm.Cond.methodLinkNest "HayTalk$Land" (43 : Nat) ({ cls := "HayTalk", name := "remainder", desc := "(II)I" } : Jvm.MethodName) "HayTalk" ∈ lw_nt := lw_inN 347 (by decide +kernel) rfl
theorem jq_348 : Jvm.Cond.static ({ cls := "HayTalk", name := "remainder", desc := "(II)I" } : Jvm.MethodName) ∈ lw_gd := lw_in 348 (by decide +kernel) rfl
theorem jq_349 : Jvm.Cond.code ({ cls := "HayTalk", name := "remainder", desc := "(II)I" } : Jvm.MethodName) prog_1_method_43_code (2 : Nat) (Option.some Jvm.ClassFile.FieldType.int) ∈ lw_gd := lw_in 349 (by decide +kernel) rfl
theorem jq_362 : Jvm.Cond.code ({ cls := "HayTalk$Land", name := "kindOf", desc := "(I)I" } : Jvm.MethodName) prog_3_method_5_code (2 : Nat) (Option.some Jvm.ClassFile.FieldType.int) ∈ lw_gd := lw_in 362 (by decide +kernel) rfl
theorem jq_372 : Jvm.Cond.instanceMethod ({ cls := "HayTalk$Land", name := "thatchOf", desc := "(I)I" } : Jvm.MethodName) ∈ lw_gd := lw_in 372 (by decide +kernel) rfl
theorem jq_373 : Jvm.Cond.selects "HayTalk$Land" ({ cls := "HayTalk$Land", name := "thatchOf", desc := "(I)I" } : Jvm.MethodName) ({ cls := "HayTalk$Land", name := "thatchOf", desc := "(I)I" } : Jvm.MethodName) ∈ lw_gd := lw_in 373 (by decide +kernel) rfl
theorem jq_374 : Jvm.Cond.code ({ cls := "HayTalk$Land", name := "thatchOf", desc := "(I)I" } : Jvm.MethodName) prog_3_method_6_code (2 : Nat) (Option.some Jvm.ClassFile.FieldType.int) ∈ lw_gd := lw_in 374 (by decide +kernel) rfl
theorem jq_376 : Jvm.Cond.instanceMethod ({ cls := "HayTalk$Field", name := "heightOf", desc := "(I)I" } : Jvm.MethodName) ∈ lw_gd := lw_in 376 (by decide +kernel) rfl
theorem jq_377 : Jvm.Cond.selects "HayTalk$Field" ({ cls := "HayTalk$Field", name := "heightOf", desc := "(I)I" } : Jvm.MethodName) ({ cls := "HayTalk$Field", name := "heightOf", desc := "(I)I" } : Jvm.MethodName) ∈ lw_gd := lw_in 377 (by decide +kernel) rfl
theorem jq_378 : Jvm.Cond.code ({ cls := "HayTalk$Field", name := "heightOf", desc := "(I)I" } : Jvm.MethodName) prog_2_method_4_code (2 : Nat) (Option.some Jvm.ClassFile.FieldType.int) ∈ lw_gd := lw_in 378 (by decide +kernel) rfl
theorem jq_379 : Jvm.Cond.methodLink "HayTalk$Field" (52 : Nat) ({ cls := "HayTalk$Rows", name := "at", desc := "([II)I" } : Jvm.MethodName) ∈ lw_gd := lw_in 379 (by decide +kernel) rfl
theorem jq_381 : Jvm.Cond.instanceMethod ({ cls := "HayTalk$Field", name := "hottestOf", desc := "(I)I" } : Jvm.MethodName) ∈ lw_gd := lw_in 381 (by decide +kernel) rfl
theorem jq_382 : Jvm.Cond.selects "HayTalk$Field" ({ cls := "HayTalk$Field", name := "hottestOf", desc := "(I)I" } : Jvm.MethodName) ({ cls := "HayTalk$Field", name := "hottestOf", desc := "(I)I" } : Jvm.MethodName) ∈ lw_gd := lw_in 382 (by decide +kernel) rfl
theorem jq_383 : Jvm.Cond.code ({ cls := "HayTalk$Field", name := "hottestOf", desc := "(I)I" } : Jvm.MethodName) prog_2_method_9_code (4 : Nat) (Option.some Jvm.ClassFile.FieldType.int) ∈ lw_gd := lw_in 383 (by decide +kernel) rfl
theorem jq_384 : Jvm.Cond.methodLink "HayTalk$Field" (56 : Nat) ({ cls := "HayTalk$Field", name := "heightOf", desc := "(I)I" } : Jvm.MethodName) ∈ lw_gd := lw_in 384 (by decide +kernel) rfl
theorem jq_385 : Jvm.Cond.methodLink "HayTalk$Field" (64 : Nat) ({ cls := "HayTalk$Field", name := "heatOf", desc := "(II)I" } : Jvm.MethodName) ∈ lw_gd := lw_in 385 (by decide +kernel) rfl
theorem jq_386 : Jvm.Cond.instanceMethod ({ cls := "HayTalk$Field", name := "heatOf", desc := "(II)I" } : Jvm.MethodName) ∈ lw_gd := lw_in 386 (by decide +kernel) rfl
theorem jq_387 : Jvm.Cond.selects "HayTalk$Field" ({ cls := "HayTalk$Field", name := "heatOf", desc := "(II)I" } : Jvm.MethodName) ({ cls := "HayTalk$Field", name := "heatOf", desc := "(II)I" } : Jvm.MethodName) ∈ lw_gd := lw_in 387 (by decide +kernel) rfl
theorem jq_388 : Jvm.Cond.code ({ cls := "HayTalk$Field", name := "heatOf", desc := "(II)I" } : Jvm.MethodName) prog_2_method_7_code (3 : Nat) (Option.some Jvm.ClassFile.FieldType.int) ∈ lw_gd := lw_in 388 (by decide +kernel) rfl
theorem jq_389 : Jvm.Cond.methodLink "HayTalk$Field" (67 : Nat) ({ cls := "java/lang/Math", name := "max", desc := "(II)I" } : Jvm.MethodName) ∈ lw_gd := lw_in 389 (by decide +kernel) rfl
theorem jq_395 : Jvm.Cond.instanceMethod ({ cls := "HayTalk$Field", name := "wordsOf", desc := "(II)I" } : Jvm.MethodName) ∈ lw_gd := lw_in 395 (by decide +kernel) rfl
theorem jq_396 : Jvm.Cond.selects "HayTalk$Field" ({ cls := "HayTalk$Field", name := "wordsOf", desc := "(II)I" } : Jvm.MethodName) ({ cls := "HayTalk$Field", name := "wordsOf", desc := "(II)I" } : Jvm.MethodName) ∈ lw_gd := lw_in 396 (by decide +kernel) rfl
theorem jq_397 : Jvm.Cond.code ({ cls := "HayTalk$Field", name := "wordsOf", desc := "(II)I" } : Jvm.MethodName) prog_2_method_5_code (3 : Nat) (Option.some Jvm.ClassFile.FieldType.int) ∈ lw_gd := lw_in 397 (by decide +kernel) rfl
theorem jq_399 : Jvm.Cond.instanceMethod ({ cls := "HayTalk$Field", name := "wetnessOf", desc := "(II)I" } : Jvm.MethodName) ∈ lw_gd := lw_in 399 (by decide +kernel) rfl
theorem jq_400 : Jvm.Cond.selects "HayTalk$Field" ({ cls := "HayTalk$Field", name := "wetnessOf", desc := "(II)I" } : Jvm.MethodName) ({ cls := "HayTalk$Field", name := "wetnessOf", desc := "(II)I" } : Jvm.MethodName) ∈ lw_gd := lw_in 400 (by decide +kernel) rfl
theorem jq_401 : Jvm.Cond.code ({ cls := "HayTalk$Field", name := "wetnessOf", desc := "(II)I" } : Jvm.MethodName) prog_2_method_6_code (3 : Nat) (Option.some Jvm.ClassFile.FieldType.int) ∈ lw_gd := lw_in 401 (by decide +kernel) rfl
theorem jq_418 : Jvm.Cond.code ({ cls := "HayTalk$Field", name := "copyFrom", desc := "(LHayTalk$Field;)V" } : Jvm.MethodName) prog_2_method_3_code (2 : Nat) (Option.none : Option Jvm.ClassFile.FieldType) ∈ lw_gd := lw_in 418 (by decide +kernel) rfl
theorem jq_419 : Jvm.Cond.methodLink "HayTalk$Field" (46 : Nat) ({ cls := "HayTalk$Rows", name := "copy", desc := "([I[I)V" } : Jvm.MethodName) ∈ lw_gd := lw_in 419 (by decide +kernel) rfl
theorem jq_420 : Jvm.Cond.static ({ cls := "HayTalk$Rows", name := "copy", desc := "([I[I)V" } : Jvm.MethodName) ∈ lw_gd := lw_in 420 (by decide +kernel) rfl
theorem jq_421 : Jvm.Cond.code ({ cls := "HayTalk$Rows", name := "copy", desc := "([I[I)V" } : Jvm.MethodName) prog_5_method_4_code (3 : Nat) (Option.none : Option Jvm.ClassFile.FieldType) ∈ lw_gd := lw_in 421 (by decide +kernel) rfl
theorem jq_428 : Jvm.Cond.code ({ cls := "HayTalk$Field", name := "hoursGoBy", desc := "(LHayTalk$Land;I)V" } : Jvm.MethodName) prog_2_method_13_code (4 : Nat) (Option.none : Option Jvm.ClassFile.FieldType) ∈ lw_gd := lw_in 428 (by decide +kernel) rfl
theorem jq_429 : Jvm.Cond.methodLink "HayTalk$Field" (77 : Nat) ({ cls := "HayTalk$Field", name := "hourGoesBy", desc := "(LHayTalk$Land;)V" } : Jvm.MethodName) ∈ lw_gd := lw_in 429 (by decide +kernel) rfl
theorem jq_430 : Jvm.Cond.instanceMethod ({ cls := "HayTalk$Field", name := "hourGoesBy", desc := "(LHayTalk$Land;)V" } : Jvm.MethodName) ∈ lw_gd := lw_in 430 (by decide +kernel) rfl
theorem jq_431 : Jvm.Cond.selects "HayTalk$Field" ({ cls := "HayTalk$Field", name := "hourGoesBy", desc := "(LHayTalk$Land;)V" } : Jvm.MethodName) ({ cls := "HayTalk$Field", name := "hourGoesBy", desc := "(LHayTalk$Land;)V" } : Jvm.MethodName) ∈ lw_gd := lw_in 431 (by decide +kernel) rfl
theorem jq_432 : Jvm.Cond.code ({ cls := "HayTalk$Field", name := "hourGoesBy", desc := "(LHayTalk$Land;)V" } : Jvm.MethodName) prog_2_method_14_code (4 : Nat) (Option.none : Option Jvm.ClassFile.FieldType) ∈ lw_gd := lw_in 432 (by decide +kernel) rfl
theorem jq_433 : Jvm.Cond.methodLink "HayTalk$Field" (86 : Nat) ({ cls := "HayTalk$Land", name := "thatchOf", desc := "(I)I" } : Jvm.MethodName) ∈ lw_gd := lw_in 433 (by decide +kernel) rfl
theorem jq_434 : Jvm.Cond.methodLink "HayTalk$Field" (89 : Nat) ({ cls := "HayTalk$Field", name := "heatRick", desc := "(II)V" } : Jvm.MethodName) ∈ lw_gd := lw_in 434 (by decide +kernel) rfl
theorem jq_436 : Jvm.Cond.instanceMethod ({ cls := "HayTalk$Field", name := "heatRick", desc := "(II)V" } : Jvm.MethodName) ∈ lw_gd := lw_in 436 (by decide +kernel) rfl
theorem jq_437 : Jvm.Cond.code ({ cls := "HayTalk$Field", name := "heatRick", desc := "(II)V" } : Jvm.MethodName) prog_2_method_15_code (5 : Nat) (Option.none : Option Jvm.ClassFile.FieldType) ∈ lw_gd := lw_in 437 (by decide +kernel) rfl
theorem jq_438 : Jvm.Cond.methodLink "HayTalk$Field" (109 : Nat) ({ cls := "HayTalk$Field", name := "wetnessOf", desc := "(II)I" } : Jvm.MethodName) ∈ lw_gd := lw_in 438 (by decide +kernel) rfl
theorem jq_439 : Jvm.Cond.methodLink "HayTalk$Field" (102 : Nat) ({ cls := "HayTalk$Rows", name := "put", desc := "([III)V" } : Jvm.MethodName) ∈ lw_gd := lw_in 439 (by decide +kernel) rfl
theorem jq_440 : Jvm.Cond.methodLink "HayTalk$Field" (112 : Nat) ({ cls := "HayTalk$Field", name := "hottestOf", desc := "(I)I" } : Jvm.MethodName) ∈ lw_gd := lw_in 440 (by decide +kernel) rfl
theorem jq_441 : Jvm.Cond.methodLink "HayTalk$Field" (93 : Nat) ({ cls := "HayTalk$Land", name := "weatherOf", desc := "(I)I" } : Jvm.MethodName) ∈ lw_gd := lw_in 441 (by decide +kernel) rfl
theorem jq_442 : Jvm.Cond.instanceMethod ({ cls := "HayTalk$Land", name := "weatherOf", desc := "(I)I" } : Jvm.MethodName) ∈ lw_gd := lw_in 442 (by decide +kernel) rfl
theorem jq_443 : Jvm.Cond.selects "HayTalk$Land" ({ cls := "HayTalk$Land", name := "weatherOf", desc := "(I)I" } : Jvm.MethodName) ({ cls := "HayTalk$Land", name := "weatherOf", desc := "(I)I" } : Jvm.MethodName) ∈ lw_gd := lw_in 443 (by decide +kernel) rfl
theorem jq_444 : Jvm.Cond.code ({ cls := "HayTalk$Land", name := "weatherOf", desc := "(I)I" } : Jvm.MethodName) prog_3_method_4_code (2 : Nat) (Option.some Jvm.ClassFile.FieldType.int) ∈ lw_gd := lw_in 444 (by decide +kernel) rfl
theorem jq_445 : Jvm.Cond.methodLink "HayTalk$Field" (99 : Nat) ({ cls := "HayTalk$Land", name := "wordOf", desc := "(II)I" } : Jvm.MethodName) ∈ lw_gd := lw_in 445 (by decide +kernel) rfl
theorem jq_446 : Jvm.Cond.methodLink "HayTalk$Field" (106 : Nat) ({ cls := "java/lang/Math", name := "min", desc := "(II)I" } : Jvm.MethodName) ∈ lw_gd := lw_in 446 (by decide +kernel) rfl
theorem jq_452 : Jvm.Cond.instanceMethod ({ cls := "HayTalk$Field", name := "lyingIn", desc := "(II)I" } : Jvm.MethodName) ∈ lw_gd := lw_in 452 (by decide +kernel) rfl
theorem jq_453 : Jvm.Cond.selects "HayTalk$Field" ({ cls := "HayTalk$Field", name := "lyingIn", desc := "(II)I" } : Jvm.MethodName) ({ cls := "HayTalk$Field", name := "lyingIn", desc := "(II)I" } : Jvm.MethodName) ∈ lw_gd := lw_in 453 (by decide +kernel) rfl
theorem jq_454 : Jvm.Cond.code ({ cls := "HayTalk$Field", name := "lyingIn", desc := "(II)I" } : Jvm.MethodName) prog_2_method_11_code (5 : Nat) (Option.some Jvm.ClassFile.FieldType.int) ∈ lw_gd := lw_in 454 (by decide +kernel) rfl
theorem jq_458 : Jvm.Cond.code ({ cls := "HayTalk$Field", name := "gather", desc := "(III)V" } : Jvm.MethodName) prog_2_method_16_code (6 : Nat) (Option.none : Option Jvm.ClassFile.FieldType) ∈ lw_gd := lw_in 458 (by decide +kernel) rfl
theorem jq_459 : Jvm.Cond.methodLink "HayTalk$Field" (115 : Nat) ({ cls := "HayTalk$Field", name := "lyingIn", desc := "(II)I" } : Jvm.MethodName) ∈ lw_gd := lw_in 459 (by decide +kernel) rfl
theorem jq_460 : Jvm.Cond.methodLink "HayTalk$Field" (118 : Nat) ({ cls := "HayTalk$Field", name := "addLayer", desc := "(IIII)V" } : Jvm.MethodName) ∈ lw_gd := lw_in 460 (by decide +kernel) rfl
theorem jq_462 : Jvm.Cond.instanceMethod ({ cls := "HayTalk$Field", name := "addLayer", desc := "(IIII)V" } : Jvm.MethodName) ∈ lw_gd := lw_in 462 (by decide +kernel) rfl
theorem jq_463 : Jvm.Cond.code ({ cls := "HayTalk$Field", name := "addLayer", desc := "(IIII)V" } : Jvm.MethodName) prog_2_method_18_code (6 : Nat) (Option.none : Option Jvm.ClassFile.FieldType) ∈ lw_gd := lw_in 463 (by decide +kernel) rfl
theorem jq_471 : Jvm.Cond.code ({ cls := "HayTalk$Field", name := "feed", desc := "(III)I" } : Jvm.MethodName) prog_2_method_20_code (5 : Nat) (Option.some Jvm.ClassFile.FieldType.int) ∈ lw_gd := lw_in 471 (by decide +kernel) rfl
theorem jq_472 : Jvm.Cond.methodLink "HayTalk$Field" (129 : Nat) ({ cls := "HayTalk$Field", name := "freshFor", desc := "(III)I" } : Jvm.MethodName) ∈ lw_gd := lw_in 472 (by decide +kernel) rfl
theorem jq_473 : Jvm.Cond.instanceMethod ({ cls := "HayTalk$Field", name := "freshFor", desc := "(III)I" } : Jvm.MethodName) ∈ lw_gd := lw_in 473 (by decide +kernel) rfl
theorem jq_474 : Jvm.Cond.selects "HayTalk$Field" ({ cls := "HayTalk$Field", name := "freshFor", desc := "(III)I" } : Jvm.MethodName) ({ cls := "HayTalk$Field", name := "freshFor", desc := "(III)I" } : Jvm.MethodName) ∈ lw_gd := lw_in 474 (by decide +kernel) rfl
theorem jq_475 : Jvm.Cond.code ({ cls := "HayTalk$Field", name := "freshFor", desc := "(III)I" } : Jvm.MethodName) prog_2_method_19_code (5 : Nat) (Option.some Jvm.ClassFile.FieldType.int) ∈ lw_gd := lw_in 475 (by decide +kernel) rfl
theorem jq_476 : Jvm.Cond.methodLink "HayTalk$Field" (122 : Nat) ({ cls := "HayTalk$Field", name := "wordsFromTop", desc := "(II)I" } : Jvm.MethodName) ∈ lw_gd := lw_in 476 (by decide +kernel) rfl
theorem jq_477 : Jvm.Cond.instanceMethod ({ cls := "HayTalk$Field", name := "wordsFromTop", desc := "(II)I" } : Jvm.MethodName) ∈ lw_gd := lw_in 477 (by decide +kernel) rfl
theorem jq_478 : Jvm.Cond.selects "HayTalk$Field" ({ cls := "HayTalk$Field", name := "wordsFromTop", desc := "(II)I" } : Jvm.MethodName) ({ cls := "HayTalk$Field", name := "wordsFromTop", desc := "(II)I" } : Jvm.MethodName) ∈ lw_gd := lw_in 478 (by decide +kernel) rfl
theorem jq_479 : Jvm.Cond.code ({ cls := "HayTalk$Field", name := "wordsFromTop", desc := "(II)I" } : Jvm.MethodName) prog_2_method_8_code (3 : Nat) (Option.some Jvm.ClassFile.FieldType.int) ∈ lw_gd := lw_in 479 (by decide +kernel) rfl
theorem jq_480 : Jvm.Cond.methodLink "HayTalk$Field" (60 : Nat) ({ cls := "HayTalk$Field", name := "wordsOf", desc := "(II)I" } : Jvm.MethodName) ∈ lw_gd := lw_in 480 (by decide +kernel) rfl
theorem jq_481 : Jvm.Cond.methodLinkNest "HayTalk$Field" (125 : Nat) ({ cls := "HayTalk", name := "heardBy", desc := "(III)I" } : Jvm.MethodName) "HayTalk" ∈ lw_nt := lw_inN 481 (by decide +kernel) rfl
theorem jq_482 : Jvm.Cond.static ({ cls := "HayTalk", name := "heardBy", desc := "(III)I" } : Jvm.MethodName) ∈ lw_gd := lw_in 482 (by decide +kernel) rfl
theorem jq_483 : Jvm.Cond.code ({ cls := "HayTalk", name := "heardBy", desc := "(III)I" } : Jvm.MethodName) prog_1_method_39_code (3 : Nat) (Option.some Jvm.ClassFile.FieldType.int) ∈ lw_gd := lw_in 483 (by decide +kernel) rfl
theorem jq_484 : Jvm.Cond.methodLink "HayTalk" (260 : Nat) ({ cls := "HayTalk", name := "wordsAboveAll", desc := "(II)I" } : Jvm.MethodName) ∈ lw_gd := lw_in 484 (by decide +kernel) rfl
theorem jq_485 : Jvm.Cond.static ({ cls := "HayTalk", name := "wordsAboveAll", desc := "(II)I" } : Jvm.MethodName) ∈ lw_gd := lw_in 485 (by decide +kernel) rfl
theorem jq_486 : Jvm.Cond.code ({ cls := "HayTalk", name := "wordsAboveAll", desc := "(II)I" } : Jvm.MethodName) prog_1_method_40_code (4 : Nat) (Option.some Jvm.ClassFile.FieldType.int) ∈ lw_gd := lw_in 486 (by decide +kernel) rfl
theorem jq_499 : Jvm.Cond.code ({ cls := "HayTalk$Field", name := "stack", desc := "(II)V" } : Jvm.MethodName) prog_2_method_17_code (5 : Nat) (Option.none : Option Jvm.ClassFile.FieldType) ∈ lw_gd := lw_in 499 (by decide +kernel) rfl
theorem jq_537 : Jvm.Cond.static ({ cls := "java/lang/Integer", name := "bitCount", desc := "(I)I" } : Jvm.MethodName) ∈ lw_gd := lw_in 537 (by decide +kernel) rfl
theorem jq_538 : Jvm.Cond.code ({ cls := "java/lang/Integer", name := "bitCount", desc := "(I)I" } : Jvm.MethodName) prog_10_method_49_code (1 : Nat) (Option.some Jvm.ClassFile.FieldType.int) ∈ lw_gd := lw_in 538 (by decide +kernel) rfl
theorem jq_539 : Jvm.Cond.constant "java/lang/Integer" (265 : Nat) (1431655765 : Int32) ∈ lw_gd := lw_in 539 (by decide +kernel) rfl
theorem jq_540 : Jvm.Cond.constant "java/lang/Integer" (266 : Nat) (858993459 : Int32) ∈ lw_gd := lw_in 540 (by decide +kernel) rfl
theorem jq_541 : Jvm.Cond.constant "java/lang/Integer" (267 : Nat) (252645135 : Int32) ∈ lw_gd := lw_in 541 (by decide +kernel) rfl
theorem jq_561 : Jvm.Cond.code ({ cls := "HayTalk$Field", name := "placesOf", desc := "(II)I" } : Jvm.MethodName) prog_2_method_12_code (5 : Nat) (Option.some Jvm.ClassFile.FieldType.int) ∈ lw_gd := lw_in 561 (by decide +kernel) rfl
theorem jq_572 : Jvm.Cond.code ({ cls := "HayTalk$Seen", name := "isFull", desc := "()Z" } : Jvm.MethodName) prog_6_method_2_code (1 : Nat) (Option.some Jvm.ClassFile.FieldType.boolean) ∈ lw_gd := lw_in 572 (by decide +kernel) rfl
theorem jq_576 : Jvm.Cond.code ({ cls := "HayTalk$Seen", name := "add", desc := "(II)V" } : Jvm.MethodName) prog_6_method_3_code (3 : Nat) (Option.none : Option Jvm.ClassFile.FieldType) ∈ lw_gd := lw_in 576 (by decide +kernel) rfl
theorem jq_577 : Jvm.Cond.methodLink "HayTalk$Seen" (20 : Nat) ({ cls := "HayTalk$Rows", name := "put", desc := "([III)V" } : Jvm.MethodName) ∈ lw_gd := lw_in 577 (by decide +kernel) rfl
theorem jq_589 : Jvm.Cond.code ({ cls := "HayTalk$Seen", name := "isSoOf", desc := "(LHayTalk$Land;I)Z" } : Jvm.MethodName) prog_6_method_4_code (4 : Nat) (Option.some Jvm.ClassFile.FieldType.boolean) ∈ lw_gd := lw_in 589 (by decide +kernel) rfl
theorem jq_590 : Jvm.Cond.methodLink "HayTalk$Seen" (26 : Nat) ({ cls := "HayTalk$Rows", name := "at", desc := "([II)I" } : Jvm.MethodName) ∈ lw_gd := lw_in 590 (by decide +kernel) rfl
theorem jq_591 : Jvm.Cond.methodLink "HayTalk$Seen" (30 : Nat) ({ cls := "HayTalk$Land", name := "wordOf", desc := "(II)I" } : Jvm.MethodName) ∈ lw_gd := lw_in 591 (by decide +kernel) rfl
theorem jq_625 : Jvm.Cond.code ({ cls := "HayTalk$Field", name := "wordsTold", desc := "()I" } : Jvm.MethodName) prog_2_method_10_code (3 : Nat) (Option.some Jvm.ClassFile.FieldType.int) ∈ lw_gd := lw_in 625 (by decide +kernel) rfl
theorem jq_626 : Jvm.Cond.methodLink "HayTalk$Field" (72 : Nat) ({ cls := "java/lang/Integer", name := "bitCount", desc := "(I)I" } : Jvm.MethodName) ∈ lw_gd := lw_in 626 (by decide +kernel) rfl
theorem jq_629 : Jvm.Cond.code ({ cls := "HayTalk$Rows", name := "sum", desc := "([I)I" } : Jvm.MethodName) prog_5_method_5_code (3 : Nat) (Option.some Jvm.ClassFile.FieldType.int) ∈ lw_gd := lw_in 629 (by decide +kernel) rfl
theorem jq_655 : Jvm.Cond.code ({ cls := "HayTalkModel", name := "lay", desc := "()I" } : Jvm.MethodName) prog_9_method_16_code (2 : Nat) (Option.some Jvm.ClassFile.FieldType.int) ∈ lw_gd := lw_in 655 (by decide +kernel) rfl
theorem jq_656 : Jvm.Cond.methodLink "HayTalkModel" (121 : Nat) ({ cls := "HayTalkModel", name := "fault", desc := "()I" } : Jvm.MethodName) ∈ lw_gd := lw_in 656 (by decide +kernel) rfl
theorem jq_657 : Jvm.Cond.instanceMethod ({ cls := "HayTalkModel", name := "fault", desc := "()I" } : Jvm.MethodName) ∈ lw_gd := lw_in 657 (by decide +kernel) rfl
theorem jq_658 : Jvm.Cond.selects "HayTalkModel" ({ cls := "HayTalkModel", name := "fault", desc := "()I" } : Jvm.MethodName) ({ cls := "HayTalkModel", name := "fault", desc := "()I" } : Jvm.MethodName) ∈ lw_gd := lw_in 658 (by decide +kernel) rfl
theorem jq_659 : Jvm.Cond.code ({ cls := "HayTalkModel", name := "fault", desc := "()I" } : Jvm.MethodName) prog_9_method_14_code (3 : Nat) (Option.some Jvm.ClassFile.FieldType.int) ∈ lw_gd := lw_in 659 (by decide +kernel) rfl
theorem jq_660 : Jvm.Cond.methodLink "HayTalkModel" (118 : Nat) ({ cls := "HayTalkModel", name := "readItem", desc := "(II)Z" } : Jvm.MethodName) ∈ lw_gd := lw_in 660 (by decide +kernel) rfl
theorem jq_662 : Jvm.Cond.instanceMethod ({ cls := "HayTalkModel", name := "readItem", desc := "(II)Z" } : Jvm.MethodName) ∈ lw_gd := lw_in 662 (by decide +kernel) rfl
theorem jq_663 : Jvm.Cond.code ({ cls := "HayTalkModel", name := "readItem", desc := "(II)Z" } : Jvm.MethodName) prog_9_method_13_code (4 : Nat) (Option.some Jvm.ClassFile.FieldType.boolean) ∈ lw_gd := lw_in 663 (by decide +kernel) rfl
theorem jq_664 : Jvm.Cond.methodLink "HayTalkModel" (105 : Nat) ({ cls := "HayTalkModel", name := "readMower", desc := "(II)Z" } : Jvm.MethodName) ∈ lw_gd := lw_in 664 (by decide +kernel) rfl
theorem jq_666 : Jvm.Cond.instanceMethod ({ cls := "HayTalkModel", name := "readMower", desc := "(II)Z" } : Jvm.MethodName) ∈ lw_gd := lw_in 666 (by decide +kernel) rfl
theorem jq_667 : Jvm.Cond.code ({ cls := "HayTalkModel", name := "readMower", desc := "(II)Z" } : Jvm.MethodName) prog_9_method_9_code (4 : Nat) (Option.some Jvm.ClassFile.FieldType.boolean) ∈ lw_gd := lw_in 667 (by decide +kernel) rfl
theorem jq_668 : Jvm.Cond.methodLink "HayTalkModel" (83 : Nat) ({ cls := "HayTalkModel", name := "isRow", desc := "(III)Z" } : Jvm.MethodName) ∈ lw_gd := lw_in 668 (by decide +kernel) rfl
theorem jq_670 : Jvm.Cond.instanceMethod ({ cls := "HayTalkModel", name := "isRow", desc := "(III)Z" } : Jvm.MethodName) ∈ lw_gd := lw_in 670 (by decide +kernel) rfl
theorem jq_671 : Jvm.Cond.code ({ cls := "HayTalkModel", name := "isRow", desc := "(III)Z" } : Jvm.MethodName) prog_9_method_7_code (6 : Nat) (Option.some Jvm.ClassFile.FieldType.boolean) ∈ lw_gd := lw_in 671 (by decide +kernel) rfl
theorem jq_672 : Jvm.Cond.constantLong "HayTalkModel" (77 : Nat) (9 : Int64) ∈ lw_gd := lw_in 672 (by decide +kernel) rfl
theorem jq_673 : Jvm.Cond.methodLink "HayTalkModel" (73 : Nat) ({ cls := "HayTalkModel", name := "in", desc := "(JJJ)Z" } : Jvm.MethodName) ∈ lw_gd := lw_in 673 (by decide +kernel) rfl
theorem jq_674 : Jvm.Cond.static ({ cls := "HayTalkModel", name := "in", desc := "(JJJ)Z" } : Jvm.MethodName) ∈ lw_gd := lw_in 674 (by decide +kernel) rfl
theorem jq_675 : Jvm.Cond.code ({ cls := "HayTalkModel", name := "in", desc := "(JJJ)Z" } : Jvm.MethodName) prog_9_method_2_code (6 : Nat) (Option.some Jvm.ClassFile.FieldType.boolean) ∈ lw_gd := lw_in 675 (by decide +kernel) rfl
theorem jq_676 : Jvm.Cond.constantLong "HayTalkModel" (79 : Nat) (48 : Int64) ∈ lw_gd := lw_in 676 (by decide +kernel) rfl
theorem jq_677 : Jvm.Cond.methodLink "HayTalkModel" (109 : Nat) ({ cls := "HayTalkModel", name := "readWeather", desc := "(II)Z" } : Jvm.MethodName) ∈ lw_gd := lw_in 677 (by decide +kernel) rfl
theorem jq_679 : Jvm.Cond.instanceMethod ({ cls := "HayTalkModel", name := "readWeather", desc := "(II)Z" } : Jvm.MethodName) ∈ lw_gd := lw_in 679 (by decide +kernel) rfl
theorem jq_680 : Jvm.Cond.code ({ cls := "HayTalkModel", name := "readWeather", desc := "(II)Z" } : Jvm.MethodName) prog_9_method_10_code (4 : Nat) (Option.some Jvm.ClassFile.FieldType.boolean) ∈ lw_gd := lw_in 680 (by decide +kernel) rfl
theorem jq_681 : Jvm.Cond.methodLink "HayTalkModel" (112 : Nat) ({ cls := "HayTalkModel", name := "readCow", desc := "(II)Z" } : Jvm.MethodName) ∈ lw_gd := lw_in 681 (by decide +kernel) rfl
theorem jq_683 : Jvm.Cond.instanceMethod ({ cls := "HayTalkModel", name := "readCow", desc := "(II)Z" } : Jvm.MethodName) ∈ lw_gd := lw_in 683 (by decide +kernel) rfl
theorem jq_684 : Jvm.Cond.code ({ cls := "HayTalkModel", name := "readCow", desc := "(II)Z" } : Jvm.MethodName) prog_9_method_11_code (4 : Nat) (Option.some Jvm.ClassFile.FieldType.boolean) ∈ lw_gd := lw_in 684 (by decide +kernel) rfl
theorem jq_685 : Jvm.Cond.methodLink "HayTalkModel" (93 : Nat) ({ cls := "HayTalkModel", name := "numberOf", desc := "(II)I" } : Jvm.MethodName) ∈ lw_gd := lw_in 685 (by decide +kernel) rfl
theorem jq_687 : Jvm.Cond.instanceMethod ({ cls := "HayTalkModel", name := "numberOf", desc := "(II)I" } : Jvm.MethodName) ∈ lw_gd := lw_in 687 (by decide +kernel) rfl
theorem jq_688 : Jvm.Cond.code ({ cls := "HayTalkModel", name := "numberOf", desc := "(II)I" } : Jvm.MethodName) prog_9_method_8_code (3 : Nat) (Option.some Jvm.ClassFile.FieldType.int) ∈ lw_gd := lw_in 688 (by decide +kernel) rfl
theorem jq_689 : Jvm.Cond.constantLong "HayTalkModel" (81 : Nat) (2 : Int64) ∈ lw_gd := lw_in 689 (by decide +kernel) rfl
theorem jq_690 : Jvm.Cond.constantLong "HayTalkModel" (100 : Nat) (3 : Int64) ∈ lw_gd := lw_in 690 (by decide +kernel) rfl
theorem jq_691 : Jvm.Cond.methodLink "HayTalkModel" (115 : Nat) ({ cls := "HayTalkModel", name := "readRick", desc := "(II)Z" } : Jvm.MethodName) ∈ lw_gd := lw_in 691 (by decide +kernel) rfl
theorem jq_693 : Jvm.Cond.instanceMethod ({ cls := "HayTalkModel", name := "readRick", desc := "(II)Z" } : Jvm.MethodName) ∈ lw_gd := lw_in 693 (by decide +kernel) rfl
theorem jq_694 : Jvm.Cond.code ({ cls := "HayTalkModel", name := "readRick", desc := "(II)Z" } : Jvm.MethodName) prog_9_method_12_code (4 : Nat) (Option.some Jvm.ClassFile.FieldType.boolean) ∈ lw_gd := lw_in 694 (by decide +kernel) rfl
theorem jq_695 : Jvm.Cond.methodLink "HayTalkModel" (136 : Nat) ({ cls := "HayTalkModel", name := "take", desc := "([I[I)V" } : Jvm.MethodName) ∈ lw_gd := lw_in 695 (by decide +kernel) rfl
theorem jq_696 : Jvm.Cond.static ({ cls := "HayTalkModel", name := "take", desc := "([I[I)V" } : Jvm.MethodName) ∈ lw_gd := lw_in 696 (by decide +kernel) rfl
theorem jq_697 : Jvm.Cond.code ({ cls := "HayTalkModel", name := "take", desc := "([I[I)V" } : Jvm.MethodName) prog_9_method_15_code (3 : Nat) (Option.none : Option Jvm.ClassFile.FieldType) ∈ lw_gd := lw_in 697 (by decide +kernel) rfl
theorem jq_698 : Jvm.Cond.fieldLink "HayTalkModel" (7 : Nat) "HayTalkModel" "text" "[I" ∈ lw_gd := lw_in 698 (by decide +kernel) rfl
theorem jq_699 : Jvm.Cond.fieldLink "HayTalkModel" (61 : Nat) "HayTalkModel" "letters" "I" ∈ lw_gd := lw_in 699 (by decide +kernel) rfl
theorem jq_700 : Jvm.Cond.fieldLink "HayTalkModel" (124 : Nat) "HayTalkModel" "mowers" "I" ∈ lw_gd := lw_in 700 (by decide +kernel) rfl
theorem jq_701 : Jvm.Cond.fieldLink "HayTalkModel" (127 : Nat) "HayTalkModel" "cows" "I" ∈ lw_gd := lw_in 701 (by decide +kernel) rfl
theorem jq_702 : Jvm.Cond.fieldLink "HayTalkModel" (130 : Nat) "HayTalkModel" "ricks" "I" ∈ lw_gd := lw_in 702 (by decide +kernel) rfl
theorem jq_703 : Jvm.Cond.fieldLink "HayTalkModel" (133 : Nat) "HayTalkModel" "weathers" "I" ∈ lw_gd := lw_in 703 (by decide +kernel) rfl
theorem jq_704 : Jvm.Cond.fieldLink "HayTalkModel" (13 : Nat) "HayTalkModel" "says" "[I" ∈ lw_gd := lw_in 704 (by decide +kernel) rfl
theorem jq_705 : Jvm.Cond.fieldLink "HayTalkModel" (16 : Nat) "HayTalkModel" "words" "[I" ∈ lw_gd := lw_in 705 (by decide +kernel) rfl
theorem jq_706 : Jvm.Cond.fieldLink "HayTalkModel" (19 : Nat) "HayTalkModel" "weather" "[I" ∈ lw_gd := lw_in 706 (by decide +kernel) rfl
theorem jq_707 : Jvm.Cond.fieldLink "HayTalkModel" (22 : Nat) "HayTalkModel" "kindOf" "[I" ∈ lw_gd := lw_in 707 (by decide +kernel) rfl
theorem jq_708 : Jvm.Cond.fieldLink "HayTalkModel" (25 : Nat) "HayTalkModel" "thatch" "[I" ∈ lw_gd := lw_in 708 (by decide +kernel) rfl
theorem jq_709 : Jvm.Cond.fieldLink "HayTalkModel" (87 : Nat) "HayTalkModel" "newMowers" "I" ∈ lw_gd := lw_in 709 (by decide +kernel) rfl
theorem jq_710 : Jvm.Cond.fieldLink "HayTalkModel" (97 : Nat) "HayTalkModel" "newCows" "I" ∈ lw_gd := lw_in 710 (by decide +kernel) rfl
theorem jq_711 : Jvm.Cond.fieldLink "HayTalkModel" (102 : Nat) "HayTalkModel" "newRicks" "I" ∈ lw_gd := lw_in 711 (by decide +kernel) rfl
theorem jq_712 : Jvm.Cond.fieldLink "HayTalkModel" (90 : Nat) "HayTalkModel" "newWeathers" "I" ∈ lw_gd := lw_in 712 (by decide +kernel) rfl
theorem jq_713 : Jvm.Cond.fieldLink "HayTalkModel" (28 : Nat) "HayTalkModel" "newSays" "[I" ∈ lw_gd := lw_in 713 (by decide +kernel) rfl
theorem jq_714 : Jvm.Cond.fieldLink "HayTalkModel" (31 : Nat) "HayTalkModel" "newWords" "[I" ∈ lw_gd := lw_in 714 (by decide +kernel) rfl
theorem jq_715 : Jvm.Cond.fieldLink "HayTalkModel" (34 : Nat) "HayTalkModel" "newWeather" "[I" ∈ lw_gd := lw_in 715 (by decide +kernel) rfl
theorem jq_716 : Jvm.Cond.fieldLink "HayTalkModel" (37 : Nat) "HayTalkModel" "newKind" "[I" ∈ lw_gd := lw_in 716 (by decide +kernel) rfl
theorem jq_717 : Jvm.Cond.fieldLink "HayTalkModel" (40 : Nat) "HayTalkModel" "newThatch" "[I" ∈ lw_gd := lw_in 717 (by decide +kernel) rfl
theorem jq_718 : Jvm.Cond.fieldLink "HayTalkModel" (43 : Nat) "HayTalkModel" "st" "[I" ∈ lw_gd := lw_in 718 (by decide +kernel) rfl
theorem jq_719 : Jvm.Cond.fieldLink "HayTalkModel" (143 : Nat) "HayTalkModel" "pasts" "I" ∈ lw_gd := lw_in 719 (by decide +kernel) rfl
theorem jq_720 : Jvm.Cond.fieldLink "HayTalkModel" (46 : Nat) "HayTalkModel" "past" "[I" ∈ lw_gd := lw_in 720 (by decide +kernel) rfl
theorem jq_721 : Jvm.Cond.fieldLink "HayTalkModel" (49 : Nat) "HayTalkModel" "aside" "[I" ∈ lw_gd := lw_in 721 (by decide +kernel) rfl
theorem jq_722 : Jvm.Cond.fieldLink "HayTalkModel" (140 : Nat) "HayTalkModel" "seen" "I" ∈ lw_gd := lw_in 722 (by decide +kernel) rfl
theorem jq_723 : Jvm.Cond.fieldLink "HayTalkModel" (52 : Nat) "HayTalkModel" "seenWord" "[I" ∈ lw_gd := lw_in 723 (by decide +kernel) rfl
theorem jq_724 : Jvm.Cond.fieldLink "HayTalkModel" (55 : Nat) "HayTalkModel" "seenHour" "[I" ∈ lw_gd := lw_in 724 (by decide +kernel) rfl
theorem jq_725 : Jvm.Cond.fieldLink "HayTalkModel" (146 : Nat) "HayTalkModel" "keeps" "I" ∈ lw_gd := lw_in 725 (by decide +kernel) rfl
theorem jq_726 : Jvm.Cond.fieldLink "HayTalkModel" (58 : Nat) "HayTalkModel" "kept" "[I" ∈ lw_gd := lw_in 726 (by decide +kernel) rfl
theorem jq_789 : Jvm.Cond.code ({ cls := "HayTalkModel", name := "write", desc := "(I)I" } : Jvm.MethodName) prog_9_method_5_code (2 : Nat) (Option.some Jvm.ClassFile.FieldType.int) ∈ lw_gd := lw_in 789 (by decide +kernel) rfl
theorem jq_790 : Jvm.Cond.constantLong "HayTalkModel" (69 : Nat) (32 : Int64) ∈ lw_gd := lw_in 790 (by decide +kernel) rfl
theorem jq_791 : Jvm.Cond.constantLong "HayTalkModel" (71 : Nat) (126 : Int64) ∈ lw_gd := lw_in 791 (by decide +kernel) rfl
theorem jq_795 : Jvm.Cond.code ({ cls := "HayTalkModel", name := "wipe", desc := "()I" } : Jvm.MethodName) prog_9_method_6_code (2 : Nat) (Option.some Jvm.ClassFile.FieldType.int) ∈ lw_gd := lw_in 795 (by decide +kernel) rfl
theorem jq_801 : Jvm.Cond.code ({ cls := "HayTalkModel", name := "mower", desc := "(II)I" } : Jvm.MethodName) prog_9_method_21_code (3 : Nat) (Option.some Jvm.ClassFile.FieldType.int) ∈ lw_gd := lw_in 801 (by decide +kernel) rfl
theorem jq_802 : Jvm.Cond.methodLink "HayTalkModel" (149 : Nat) ({ cls := "HayTalkModel", name := "isMower", desc := "(I)Z" } : Jvm.MethodName) ∈ lw_gd := lw_in 802 (by decide +kernel) rfl
theorem jq_804 : Jvm.Cond.instanceMethod ({ cls := "HayTalkModel", name := "isMower", desc := "(I)Z" } : Jvm.MethodName) ∈ lw_gd := lw_in 804 (by decide +kernel) rfl
theorem jq_805 : Jvm.Cond.code ({ cls := "HayTalkModel", name := "isMower", desc := "(I)Z" } : Jvm.MethodName) prog_9_method_17_code (2 : Nat) (Option.some Jvm.ClassFile.FieldType.boolean) ∈ lw_gd := lw_in 805 (by decide +kernel) rfl
theorem jq_806 : Jvm.Cond.methodLink "HayTalkModel" (153 : Nat) ({ cls := "HayTalkModel", name := "nextWord", desc := "(II)I" } : Jvm.MethodName) ∈ lw_gd := lw_in 806 (by decide +kernel) rfl
theorem jq_808 : Jvm.Cond.instanceMethod ({ cls := "HayTalkModel", name := "nextWord", desc := "(II)I" } : Jvm.MethodName) ∈ lw_gd := lw_in 808 (by decide +kernel) rfl
theorem jq_809 : Jvm.Cond.code ({ cls := "HayTalkModel", name := "nextWord", desc := "(II)I" } : Jvm.MethodName) prog_9_method_20_code (3 : Nat) (Option.some Jvm.ClassFile.FieldType.int) ∈ lw_gd := lw_in 809 (by decide +kernel) rfl
theorem jq_813 : Jvm.Cond.code ({ cls := "HayTalkModel", name := "cow", desc := "(II)I" } : Jvm.MethodName) prog_9_method_22_code (3 : Nat) (Option.some Jvm.ClassFile.FieldType.int) ∈ lw_gd := lw_in 813 (by decide +kernel) rfl
theorem jq_814 : Jvm.Cond.methodLink "HayTalkModel" (156 : Nat) ({ cls := "HayTalkModel", name := "isCow", desc := "(I)Z" } : Jvm.MethodName) ∈ lw_gd := lw_in 814 (by decide +kernel) rfl
theorem jq_816 : Jvm.Cond.instanceMethod ({ cls := "HayTalkModel", name := "isCow", desc := "(I)Z" } : Jvm.MethodName) ∈ lw_gd := lw_in 816 (by decide +kernel) rfl
theorem jq_817 : Jvm.Cond.code ({ cls := "HayTalkModel", name := "isCow", desc := "(I)Z" } : Jvm.MethodName) prog_9_method_18_code (2 : Nat) (Option.some Jvm.ClassFile.FieldType.boolean) ∈ lw_gd := lw_in 817 (by decide +kernel) rfl
theorem jq_821 : Jvm.Cond.code ({ cls := "HayTalkModel", name := "rick", desc := "(II)I" } : Jvm.MethodName) prog_9_method_24_code (3 : Nat) (Option.some Jvm.ClassFile.FieldType.int) ∈ lw_gd := lw_in 821 (by decide +kernel) rfl
theorem jq_822 : Jvm.Cond.methodLink "HayTalkModel" (159 : Nat) ({ cls := "HayTalkModel", name := "isRick", desc := "(I)Z" } : Jvm.MethodName) ∈ lw_gd := lw_in 822 (by decide +kernel) rfl
theorem jq_824 : Jvm.Cond.instanceMethod ({ cls := "HayTalkModel", name := "isRick", desc := "(I)Z" } : Jvm.MethodName) ∈ lw_gd := lw_in 824 (by decide +kernel) rfl
theorem jq_825 : Jvm.Cond.code ({ cls := "HayTalkModel", name := "isRick", desc := "(I)Z" } : Jvm.MethodName) prog_9_method_19_code (2 : Nat) (Option.some Jvm.ClassFile.FieldType.boolean) ∈ lw_gd := lw_in 825 (by decide +kernel) rfl
theorem jq_826 : Jvm.Cond.methodLink "HayTalkModel" (162 : Nat) ({ cls := "HayTalkModel", name := "hottest", desc := "(I)I" } : Jvm.MethodName) ∈ lw_gd := lw_in 826 (by decide +kernel) rfl
theorem jq_828 : Jvm.Cond.instanceMethod ({ cls := "HayTalkModel", name := "hottest", desc := "(I)I" } : Jvm.MethodName) ∈ lw_gd := lw_in 828 (by decide +kernel) rfl
theorem jq_829 : Jvm.Cond.code ({ cls := "HayTalkModel", name := "hottest", desc := "(I)I" } : Jvm.MethodName) prog_9_method_23_code (5 : Nat) (Option.some Jvm.ClassFile.FieldType.int) ∈ lw_gd := lw_in 829 (by decide +kernel) rfl
theorem jq_833 : Jvm.Cond.code ({ cls := "HayTalkModel", name := "layer", desc := "(III)I" } : Jvm.MethodName) prog_9_method_25_code (5 : Nat) (Option.some Jvm.ClassFile.FieldType.int) ∈ lw_gd := lw_in 833 (by decide +kernel) rfl
theorem jq_837 : Jvm.Cond.code ({ cls := "HayTalkModel", name := "undo", desc := "()I" } : Jvm.MethodName) prog_9_method_27_code (2 : Nat) (Option.some Jvm.ClassFile.FieldType.int) ∈ lw_gd := lw_in 837 (by decide +kernel) rfl
theorem jq_841 : Jvm.Cond.code ({ cls := "HayTalkModel", name := "pass", desc := "(I)I" } : Jvm.MethodName) prog_9_method_32_code (3 : Nat) (Option.some Jvm.ClassFile.FieldType.int) ∈ lw_gd := lw_in 841 (by decide +kernel) rfl
theorem jq_842 : Jvm.Cond.constantLong "HayTalkModel" (176 : Nat) (24 : Int64) ∈ lw_gd := lw_in 842 (by decide +kernel) rfl
theorem jq_843 : Jvm.Cond.methodLink "HayTalkModel" (178 : Nat) ({ cls := "HayTalkModel", name := "note", desc := "()V" } : Jvm.MethodName) ∈ lw_gd := lw_in 843 (by decide +kernel) rfl
theorem jq_845 : Jvm.Cond.instanceMethod ({ cls := "HayTalkModel", name := "note", desc := "()V" } : Jvm.MethodName) ∈ lw_gd := lw_in 845 (by decide +kernel) rfl
theorem jq_846 : Jvm.Cond.code ({ cls := "HayTalkModel", name := "note", desc := "()V" } : Jvm.MethodName) prog_9_method_26_code (2 : Nat) (Option.none : Option Jvm.ClassFile.FieldType) ∈ lw_gd := lw_in 846 (by decide +kernel) rfl
theorem jq_847 : Jvm.Cond.methodLink "HayTalkModel" (181 : Nat) ({ cls := "HayTalkModel", name := "oneHour", desc := "()V" } : Jvm.MethodName) ∈ lw_gd := lw_in 847 (by decide +kernel) rfl
theorem jq_849 : Jvm.Cond.instanceMethod ({ cls := "HayTalkModel", name := "oneHour", desc := "()V" } : Jvm.MethodName) ∈ lw_gd := lw_in 849 (by decide +kernel) rfl
theorem jq_850 : Jvm.Cond.code ({ cls := "HayTalkModel", name := "oneHour", desc := "()V" } : Jvm.MethodName) prog_9_method_31_code (2 : Nat) (Option.none : Option Jvm.ClassFile.FieldType) ∈ lw_gd := lw_in 850 (by decide +kernel) rfl
theorem jq_851 : Jvm.Cond.methodLink "HayTalkModel" (166 : Nat) ({ cls := "HayTalkModel", name := "heat", desc := "(I)V" } : Jvm.MethodName) ∈ lw_gd := lw_in 851 (by decide +kernel) rfl
theorem jq_853 : Jvm.Cond.instanceMethod ({ cls := "HayTalkModel", name := "heat", desc := "(I)V" } : Jvm.MethodName) ∈ lw_gd := lw_in 853 (by decide +kernel) rfl
theorem jq_854 : Jvm.Cond.code ({ cls := "HayTalkModel", name := "heat", desc := "(I)V" } : Jvm.MethodName) prog_9_method_29_code (4 : Nat) (Option.none : Option Jvm.ClassFile.FieldType) ∈ lw_gd := lw_in 854 (by decide +kernel) rfl
theorem jq_855 : Jvm.Cond.methodLink "HayTalkModel" (170 : Nat) ({ cls := "HayTalkModel", name := "rains", desc := "(I)I" } : Jvm.MethodName) ∈ lw_gd := lw_in 855 (by decide +kernel) rfl
theorem jq_857 : Jvm.Cond.instanceMethod ({ cls := "HayTalkModel", name := "rains", desc := "(I)I" } : Jvm.MethodName) ∈ lw_gd := lw_in 857 (by decide +kernel) rfl
theorem jq_858 : Jvm.Cond.code ({ cls := "HayTalkModel", name := "rains", desc := "(I)I" } : Jvm.MethodName) prog_9_method_30_code (2 : Nat) (Option.some Jvm.ClassFile.FieldType.int) ∈ lw_gd := lw_in 858 (by decide +kernel) rfl
theorem jq_859 : Jvm.Cond.methodLink "HayTalkModel" (173 : Nat) ({ cls := "HayTalkModel", name := "wetter", desc := "(II)I" } : Jvm.MethodName) ∈ lw_gd := lw_in 859 (by decide +kernel) rfl
theorem jq_861 : Jvm.Cond.instanceMethod ({ cls := "HayTalkModel", name := "wetter", desc := "(II)I" } : Jvm.MethodName) ∈ lw_gd := lw_in 861 (by decide +kernel) rfl
theorem jq_862 : Jvm.Cond.code ({ cls := "HayTalkModel", name := "wetter", desc := "(II)I" } : Jvm.MethodName) prog_9_method_28_code (3 : Nat) (Option.some Jvm.ClassFile.FieldType.int) ∈ lw_gd := lw_in 862 (by decide +kernel) rfl
theorem jq_866 : Jvm.Cond.code ({ cls := "HayTalkModel", name := "rake", desc := "(III)I" } : Jvm.MethodName) prog_9_method_35_code (4 : Nat) (Option.some Jvm.ClassFile.FieldType.int) ∈ lw_gd := lw_in 866 (by decide +kernel) rfl
theorem jq_867 : Jvm.Cond.methodLink "HayTalkModel" (184 : Nat) ({ cls := "HayTalkModel", name := "lying", desc := "(II)I" } : Jvm.MethodName) ∈ lw_gd := lw_in 867 (by decide +kernel) rfl
theorem jq_869 : Jvm.Cond.instanceMethod ({ cls := "HayTalkModel", name := "lying", desc := "(II)I" } : Jvm.MethodName) ∈ lw_gd := lw_in 869 (by decide +kernel) rfl
theorem jq_870 : Jvm.Cond.code ({ cls := "HayTalkModel", name := "lying", desc := "(II)I" } : Jvm.MethodName) prog_9_method_33_code (5 : Nat) (Option.some Jvm.ClassFile.FieldType.int) ∈ lw_gd := lw_in 870 (by decide +kernel) rfl
theorem jq_871 : Jvm.Cond.methodLink "HayTalkModel" (187 : Nat) ({ cls := "HayTalkModel", name := "rakeIn", desc := "(III)V" } : Jvm.MethodName) ∈ lw_gd := lw_in 871 (by decide +kernel) rfl
theorem jq_873 : Jvm.Cond.instanceMethod ({ cls := "HayTalkModel", name := "rakeIn", desc := "(III)V" } : Jvm.MethodName) ∈ lw_gd := lw_in 873 (by decide +kernel) rfl
theorem jq_874 : Jvm.Cond.code ({ cls := "HayTalkModel", name := "rakeIn", desc := "(III)V" } : Jvm.MethodName) prog_9_method_34_code (7 : Nat) (Option.none : Option Jvm.ClassFile.FieldType) ∈ lw_gd := lw_in 874 (by decide +kernel) rfl
theorem jq_878 : Jvm.Cond.code ({ cls := "HayTalkModel", name := "cut", desc := "(II)I" } : Jvm.MethodName) prog_9_method_39_code (3 : Nat) (Option.some Jvm.ClassFile.FieldType.int) ∈ lw_gd := lw_in 878 (by decide +kernel) rfl
theorem jq_879 : Jvm.Cond.methodLink "HayTalkModel" (198 : Nat) ({ cls := "HayTalkModel", name := "cutFor", desc := "(II)I" } : Jvm.MethodName) ∈ lw_gd := lw_in 879 (by decide +kernel) rfl
theorem jq_881 : Jvm.Cond.instanceMethod ({ cls := "HayTalkModel", name := "cutFor", desc := "(II)I" } : Jvm.MethodName) ∈ lw_gd := lw_in 881 (by decide +kernel) rfl
theorem jq_882 : Jvm.Cond.code ({ cls := "HayTalkModel", name := "cutFor", desc := "(II)I" } : Jvm.MethodName) prog_9_method_38_code (5 : Nat) (Option.some Jvm.ClassFile.FieldType.int) ∈ lw_gd := lw_in 882 (by decide +kernel) rfl
theorem jq_883 : Jvm.Cond.methodLink "HayTalkModel" (191 : Nat) ({ cls := "HayTalkModel", name := "top", desc := "(I)I" } : Jvm.MethodName) ∈ lw_gd := lw_in 883 (by decide +kernel) rfl
theorem jq_885 : Jvm.Cond.instanceMethod ({ cls := "HayTalkModel", name := "top", desc := "(I)I" } : Jvm.MethodName) ∈ lw_gd := lw_in 885 (by decide +kernel) rfl
theorem jq_886 : Jvm.Cond.code ({ cls := "HayTalkModel", name := "top", desc := "(I)I" } : Jvm.MethodName) prog_9_method_37_code (2 : Nat) (Option.some Jvm.ClassFile.FieldType.int) ∈ lw_gd := lw_in 886 (by decide +kernel) rfl
theorem jq_887 : Jvm.Cond.methodLink "HayTalkModel" (194 : Nat) ({ cls := "HayTalkModel", name := "hears", desc := "(III)I" } : Jvm.MethodName) ∈ lw_gd := lw_in 887 (by decide +kernel) rfl
theorem jq_888 : Jvm.Cond.static ({ cls := "HayTalkModel", name := "hears", desc := "(III)I" } : Jvm.MethodName) ∈ lw_gd := lw_in 888 (by decide +kernel) rfl
theorem jq_889 : Jvm.Cond.code ({ cls := "HayTalkModel", name := "hears", desc := "(III)I" } : Jvm.MethodName) prog_9_method_36_code (4 : Nat) (Option.some Jvm.ClassFile.FieldType.int) ∈ lw_gd := lw_in 889 (by decide +kernel) rfl
theorem jq_893 : Jvm.Cond.code ({ cls := "HayTalkModel", name := "turn", desc := "(I)I" } : Jvm.MethodName) prog_9_method_40_code (3 : Nat) (Option.some Jvm.ClassFile.FieldType.int) ∈ lw_gd := lw_in 893 (by decide +kernel) rfl
theorem jq_897 : Jvm.Cond.code ({ cls := "HayTalkModel", name := "heap", desc := "(II)I" } : Jvm.MethodName) prog_9_method_41_code (7 : Nat) (Option.some Jvm.ClassFile.FieldType.int) ∈ lw_gd := lw_in 897 (by decide +kernel) rfl
theorem jq_901 : Jvm.Cond.code ({ cls := "HayTalkModel", name := "behind", desc := "(III)I" } : Jvm.MethodName) prog_9_method_42_code (5 : Nat) (Option.some Jvm.ClassFile.FieldType.int) ∈ lw_gd := lw_in 901 (by decide +kernel) rfl
theorem jq_902 : Jvm.Cond.constantLong "HayTalkModel" (201 : Nat) (40 : Int64) ∈ lw_gd := lw_in 902 (by decide +kernel) rfl
theorem jq_906 : Jvm.Cond.code ({ cls := "HayTalkModel", name := "burns", desc := "(I)I" } : Jvm.MethodName) prog_9_method_43_code (4 : Nat) (Option.some Jvm.ClassFile.FieldType.int) ∈ lw_gd := lw_in 906 (by decide +kernel) rfl
theorem jq_910 : Jvm.Cond.code ({ cls := "HayTalkModel", name := "tell", desc := "(III)I" } : Jvm.MethodName) prog_9_method_45_code (9 : Nat) (Option.some Jvm.ClassFile.FieldType.int) ∈ lw_gd := lw_in 910 (by decide +kernel) rfl
theorem jq_911 : Jvm.Cond.constantLong "HayTalkModel" (203 : Nat) (1023 : Int64) ∈ lw_gd := lw_in 911 (by decide +kernel) rfl
theorem jq_912 : Jvm.Cond.methodLink "HayTalkModel" (205 : Nat) ({ cls := "HayTalkModel", name := "toldBy", desc := "(IIII)I" } : Jvm.MethodName) ∈ lw_gd := lw_in 912 (by decide +kernel) rfl
theorem jq_914 : Jvm.Cond.instanceMethod ({ cls := "HayTalkModel", name := "toldBy", desc := "(IIII)I" } : Jvm.MethodName) ∈ lw_gd := lw_in 914 (by decide +kernel) rfl
theorem jq_915 : Jvm.Cond.code ({ cls := "HayTalkModel", name := "toldBy", desc := "(IIII)I" } : Jvm.MethodName) prog_9_method_44_code (9 : Nat) (Option.some Jvm.ClassFile.FieldType.int) ∈ lw_gd := lw_in 915 (by decide +kernel) rfl
theorem jq_919 : Jvm.Cond.code ({ cls := "HayTalkModel", name := "rakes", desc := "(I)I" } : Jvm.MethodName) prog_9_method_46_code (7 : Nat) (Option.some Jvm.ClassFile.FieldType.int) ∈ lw_gd := lw_in 919 (by decide +kernel) rfl
theorem jq_920 : Jvm.Cond.methodLink "HayTalkModel" (209 : Nat) ({ cls := "HayTalkModel", name := "ones", desc := "(I)I" } : Jvm.MethodName) ∈ lw_gd := lw_in 920 (by decide +kernel) rfl
theorem jq_921 : Jvm.Cond.static ({ cls := "HayTalkModel", name := "ones", desc := "(I)I" } : Jvm.MethodName) ∈ lw_gd := lw_in 921 (by decide +kernel) rfl
theorem jq_922 : Jvm.Cond.code ({ cls := "HayTalkModel", name := "ones", desc := "(I)I" } : Jvm.MethodName) prog_9_method_4_code (3 : Nat) (Option.some Jvm.ClassFile.FieldType.int) ∈ lw_gd := lw_in 922 (by decide +kernel) rfl
theorem jq_926 : Jvm.Cond.code ({ cls := "HayTalkModel", name := "most", desc := "(II)I" } : Jvm.MethodName) prog_9_method_47_code (7 : Nat) (Option.some Jvm.ClassFile.FieldType.int) ∈ lw_gd := lw_in 926 (by decide +kernel) rfl
theorem jq_930 : Jvm.Cond.code ({ cls := "HayTalkModel", name := "first", desc := "(II)I" } : Jvm.MethodName) prog_9_method_48_code (5 : Nat) (Option.some Jvm.ClassFile.FieldType.int) ∈ lw_gd := lw_in 930 (by decide +kernel) rfl
theorem jq_934 : Jvm.Cond.code ({ cls := "HayTalkModel", name := "needle", desc := "(III)I" } : Jvm.MethodName) prog_9_method_51_code (6 : Nat) (Option.some Jvm.ClassFile.FieldType.int) ∈ lw_gd := lw_in 934 (by decide +kernel) rfl
theorem jq_935 : Jvm.Cond.methodLink "HayTalkModel" (215 : Nat) ({ cls := "HayTalkModel", name := "weight", desc := "(II)I" } : Jvm.MethodName) ∈ lw_gd := lw_in 935 (by decide +kernel) rfl
theorem jq_937 : Jvm.Cond.instanceMethod ({ cls := "HayTalkModel", name := "weight", desc := "(II)I" } : Jvm.MethodName) ∈ lw_gd := lw_in 937 (by decide +kernel) rfl
theorem jq_938 : Jvm.Cond.code ({ cls := "HayTalkModel", name := "weight", desc := "(II)I" } : Jvm.MethodName) prog_9_method_50_code (5 : Nat) (Option.some Jvm.ClassFile.FieldType.int) ∈ lw_gd := lw_in 938 (by decide +kernel) rfl
theorem jq_939 : Jvm.Cond.methodLink "HayTalkModel" (212 : Nat) ({ cls := "HayTalkModel", name := "has", desc := "(II)Z" } : Jvm.MethodName) ∈ lw_gd := lw_in 939 (by decide +kernel) rfl
theorem jq_940 : Jvm.Cond.static ({ cls := "HayTalkModel", name := "has", desc := "(II)Z" } : Jvm.MethodName) ∈ lw_gd := lw_in 940 (by decide +kernel) rfl
theorem jq_941 : Jvm.Cond.code ({ cls := "HayTalkModel", name := "has", desc := "(II)Z" } : Jvm.MethodName) prog_9_method_3_code (2 : Nat) (Option.some Jvm.ClassFile.FieldType.boolean) ∈ lw_gd := lw_in 941 (by decide +kernel) rfl
theorem jq_942 : Jvm.Cond.methodLink "HayTalkModel" (218 : Nat) ({ cls := "HayTalkModel", name := "common", desc := "(II)I" } : Jvm.MethodName) ∈ lw_gd := lw_in 942 (by decide +kernel) rfl
theorem jq_943 : Jvm.Cond.static ({ cls := "HayTalkModel", name := "common", desc := "(II)I" } : Jvm.MethodName) ∈ lw_gd := lw_in 943 (by decide +kernel) rfl
theorem jq_944 : Jvm.Cond.code ({ cls := "HayTalkModel", name := "common", desc := "(II)I" } : Jvm.MethodName) prog_9_method_49_code (5 : Nat) (Option.some Jvm.ClassFile.FieldType.int) ∈ lw_gd := lw_in 944 (by decide +kernel) rfl
theorem jq_948 : Jvm.Cond.code ({ cls := "HayTalkModel", name := "see", desc := "(II)I" } : Jvm.MethodName) prog_9_method_52_code (3 : Nat) (Option.some Jvm.ClassFile.FieldType.int) ∈ lw_gd := lw_in 948 (by decide +kernel) rfl
theorem jq_949 : Jvm.Cond.constantLong "HayTalkModel" (221 : Nat) (99 : Int64) ∈ lw_gd := lw_in 949 (by decide +kernel) rfl
theorem jq_953 : Jvm.Cond.code ({ cls := "HayTalkModel", name := "forget", desc := "()I" } : Jvm.MethodName) prog_9_method_53_code (2 : Nat) (Option.some Jvm.ClassFile.FieldType.int) ∈ lw_gd := lw_in 953 (by decide +kernel) rfl
theorem jq_957 : Jvm.Cond.code ({ cls := "HayTalkModel", name := "which", desc := "()I" } : Jvm.MethodName) prog_9_method_54_code (5 : Nat) (Option.some Jvm.ClassFile.FieldType.int) ∈ lw_gd := lw_in 957 (by decide +kernel) rfl
theorem jq_961 : Jvm.Cond.code ({ cls := "HayTalkModel", name := "kinds", desc := "(II)I" } : Jvm.MethodName) prog_9_method_55_code (5 : Nat) (Option.some Jvm.ClassFile.FieldType.int) ∈ lw_gd := lw_in 961 (by decide +kernel) rfl
theorem jq_965 : Jvm.Cond.code ({ cls := "HayTalkModel", name := "rain", desc := "(IIIII)I" } : Jvm.MethodName) prog_9_method_56_code (12 : Nat) (Option.some Jvm.ClassFile.FieldType.int) ∈ lw_gd := lw_in 965 (by decide +kernel) rfl
theorem jq_966 : Jvm.Cond.constantLong "HayTalkModel" (223 : Nat) (8 : Int64) ∈ lw_gd := lw_in 966 (by decide +kernel) rfl
theorem jq_967 : Jvm.Cond.constantLong "HayTalkModel" (225 : Nat) (10 : Int64) ∈ lw_gd := lw_in 967 (by decide +kernel) rfl
theorem jq_971 : Jvm.Cond.code ({ cls := "HayTalkModel", name := "february", desc := "(III)I" } : Jvm.MethodName) prog_9_method_60_code (8 : Nat) (Option.some Jvm.ClassFile.FieldType.int) ∈ lw_gd := lw_in 971 (by decide +kernel) rfl
theorem jq_972 : Jvm.Cond.constantLong "HayTalkModel" (227 : Nat) (9999 : Int64) ∈ lw_gd := lw_in 972 (by decide +kernel) rfl
theorem jq_973 : Jvm.Cond.constantLong "HayTalkModel" (229 : Nat) (60 : Int64) ∈ lw_gd := lw_in 973 (by decide +kernel) rfl
theorem jq_974 : Jvm.Cond.methodLink "HayTalkModel" (231 : Nat) ({ cls := "HayTalkModel", name := "allOf", desc := "(II)I" } : Jvm.MethodName) ∈ lw_gd := lw_in 974 (by decide +kernel) rfl
theorem jq_976 : Jvm.Cond.instanceMethod ({ cls := "HayTalkModel", name := "allOf", desc := "(II)I" } : Jvm.MethodName) ∈ lw_gd := lw_in 976 (by decide +kernel) rfl
theorem jq_977 : Jvm.Cond.code ({ cls := "HayTalkModel", name := "allOf", desc := "(II)I" } : Jvm.MethodName) prog_9_method_58_code (5 : Nat) (Option.some Jvm.ClassFile.FieldType.int) ∈ lw_gd := lw_in 977 (by decide +kernel) rfl
theorem jq_978 : Jvm.Cond.constantLong "HayTalkModel" (234 : Nat) (7919 : Int64) ∈ lw_gd := lw_in 978 (by decide +kernel) rfl
theorem jq_979 : Jvm.Cond.constantLong "HayTalkModel" (236 : Nat) (6151 : Int64) ∈ lw_gd := lw_in 979 (by decide +kernel) rfl
theorem jq_980 : Jvm.Cond.constantLong "HayTalkModel" (238 : Nat) (65521 : Int64) ∈ lw_gd := lw_in 980 (by decide +kernel) rfl
theorem jq_981 : Jvm.Cond.methodLink "HayTalkModel" (240 : Nat) ({ cls := "HayTalkModel", name := "draw", desc := "(I)V" } : Jvm.MethodName) ∈ lw_gd := lw_in 981 (by decide +kernel) rfl
theorem jq_983 : Jvm.Cond.instanceMethod ({ cls := "HayTalkModel", name := "draw", desc := "(I)V" } : Jvm.MethodName) ∈ lw_gd := lw_in 983 (by decide +kernel) rfl
theorem jq_984 : Jvm.Cond.code ({ cls := "HayTalkModel", name := "draw", desc := "(I)V" } : Jvm.MethodName) prog_9_method_57_code (5 : Nat) (Option.none : Option Jvm.ClassFile.FieldType) ∈ lw_gd := lw_in 984 (by decide +kernel) rfl
theorem jq_985 : Jvm.Cond.methodLink "HayTalkModel" (243 : Nat) ({ cls := "HayTalkModel", name := "allTold", desc := "()I" } : Jvm.MethodName) ∈ lw_gd := lw_in 985 (by decide +kernel) rfl
theorem jq_987 : Jvm.Cond.instanceMethod ({ cls := "HayTalkModel", name := "allTold", desc := "()I" } : Jvm.MethodName) ∈ lw_gd := lw_in 987 (by decide +kernel) rfl
theorem jq_988 : Jvm.Cond.code ({ cls := "HayTalkModel", name := "allTold", desc := "()I" } : Jvm.MethodName) prog_9_method_59_code (3 : Nat) (Option.some Jvm.ClassFile.FieldType.int) ∈ lw_gd := lw_in 988 (by decide +kernel) rfl
theorem jq_992 : Jvm.Cond.code ({ cls := "HayTalkModel", name := "keep", desc := "()I" } : Jvm.MethodName) prog_9_method_61_code (2 : Nat) (Option.some Jvm.ClassFile.FieldType.int) ∈ lw_gd := lw_in 992 (by decide +kernel) rfl
theorem jq_996 : Jvm.Cond.code ({ cls := "HayTalkModel", name := "back", desc := "()I" } : Jvm.MethodName) prog_9_method_62_code (2 : Nat) (Option.some Jvm.ClassFile.FieldType.int) ∈ lw_gd := lw_in 996 (by decide +kernel) rfl
theorem jq_1000 : Jvm.Cond.code ({ cls := "HayTalkModel", name := "count", desc := "(I)I" } : Jvm.MethodName) prog_9_method_63_code (2 : Nat) (Option.some Jvm.ClassFile.FieldType.int) ∈ lw_gd := lw_in 1000 (by decide +kernel) rfl
theorem jq0_10 : Cond.selects "HayTalk$Field" ({ cls := "HayTalk$Field", name := "addLayer", desc := "(IIII)V" } : Jvm.MethodName) ({ cls := "HayTalk$Field", name := "addLayer", desc := "(IIII)V" } : Jvm.MethodName) ∈ lw_gd := lw_in0 10 (by decide +kernel) rfl
theorem jq0_9 : Cond.selects "HayTalk$Field" ({ cls := "HayTalk$Field", name := "heatRick", desc := "(II)V" } : Jvm.MethodName) ({ cls := "HayTalk$Field", name := "heatRick", desc := "(II)V" } : Jvm.MethodName) ∈ lw_gd := lw_in0 9 (by decide +kernel) rfl
theorem jq0_3 : Cond.selects "HayTalk$Land" ({ cls := "HayTalk$Land", name := "readCow", desc := "(LHayTalk$Text;II)Z" } : Jvm.MethodName) ({ cls := "HayTalk$Land", name := "readCow", desc := "(LHayTalk$Text;II)Z" } : Jvm.MethodName) ∈ lw_gd := lw_in0 3 (by decide +kernel) rfl
theorem jq0_0 : Cond.selects "HayTalk$Land" ({ cls := "HayTalk$Land", name := "readItem", desc := "(LHayTalk$Text;II)Z" } : Jvm.MethodName) ({ cls := "HayTalk$Land", name := "readItem", desc := "(LHayTalk$Text;II)Z" } : Jvm.MethodName) ∈ lw_gd := lw_in0 0 (by decide +kernel) rfl
theorem jq0_1 : Cond.selects "HayTalk$Land" ({ cls := "HayTalk$Land", name := "readMower", desc := "(LHayTalk$Text;II)Z" } : Jvm.MethodName) ({ cls := "HayTalk$Land", name := "readMower", desc := "(LHayTalk$Text;II)Z" } : Jvm.MethodName) ∈ lw_gd := lw_in0 1 (by decide +kernel) rfl
theorem jq0_4 : Cond.selects "HayTalk$Land" ({ cls := "HayTalk$Land", name := "readRick", desc := "(LHayTalk$Text;II)Z" } : Jvm.MethodName) ({ cls := "HayTalk$Land", name := "readRick", desc := "(LHayTalk$Text;II)Z" } : Jvm.MethodName) ∈ lw_gd := lw_in0 4 (by decide +kernel) rfl
theorem jq0_2 : Cond.selects "HayTalk$Land" ({ cls := "HayTalk$Land", name := "readWeather", desc := "(LHayTalk$Text;II)Z" } : Jvm.MethodName) ({ cls := "HayTalk$Land", name := "readWeather", desc := "(LHayTalk$Text;II)Z" } : Jvm.MethodName) ∈ lw_gd := lw_in0 2 (by decide +kernel) rfl
theorem jq0_37 : Cond.selects "HayTalkModel" ({ cls := "HayTalkModel", name := "allOf", desc := "(II)I" } : Jvm.MethodName) ({ cls := "HayTalkModel", name := "allOf", desc := "(II)I" } : Jvm.MethodName) ∈ lw_gd := lw_in0 37 (by decide +kernel) rfl
theorem jq0_39 : Cond.selects "HayTalkModel" ({ cls := "HayTalkModel", name := "allTold", desc := "()I" } : Jvm.MethodName) ({ cls := "HayTalkModel", name := "allTold", desc := "()I" } : Jvm.MethodName) ∈ lw_gd := lw_in0 39 (by decide +kernel) rfl
theorem jq0_33 : Cond.selects "HayTalkModel" ({ cls := "HayTalkModel", name := "cutFor", desc := "(II)I" } : Jvm.MethodName) ({ cls := "HayTalkModel", name := "cutFor", desc := "(II)I" } : Jvm.MethodName) ∈ lw_gd := lw_in0 33 (by decide +kernel) rfl
theorem jq0_38 : Cond.selects "HayTalkModel" ({ cls := "HayTalkModel", name := "draw", desc := "(I)V" } : Jvm.MethodName) ({ cls := "HayTalkModel", name := "draw", desc := "(I)V" } : Jvm.MethodName) ∈ lw_gd := lw_in0 38 (by decide +kernel) rfl
theorem jq0_28 : Cond.selects "HayTalkModel" ({ cls := "HayTalkModel", name := "heat", desc := "(I)V" } : Jvm.MethodName) ({ cls := "HayTalkModel", name := "heat", desc := "(I)V" } : Jvm.MethodName) ∈ lw_gd := lw_in0 28 (by decide +kernel) rfl
theorem jq0_25 : Cond.selects "HayTalkModel" ({ cls := "HayTalkModel", name := "hottest", desc := "(I)I" } : Jvm.MethodName) ({ cls := "HayTalkModel", name := "hottest", desc := "(I)I" } : Jvm.MethodName) ∈ lw_gd := lw_in0 25 (by decide +kernel) rfl
theorem jq0_23 : Cond.selects "HayTalkModel" ({ cls := "HayTalkModel", name := "isCow", desc := "(I)Z" } : Jvm.MethodName) ({ cls := "HayTalkModel", name := "isCow", desc := "(I)Z" } : Jvm.MethodName) ∈ lw_gd := lw_in0 23 (by decide +kernel) rfl
theorem jq0_21 : Cond.selects "HayTalkModel" ({ cls := "HayTalkModel", name := "isMower", desc := "(I)Z" } : Jvm.MethodName) ({ cls := "HayTalkModel", name := "isMower", desc := "(I)Z" } : Jvm.MethodName) ∈ lw_gd := lw_in0 21 (by decide +kernel) rfl
theorem jq0_24 : Cond.selects "HayTalkModel" ({ cls := "HayTalkModel", name := "isRick", desc := "(I)Z" } : Jvm.MethodName) ({ cls := "HayTalkModel", name := "isRick", desc := "(I)Z" } : Jvm.MethodName) ∈ lw_gd := lw_in0 24 (by decide +kernel) rfl
theorem jq0_16 : Cond.selects "HayTalkModel" ({ cls := "HayTalkModel", name := "isRow", desc := "(III)Z" } : Jvm.MethodName) ({ cls := "HayTalkModel", name := "isRow", desc := "(III)Z" } : Jvm.MethodName) ∈ lw_gd := lw_in0 16 (by decide +kernel) rfl
theorem jq0_31 : Cond.selects "HayTalkModel" ({ cls := "HayTalkModel", name := "lying", desc := "(II)I" } : Jvm.MethodName) ({ cls := "HayTalkModel", name := "lying", desc := "(II)I" } : Jvm.MethodName) ∈ lw_gd := lw_in0 31 (by decide +kernel) rfl
theorem jq0_22 : Cond.selects "HayTalkModel" ({ cls := "HayTalkModel", name := "nextWord", desc := "(II)I" } : Jvm.MethodName) ({ cls := "HayTalkModel", name := "nextWord", desc := "(II)I" } : Jvm.MethodName) ∈ lw_gd := lw_in0 22 (by decide +kernel) rfl
theorem jq0_26 : Cond.selects "HayTalkModel" ({ cls := "HayTalkModel", name := "note", desc := "()V" } : Jvm.MethodName) ({ cls := "HayTalkModel", name := "note", desc := "()V" } : Jvm.MethodName) ∈ lw_gd := lw_in0 26 (by decide +kernel) rfl
theorem jq0_19 : Cond.selects "HayTalkModel" ({ cls := "HayTalkModel", name := "numberOf", desc := "(II)I" } : Jvm.MethodName) ({ cls := "HayTalkModel", name := "numberOf", desc := "(II)I" } : Jvm.MethodName) ∈ lw_gd := lw_in0 19 (by decide +kernel) rfl
theorem jq0_27 : Cond.selects "HayTalkModel" ({ cls := "HayTalkModel", name := "oneHour", desc := "()V" } : Jvm.MethodName) ({ cls := "HayTalkModel", name := "oneHour", desc := "()V" } : Jvm.MethodName) ∈ lw_gd := lw_in0 27 (by decide +kernel) rfl
theorem jq0_29 : Cond.selects "HayTalkModel" ({ cls := "HayTalkModel", name := "rains", desc := "(I)I" } : Jvm.MethodName) ({ cls := "HayTalkModel", name := "rains", desc := "(I)I" } : Jvm.MethodName) ∈ lw_gd := lw_in0 29 (by decide +kernel) rfl
theorem jq0_32 : Cond.selects "HayTalkModel" ({ cls := "HayTalkModel", name := "rakeIn", desc := "(III)V" } : Jvm.MethodName) ({ cls := "HayTalkModel", name := "rakeIn", desc := "(III)V" } : Jvm.MethodName) ∈ lw_gd := lw_in0 32 (by decide +kernel) rfl
theorem jq0_18 : Cond.selects "HayTalkModel" ({ cls := "HayTalkModel", name := "readCow", desc := "(II)Z" } : Jvm.MethodName) ({ cls := "HayTalkModel", name := "readCow", desc := "(II)Z" } : Jvm.MethodName) ∈ lw_gd := lw_in0 18 (by decide +kernel) rfl
theorem jq0_14 : Cond.selects "HayTalkModel" ({ cls := "HayTalkModel", name := "readItem", desc := "(II)Z" } : Jvm.MethodName) ({ cls := "HayTalkModel", name := "readItem", desc := "(II)Z" } : Jvm.MethodName) ∈ lw_gd := lw_in0 14 (by decide +kernel) rfl
theorem jq0_15 : Cond.selects "HayTalkModel" ({ cls := "HayTalkModel", name := "readMower", desc := "(II)Z" } : Jvm.MethodName) ({ cls := "HayTalkModel", name := "readMower", desc := "(II)Z" } : Jvm.MethodName) ∈ lw_gd := lw_in0 15 (by decide +kernel) rfl
theorem jq0_20 : Cond.selects "HayTalkModel" ({ cls := "HayTalkModel", name := "readRick", desc := "(II)Z" } : Jvm.MethodName) ({ cls := "HayTalkModel", name := "readRick", desc := "(II)Z" } : Jvm.MethodName) ∈ lw_gd := lw_in0 20 (by decide +kernel) rfl
theorem jq0_17 : Cond.selects "HayTalkModel" ({ cls := "HayTalkModel", name := "readWeather", desc := "(II)Z" } : Jvm.MethodName) ({ cls := "HayTalkModel", name := "readWeather", desc := "(II)Z" } : Jvm.MethodName) ∈ lw_gd := lw_in0 17 (by decide +kernel) rfl
theorem jq0_35 : Cond.selects "HayTalkModel" ({ cls := "HayTalkModel", name := "toldBy", desc := "(IIII)I" } : Jvm.MethodName) ({ cls := "HayTalkModel", name := "toldBy", desc := "(IIII)I" } : Jvm.MethodName) ∈ lw_gd := lw_in0 35 (by decide +kernel) rfl
theorem jq0_34 : Cond.selects "HayTalkModel" ({ cls := "HayTalkModel", name := "top", desc := "(I)I" } : Jvm.MethodName) ({ cls := "HayTalkModel", name := "top", desc := "(I)I" } : Jvm.MethodName) ∈ lw_gd := lw_in0 34 (by decide +kernel) rfl
theorem jq0_36 : Cond.selects "HayTalkModel" ({ cls := "HayTalkModel", name := "weight", desc := "(II)I" } : Jvm.MethodName) ({ cls := "HayTalkModel", name := "weight", desc := "(II)I" } : Jvm.MethodName) ∈ lw_gd := lw_in0 36 (by decide +kernel) rfl
theorem jq0_30 : Cond.selects "HayTalkModel" ({ cls := "HayTalkModel", name := "wetter", desc := "(II)I" } : Jvm.MethodName) ({ cls := "HayTalkModel", name := "wetter", desc := "(II)I" } : Jvm.MethodName) ∈ lw_gd := lw_in0 30 (by decide +kernel) rfl
