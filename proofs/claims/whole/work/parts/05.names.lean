abbrev jb_R_at : ByteArray := prog_5_method_2_code
abbrev jy_R_at : MethodName := ⟨"HayTalk$Rows", "at", "([II)I"⟩
abbrev jr_R_at : Room := { frames := 0, cells := 0, slots := 0, locals := 0 }
abbrev jb_R_put : ByteArray := prog_5_method_3_code
abbrev jy_R_put : MethodName := ⟨"HayTalk$Rows", "put", "([III)V"⟩
abbrev jr_R_put : Room := { frames := 0, cells := 0, slots := 0, locals := 0 }
abbrev jb_R_copy : ByteArray := prog_5_method_4_code
abbrev jy_R_copy : MethodName := ⟨"HayTalk$Rows", "copy", "([I[I)V"⟩
abbrev jr_R_copy : Room := { frames := 0, cells := 0, slots := 0, locals := 0 }
abbrev jb_R_sum : ByteArray := prog_5_method_5_code
abbrev jy_R_sum : MethodName := ⟨"HayTalk$Rows", "sum", "([I)I"⟩
abbrev jr_R_sum : Room := { frames := 0, cells := 0, slots := 0, locals := 0 }
abbrev jb_M_in : ByteArray := prog_9_method_2_code
abbrev jy_M_in : MethodName := ⟨"HayTalkModel", "in", "(JJJ)Z"⟩
abbrev jr_M_in : Room := { frames := 0, cells := 0, slots := 0, locals := 0 }
abbrev jb_M_isRow : ByteArray := prog_9_method_7_code
abbrev jy_M_isRow : MethodName := ⟨"HayTalkModel", "isRow", "(III)Z"⟩
abbrev jr_M_isRow : Room := { frames := 1, cells := 0, slots := 0, locals := 25 }
abbrev jb_M_readMower : ByteArray := prog_9_method_9_code
abbrev jy_M_readMower : MethodName := ⟨"HayTalkModel", "readMower", "(II)Z"⟩
abbrev jr_M_readMower : Room := { frames := 2, cells := 0, slots := 0, locals := 50 }
abbrev jb_M_readWeather : ByteArray := prog_9_method_10_code
abbrev jy_M_readWeather : MethodName := ⟨"HayTalkModel", "readWeather", "(II)Z"⟩
abbrev jr_M_readWeather : Room := { frames := 2, cells := 0, slots := 0, locals := 50 }
abbrev jb_M_numberOf : ByteArray := prog_9_method_8_code
abbrev jy_M_numberOf : MethodName := ⟨"HayTalkModel", "numberOf", "(II)I"⟩
abbrev jr_M_numberOf : Room := { frames := 2, cells := 0, slots := 0, locals := 50 }
abbrev jb_M_readCow : ByteArray := prog_9_method_11_code
abbrev jy_M_readCow : MethodName := ⟨"HayTalkModel", "readCow", "(II)Z"⟩
abbrev jr_M_readCow : Room := { frames := 3, cells := 0, slots := 0, locals := 72 }
abbrev jb_M_readRick : ByteArray := prog_9_method_12_code
abbrev jy_M_readRick : MethodName := ⟨"HayTalkModel", "readRick", "(II)Z"⟩
abbrev jr_M_readRick : Room := { frames := 3, cells := 0, slots := 0, locals := 72 }
abbrev jb_M_readItem : ByteArray := prog_9_method_13_code
abbrev jy_M_readItem : MethodName := ⟨"HayTalkModel", "readItem", "(II)Z"⟩
abbrev jr_M_readItem : Room := { frames := 4, cells := 0, slots := 0, locals := 95 }
abbrev jb_M_fault : ByteArray := prog_9_method_14_code
abbrev jy_M_fault : MethodName := ⟨"HayTalkModel", "fault", "()I"⟩
abbrev jr_M_fault : Room := { frames := 5, cells := 0, slots := 0, locals := 118 }
abbrev jb_M_take : ByteArray := prog_9_method_15_code
abbrev jy_M_take : MethodName := ⟨"HayTalkModel", "take", "([I[I)V"⟩
abbrev jr_M_take : Room := { frames := 0, cells := 0, slots := 0, locals := 0 }
abbrev jb_M_lay : ByteArray := prog_9_method_16_code
abbrev jy_M_lay : MethodName := ⟨"HayTalkModel", "lay", "()I"⟩
abbrev jr_M_lay : Room := { frames := 6, cells := 0, slots := 0, locals := 140 }
abbrev jb_M_write : ByteArray := prog_9_method_5_code
abbrev jy_M_write : MethodName := ⟨"HayTalkModel", "write", "(I)I"⟩
abbrev jr_M_write : Room := { frames := 1, cells := 0, slots := 0, locals := 25 }
abbrev jb_M_wipe : ByteArray := prog_9_method_6_code
abbrev jy_M_wipe : MethodName := ⟨"HayTalkModel", "wipe", "()I"⟩
abbrev jr_M_wipe : Room := { frames := 0, cells := 0, slots := 0, locals := 0 }
abbrev jb_M_isMower : ByteArray := prog_9_method_17_code
abbrev jy_M_isMower : MethodName := ⟨"HayTalkModel", "isMower", "(I)Z"⟩
abbrev jr_M_isMower : Room := { frames := 1, cells := 0, slots := 0, locals := 25 }
abbrev jb_M_nextWord : ByteArray := prog_9_method_20_code
abbrev jy_M_nextWord : MethodName := ⟨"HayTalkModel", "nextWord", "(II)I"⟩
abbrev jr_M_nextWord : Room := { frames := 0, cells := 0, slots := 0, locals := 0 }
abbrev jb_M_mower : ByteArray := prog_9_method_21_code
abbrev jy_M_mower : MethodName := ⟨"HayTalkModel", "mower", "(II)I"⟩
abbrev jr_M_mower : Room := { frames := 2, cells := 0, slots := 0, locals := 46 }
abbrev jb_M_isCow : ByteArray := prog_9_method_18_code
abbrev jy_M_isCow : MethodName := ⟨"HayTalkModel", "isCow", "(I)Z"⟩
abbrev jr_M_isCow : Room := { frames := 1, cells := 0, slots := 0, locals := 25 }
abbrev jb_M_cow : ByteArray := prog_9_method_22_code
abbrev jy_M_cow : MethodName := ⟨"HayTalkModel", "cow", "(II)I"⟩
abbrev jr_M_cow : Room := { frames := 2, cells := 0, slots := 0, locals := 46 }
abbrev jb_M_isRick : ByteArray := prog_9_method_19_code
abbrev jy_M_isRick : MethodName := ⟨"HayTalkModel", "isRick", "(I)Z"⟩
abbrev jr_M_isRick : Room := { frames := 1, cells := 0, slots := 0, locals := 25 }
abbrev jb_M_hottest : ByteArray := prog_9_method_23_code
abbrev jy_M_hottest : MethodName := ⟨"HayTalkModel", "hottest", "(I)I"⟩
abbrev jr_M_hottest : Room := { frames := 0, cells := 0, slots := 0, locals := 0 }
abbrev jb_M_rick : ByteArray := prog_9_method_24_code
abbrev jy_M_rick : MethodName := ⟨"HayTalkModel", "rick", "(II)I"⟩
abbrev jr_M_rick : Room := { frames := 2, cells := 0, slots := 0, locals := 46 }
abbrev jb_M_layer : ByteArray := prog_9_method_25_code
abbrev jy_M_layer : MethodName := ⟨"HayTalkModel", "layer", "(III)I"⟩
abbrev jr_M_layer : Room := { frames := 2, cells := 0, slots := 0, locals := 46 }
abbrev jb_M_undo : ByteArray := prog_9_method_27_code
abbrev jy_M_undo : MethodName := ⟨"HayTalkModel", "undo", "()I"⟩
abbrev jr_M_undo : Room := { frames := 0, cells := 0, slots := 0, locals := 0 }
abbrev jb_M_note : ByteArray := prog_9_method_26_code
abbrev jy_M_note : MethodName := ⟨"HayTalkModel", "note", "()V"⟩
abbrev jr_M_note : Room := { frames := 0, cells := 0, slots := 0, locals := 0 }
abbrev jb_M_heat : ByteArray := prog_9_method_29_code
abbrev jy_M_heat : MethodName := ⟨"HayTalkModel", "heat", "(I)V"⟩
abbrev jr_M_heat : Room := { frames := 1, cells := 0, slots := 0, locals := 24 }
abbrev jb_M_rains : ByteArray := prog_9_method_30_code
abbrev jy_M_rains : MethodName := ⟨"HayTalkModel", "rains", "(I)I"⟩
abbrev jr_M_rains : Room := { frames := 0, cells := 0, slots := 0, locals := 0 }
abbrev jb_M_wetter : ByteArray := prog_9_method_28_code
abbrev jy_M_wetter : MethodName := ⟨"HayTalkModel", "wetter", "(II)I"⟩
abbrev jr_M_wetter : Room := { frames := 0, cells := 0, slots := 0, locals := 0 }
abbrev jb_M_oneHour : ByteArray := prog_9_method_31_code
abbrev jy_M_oneHour : MethodName := ⟨"HayTalkModel", "oneHour", "()V"⟩
abbrev jr_M_oneHour : Room := { frames := 2, cells := 0, slots := 0, locals := 47 }
abbrev jb_M_pass : ByteArray := prog_9_method_32_code
abbrev jy_M_pass : MethodName := ⟨"HayTalkModel", "pass", "(I)I"⟩
abbrev jr_M_pass : Room := { frames := 3, cells := 0, slots := 0, locals := 68 }
abbrev jb_M_lying : ByteArray := prog_9_method_33_code
abbrev jy_M_lying : MethodName := ⟨"HayTalkModel", "lying", "(II)I"⟩
abbrev jr_M_lying : Room := { frames := 0, cells := 0, slots := 0, locals := 0 }
abbrev jb_M_rakeIn : ByteArray := prog_9_method_34_code
abbrev jy_M_rakeIn : MethodName := ⟨"HayTalkModel", "rakeIn", "(III)V"⟩
abbrev jr_M_rakeIn : Room := { frames := 1, cells := 0, slots := 0, locals := 24 }
abbrev jb_M_rake : ByteArray := prog_9_method_35_code
abbrev jy_M_rake : MethodName := ⟨"HayTalkModel", "rake", "(III)I"⟩
abbrev jr_M_rake : Room := { frames := 2, cells := 0, slots := 0, locals := 50 }
abbrev jb_M_top : ByteArray := prog_9_method_37_code
abbrev jy_M_top : MethodName := ⟨"HayTalkModel", "top", "(I)I"⟩
abbrev jr_M_top : Room := { frames := 0, cells := 0, slots := 0, locals := 0 }
abbrev jb_M_hears : ByteArray := prog_9_method_36_code
abbrev jy_M_hears : MethodName := ⟨"HayTalkModel", "hears", "(III)I"⟩
abbrev jr_M_hears : Room := { frames := 0, cells := 0, slots := 0, locals := 0 }
abbrev jb_M_cutFor : ByteArray := prog_9_method_38_code
abbrev jy_M_cutFor : MethodName := ⟨"HayTalkModel", "cutFor", "(II)I"⟩
abbrev jr_M_cutFor : Room := { frames := 1, cells := 0, slots := 0, locals := 23 }
abbrev jb_M_cut : ByteArray := prog_9_method_39_code
abbrev jy_M_cut : MethodName := ⟨"HayTalkModel", "cut", "(II)I"⟩
abbrev jr_M_cut : Room := { frames := 2, cells := 0, slots := 0, locals := 47 }
abbrev jb_M_turn : ByteArray := prog_9_method_40_code
abbrev jy_M_turn : MethodName := ⟨"HayTalkModel", "turn", "(I)I"⟩
abbrev jr_M_turn : Room := { frames := 2, cells := 0, slots := 0, locals := 46 }
abbrev jb_M_heap : ByteArray := prog_9_method_41_code
abbrev jy_M_heap : MethodName := ⟨"HayTalkModel", "heap", "(II)I"⟩
abbrev jr_M_heap : Room := { frames := 2, cells := 0, slots := 0, locals := 46 }
abbrev jb_M_behind : ByteArray := prog_9_method_42_code
abbrev jy_M_behind : MethodName := ⟨"HayTalkModel", "behind", "(III)I"⟩
abbrev jr_M_behind : Room := { frames := 3, cells := 0, slots := 0, locals := 68 }
abbrev jb_M_burns : ByteArray := prog_9_method_43_code
abbrev jy_M_burns : MethodName := ⟨"HayTalkModel", "burns", "(I)I"⟩
abbrev jr_M_burns : Room := { frames := 3, cells := 0, slots := 0, locals := 68 }
abbrev jb_M_toldBy : ByteArray := prog_9_method_44_code
abbrev jy_M_toldBy : MethodName := ⟨"HayTalkModel", "toldBy", "(IIII)I"⟩
abbrev jr_M_toldBy : Room := { frames := 1, cells := 0, slots := 0, locals := 23 }
abbrev jb_M_tell : ByteArray := prog_9_method_45_code
abbrev jy_M_tell : MethodName := ⟨"HayTalkModel", "tell", "(III)I"⟩
abbrev jr_M_tell : Room := { frames := 2, cells := 0, slots := 0, locals := 51 }
abbrev jb_M_ones : ByteArray := prog_9_method_4_code
abbrev jy_M_ones : MethodName := ⟨"HayTalkModel", "ones", "(I)I"⟩
abbrev jr_M_ones : Room := { frames := 0, cells := 0, slots := 0, locals := 0 }
abbrev jb_M_rakes : ByteArray := prog_9_method_46_code
abbrev jy_M_rakes : MethodName := ⟨"HayTalkModel", "rakes", "(I)I"⟩
abbrev jr_M_rakes : Room := { frames := 1, cells := 0, slots := 0, locals := 25 }
abbrev jb_M_most : ByteArray := prog_9_method_47_code
abbrev jy_M_most : MethodName := ⟨"HayTalkModel", "most", "(II)I"⟩
abbrev jr_M_most : Room := { frames := 2, cells := 0, slots := 0, locals := 46 }
abbrev jb_M_first : ByteArray := prog_9_method_48_code
abbrev jy_M_first : MethodName := ⟨"HayTalkModel", "first", "(II)I"⟩
abbrev jr_M_first : Room := { frames := 1, cells := 0, slots := 0, locals := 25 }
abbrev jb_M_has : ByteArray := prog_9_method_3_code
abbrev jy_M_has : MethodName := ⟨"HayTalkModel", "has", "(II)Z"⟩
abbrev jr_M_has : Room := { frames := 0, cells := 0, slots := 0, locals := 0 }
abbrev jb_M_weight : ByteArray := prog_9_method_50_code
abbrev jy_M_weight : MethodName := ⟨"HayTalkModel", "weight", "(II)I"⟩
abbrev jr_M_weight : Room := { frames := 1, cells := 0, slots := 0, locals := 21 }
abbrev jb_M_common : ByteArray := prog_9_method_49_code
abbrev jy_M_common : MethodName := ⟨"HayTalkModel", "common", "(II)I"⟩
abbrev jr_M_common : Room := { frames := 0, cells := 0, slots := 0, locals := 0 }
abbrev jb_M_needle : ByteArray := prog_9_method_51_code
abbrev jy_M_needle : MethodName := ⟨"HayTalkModel", "needle", "(III)I"⟩
abbrev jr_M_needle : Room := { frames := 2, cells := 0, slots := 0, locals := 46 }
abbrev jb_M_see : ByteArray := prog_9_method_52_code
abbrev jy_M_see : MethodName := ⟨"HayTalkModel", "see", "(II)I"⟩
abbrev jr_M_see : Room := { frames := 1, cells := 0, slots := 0, locals := 25 }
abbrev jb_M_forget : ByteArray := prog_9_method_53_code
abbrev jy_M_forget : MethodName := ⟨"HayTalkModel", "forget", "()I"⟩
abbrev jr_M_forget : Room := { frames := 0, cells := 0, slots := 0, locals := 0 }
abbrev jb_M_which : ByteArray := prog_9_method_54_code
abbrev jy_M_which : MethodName := ⟨"HayTalkModel", "which", "()I"⟩
abbrev jr_M_which : Room := { frames := 1, cells := 0, slots := 0, locals := 22 }
abbrev jb_M_kinds : ByteArray := prog_9_method_55_code
abbrev jy_M_kinds : MethodName := ⟨"HayTalkModel", "kinds", "(II)I"⟩
abbrev jr_M_kinds : Room := { frames := 1, cells := 0, slots := 0, locals := 25 }
abbrev jb_M_rain : ByteArray := prog_9_method_56_code
abbrev jy_M_rain : MethodName := ⟨"HayTalkModel", "rain", "(IIIII)I"⟩
abbrev jr_M_rain : Room := { frames := 2, cells := 0, slots := 0, locals := 46 }
abbrev jb_M_allOf : ByteArray := prog_9_method_58_code
abbrev jy_M_allOf : MethodName := ⟨"HayTalkModel", "allOf", "(II)I"⟩
abbrev jr_M_allOf : Room := { frames := 0, cells := 0, slots := 0, locals := 0 }
abbrev jb_M_draw : ByteArray := prog_9_method_57_code
abbrev jy_M_draw : MethodName := ⟨"HayTalkModel", "draw", "(I)V"⟩
abbrev jr_M_draw : Room := { frames := 2, cells := 0, slots := 0, locals := 50 }
abbrev jb_M_allTold : ByteArray := prog_9_method_59_code
abbrev jy_M_allTold : MethodName := ⟨"HayTalkModel", "allTold", "()I"⟩
abbrev jr_M_allTold : Room := { frames := 1, cells := 0, slots := 0, locals := 22 }
abbrev jb_M_february : ByteArray := prog_9_method_60_code
abbrev jy_M_february : MethodName := ⟨"HayTalkModel", "february", "(III)I"⟩
abbrev jr_M_february : Room := { frames := 3, cells := 0, slots := 0, locals := 74 }
abbrev jb_M_keep : ByteArray := prog_9_method_61_code
abbrev jy_M_keep : MethodName := ⟨"HayTalkModel", "keep", "()I"⟩
abbrev jr_M_keep : Room := { frames := 0, cells := 0, slots := 0, locals := 0 }
abbrev jb_M_back : ByteArray := prog_9_method_62_code
abbrev jy_M_back : MethodName := ⟨"HayTalkModel", "back", "()I"⟩
abbrev jr_M_back : Room := { frames := 0, cells := 0, slots := 0, locals := 0 }
abbrev jb_M_count : ByteArray := prog_9_method_63_code
abbrev jy_M_count : MethodName := ⟨"HayTalkModel", "count", "(I)I"⟩
abbrev jr_M_count : Room := { frames := 2, cells := 0, slots := 0, locals := 44 }
abbrev jb_Integer_bitCount : ByteArray := prog_10_method_49_code
abbrev jy_Integer_bitCount : MethodName := ⟨"java/lang/Integer", "bitCount", "(I)I"⟩
abbrev jr_Integer_bitCount : Room := { frames := 0, cells := 0, slots := 0, locals := 0 }
abbrev jb_Arrays_fill : ByteArray := prog_15_method_103_code
abbrev jy_Arrays_fill : MethodName := ⟨"java/util/Arrays", "fill", "([II)V"⟩
abbrev jr_Arrays_fill : Room := { frames := 0, cells := 0, slots := 0, locals := 0 }
abbrev jb_T_isFull : ByteArray := prog_7_method_3_code
abbrev jy_T_isFull : MethodName := ⟨"HayTalk$Text", "isFull", "()Z"⟩
abbrev jr_T_isFull : Room := { frames := 0, cells := 0, slots := 0, locals := 0 }
abbrev jb_T_add : ByteArray := prog_7_method_4_code
abbrev jy_T_add : MethodName := ⟨"HayTalk$Text", "add", "(I)V"⟩
abbrev jr_T_add : Room := { frames := 1, cells := 0, slots := 0, locals := 22 }
abbrev jb_T_letterAt : ByteArray := prog_7_method_5_code
abbrev jy_T_letterAt : MethodName := ⟨"HayTalk$Text", "letterAt", "(I)I"⟩
abbrev jr_T_letterAt : Room := { frames := 0, cells := 0, slots := 0, locals := 0 }
abbrev jb_T_endFrom : ByteArray := prog_7_method_7_code
abbrev jy_T_endFrom : MethodName := ⟨"HayTalk$Text", "endFrom", "(I)I"⟩
abbrev jr_T_endFrom : Room := { frames := 1, cells := 0, slots := 0, locals := 21 }
abbrev jb_H_isWithin : ByteArray := prog_1_method_32_code
abbrev jy_H_isWithin : MethodName := ⟨"HayTalk", "isWithin", "(III)Z"⟩
abbrev jr_H_isWithin : Room := { frames := 0, cells := 0, slots := 0, locals := 0 }
abbrev jb_T_figureAt : ByteArray := prog_7_method_6_code
abbrev jy_T_figureAt : MethodName := ⟨"HayTalk$Text", "figureAt", "(I)I"⟩
abbrev jr_T_figureAt : Room := { frames := 1, cells := 0, slots := 0, locals := 22 }
abbrev jb_L_readRow : ByteArray := prog_3_method_13_code
abbrev jy_L_readRow : MethodName := ⟨"HayTalk$Land", "readRow", "(LHayTalk$Text;III[II)Z"⟩
abbrev jr_L_readRow : Room := { frames := 2, cells := 0, slots := 0, locals := 44 }
abbrev jb_L_readMower : ByteArray := prog_3_method_9_code
abbrev jy_L_readMower : MethodName := ⟨"HayTalk$Land", "readMower", "(LHayTalk$Text;II)Z"⟩
abbrev jr_L_readMower : Room := { frames := 3, cells := 0, slots := 0, locals := 72 }
abbrev jb_L_readWeather : ByteArray := prog_3_method_10_code
abbrev jy_L_readWeather : MethodName := ⟨"HayTalk$Land", "readWeather", "(LHayTalk$Text;II)Z"⟩
abbrev jr_L_readWeather : Room := { frames := 3, cells := 0, slots := 0, locals := 72 }
abbrev jb_L_numberIn : ByteArray := prog_3_method_14_code
abbrev jy_L_numberIn : MethodName := ⟨"HayTalk$Land", "numberIn", "(LHayTalk$Text;II)I"⟩
abbrev jr_L_numberIn : Room := { frames := 2, cells := 0, slots := 0, locals := 44 }
abbrev jb_L_readCow : ByteArray := prog_3_method_11_code
abbrev jy_L_readCow : MethodName := ⟨"HayTalk$Land", "readCow", "(LHayTalk$Text;II)Z"⟩
abbrev jr_L_readCow : Room := { frames := 3, cells := 0, slots := 0, locals := 70 }
abbrev jb_L_readRick : ByteArray := prog_3_method_12_code
abbrev jy_L_readRick : MethodName := ⟨"HayTalk$Land", "readRick", "(LHayTalk$Text;II)Z"⟩
abbrev jr_L_readRick : Room := { frames := 3, cells := 0, slots := 0, locals := 70 }
abbrev jb_L_readItem : ByteArray := prog_3_method_8_code
abbrev jy_L_readItem : MethodName := ⟨"HayTalk$Land", "readItem", "(LHayTalk$Text;II)Z"⟩
abbrev jr_L_readItem : Room := { frames := 4, cells := 0, slots := 0, locals := 95 }
abbrev jb_L_readText : ByteArray := prog_3_method_7_code
abbrev jy_L_readText : MethodName := ⟨"HayTalk$Land", "readText", "(LHayTalk$Text;)I"⟩
abbrev jr_L_readText : Room := { frames := 5, cells := 0, slots := 0, locals := 118 }
abbrev jb_L_isWhole : ByteArray := prog_3_method_2_code
abbrev jy_L_isWhole : MethodName := ⟨"HayTalk$Land", "isWhole", "()Z"⟩
abbrev jr_L_isWhole : Room := { frames := 0, cells := 0, slots := 0, locals := 0 }
abbrev jb_H_remainder : ByteArray := prog_1_method_43_code
abbrev jy_H_remainder : MethodName := ⟨"HayTalk", "remainder", "(II)I"⟩
abbrev jr_H_remainder : Room := { frames := 0, cells := 0, slots := 0, locals := 0 }
abbrev jb_L_wordOf : ByteArray := prog_3_method_3_code
abbrev jy_L_wordOf : MethodName := ⟨"HayTalk$Land", "wordOf", "(II)I"⟩
abbrev jr_L_wordOf : Room := { frames := 1, cells := 0, slots := 0, locals := 21 }
abbrev jb_L_kindOf : ByteArray := prog_3_method_5_code
abbrev jy_L_kindOf : MethodName := ⟨"HayTalk$Land", "kindOf", "(I)I"⟩
abbrev jr_L_kindOf : Room := { frames := 1, cells := 0, slots := 0, locals := 21 }
abbrev jb_L_thatchOf : ByteArray := prog_3_method_6_code
abbrev jy_L_thatchOf : MethodName := ⟨"HayTalk$Land", "thatchOf", "(I)I"⟩
abbrev jr_L_thatchOf : Room := { frames := 1, cells := 0, slots := 0, locals := 21 }
abbrev jb_L_weatherOf : ByteArray := prog_3_method_4_code
abbrev jy_L_weatherOf : MethodName := ⟨"HayTalk$Land", "weatherOf", "(I)I"⟩
abbrev jr_L_weatherOf : Room := { frames := 1, cells := 0, slots := 0, locals := 21 }
abbrev jb_S_isFull : ByteArray := prog_6_method_2_code
abbrev jy_S_isFull : MethodName := ⟨"HayTalk$Seen", "isFull", "()Z"⟩
abbrev jr_S_isFull : Room := { frames := 0, cells := 0, slots := 0, locals := 0 }
abbrev jb_S_add : ByteArray := prog_6_method_3_code
abbrev jy_S_add : MethodName := ⟨"HayTalk$Seen", "add", "(II)V"⟩
abbrev jr_S_add : Room := { frames := 1, cells := 0, slots := 0, locals := 22 }
abbrev jb_S_isSoOf : ByteArray := prog_6_method_4_code
abbrev jy_S_isSoOf : MethodName := ⟨"HayTalk$Seen", "isSoOf", "(LHayTalk$Land;I)Z"⟩
abbrev jr_S_isSoOf : Room := { frames := 2, cells := 0, slots := 0, locals := 43 }
abbrev jb_F_clear : ByteArray := prog_2_method_2_code
abbrev jy_F_clear : MethodName := ⟨"HayTalk$Field", "clear", "()V"⟩
abbrev jr_F_clear : Room := { frames := 1, cells := 0, slots := 0, locals := 23 }
abbrev jb_F_heightOf : ByteArray := prog_2_method_4_code
abbrev jy_F_heightOf : MethodName := ⟨"HayTalk$Field", "heightOf", "(I)I"⟩
abbrev jr_F_heightOf : Room := { frames := 1, cells := 0, slots := 0, locals := 21 }
abbrev jb_F_heatOf : ByteArray := prog_2_method_7_code
abbrev jy_F_heatOf : MethodName := ⟨"HayTalk$Field", "heatOf", "(II)I"⟩
abbrev jr_F_heatOf : Room := { frames := 1, cells := 0, slots := 0, locals := 21 }
abbrev jb_F_hottestOf : ByteArray := prog_2_method_9_code
abbrev jy_F_hottestOf : MethodName := ⟨"HayTalk$Field", "hottestOf", "(I)I"⟩
abbrev jr_F_hottestOf : Room := { frames := 2, cells := 0, slots := 0, locals := 43 }
abbrev jb_F_wordsOf : ByteArray := prog_2_method_5_code
abbrev jy_F_wordsOf : MethodName := ⟨"HayTalk$Field", "wordsOf", "(II)I"⟩
abbrev jr_F_wordsOf : Room := { frames := 1, cells := 0, slots := 0, locals := 21 }
abbrev jb_F_wetnessOf : ByteArray := prog_2_method_6_code
abbrev jy_F_wetnessOf : MethodName := ⟨"HayTalk$Field", "wetnessOf", "(II)I"⟩
abbrev jr_F_wetnessOf : Room := { frames := 1, cells := 0, slots := 0, locals := 21 }
abbrev jb_F_copyFrom : ByteArray := prog_2_method_3_code
abbrev jy_F_copyFrom : MethodName := ⟨"HayTalk$Field", "copyFrom", "(LHayTalk$Field;)V"⟩
abbrev jr_F_copyFrom : Room := { frames := 1, cells := 0, slots := 0, locals := 22 }
abbrev jb_F_heatRick : ByteArray := prog_2_method_15_code
abbrev jy_F_heatRick : MethodName := ⟨"HayTalk$Field", "heatRick", "(II)V"⟩
abbrev jr_F_heatRick : Room := { frames := 3, cells := 0, slots := 0, locals := 66 }
abbrev jb_F_hourGoesBy : ByteArray := prog_2_method_14_code
abbrev jy_F_hourGoesBy : MethodName := ⟨"HayTalk$Field", "hourGoesBy", "(LHayTalk$Land;)V"⟩
abbrev jr_F_hourGoesBy : Room := { frames := 4, cells := 0, slots := 0, locals := 90 }
abbrev jb_F_hoursGoBy : ByteArray := prog_2_method_13_code
abbrev jy_F_hoursGoBy : MethodName := ⟨"HayTalk$Field", "hoursGoBy", "(LHayTalk$Land;I)V"⟩
abbrev jr_F_hoursGoBy : Room := { frames := 5, cells := 0, slots := 0, locals := 113 }
abbrev jb_F_lyingIn : ByteArray := prog_2_method_11_code
abbrev jy_F_lyingIn : MethodName := ⟨"HayTalk$Field", "lyingIn", "(II)I"⟩
abbrev jr_F_lyingIn : Room := { frames := 1, cells := 0, slots := 0, locals := 21 }
abbrev jb_F_addLayer : ByteArray := prog_2_method_18_code
abbrev jy_F_addLayer : MethodName := ⟨"HayTalk$Field", "addLayer", "(IIII)V"⟩
abbrev jr_F_addLayer : Room := { frames := 2, cells := 0, slots := 0, locals := 42 }
abbrev jb_F_gather : ByteArray := prog_2_method_16_code
abbrev jy_F_gather : MethodName := ⟨"HayTalk$Field", "gather", "(III)V"⟩
abbrev jr_F_gather : Room := { frames := 3, cells := 0, slots := 0, locals := 67 }
abbrev jb_F_wordsFromTop : ByteArray := prog_2_method_8_code
abbrev jy_F_wordsFromTop : MethodName := ⟨"HayTalk$Field", "wordsFromTop", "(II)I"⟩
abbrev jr_F_wordsFromTop : Room := { frames := 2, cells := 0, slots := 0, locals := 43 }
abbrev jb_H_wordsAboveAll : ByteArray := prog_1_method_40_code
abbrev jy_H_wordsAboveAll : MethodName := ⟨"HayTalk", "wordsAboveAll", "(II)I"⟩
abbrev jr_H_wordsAboveAll : Room := { frames := 0, cells := 0, slots := 0, locals := 0 }
abbrev jb_H_heardBy : ByteArray := prog_1_method_39_code
abbrev jy_H_heardBy : MethodName := ⟨"HayTalk", "heardBy", "(III)I"⟩
abbrev jr_H_heardBy : Room := { frames := 1, cells := 0, slots := 0, locals := 23 }
abbrev jb_F_freshFor : ByteArray := prog_2_method_19_code
abbrev jy_F_freshFor : MethodName := ⟨"HayTalk$Field", "freshFor", "(III)I"⟩
abbrev jr_F_freshFor : Room := { frames := 3, cells := 0, slots := 0, locals := 65 }
abbrev jb_F_feed : ByteArray := prog_2_method_20_code
abbrev jy_F_feed : MethodName := ⟨"HayTalk$Field", "feed", "(III)I"⟩
abbrev jr_F_feed : Room := { frames := 4, cells := 0, slots := 0, locals := 89 }
abbrev jb_F_stack : ByteArray := prog_2_method_17_code
abbrev jy_F_stack : MethodName := ⟨"HayTalk$Field", "stack", "(II)V"⟩
abbrev jr_F_stack : Room := { frames := 3, cells := 0, slots := 0, locals := 67 }
abbrev jb_F_placesOf : ByteArray := prog_2_method_12_code
abbrev jy_F_placesOf : MethodName := ⟨"HayTalk$Field", "placesOf", "(II)I"⟩
abbrev jr_F_placesOf : Room := { frames := 2, cells := 0, slots := 0, locals := 43 }
abbrev jb_F_wordsTold : ByteArray := prog_2_method_10_code
abbrev jy_F_wordsTold : MethodName := ⟨"HayTalk$Field", "wordsTold", "()I"⟩
abbrev jr_F_wordsTold : Room := { frames := 1, cells := 0, slots := 0, locals := 21 }
theorem jl_R_at : hk_L jy_R_at jb_R_at 2 (some .int) 2 := ⟨jq_346, jq_12, by decide, by decide, by decide +kernel⟩
theorem jl_R_put : hk_L jy_R_put jb_R_put 3 none 3 := ⟨jq_223, jq_12, by decide, by decide, by decide +kernel⟩
theorem jl_R_copy : hk_L jy_R_copy jb_R_copy 3 none 2 := ⟨jq_421, jq_12, by decide, by decide, by decide +kernel⟩
theorem jl_R_sum : hk_L jy_R_sum jb_R_sum 3 (some .int) 1 := ⟨jq_629, jq_12, by decide, by decide, by decide +kernel⟩
theorem jl_M_in : hk_L jy_M_in jb_M_in 6 (some .boolean) 3 := ⟨jq_675, jq_13, by decide, by decide, by decide +kernel⟩
theorem jl_M_isRow : hk_L jy_M_isRow jb_M_isRow 6 (some .boolean) 3 := ⟨jq_671, jq_13, by decide, by decide, by decide +kernel⟩
theorem jl_M_readMower : hk_L jy_M_readMower jb_M_readMower 4 (some .boolean) 2 := ⟨jq_667, jq_13, by decide, by decide, by decide +kernel⟩
theorem jl_M_readWeather : hk_L jy_M_readWeather jb_M_readWeather 4 (some .boolean) 2 := ⟨jq_680, jq_13, by decide, by decide, by decide +kernel⟩
theorem jl_M_numberOf : hk_L jy_M_numberOf jb_M_numberOf 3 (some .int) 2 := ⟨jq_688, jq_13, by decide, by decide, by decide +kernel⟩
theorem jl_M_readCow : hk_L jy_M_readCow jb_M_readCow 4 (some .boolean) 2 := ⟨jq_684, jq_13, by decide, by decide, by decide +kernel⟩
theorem jl_M_readRick : hk_L jy_M_readRick jb_M_readRick 4 (some .boolean) 2 := ⟨jq_694, jq_13, by decide, by decide, by decide +kernel⟩
theorem jl_M_readItem : hk_L jy_M_readItem jb_M_readItem 4 (some .boolean) 2 := ⟨jq_663, jq_13, by decide, by decide, by decide +kernel⟩
theorem jl_M_fault : hk_L jy_M_fault jb_M_fault 3 (some .int) 0 := ⟨jq_659, jq_13, by decide, by decide, by decide +kernel⟩
theorem jl_M_take : hk_L jy_M_take jb_M_take 3 none 2 := ⟨jq_697, jq_13, by decide, by decide, by decide +kernel⟩
theorem jl_M_lay : hk_L jy_M_lay jb_M_lay 2 (some .int) 0 := ⟨jq_655, jq_13, by decide, by decide, by decide +kernel⟩
theorem jl_M_write : hk_L jy_M_write jb_M_write 2 (some .int) 1 := ⟨jq_789, jq_13, by decide, by decide, by decide +kernel⟩
theorem jl_M_wipe : hk_L jy_M_wipe jb_M_wipe 2 (some .int) 0 := ⟨jq_795, jq_13, by decide, by decide, by decide +kernel⟩
theorem jl_M_isMower : hk_L jy_M_isMower jb_M_isMower 2 (some .boolean) 1 := ⟨jq_805, jq_13, by decide, by decide, by decide +kernel⟩
theorem jl_M_nextWord : hk_L jy_M_nextWord jb_M_nextWord 3 (some .int) 2 := ⟨jq_809, jq_13, by decide, by decide, by decide +kernel⟩
theorem jl_M_mower : hk_L jy_M_mower jb_M_mower 3 (some .int) 2 := ⟨jq_801, jq_13, by decide, by decide, by decide +kernel⟩
theorem jl_M_isCow : hk_L jy_M_isCow jb_M_isCow 2 (some .boolean) 1 := ⟨jq_817, jq_13, by decide, by decide, by decide +kernel⟩
theorem jl_M_cow : hk_L jy_M_cow jb_M_cow 3 (some .int) 2 := ⟨jq_813, jq_13, by decide, by decide, by decide +kernel⟩
theorem jl_M_isRick : hk_L jy_M_isRick jb_M_isRick 2 (some .boolean) 1 := ⟨jq_825, jq_13, by decide, by decide, by decide +kernel⟩
theorem jl_M_hottest : hk_L jy_M_hottest jb_M_hottest 5 (some .int) 1 := ⟨jq_829, jq_13, by decide, by decide, by decide +kernel⟩
theorem jl_M_rick : hk_L jy_M_rick jb_M_rick 3 (some .int) 2 := ⟨jq_821, jq_13, by decide, by decide, by decide +kernel⟩
theorem jl_M_layer : hk_L jy_M_layer jb_M_layer 5 (some .int) 3 := ⟨jq_833, jq_13, by decide, by decide, by decide +kernel⟩
theorem jl_M_undo : hk_L jy_M_undo jb_M_undo 2 (some .int) 0 := ⟨jq_837, jq_13, by decide, by decide, by decide +kernel⟩
theorem jl_M_note : hk_L jy_M_note jb_M_note 2 none 0 := ⟨jq_846, jq_13, by decide, by decide, by decide +kernel⟩
theorem jl_M_heat : hk_L jy_M_heat jb_M_heat 4 none 1 := ⟨jq_854, jq_13, by decide, by decide, by decide +kernel⟩
theorem jl_M_rains : hk_L jy_M_rains jb_M_rains 2 (some .int) 1 := ⟨jq_858, jq_13, by decide, by decide, by decide +kernel⟩
theorem jl_M_wetter : hk_L jy_M_wetter jb_M_wetter 3 (some .int) 2 := ⟨jq_862, jq_13, by decide, by decide, by decide +kernel⟩
theorem jl_M_oneHour : hk_L jy_M_oneHour jb_M_oneHour 2 none 0 := ⟨jq_850, jq_13, by decide, by decide, by decide +kernel⟩
theorem jl_M_pass : hk_L jy_M_pass jb_M_pass 3 (some .int) 1 := ⟨jq_841, jq_13, by decide, by decide, by decide +kernel⟩
theorem jl_M_lying : hk_L jy_M_lying jb_M_lying 5 (some .int) 2 := ⟨jq_870, jq_13, by decide, by decide, by decide +kernel⟩
theorem jl_M_rakeIn : hk_L jy_M_rakeIn jb_M_rakeIn 7 none 3 := ⟨jq_874, jq_13, by decide, by decide, by decide +kernel⟩
theorem jl_M_rake : hk_L jy_M_rake jb_M_rake 4 (some .int) 3 := ⟨jq_866, jq_13, by decide, by decide, by decide +kernel⟩
theorem jl_M_top : hk_L jy_M_top jb_M_top 2 (some .int) 1 := ⟨jq_886, jq_13, by decide, by decide, by decide +kernel⟩
theorem jl_M_hears : hk_L jy_M_hears jb_M_hears 4 (some .int) 3 := ⟨jq_889, jq_13, by decide, by decide, by decide +kernel⟩
theorem jl_M_cutFor : hk_L jy_M_cutFor jb_M_cutFor 5 (some .int) 2 := ⟨jq_882, jq_13, by decide, by decide, by decide +kernel⟩
theorem jl_M_cut : hk_L jy_M_cut jb_M_cut 3 (some .int) 2 := ⟨jq_878, jq_13, by decide, by decide, by decide +kernel⟩
theorem jl_M_turn : hk_L jy_M_turn jb_M_turn 3 (some .int) 1 := ⟨jq_893, jq_13, by decide, by decide, by decide +kernel⟩
theorem jl_M_heap : hk_L jy_M_heap jb_M_heap 7 (some .int) 2 := ⟨jq_897, jq_13, by decide, by decide, by decide +kernel⟩
theorem jl_M_behind : hk_L jy_M_behind jb_M_behind 5 (some .int) 3 := ⟨jq_901, jq_13, by decide, by decide, by decide +kernel⟩
theorem jl_M_burns : hk_L jy_M_burns jb_M_burns 4 (some .int) 1 := ⟨jq_906, jq_13, by decide, by decide, by decide +kernel⟩
theorem jl_M_toldBy : hk_L jy_M_toldBy jb_M_toldBy 9 (some .int) 4 := ⟨jq_915, jq_13, by decide, by decide, by decide +kernel⟩
theorem jl_M_tell : hk_L jy_M_tell jb_M_tell 9 (some .int) 3 := ⟨jq_910, jq_13, by decide, by decide, by decide +kernel⟩
theorem jl_M_ones : hk_L jy_M_ones jb_M_ones 3 (some .int) 1 := ⟨jq_922, jq_13, by decide, by decide, by decide +kernel⟩
theorem jl_M_rakes : hk_L jy_M_rakes jb_M_rakes 7 (some .int) 1 := ⟨jq_919, jq_13, by decide, by decide, by decide +kernel⟩
theorem jl_M_most : hk_L jy_M_most jb_M_most 7 (some .int) 2 := ⟨jq_926, jq_13, by decide, by decide, by decide +kernel⟩
theorem jl_M_first : hk_L jy_M_first jb_M_first 5 (some .int) 2 := ⟨jq_930, jq_13, by decide, by decide, by decide +kernel⟩
theorem jl_M_has : hk_L jy_M_has jb_M_has 2 (some .boolean) 2 := ⟨jq_941, jq_13, by decide, by decide, by decide +kernel⟩
theorem jl_M_weight : hk_L jy_M_weight jb_M_weight 5 (some .int) 2 := ⟨jq_938, jq_13, by decide, by decide, by decide +kernel⟩
theorem jl_M_common : hk_L jy_M_common jb_M_common 5 (some .int) 2 := ⟨jq_944, jq_13, by decide, by decide, by decide +kernel⟩
theorem jl_M_needle : hk_L jy_M_needle jb_M_needle 6 (some .int) 3 := ⟨jq_934, jq_13, by decide, by decide, by decide +kernel⟩
theorem jl_M_see : hk_L jy_M_see jb_M_see 3 (some .int) 2 := ⟨jq_948, jq_13, by decide, by decide, by decide +kernel⟩
theorem jl_M_forget : hk_L jy_M_forget jb_M_forget 2 (some .int) 0 := ⟨jq_953, jq_13, by decide, by decide, by decide +kernel⟩
theorem jl_M_which : hk_L jy_M_which jb_M_which 5 (some .int) 0 := ⟨jq_957, jq_13, by decide, by decide, by decide +kernel⟩
theorem jl_M_kinds : hk_L jy_M_kinds jb_M_kinds 5 (some .int) 2 := ⟨jq_961, jq_13, by decide, by decide, by decide +kernel⟩
theorem jl_M_rain : hk_L jy_M_rain jb_M_rain 12 (some .int) 5 := ⟨jq_965, jq_13, by decide, by decide, by decide +kernel⟩
theorem jl_M_allOf : hk_L jy_M_allOf jb_M_allOf 5 (some .int) 2 := ⟨jq_977, jq_13, by decide, by decide, by decide +kernel⟩
theorem jl_M_draw : hk_L jy_M_draw jb_M_draw 5 none 1 := ⟨jq_984, jq_13, by decide, by decide, by decide +kernel⟩
theorem jl_M_allTold : hk_L jy_M_allTold jb_M_allTold 3 (some .int) 0 := ⟨jq_988, jq_13, by decide, by decide, by decide +kernel⟩
theorem jl_M_february : hk_L jy_M_february jb_M_february 8 (some .int) 3 := ⟨jq_971, jq_13, by decide, by decide, by decide +kernel⟩
theorem jl_M_keep : hk_L jy_M_keep jb_M_keep 2 (some .int) 0 := ⟨jq_992, jq_13, by decide, by decide, by decide +kernel⟩
theorem jl_M_back : hk_L jy_M_back jb_M_back 2 (some .int) 0 := ⟨jq_996, jq_13, by decide, by decide, by decide +kernel⟩
theorem jl_M_count : hk_L jy_M_count jb_M_count 2 (some .int) 1 := ⟨jq_1000, jq_13, by decide, by decide, by decide +kernel⟩
theorem jl_Integer_bitCount : hk_L jy_Integer_bitCount jb_Integer_bitCount 1 (some .int) 1 := ⟨jq_538, jq_15, by decide, by decide, by decide +kernel⟩
theorem jl_Arrays_fill : hk_L jy_Arrays_fill jb_Arrays_fill 4 none 2 := ⟨jq_327, jq_14, by decide, by decide, by decide +kernel⟩
theorem jl_T_isFull : hk_L jy_T_isFull jb_T_isFull 1 (some .boolean) 0 := ⟨jq_220, jq_2, by decide, by decide, by decide +kernel⟩
theorem jl_T_add : hk_L jy_T_add jb_T_add 2 none 1 := ⟨jq_216, jq_2, by decide, by decide, by decide +kernel⟩
theorem jl_T_letterAt : hk_L jy_T_letterAt jb_T_letterAt 2 (some .int) 1 := ⟨jq_235, jq_2, by decide, by decide, by decide +kernel⟩
theorem jl_T_endFrom : hk_L jy_T_endFrom jb_T_endFrom 3 (some .int) 1 := ⟨jq_231, jq_2, by decide, by decide, by decide +kernel⟩
theorem jl_H_isWithin : hk_L jy_H_isWithin jb_H_isWithin 3 (some .boolean) 3 := ⟨jq_250, jq_1, by decide, by decide, by decide +kernel⟩
theorem jl_T_figureAt : hk_L jy_T_figureAt jb_T_figureAt 3 (some .int) 1 := ⟨jq_254, jq_2, by decide, by decide, by decide +kernel⟩
theorem jl_L_readRow : hk_L jy_L_readRow jb_L_readRow 9 (some .boolean) 6 := ⟨jq_247, jq_7, by decide, by decide, by decide +kernel⟩
theorem jl_L_readMower : hk_L jy_L_readMower jb_L_readMower 4 (some .boolean) 3 := ⟨jq_244, jq_7, by decide, by decide, by decide +kernel⟩
theorem jl_L_readWeather : hk_L jy_L_readWeather jb_L_readWeather 4 (some .boolean) 3 := ⟨jq_260, jq_7, by decide, by decide, by decide +kernel⟩
theorem jl_L_numberIn : hk_L jy_L_numberIn jb_L_numberIn 7 (some .int) 3 := ⟨jq_267, jq_7, by decide, by decide, by decide +kernel⟩
theorem jl_L_readCow : hk_L jy_L_readCow jb_L_readCow 5 (some .boolean) 3 := ⟨jq_264, jq_7, by decide, by decide, by decide +kernel⟩
theorem jl_L_readRick : hk_L jy_L_readRick jb_L_readRick 5 (some .boolean) 3 := ⟨jq_271, jq_7, by decide, by decide, by decide +kernel⟩
theorem jl_L_readItem : hk_L jy_L_readItem jb_L_readItem 4 (some .boolean) 3 := ⟨jq_239, jq_7, by decide, by decide, by decide +kernel⟩
theorem jl_L_readText : hk_L jy_L_readText jb_L_readText 5 (some .int) 1 := ⟨jq_227, jq_7, by decide, by decide, by decide +kernel⟩
theorem jl_L_isWhole : hk_L jy_L_isWhole jb_L_isWhole 1 (some .boolean) 0 := ⟨jq_320, jq_7, by decide, by decide, by decide +kernel⟩
theorem jl_H_remainder : hk_L jy_H_remainder jb_H_remainder 2 (some .int) 2 := ⟨jq_349, jq_1, by decide, by decide, by decide +kernel⟩
theorem jl_L_wordOf : hk_L jy_L_wordOf jb_L_wordOf 3 (some .int) 2 := ⟨jq_343, jq_7, by decide, by decide, by decide +kernel⟩
theorem jl_L_kindOf : hk_L jy_L_kindOf jb_L_kindOf 2 (some .int) 1 := ⟨jq_362, jq_7, by decide, by decide, by decide +kernel⟩
theorem jl_L_thatchOf : hk_L jy_L_thatchOf jb_L_thatchOf 2 (some .int) 1 := ⟨jq_374, jq_7, by decide, by decide, by decide +kernel⟩
theorem jl_L_weatherOf : hk_L jy_L_weatherOf jb_L_weatherOf 2 (some .int) 1 := ⟨jq_444, jq_7, by decide, by decide, by decide +kernel⟩
theorem jl_S_isFull : hk_L jy_S_isFull jb_S_isFull 1 (some .boolean) 0 := ⟨jq_572, jq_6, by decide, by decide, by decide +kernel⟩
theorem jl_S_add : hk_L jy_S_add jb_S_add 3 none 2 := ⟨jq_576, jq_6, by decide, by decide, by decide +kernel⟩
theorem jl_S_isSoOf : hk_L jy_S_isSoOf jb_S_isSoOf 4 (some .boolean) 2 := ⟨jq_589, jq_6, by decide, by decide, by decide +kernel⟩
theorem jl_F_clear : hk_L jy_F_clear jb_F_clear 1 none 0 := ⟨jq_324, jq_3, by decide, by decide, by decide +kernel⟩
theorem jl_F_heightOf : hk_L jy_F_heightOf jb_F_heightOf 2 (some .int) 1 := ⟨jq_378, jq_3, by decide, by decide, by decide +kernel⟩
theorem jl_F_heatOf : hk_L jy_F_heatOf jb_F_heatOf 3 (some .int) 2 := ⟨jq_388, jq_3, by decide, by decide, by decide +kernel⟩
theorem jl_F_hottestOf : hk_L jy_F_hottestOf jb_F_hottestOf 4 (some .int) 1 := ⟨jq_383, jq_3, by decide, by decide, by decide +kernel⟩
theorem jl_F_wordsOf : hk_L jy_F_wordsOf jb_F_wordsOf 3 (some .int) 2 := ⟨jq_397, jq_3, by decide, by decide, by decide +kernel⟩
theorem jl_F_wetnessOf : hk_L jy_F_wetnessOf jb_F_wetnessOf 3 (some .int) 2 := ⟨jq_401, jq_3, by decide, by decide, by decide +kernel⟩
theorem jl_F_copyFrom : hk_L jy_F_copyFrom jb_F_copyFrom 2 none 1 := ⟨jq_418, jq_3, by decide, by decide, by decide +kernel⟩
theorem jl_F_heatRick : hk_L jy_F_heatRick jb_F_heatRick 5 none 2 := ⟨jq_437, jq_3, by decide, by decide, by decide +kernel⟩
theorem jl_F_hourGoesBy : hk_L jy_F_hourGoesBy jb_F_hourGoesBy 4 none 1 := ⟨jq_432, jq_3, by decide, by decide, by decide +kernel⟩
theorem jl_F_hoursGoBy : hk_L jy_F_hoursGoBy jb_F_hoursGoBy 4 none 2 := ⟨jq_428, jq_3, by decide, by decide, by decide +kernel⟩
theorem jl_F_lyingIn : hk_L jy_F_lyingIn jb_F_lyingIn 5 (some .int) 2 := ⟨jq_454, jq_3, by decide, by decide, by decide +kernel⟩
theorem jl_F_addLayer : hk_L jy_F_addLayer jb_F_addLayer 6 none 4 := ⟨jq_463, jq_3, by decide, by decide, by decide +kernel⟩
theorem jl_F_gather : hk_L jy_F_gather jb_F_gather 6 none 3 := ⟨jq_458, jq_3, by decide, by decide, by decide +kernel⟩
theorem jl_F_wordsFromTop : hk_L jy_F_wordsFromTop jb_F_wordsFromTop 3 (some .int) 2 := ⟨jq_479, jq_3, by decide, by decide, by decide +kernel⟩
theorem jl_H_wordsAboveAll : hk_L jy_H_wordsAboveAll jb_H_wordsAboveAll 4 (some .int) 2 := ⟨jq_486, jq_1, by decide, by decide, by decide +kernel⟩
theorem jl_H_heardBy : hk_L jy_H_heardBy jb_H_heardBy 3 (some .int) 3 := ⟨jq_483, jq_1, by decide, by decide, by decide +kernel⟩
theorem jl_F_freshFor : hk_L jy_F_freshFor jb_F_freshFor 5 (some .int) 3 := ⟨jq_475, jq_3, by decide, by decide, by decide +kernel⟩
theorem jl_F_feed : hk_L jy_F_feed jb_F_feed 5 (some .int) 3 := ⟨jq_471, jq_3, by decide, by decide, by decide +kernel⟩
theorem jl_F_stack : hk_L jy_F_stack jb_F_stack 5 none 2 := ⟨jq_499, jq_3, by decide, by decide, by decide +kernel⟩
theorem jl_F_placesOf : hk_L jy_F_placesOf jb_F_placesOf 5 (some .int) 2 := ⟨jq_561, jq_3, by decide, by decide, by decide +kernel⟩
theorem jl_F_wordsTold : hk_L jy_F_wordsTold jb_F_wordsTold 3 (some .int) 0 := ⟨jq_625, jq_3, by decide, by decide, by decide +kernel⟩
