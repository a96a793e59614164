abbrev jb_P_newestField : ByteArray := prog_4_method_6_code
abbrev jy_P_newestField : MethodName := ⟨"HayTalk$Pile", "newestField", "()LHayTalk$Field;"⟩
abbrev jr_P_newestField : Room := { frames := 0, cells := 0, slots := 0, locals := 0 }
abbrev jb_P_clear : ByteArray := prog_4_method_3_code
abbrev jy_P_clear : MethodName := ⟨"HayTalk$Pile", "clear", "()V"⟩
abbrev jr_P_clear : Room := { frames := 0, cells := 0, slots := 0, locals := 0 }
abbrev jb_P_isFull : ByteArray := prog_4_method_2_code
abbrev jy_P_isFull : MethodName := ⟨"HayTalk$Pile", "isFull", "()Z"⟩
abbrev jr_P_isFull : Room := { frames := 0, cells := 0, slots := 0, locals := 0 }
abbrev jb_P_push : ByteArray := prog_4_method_4_code
abbrev jy_P_push : MethodName := ⟨"HayTalk$Pile", "push", "(LHayTalk$Field;)V"⟩
abbrev jr_P_push : Room := { frames := 2, cells := 0, slots := 0, locals := 43 }
abbrev jb_P_popInto : ByteArray := prog_4_method_5_code
abbrev jy_P_popInto : MethodName := ⟨"HayTalk$Pile", "popInto", "(LHayTalk$Field;)V"⟩
abbrev jr_P_popInto : Room := { frames := 2, cells := 0, slots := 0, locals := 43 }
abbrev jb_H_write : ByteArray := prog_1_method_2_code
abbrev jy_H_write : MethodName := ⟨"HayTalk", "write", "(I)I"⟩
abbrev jr_H_write : Room := { frames := 2, cells := 0, slots := 0, locals := 43 }
abbrev jb_H_wipe : ByteArray := prog_1_method_3_code
abbrev jy_H_wipe : MethodName := ⟨"HayTalk", "wipe", "()I"⟩
abbrev jr_H_wipe : Room := { frames := 0, cells := 0, slots := 0, locals := 0 }
abbrev jb_H_fault : ByteArray := prog_1_method_4_code
abbrev jy_H_fault : MethodName := ⟨"HayTalk", "fault", "()I"⟩
abbrev jr_H_fault : Room := { frames := 6, cells := 0, slots := 0, locals := 142 }
abbrev jb_H_lay : ByteArray := prog_1_method_5_code
abbrev jy_H_lay : MethodName := ⟨"HayTalk", "lay", "()I"⟩
abbrev jr_H_lay : Room := { frames := 6, cells := 0, slots := 0, locals := 142 }
abbrev jb_H_isMower : ByteArray := prog_1_method_34_code
abbrev jy_H_isMower : MethodName := ⟨"HayTalk", "isMower", "(I)Z"⟩
abbrev jr_H_isMower : Room := { frames := 0, cells := 0, slots := 0, locals := 0 }
abbrev jb_H_mower : ByteArray := prog_1_method_6_code
abbrev jy_H_mower : MethodName := ⟨"HayTalk", "mower", "(II)I"⟩
abbrev jr_H_mower : Room := { frames := 2, cells := 0, slots := 0, locals := 43 }
abbrev jb_H_isCow : ByteArray := prog_1_method_35_code
abbrev jy_H_isCow : MethodName := ⟨"HayTalk", "isCow", "(I)Z"⟩
abbrev jr_H_isCow : Room := { frames := 0, cells := 0, slots := 0, locals := 0 }
abbrev jb_H_cow : ByteArray := prog_1_method_7_code
abbrev jy_H_cow : MethodName := ⟨"HayTalk", "cow", "(II)I"⟩
abbrev jr_H_cow : Room := { frames := 2, cells := 0, slots := 0, locals := 42 }
abbrev jb_H_isRick : ByteArray := prog_1_method_36_code
abbrev jy_H_isRick : MethodName := ⟨"HayTalk", "isRick", "(I)Z"⟩
abbrev jr_H_isRick : Room := { frames := 0, cells := 0, slots := 0, locals := 0 }
abbrev jb_H_rick : ByteArray := prog_1_method_8_code
abbrev jy_H_rick : MethodName := ⟨"HayTalk", "rick", "(II)I"⟩
abbrev jr_H_rick : Room := { frames := 3, cells := 0, slots := 0, locals := 66 }
abbrev jb_H_layer : ByteArray := prog_1_method_9_code
abbrev jy_H_layer : MethodName := ⟨"HayTalk", "layer", "(III)I"⟩
abbrev jr_H_layer : Room := { frames := 2, cells := 0, slots := 0, locals := 43 }
abbrev jb_H_pass : ByteArray := prog_1_method_10_code
abbrev jy_H_pass : MethodName := ⟨"HayTalk", "pass", "(I)I"⟩
abbrev jr_H_pass : Room := { frames := 6, cells := 0, slots := 0, locals := 136 }
abbrev jb_H_rake : ByteArray := prog_1_method_11_code
abbrev jy_H_rake : MethodName := ⟨"HayTalk", "rake", "(III)I"⟩
abbrev jr_H_rake : Room := { frames := 4, cells := 0, slots := 0, locals := 92 }
abbrev jb_H_cut : ByteArray := prog_1_method_12_code
abbrev jy_H_cut : MethodName := ⟨"HayTalk", "cut", "(II)I"⟩
abbrev jr_H_cut : Room := { frames := 5, cells := 0, slots := 0, locals := 113 }
abbrev jb_H_turn : ByteArray := prog_1_method_13_code
abbrev jy_H_turn : MethodName := ⟨"HayTalk", "turn", "(I)I"⟩
abbrev jr_H_turn : Room := { frames := 3, cells := 0, slots := 0, locals := 65 }
abbrev jb_H_heap : ByteArray := prog_1_method_14_code
abbrev jy_H_heap : MethodName := ⟨"HayTalk", "heap", "(II)I"⟩
abbrev jr_H_heap : Room := { frames := 4, cells := 0, slots := 0, locals := 91 }
abbrev jb_H_undo : ByteArray := prog_1_method_15_code
abbrev jy_H_undo : MethodName := ⟨"HayTalk", "undo", "()I"⟩
abbrev jr_H_undo : Room := { frames := 3, cells := 0, slots := 0, locals := 65 }
abbrev jb_H_behind : ByteArray := prog_1_method_16_code
abbrev jy_H_behind : MethodName := ⟨"HayTalk", "behind", "(III)I"⟩
abbrev jr_H_behind : Room := { frames := 6, cells := 0, slots := 0, locals := 136 }
abbrev jb_H_burns : ByteArray := prog_1_method_17_code
abbrev jy_H_burns : MethodName := ⟨"HayTalk", "burns", "(I)I"⟩
abbrev jr_H_burns : Room := { frames := 5, cells := 0, slots := 0, locals := 113 }
abbrev jb_H_cutsOfThird : ByteArray := prog_1_method_38_code
abbrev jy_H_cutsOfThird : MethodName := ⟨"HayTalk", "cutsOfThird", "(III)I"⟩
abbrev jr_H_cutsOfThird : Room := { frames := 3, cells := 0, slots := 0, locals := 65 }
abbrev jb_H_fewestCuts : ByteArray := prog_1_method_37_code
abbrev jy_H_fewestCuts : MethodName := ⟨"HayTalk", "fewestCuts", "(II)I"⟩
abbrev jr_H_fewestCuts : Room := { frames := 4, cells := 0, slots := 0, locals := 90 }
abbrev jb_H_tell : ByteArray := prog_1_method_18_code
abbrev jy_H_tell : MethodName := ⟨"HayTalk", "tell", "(III)I"⟩
abbrev jr_H_tell : Room := { frames := 5, cells := 0, slots := 0, locals := 120 }
abbrev jb_H_rakes : ByteArray := prog_1_method_19_code
abbrev jy_H_rakes : MethodName := ⟨"HayTalk", "rakes", "(I)I"⟩
abbrev jr_H_rakes : Room := { frames := 2, cells := 0, slots := 0, locals := 45 }
abbrev jb_H_most : ByteArray := prog_1_method_20_code
abbrev jy_H_most : MethodName := ⟨"HayTalk", "most", "(II)I"⟩
abbrev jr_H_most : Room := { frames := 4, cells := 0, slots := 0, locals := 89 }
abbrev jb_H_isWord : ByteArray := prog_1_method_33_code
abbrev jy_H_isWord : MethodName := ⟨"HayTalk", "isWord", "(I)Z"⟩
abbrev jr_H_isWord : Room := { frames := 1, cells := 0, slots := 0, locals := 22 }
abbrev jb_H_first : ByteArray := prog_1_method_21_code
abbrev jy_H_first : MethodName := ⟨"HayTalk", "first", "(II)I"⟩
abbrev jr_H_first : Room := { frames := 2, cells := 0, slots := 0, locals := 43 }
abbrev jb_H_inLowestTerms : ByteArray := prog_1_method_46_code
abbrev jy_H_inLowestTerms : MethodName := ⟨"HayTalk", "inLowestTerms", "(III)I"⟩
abbrev jr_H_inLowestTerms : Room := { frames := 0, cells := 0, slots := 0, locals := 0 }
abbrev jb_H_needle : ByteArray := prog_1_method_22_code
abbrev jy_H_needle : MethodName := ⟨"HayTalk", "needle", "(III)I"⟩
abbrev jr_H_needle : Room := { frames := 3, cells := 0, slots := 0, locals := 67 }
abbrev jb_H_see : ByteArray := prog_1_method_23_code
abbrev jy_H_see : MethodName := ⟨"HayTalk", "see", "(II)I"⟩
abbrev jr_H_see : Room := { frames := 2, cells := 0, slots := 0, locals := 44 }
abbrev jb_H_forget : ByteArray := prog_1_method_24_code
abbrev jy_H_forget : MethodName := ⟨"HayTalk", "forget", "()I"⟩
abbrev jr_H_forget : Room := { frames := 0, cells := 0, slots := 0, locals := 0 }
abbrev jb_H_which : ByteArray := prog_1_method_25_code
abbrev jy_H_which : MethodName := ⟨"HayTalk", "which", "()I"⟩
abbrev jr_H_which : Room := { frames := 3, cells := 0, slots := 0, locals := 66 }
abbrev jb_H_kinds : ByteArray := prog_1_method_26_code
abbrev jy_H_kinds : MethodName := ⟨"HayTalk", "kinds", "(II)I"⟩
abbrev jr_H_kinds : Room := { frames := 2, cells := 0, slots := 0, locals := 45 }
abbrev jb_H_waysOf : ByteArray := prog_1_method_45_code
abbrev jy_H_waysOf : MethodName := ⟨"HayTalk", "waysOf", "(II)I"⟩
abbrev jr_H_waysOf : Room := { frames := 0, cells := 0, slots := 0, locals := 0 }
abbrev jb_H_power : ByteArray := prog_1_method_44_code
abbrev jy_H_power : MethodName := ⟨"HayTalk", "power", "(II)I"⟩
abbrev jr_H_power : Room := { frames := 0, cells := 0, slots := 0, locals := 0 }
abbrev jb_H_rain : ByteArray := prog_1_method_27_code
abbrev jy_H_rain : MethodName := ⟨"HayTalk", "rain", "(IIIII)I"⟩
abbrev jr_H_rain : Room := { frames := 6, cells := 0, slots := 0, locals := 136 }
abbrev jb_H_drawOf : ByteArray := prog_1_method_41_code
abbrev jy_H_drawOf : MethodName := ⟨"HayTalk", "drawOf", "(II)I"⟩
abbrev jr_H_drawOf : Room := { frames := 0, cells := 0, slots := 0, locals := 0 }
abbrev jb_H_actByDraw : ByteArray := prog_1_method_42_code
abbrev jy_H_actByDraw : MethodName := ⟨"HayTalk", "actByDraw", "(I)V"⟩
abbrev jr_H_actByDraw : Room := { frames := 5, cells := 0, slots := 0, locals := 113 }
abbrev jb_H_february : ByteArray := prog_1_method_28_code
abbrev jy_H_february : MethodName := ⟨"HayTalk", "february", "(III)I"⟩
abbrev jr_H_february : Room := { frames := 6, cells := 0, slots := 0, locals := 137 }
abbrev jb_H_keep : ByteArray := prog_1_method_29_code
abbrev jy_H_keep : MethodName := ⟨"HayTalk", "keep", "()I"⟩
abbrev jr_H_keep : Room := { frames := 3, cells := 0, slots := 0, locals := 65 }
abbrev jb_H_back : ByteArray := prog_1_method_30_code
abbrev jy_H_back : MethodName := ⟨"HayTalk", "back", "()I"⟩
abbrev jr_H_back : Room := { frames := 3, cells := 0, slots := 0, locals := 65 }
abbrev jb_H_count : ByteArray := prog_1_method_31_code
abbrev jy_H_count : MethodName := ⟨"HayTalk", "count", "(I)I"⟩
abbrev jr_H_count : Room := { frames := 2, cells := 0, slots := 0, locals := 43 }
theorem jl_P_newestField : hk_L jy_P_newestField jb_P_newestField 1 (some (.object "HayTalk$Field")) 0 := ⟨jq_414, jq_4, by decide, by decide, by decide +kernel⟩
theorem jl_P_clear : hk_L jy_P_clear jb_P_clear 1 none 0 := ⟨jq_331, jq_4, by decide, by decide, by decide +kernel⟩
theorem jl_P_isFull : hk_L jy_P_isFull jb_P_isFull 1 (some .boolean) 0 := ⟨jq_637, jq_4, by decide, by decide, by decide +kernel⟩
theorem jl_P_push : hk_L jy_P_push jb_P_push 3 none 1 := ⟨jq_410, jq_4, by decide, by decide, by decide +kernel⟩
theorem jl_P_popInto : hk_L jy_P_popInto jb_P_popInto 3 none 1 := ⟨jq_507, jq_4, by decide, by decide, by decide +kernel⟩
theorem jl_H_write : hk_L jy_H_write jb_H_write 2 (some .int) 1 := ⟨jq_301, jq_1, by decide, by decide, by decide +kernel⟩
theorem jl_H_wipe : hk_L jy_H_wipe jb_H_wipe 2 (some .int) 0 := ⟨jq_308, jq_1, by decide, by decide, by decide +kernel⟩
theorem jl_H_fault : hk_L jy_H_fault jb_H_fault 1 (some .int) 0 := ⟨jq_312, jq_1, by decide, by decide, by decide +kernel⟩
theorem jl_H_lay : hk_L jy_H_lay jb_H_lay 2 (some .int) 0 := ⟨jq_316, jq_1, by decide, by decide, by decide +kernel⟩
theorem jl_H_isMower : hk_L jy_H_isMower jb_H_isMower 2 (some .boolean) 1 := ⟨jq_339, jq_1, by decide, by decide, by decide +kernel⟩
theorem jl_H_mower : hk_L jy_H_mower jb_H_mower 3 (some .int) 2 := ⟨jq_335, jq_1, by decide, by decide, by decide +kernel⟩
theorem jl_H_isCow : hk_L jy_H_isCow jb_H_isCow 2 (some .boolean) 1 := ⟨jq_358, jq_1, by decide, by decide, by decide +kernel⟩
theorem jl_H_cow : hk_L jy_H_cow jb_H_cow 3 (some .int) 2 := ⟨jq_354, jq_1, by decide, by decide, by decide +kernel⟩
theorem jl_H_isRick : hk_L jy_H_isRick jb_H_isRick 2 (some .boolean) 1 := ⟨jq_370, jq_1, by decide, by decide, by decide +kernel⟩
theorem jl_H_rick : hk_L jy_H_rick jb_H_rick 3 (some .int) 2 := ⟨jq_366, jq_1, by decide, by decide, by decide +kernel⟩
theorem jl_H_layer : hk_L jy_H_layer jb_H_layer 4 (some .int) 3 := ⟨jq_393, jq_1, by decide, by decide, by decide +kernel⟩
theorem jl_H_pass : hk_L jy_H_pass jb_H_pass 2 (some .int) 1 := ⟨jq_406, jq_1, by decide, by decide, by decide +kernel⟩
theorem jl_H_rake : hk_L jy_H_rake jb_H_rake 4 (some .int) 3 := ⟨jq_450, jq_1, by decide, by decide, by decide +kernel⟩
theorem jl_H_cut : hk_L jy_H_cut jb_H_cut 3 (some .int) 2 := ⟨jq_467, jq_1, by decide, by decide, by decide +kernel⟩
theorem jl_H_turn : hk_L jy_H_turn jb_H_turn 3 (some .int) 1 := ⟨jq_490, jq_1, by decide, by decide, by decide +kernel⟩
theorem jl_H_heap : hk_L jy_H_heap jb_H_heap 3 (some .int) 2 := ⟨jq_495, jq_1, by decide, by decide, by decide +kernel⟩
theorem jl_H_undo : hk_L jy_H_undo jb_H_undo 1 (some .int) 0 := ⟨jq_503, jq_1, by decide, by decide, by decide +kernel⟩
theorem jl_H_behind : hk_L jy_H_behind jb_H_behind 4 (some .int) 3 := ⟨jq_511, jq_1, by decide, by decide, by decide +kernel⟩
theorem jl_H_burns : hk_L jy_H_burns jb_H_burns 4 (some .int) 1 := ⟨jq_516, jq_1, by decide, by decide, by decide +kernel⟩
theorem jl_H_cutsOfThird : hk_L jy_H_cutsOfThird jb_H_cutsOfThird 6 (some .int) 3 := ⟨jq_529, jq_1, by decide, by decide, by decide +kernel⟩
theorem jl_H_fewestCuts : hk_L jy_H_fewestCuts jb_H_fewestCuts 11 (some .int) 2 := ⟨jq_525, jq_1, by decide, by decide, by decide +kernel⟩
theorem jl_H_tell : hk_L jy_H_tell jb_H_tell 8 (some .int) 3 := ⟨jq_521, jq_1, by decide, by decide, by decide +kernel⟩
theorem jl_H_rakes : hk_L jy_H_rakes jb_H_rakes 8 (some .int) 1 := ⟨jq_535, jq_1, by decide, by decide, by decide +kernel⟩
theorem jl_H_most : hk_L jy_H_most jb_H_most 7 (some .int) 2 := ⟨jq_545, jq_1, by decide, by decide, by decide +kernel⟩
theorem jl_H_isWord : hk_L jy_H_isWord jb_H_isWord 1 (some .boolean) 1 := ⟨jq_553, jq_1, by decide, by decide, by decide +kernel⟩
theorem jl_H_first : hk_L jy_H_first jb_H_first 5 (some .int) 2 := ⟨jq_550, jq_1, by decide, by decide, by decide +kernel⟩
theorem jl_H_inLowestTerms : hk_L jy_H_inLowestTerms jb_H_inLowestTerms 7 (some .int) 3 := ⟨jq_564, jq_1, by decide, by decide, by decide +kernel⟩
theorem jl_H_needle : hk_L jy_H_needle jb_H_needle 6 (some .int) 3 := ⟨jq_557, jq_1, by decide, by decide, by decide +kernel⟩
theorem jl_H_see : hk_L jy_H_see jb_H_see 3 (some .int) 2 := ⟨jq_568, jq_1, by decide, by decide, by decide +kernel⟩
theorem jl_H_forget : hk_L jy_H_forget jb_H_forget 2 (some .int) 0 := ⟨jq_581, jq_1, by decide, by decide, by decide +kernel⟩
theorem jl_H_which : hk_L jy_H_which jb_H_which 3 (some .int) 0 := ⟨jq_585, jq_1, by decide, by decide, by decide +kernel⟩
theorem jl_H_kinds : hk_L jy_H_kinds jb_H_kinds 5 (some .int) 2 := ⟨jq_595, jq_1, by decide, by decide, by decide +kernel⟩
theorem jl_H_waysOf : hk_L jy_H_waysOf jb_H_waysOf 4 (some .int) 2 := ⟨jq_603, jq_1, by decide, by decide, by decide +kernel⟩
theorem jl_H_power : hk_L jy_H_power jb_H_power 4 (some .int) 2 := ⟨jq_606, jq_1, by decide, by decide, by decide +kernel⟩
theorem jl_H_rain : hk_L jy_H_rain jb_H_rain 9 (some .int) 5 := ⟨jq_599, jq_1, by decide, by decide, by decide +kernel⟩
theorem jl_H_drawOf : hk_L jy_H_drawOf jb_H_drawOf 4 (some .int) 2 := ⟨jq_613, jq_1, by decide, by decide, by decide +kernel⟩
theorem jl_H_actByDraw : hk_L jy_H_actByDraw jb_H_actByDraw 5 none 1 := ⟨jq_620, jq_1, by decide, by decide, by decide +kernel⟩
theorem jl_H_february : hk_L jy_H_february jb_H_february 5 (some .int) 3 := ⟨jq_610, jq_1, by decide, by decide, by decide +kernel⟩
theorem jl_H_keep : hk_L jy_H_keep jb_H_keep 1 (some .int) 0 := ⟨jq_633, jq_1, by decide, by decide, by decide +kernel⟩
theorem jl_H_back : hk_L jy_H_back jb_H_back 1 (some .int) 0 := ⟨jq_641, jq_1, by decide, by decide, by decide +kernel⟩
theorem jl_H_count : hk_L jy_H_count jb_H_count 2 (some .int) 1 := ⟨jq_645, jq_1, by decide, by decide, by decide +kernel⟩
