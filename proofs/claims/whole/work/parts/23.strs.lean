theorem jq_8 : Jvm.Cond.initialized "java/lang/String" ∈ lw_gd := lw_in 8 (by decide +kernel) rfl
theorem jq_9 : Jvm.Cond.initialized "java/lang/StringLatin1" ∈ lw_gd := lw_in 9 (by decide +kernel) rfl
theorem jq_10 : Jvm.Cond.initialized "jdk/internal/util/Preconditions" ∈ lw_gd := lw_in 10 (by decide +kernel) rfl
theorem jq_162 : Jvm.Cond.code ({ cls := "HayTalk$Text", name := "of", desc := "(Ljava/lang/String;)LHayTalk$Text;" } : Jvm.MethodName) prog_7_method_2_code (3 : Nat) (Option.some (Jvm.ClassFile.FieldType.object "HayTalk$Text")) ∈ lw_gd := lw_in 162 (by decide +kernel) rfl
theorem jq_168 : Jvm.Cond.code ({ cls := "java/lang/String", name := "length", desc := "()I" } : Jvm.MethodName) prog_12_method_54_code (1 : Nat) (Option.some Jvm.ClassFile.FieldType.int) ∈ lw_gd := lw_in 168 (by decide +kernel) rfl
theorem jq_169 : Jvm.Cond.methodLink "java/lang/String" (335 : Nat) ({ cls := "java/lang/String", name := "coder", desc := "()B" } : Jvm.MethodName) ∈ lw_gd := lw_in 169 (by decide +kernel) rfl
theorem jq_170 : Jvm.Cond.instanceMethod ({ cls := "java/lang/String", name := "coder", desc := "()B" } : Jvm.MethodName) ∈ lw_gd := lw_in 170 (by decide +kernel) rfl
theorem jq_171 : Jvm.Cond.selects "java/lang/String" ({ cls := "java/lang/String", name := "coder", desc := "()B" } : Jvm.MethodName) ({ cls := "java/lang/String", name := "coder", desc := "()B" } : Jvm.MethodName) ∈ lw_gd := lw_in 171 (by decide +kernel) rfl
theorem jq_172 : Jvm.Cond.code ({ cls := "java/lang/String", name := "coder", desc := "()B" } : Jvm.MethodName) prog_12_method_152_code (1 : Nat) (Option.some Jvm.ClassFile.FieldType.byte) ∈ lw_gd := lw_in 172 (by decide +kernel) rfl
theorem jq_173 : Jvm.Cond.fieldLink "java/lang/String" (38 : Nat) "java/lang/String" "COMPACT_STRINGS" "Z" ∈ lw_gd := lw_in 173 (by decide +kernel) rfl
theorem jq_178 : Jvm.Cond.code ({ cls := "java/lang/String", name := "charAt", desc := "(I)C" } : Jvm.MethodName) prog_12_method_56_code (2 : Nat) (Option.some Jvm.ClassFile.FieldType.char) ∈ lw_gd := lw_in 178 (by decide +kernel) rfl
theorem jq_179 : Jvm.Cond.methodLink "java/lang/String" (492 : Nat) ({ cls := "java/lang/String", name := "isLatin1", desc := "()Z" } : Jvm.MethodName) ∈ lw_gd := lw_in 179 (by decide +kernel) rfl
theorem jq_180 : Jvm.Cond.instanceMethod ({ cls := "java/lang/String", name := "isLatin1", desc := "()Z" } : Jvm.MethodName) ∈ lw_gd := lw_in 180 (by decide +kernel) rfl
theorem jq_181 : Jvm.Cond.selects "java/lang/String" ({ cls := "java/lang/String", name := "isLatin1", desc := "()Z" } : Jvm.MethodName) ({ cls := "java/lang/String", name := "isLatin1", desc := "()Z" } : Jvm.MethodName) ∈ lw_gd := lw_in 181 (by decide +kernel) rfl
theorem jq_182 : Jvm.Cond.code ({ cls := "java/lang/String", name := "isLatin1", desc := "()Z" } : Jvm.MethodName) prog_12_method_154_code (1 : Nat) (Option.some Jvm.ClassFile.FieldType.boolean) ∈ lw_gd := lw_in 182 (by decide +kernel) rfl
theorem jq_183 : Jvm.Cond.methodLink "java/lang/String" (495 : Nat) ({ cls := "java/lang/StringLatin1", name := "charAt", desc := "([BI)C" } : Jvm.MethodName) ∈ lw_gd := lw_in 183 (by decide +kernel) rfl
theorem jq_184 : Jvm.Cond.static ({ cls := "java/lang/StringLatin1", name := "charAt", desc := "([BI)C" } : Jvm.MethodName) ∈ lw_gd := lw_in 184 (by decide +kernel) rfl
theorem jq_185 : Jvm.Cond.code ({ cls := "java/lang/StringLatin1", name := "charAt", desc := "([BI)C" } : Jvm.MethodName) prog_13_method_2_code (2 : Nat) (Option.some Jvm.ClassFile.FieldType.char) ∈ lw_gd := lw_in 185 (by decide +kernel) rfl
theorem jq_186 : Jvm.Cond.methodLink "java/lang/StringLatin1" (9 : Nat) ({ cls := "java/lang/String", name := "checkIndex", desc := "(II)V" } : Jvm.MethodName) ∈ lw_gd := lw_in 186 (by decide +kernel) rfl
theorem jq_187 : Jvm.Cond.static ({ cls := "java/lang/String", name := "checkIndex", desc := "(II)V" } : Jvm.MethodName) ∈ lw_gd := lw_in 187 (by decide +kernel) rfl
theorem jq_188 : Jvm.Cond.code ({ cls := "java/lang/String", name := "checkIndex", desc := "(II)V" } : Jvm.MethodName) prog_12_method_155_code (2 : Nat) (Option.none : Option Jvm.ClassFile.FieldType) ∈ lw_gd := lw_in 188 (by decide +kernel) rfl
theorem jq_189 : Jvm.Cond.fieldLink "java/lang/String" (1053 : Nat) "jdk/internal/util/Preconditions" "SIOOBE_FORMATTER" "Ljava/util/function/BiFunction;" ∈ lw_gd := lw_in 189 (by decide +kernel) rfl
theorem jq_191 : Jvm.Cond.methodLink "java/lang/String" (1059 : Nat) ({ cls := "jdk/internal/util/Preconditions", name := "checkIndex", desc := "(IILjava/util/function/BiFunction;)I" } : Jvm.MethodName) ∈ lw_gd := lw_in 191 (by decide +kernel) rfl
theorem jq_192 : Jvm.Cond.static ({ cls := "jdk/internal/util/Preconditions", name := "checkIndex", desc := "(IILjava/util/function/BiFunction;)I" } : Jvm.MethodName) ∈ lw_gd := lw_in 192 (by decide +kernel) rfl
theorem jq_193 : Jvm.Cond.code ({ cls := "jdk/internal/util/Preconditions", name := "checkIndex", desc := "(IILjava/util/function/BiFunction;)I" } : Jvm.MethodName) prog_16_method_11_code (3 : Nat) (Option.some Jvm.ClassFile.FieldType.int) ∈ lw_gd := lw_in 193 (by decide +kernel) rfl
theorem jq_1001 : Jvm.Cond.fieldLink "java/lang/String" (9 : Nat) "java/lang/String" "value" "[B" ∈ lw_gd := lw_in 1001 (by decide +kernel) rfl
theorem jq_1002 : Jvm.Cond.fieldLink "java/lang/String" (15 : Nat) "java/lang/String" "coder" "B" ∈ lw_gd := lw_in 1002 (by decide +kernel) rfl
abbrev jb_String_coder : ByteArray := prog_12_method_152_code
abbrev jy_String_coder : MethodName := ⟨"java/lang/String", "coder", "()B"⟩
abbrev jr_String_coder : Room := { frames := 0, cells := 0, slots := 0, locals := 0 }
abbrev jb_String_length : ByteArray := prog_12_method_54_code
abbrev jy_String_length : MethodName := ⟨"java/lang/String", "length", "()I"⟩
abbrev jr_String_length : Room := { frames := 1, cells := 0, slots := 0, locals := 20 }
abbrev jb_String_isLatin1 : ByteArray := prog_12_method_154_code
abbrev jy_String_isLatin1 : MethodName := ⟨"java/lang/String", "isLatin1", "()Z"⟩
abbrev jr_String_isLatin1 : Room := { frames := 0, cells := 0, slots := 0, locals := 0 }
abbrev jb_Pre_checkIndex : ByteArray := prog_16_method_11_code
abbrev jy_Pre_checkIndex : MethodName := ⟨"jdk/internal/util/Preconditions", "checkIndex", "(IILjava/util/function/BiFunction;)I"⟩
abbrev jr_Pre_checkIndex : Room := { frames := 0, cells := 0, slots := 0, locals := 0 }
abbrev jb_String_checkIndex : ByteArray := prog_12_method_155_code
abbrev jy_String_checkIndex : MethodName := ⟨"java/lang/String", "checkIndex", "(II)V"⟩
abbrev jr_String_checkIndex : Room := { frames := 1, cells := 0, slots := 0, locals := 22 }
abbrev jb_Latin_charAt : ByteArray := prog_13_method_2_code
abbrev jy_Latin_charAt : MethodName := ⟨"java/lang/StringLatin1", "charAt", "([BI)C"⟩
abbrev jr_Latin_charAt : Room := { frames := 2, cells := 0, slots := 0, locals := 43 }
abbrev jb_String_charAt : ByteArray := prog_12_method_56_code
abbrev jy_String_charAt : MethodName := ⟨"java/lang/String", "charAt", "(I)C"⟩
abbrev jr_String_charAt : Room := { frames := 3, cells := 0, slots := 0, locals := 64 }
abbrev jb_T_of : ByteArray := prog_7_method_2_code
abbrev jy_T_of : MethodName := ⟨"HayTalk$Text", "of", "(Ljava/lang/String;)LHayTalk$Text;"⟩
abbrev jr_T_of : Room := { frames := 4, cells := 2, slots := 202, locals := 90 }
theorem jl_String_coder : hk_L jy_String_coder jb_String_coder 1 (some .byte) 0 := ⟨jq_172, jq_8, by decide, by decide, by decide +kernel⟩
theorem jl_String_length : hk_L jy_String_length jb_String_length 1 (some .int) 0 := ⟨jq_168, jq_8, by decide, by decide, by decide +kernel⟩
theorem jl_String_isLatin1 : hk_L jy_String_isLatin1 jb_String_isLatin1 1 (some .boolean) 0 := ⟨jq_182, jq_8, by decide, by decide, by decide +kernel⟩
theorem jl_Pre_checkIndex : hk_L jy_Pre_checkIndex jb_Pre_checkIndex 3 (some .int) 3 := ⟨jq_193, jq_10, by decide, by decide, by decide +kernel⟩
theorem jl_String_checkIndex : hk_L jy_String_checkIndex jb_String_checkIndex 2 none 2 := ⟨jq_188, jq_8, by decide, by decide, by decide +kernel⟩
theorem jl_Latin_charAt : hk_L jy_Latin_charAt jb_Latin_charAt 2 (some .char) 2 := ⟨jq_185, jq_9, by decide, by decide, by decide +kernel⟩
theorem jl_String_charAt : hk_L jy_String_charAt jb_String_charAt 2 (some .char) 1 := ⟨jq_178, jq_8, by decide, by decide, by decide +kernel⟩
theorem jl_T_of : hk_L jy_T_of jb_T_of 3 (some (.object "HayTalk$Text")) 1 := ⟨jq_162, jq_2, by decide, by decide, by decide +kernel⟩
theorem jd_String_coder_0 : decode jb_String_coder 0 = .ok (.getstatic 38, 3) := by decide +kernel
theorem jd_String_coder_3 : decode jb_String_coder 3 = .ok (.ifCond .eq 10, 3) := by decide +kernel
theorem jd_String_coder_6 : decode jb_String_coder 6 = .ok (.aload_n 0, 1) := by decide +kernel
theorem jd_String_coder_7 : decode jb_String_coder 7 = .ok (.getfield 15, 3) := by decide +kernel
theorem jd_String_coder_10 : decode jb_String_coder 10 = .ok (.goto 4, 3) := by decide +kernel
theorem jd_String_coder_13 : decode jb_String_coder 13 = .ok (.iconst 1, 1) := by decide +kernel
theorem jd_String_coder_14 : decode jb_String_coder 14 = .ok (.ireturn, 1) := by decide +kernel
theorem jd_String_length_0 : decode jb_String_length 0 = .ok (.aload_n 0, 1) := by decide +kernel
theorem jd_String_length_1 : decode jb_String_length 1 = .ok (.getfield 9, 3) := by decide +kernel
theorem jd_String_length_4 : decode jb_String_length 4 = .ok (.arraylength, 1) := by decide +kernel
theorem jd_String_length_5 : decode jb_String_length 5 = .ok (.aload_n 0, 1) := by decide +kernel
theorem jd_String_length_6 : decode jb_String_length 6 = .ok (.invokevirtual 335, 3) := by decide +kernel
theorem jd_String_length_9 : decode jb_String_length 9 = .ok (.ishr, 1) := by decide +kernel
theorem jd_String_length_10 : decode jb_String_length 10 = .ok (.ireturn, 1) := by decide +kernel
theorem jd_String_isLatin1_0 : decode jb_String_isLatin1 0 = .ok (.getstatic 38, 3) := by decide +kernel
theorem jd_String_isLatin1_3 : decode jb_String_isLatin1 3 = .ok (.ifCond .eq 14, 3) := by decide +kernel
theorem jd_String_isLatin1_6 : decode jb_String_isLatin1 6 = .ok (.aload_n 0, 1) := by decide +kernel
theorem jd_String_isLatin1_7 : decode jb_String_isLatin1 7 = .ok (.getfield 15, 3) := by decide +kernel
theorem jd_String_isLatin1_10 : decode jb_String_isLatin1 10 = .ok (.ifCond .ne 7, 3) := by decide +kernel
theorem jd_String_isLatin1_13 : decode jb_String_isLatin1 13 = .ok (.iconst 1, 1) := by decide +kernel
theorem jd_String_isLatin1_14 : decode jb_String_isLatin1 14 = .ok (.goto 4, 3) := by decide +kernel
theorem jd_String_isLatin1_17 : decode jb_String_isLatin1 17 = .ok (.iconst 0, 1) := by decide +kernel
theorem jd_String_isLatin1_18 : decode jb_String_isLatin1 18 = .ok (.ireturn, 1) := by decide +kernel
theorem jd_Pre_checkIndex_0 : decode jb_Pre_checkIndex 0 = .ok (.iload_n 0, 1) := by decide +kernel
theorem jd_Pre_checkIndex_1 : decode jb_Pre_checkIndex 1 = .ok (.ifCond .lt 8, 3) := by decide +kernel
theorem jd_Pre_checkIndex_4 : decode jb_Pre_checkIndex 4 = .ok (.iload_n 0, 1) := by decide +kernel
theorem jd_Pre_checkIndex_5 : decode jb_Pre_checkIndex 5 = .ok (.iload_n 1, 1) := by decide +kernel
theorem jd_Pre_checkIndex_6 : decode jb_Pre_checkIndex 6 = .ok (.if_icmp .lt 10, 3) := by decide +kernel
theorem jd_Pre_checkIndex_9 : decode jb_Pre_checkIndex 9 = .ok (.aload_n 2, 1) := by decide +kernel
theorem jd_Pre_checkIndex_10 : decode jb_Pre_checkIndex 10 = .ok (.iload_n 0, 1) := by decide +kernel
theorem jd_Pre_checkIndex_11 : decode jb_Pre_checkIndex 11 = .ok (.iload_n 1, 1) := by decide +kernel
theorem jd_Pre_checkIndex_12 : decode jb_Pre_checkIndex 12 = .ok (.invokestatic 95, 3) := by decide +kernel
theorem jd_Pre_checkIndex_15 : decode jb_Pre_checkIndex 15 = .ok (.athrow, 1) := by decide +kernel
theorem jd_Pre_checkIndex_16 : decode jb_Pre_checkIndex 16 = .ok (.iload_n 0, 1) := by decide +kernel
theorem jd_Pre_checkIndex_17 : decode jb_Pre_checkIndex 17 = .ok (.ireturn, 1) := by decide +kernel
theorem jd_String_checkIndex_0 : decode jb_String_checkIndex 0 = .ok (.iload_n 0, 1) := by decide +kernel
theorem jd_String_checkIndex_1 : decode jb_String_checkIndex 1 = .ok (.iload_n 1, 1) := by decide +kernel
theorem jd_String_checkIndex_2 : decode jb_String_checkIndex 2 = .ok (.getstatic 1053, 3) := by decide +kernel
theorem jd_String_checkIndex_5 : decode jb_String_checkIndex 5 = .ok (.invokestatic 1059, 3) := by decide +kernel
theorem jd_String_checkIndex_8 : decode jb_String_checkIndex 8 = .ok (.pop, 1) := by decide +kernel
theorem jd_String_checkIndex_9 : decode jb_String_checkIndex 9 = .ok (.return_, 1) := by decide +kernel
theorem jd_Latin_charAt_0 : decode jb_Latin_charAt 0 = .ok (.iload_n 1, 1) := by decide +kernel
theorem jd_Latin_charAt_1 : decode jb_Latin_charAt 1 = .ok (.aload_n 0, 1) := by decide +kernel
theorem jd_Latin_charAt_2 : decode jb_Latin_charAt 2 = .ok (.arraylength, 1) := by decide +kernel
theorem jd_Latin_charAt_3 : decode jb_Latin_charAt 3 = .ok (.invokestatic 9, 3) := by decide +kernel
theorem jd_Latin_charAt_6 : decode jb_Latin_charAt 6 = .ok (.aload_n 0, 1) := by decide +kernel
theorem jd_Latin_charAt_7 : decode jb_Latin_charAt 7 = .ok (.iload_n 1, 1) := by decide +kernel
theorem jd_Latin_charAt_8 : decode jb_Latin_charAt 8 = .ok (.baload, 1) := by decide +kernel
theorem jd_Latin_charAt_9 : decode jb_Latin_charAt 9 = .ok (.sipush 255, 3) := by decide +kernel
theorem jd_Latin_charAt_12 : decode jb_Latin_charAt 12 = .ok (.iand, 1) := by decide +kernel
theorem jd_Latin_charAt_13 : decode jb_Latin_charAt 13 = .ok (.i2c, 1) := by decide +kernel
theorem jd_Latin_charAt_14 : decode jb_Latin_charAt 14 = .ok (.ireturn, 1) := by decide +kernel
theorem jd_String_charAt_0 : decode jb_String_charAt 0 = .ok (.aload_n 0, 1) := by decide +kernel
theorem jd_String_charAt_1 : decode jb_String_charAt 1 = .ok (.invokevirtual 492, 3) := by decide +kernel
theorem jd_String_charAt_4 : decode jb_String_charAt 4 = .ok (.ifCond .eq 12, 3) := by decide +kernel
theorem jd_String_charAt_7 : decode jb_String_charAt 7 = .ok (.aload_n 0, 1) := by decide +kernel
theorem jd_String_charAt_8 : decode jb_String_charAt 8 = .ok (.getfield 9, 3) := by decide +kernel
theorem jd_String_charAt_11 : decode jb_String_charAt 11 = .ok (.iload_n 1, 1) := by decide +kernel
theorem jd_String_charAt_12 : decode jb_String_charAt 12 = .ok (.invokestatic 495, 3) := by decide +kernel
theorem jd_String_charAt_15 : decode jb_String_charAt 15 = .ok (.ireturn, 1) := by decide +kernel
theorem jd_String_charAt_16 : decode jb_String_charAt 16 = .ok (.aload_n 0, 1) := by decide +kernel
theorem jd_String_charAt_17 : decode jb_String_charAt 17 = .ok (.getfield 9, 3) := by decide +kernel
theorem jd_String_charAt_20 : decode jb_String_charAt 20 = .ok (.iload_n 1, 1) := by decide +kernel
theorem jd_String_charAt_21 : decode jb_String_charAt 21 = .ok (.invokestatic 498, 3) := by decide +kernel
theorem jd_String_charAt_24 : decode jb_String_charAt 24 = .ok (.ireturn, 1) := by decide +kernel
theorem jd_T_of_0 : decode jb_T_of 0 = .ok (.new 9, 3) := by decide +kernel
theorem jd_T_of_3 : decode jb_T_of 3 = .ok (.dup, 1) := by decide +kernel
theorem jd_T_of_4 : decode jb_T_of 4 = .ok (.invokespecial 15, 3) := by decide +kernel
theorem jd_T_of_7 : decode jb_T_of 7 = .ok (.astore_n 1, 1) := by decide +kernel
theorem jd_T_of_8 : decode jb_T_of 8 = .ok (.iconst 0, 1) := by decide +kernel
theorem jd_T_of_9 : decode jb_T_of 9 = .ok (.istore_n 2, 1) := by decide +kernel
theorem jd_T_of_10 : decode jb_T_of 10 = .ok (.iload_n 2, 1) := by decide +kernel
theorem jd_T_of_11 : decode jb_T_of 11 = .ok (.aload_n 0, 1) := by decide +kernel
theorem jd_T_of_12 : decode jb_T_of 12 = .ok (.invokevirtual 16, 3) := by decide +kernel
theorem jd_T_of_15 : decode jb_T_of 15 = .ok (.if_icmp .ge 18, 3) := by decide +kernel
theorem jd_T_of_18 : decode jb_T_of 18 = .ok (.aload_n 1, 1) := by decide +kernel
theorem jd_T_of_19 : decode jb_T_of 19 = .ok (.aload_n 0, 1) := by decide +kernel
theorem jd_T_of_20 : decode jb_T_of 20 = .ok (.iload_n 2, 1) := by decide +kernel
theorem jd_T_of_21 : decode jb_T_of 21 = .ok (.invokevirtual 22, 3) := by decide +kernel
theorem jd_T_of_24 : decode jb_T_of 24 = .ok (.invokevirtual 26, 3) := by decide +kernel
theorem jd_T_of_27 : decode jb_T_of 27 = .ok (.iinc 2 1, 3) := by decide +kernel
theorem jd_T_of_30 : decode jb_T_of 30 = .ok (.goto (-20), 3) := by decide +kernel
theorem jd_T_of_33 : decode jb_T_of 33 = .ok (.aload_n 1, 1) := by decide +kernel
theorem jd_T_of_34 : decode jb_T_of 34 = .ok (.areturn, 1) := by decide +kernel
/-! the one text constant, and what the JDK's members answer of it -/
def jEs (sa va : Nat) (tx : Nat → Int32) (A : Nat → Prop) (U : State) (H : Heap) : Prop := va_O "java/lang/String" sa A U H ∧ va_OF "java/lang/String" "coder" "B" (.int 0) sa A U H ∧ va_OF "java/lang/String" "value" "[B" (.ref va) sa A U H ∧ va_T .byte va 47 (fun j => .int (tx j)) A U H ∧ va_Z "java/lang/String" "COMPACT_STRINGS" "Z" (.int 1) A U H ∧ va_Zq "jdk/internal/util/Preconditions" "SIOOBE_FORMATTER" "Ljava/util/function/BiFunction;" A U H
def jE (sa va : Nat) (tx : Nat → Int32) (U : State) : Prop := jEs sa va tx (va_A [] U.heap.size) U U.heap
theorem jEs_go {sa va : Nat} {tx : Nat → Int32} {A B : Nat → Prop} {s U : State} {H : Heap} {locs : List Loc} (h : jEs sa va tx A s s.heap) (hS : va_S A s.heap H locs) (hU : U.heap = H) (hW : s.vm.Alike U.vm) (hB : ∀ q, B q → A q) : jEs sa va tx B U U.heap := by
  obtain ⟨h1, h2, h3, h4, h5, h6⟩ := h
  subst hU
  exact ⟨((h1.kept hS.2.1).moved hW).narrow hB, ((h2.kept hS.2.1).moved hW).narrow hB, ((h3.kept hS.2.1).moved hW).narrow hB, ((h4.kept hS.2.1).moved hW).narrow hB, ((h5.kept hS.2.1).moved hW).narrow hB, ((h6.kept hS.2.1).moved hW).narrow hB⟩
theorem jE_blind {sa va : Nat} {tx : Nat → Int32} (U : State) (g : JFrame) (mk : MethodId) (a : Array Value) (h : jE sa va tx U) : jE sa va tx (U.calling g mk a) :=
  jEs_go (s := U) (U := U.calling g mk a) (H := U.heap) h va_S.rf rfl (Vm.Alike.refl U.vm) (fun _ h => h)
theorem jE_go {sa va : Nat} {tx : Nat → Int32} {A : Nat → Prop} {s : State} (h : jEs sa va tx A s s.heap) (hA : ∀ q, s.heap.size ≤ q → A q) : ∀ (U : State) (H : Heap) (locs : List Loc), va_S A s.heap H locs → U.heap = H → s.WarmedH U.vm → jE sa va tx U := by
  intro U H locs hS hU hW
  refine jEs_go h hS hU hW.alike (fun q hq => ?_)
  rcases hq with ⟨k, e, hq⟩ | hq
  · simp at hq
  · exact hA q (Nat.le_trans hS.1 (by rw [← hU]; exact hq))
def hk_MiE (E : State → Prop) (l : Launch) (y : MethodName) (b : ByteArray) (n : Nat) (ret : Option FieldType) (rm : Room) (D : va_G) (cI cF : ClassId) (as : List Value) (r0 : Int32) : Prop :=
  rm.cells = 0 ∧ rm.slots = 0 ∧ (∀ U g mk a, E U → E (U.calling g mk a)) ∧ ∀ sz : Nat, Met l y (.code y b n ret :: lw_gd) rm (hk_PcE E D cI cF [] as sz) (va_Qi (S := Unit) (fun r _ => r = r0) (fun _ t => va_P D classes [] t.heap) (va_A [] sz)) 0 0 (va_A [] sz)
def hk_MvE (E : State → Prop) (l : Launch) (y : MethodName) (b : ByteArray) (n : Nat) (rm : Room) (D : va_G) (cI cF : ClassId) (as : List Value) : Prop :=
  rm.cells = 0 ∧ rm.slots = 0 ∧ (∀ U g mk a, E U → E (U.calling g mk a)) ∧ ∀ sz : Nat, Met l y (.code y b n none :: lw_gd) rm (hk_PcE E D cI cF [] as sz) (va_Qv (S := Unit) (fun _ => True) (fun _ t => va_P D classes [] t.heap) (va_A [] sz)) 0 0 (va_A [] sz)
section HKR7
variable {p : Program} {l : Launch} {e : Env} {R : Room} {s : State} {m : MethodId} {args : Array Value} {below : List Frame} {meth : Method} {c : Code} {A : Nat → Prop} {Q : State → Prop} {nL : Nat} {D : va_G} {cI cF : ClassId} {own : String} {cc : ByteArray} {cells slots : Nat} {ws : va_W} {pc : Nat} {lv : List (Nat × Value)} {st : List Value}
theorem hk_getfS (hC : hk_ok p s m args meth c A nL D cI cF own cc) {o n d0 : String} {index q : Nat} {v : Value} (hE : va_OF o n d0 v q A s s.heap) (hw : Cond.fieldLink own index o n d0 ∈ lw_gd) (d : decode cc pc = .ok (.getfield index, 3))
    (k : hk_W p l e R s m args below meth c A Q nL D cells slots ws (pc + 3) lv (v :: st)) : hk_W p l e R s m args below meth c A Q nL D cells slots ws pc lv (.ref q :: st) :=
  fun H locs ls hP hD hS hl => vk_getf hC.1 hC.2.1 hE hS hC.2.2.2.1 (hC.2.2.2.2.1 _ hw) (fun _ h => h) d (k H locs ls hP hD hS hl)
theorem hk_gets (hC : hk_ok p s m args meth c A nL D cI cF own cc) {C n d0 : String} {index : Nat} {v : Value} (hZ : va_Z C n d0 v A s s.heap) (hw : Cond.fieldLink own index C n d0 ∈ lw_gd) (d : decode cc pc = .ok (.getstatic index, 3))
    (k : hk_W p l e R s m args below meth c A Q nL D cells slots ws (pc + 3) lv (v :: st)) : hk_W p l e R s m args below meth c A Q nL D cells slots ws pc lv st :=
  fun H locs ls hP hD hS hl => va_gets hC.1 hC.2.1 hZ hS hC.2.2.2.1 (hC.2.2.2.2.1 _ hw) (fun _ h => h) d (k H locs ls hP hD hS hl)
theorem hk_tlen (hC : hk_ok p s m args meth c A nL D cI cF own cc) {ty : FieldType} {t N : Nat} {f : Nat → Value} (hT : va_T ty t N f A s s.heap) {v : Int32} (hv : Int32.ofNat N = v) (d : decode cc pc = .ok (.arraylength, 1))
    (k : hk_W p l e R s m args below meth c A Q nL D cells slots ws (pc + 1) lv (.int v :: st)) : hk_W p l e R s m args below meth c A Q nL D cells slots ws pc lv (.ref t :: st) :=
  fun H locs ls hP hD hS hl => va_tlen hC.1 hC.2.1 hT hS hv d (k H locs ls hP hD hS hl)
theorem hk_tb (hC : hk_ok p s m args meth c A nL D cI cF own cc) {t N : Nat} {f : Nat → Value} (hT : va_T .byte t N f A s s.heap) {i : Int32} (hin : vp_in i N) {v : Value} (hv : f i.toNatClampNeg = v) (d : decode cc pc = .ok (.baload, 1))
    (k : hk_W p l e R s m args below meth c A Q nL D cells slots ws (pc + 1) lv (v :: st)) : hk_W p l e R s m args below meth c A Q nL D cells slots ws pc lv (.int i :: .ref t :: st) :=
  fun H locs ls hP hD hS hl => va_tb hC.1 hC.2.1 hT hS hin hv d (k H locs ls hP hD hS hl)
theorem hk_i2c (hC : hk_ok p s m args meth c A nL D cI cF own cc) {x : Int32} (d : decode cc pc = .ok (.i2c, 1))
    (k : hk_W p l e R s m args below meth c A Q nL D cells slots ws (pc + 1) lv (.int (x.toUInt32 % 65536).toInt32 :: st)) : hk_W p l e R s m args below meth c A Q nL D cells slots ws pc lv (.int x :: st) :=
  fun H locs ls hP hD hS hl => lv_i2c hC.1 hC.2.1 d rfl (k H locs ls hP hD hS hl)
theorem hk_tret (hC : hk_ok p s m args meth c A nL D cI cF own cc) {r r0 : Int32} {w1 : va_W} {ty : FieldType} (hr : meth.sig.returnType = some ty) (hn : narrow ty (.int r) = .int r) (d : decode cc pc = .ok (.ireturn, 1)) (h1 : r = r0) (h2 : ws = w1) : hk_W p l e R s m args below meth c A (hk_Zi below args s D A r0 w1) nL D 0 0 ws pc lv [.int r] := by
  subst h1
  subst h2
  exact fun H locs ls hP hD hS hl => W.zret hC.1 hC.2.1 hr hn (fun t ht hW => ⟨⟨r, (), rfl, rfl, (by show va_P D classes ws t.heap; rw [ht]; exact hP)⟩, hS.F ht⟩) hS.2.2 d hC.2.2.2.2.2.2.1
theorem hk_P0t {H : Heap} : va_P D classes [] H := fun k q h => by simp at h
theorem hk_D0t : va_D A [] := ⟨fun i j p q h => by simp at h, fun k q h => by simp at h⟩
theorem hk_callVEi (hC : hk_ok p s m args meth c A nL D cI cF own cc) {E : State → Prop} {y : MethodName} {b : ByteArray} {n np index : Nat} {bref : Nat} {ret : Option FieldType} {r0 : Int32} {rm : Room} {as st0 : List Value} (hM : hk_MiE E l y b n ret rm D cI cF (.ref bref :: as) r0) (hL : hk_L y b n ret np) (hrec : va_O y.cls bref A s s.heap) (hl0 : Cond.methodLink own index y ∈ lw_gd) (hin : Cond.instanceMethod y ∈ lw_gd) (hse : Cond.selects y.cls y y ∈ lw_gd) (hnp : as.length = np) (hR : rm.frames + 1 ≤ R.frames ∧ 8 + (n + 11) + rm.locals ≤ R.locals) (hEs : ∀ (U : State) (H : Heap) (locs : List Loc), va_S A s.heap H locs → U.heap = H → s.WarmedH U.vm → E U) (hst : st0 = as.reverse ++ .ref bref :: st) (hcat : (st.map fun v => v.category).sum ≤ 8) (hcs : cells ≤ R.cells ∧ slots ≤ R.slots) (d : decode cc pc = .ok (.invokevirtual index, 3))
    (k : hk_W p l e R s m args below meth c A Q nL D cells slots ws (pc + 3) lv (.int r0 :: st)) : hk_W p l e R s m args below meth c A Q nL D cells slots ws pc lv st0 := by
  intro H locs ls hP hD hS hl
  have hFc := hk_freeW (ws := []) hC hk_D0t hS
  refine va_calli (va_runV (As := as) (rest := st) ⟨hC.1, hC.2.1, hC.2.2.1, hC.2.2.2.1, hC.2.2.2.2.1⟩ (hM.2.2.2 H.size) ⟨hk_B hC hL hM.1 hM.2.1 hl0 hR, hC.2.2.2.2.1 _ hin, hC.2.2.2.2.1 _ hse⟩ ⟨hk_blindE hM.2.2.1, by obtain ⟨cell, g1, g2, g3, -⟩ := hrec.kept hS.2.1; exact ⟨cell, g1, g2, g3⟩, fun U hU hW => hk_preE hC hk_P0t hk_D0t (fun U hU hW => hEs U H locs hS hU hW) U hU hW⟩ rfl hnp hl.1 hst (lv_room hcat) d ⟨hcs.1, hcs.2⟩) hS (fun q _ h => hFc q h) hFc (fun r u t H1 locs ht hvm hw hB hz1 hk1 hS => ?_)
  have hw : r = r0 := hw
  subst hw
  exact k H1 locs ls (hk_P0 hP hk1) hD hS hl
theorem hk_callSEi (hC : hk_ok p s m args meth c A nL D cI cF own cc) {E : State → Prop} {y : MethodName} {b : ByteArray} {n np index : Nat} {ret : Option FieldType} {r0 : Int32} {rm : Room} {as st0 : List Value} (hM : hk_MiE E l y b n ret rm D cI cF (as) r0) (hL : hk_L y b n ret np) (hl0 : Cond.methodLink own index y ∈ lw_gd) (hst1 : Cond.static y ∈ lw_gd) (hnp : as.length = np) (hR : rm.frames + 1 ≤ R.frames ∧ 8 + (n + 11) + rm.locals ≤ R.locals) (hEs : ∀ (U : State) (H : Heap) (locs : List Loc), va_S A s.heap H locs → U.heap = H → s.WarmedH U.vm → E U) (hst : st0 = as.reverse ++ st) (hcat : (st.map fun v => v.category).sum ≤ 8) (hcs : cells ≤ R.cells ∧ slots ≤ R.slots) (d : decode cc pc = .ok (.invokestatic index, 3))
    (k : hk_W p l e R s m args below meth c A Q nL D cells slots ws (pc + 3) lv (.int r0 :: st)) : hk_W p l e R s m args below meth c A Q nL D cells slots ws pc lv st0 := by
  intro H locs ls hP hD hS hl
  have hFc := hk_freeW (ws := []) hC hk_D0t hS
  refine va_calli (va_runS (As := as) (rest := st) ⟨hC.1, hC.2.1, hC.2.2.1, hC.2.2.2.1, hC.2.2.2.2.1⟩ (hM.2.2.2 H.size) ⟨hk_B hC hL hM.1 hM.2.1 hl0 hR, hC.2.2.2.2.1 _ hst1⟩ ⟨hk_blindE hM.2.2.1, fun U hU hW => hk_preE hC hk_P0t hk_D0t (fun U hU hW => hEs U H locs hS hU hW) U hU hW⟩ rfl hnp hl.1 hst (lv_room hcat) d ⟨hcs.1, hcs.2⟩) hS (fun q _ h => hFc q h) hFc (fun r u t H1 locs ht hvm hw hB hz1 hk1 hS => ?_)
  have hw : r = r0 := hw
  subst hw
  exact k H1 locs ls (hk_P0 hP hk1) hD hS hl
theorem hk_callSEv (hC : hk_ok p s m args meth c A nL D cI cF own cc) {E : State → Prop} {y : MethodName} {b : ByteArray} {n np index : Nat} {rm : Room} {as st0 : List Value} (hM : hk_MvE E l y b n rm D cI cF (as)) (hL : hk_L y b n none np) (hl0 : Cond.methodLink own index y ∈ lw_gd) (hst1 : Cond.static y ∈ lw_gd) (hnp : as.length = np) (hR : rm.frames + 1 ≤ R.frames ∧ 8 + (n + 11) + rm.locals ≤ R.locals) (hEs : ∀ (U : State) (H : Heap) (locs : List Loc), va_S A s.heap H locs → U.heap = H → s.WarmedH U.vm → E U) (hst : st0 = as.reverse ++ st) (hcat : (st.map fun v => v.category).sum ≤ 8) (hcs : cells ≤ R.cells ∧ slots ≤ R.slots) (d : decode cc pc = .ok (.invokestatic index, 3))
    (k : hk_W p l e R s m args below meth c A Q nL D cells slots ws (pc + 3) lv (st)) : hk_W p l e R s m args below meth c A Q nL D cells slots ws pc lv st0 := by
  intro H locs ls hP hD hS hl
  have hFc := hk_freeW (ws := []) hC hk_D0t hS
  refine va_callv (va_runS (As := as) (rest := st) ⟨hC.1, hC.2.1, hC.2.2.1, hC.2.2.2.1, hC.2.2.2.2.1⟩ (hM.2.2.2 H.size) ⟨hk_B hC hL hM.1 hM.2.1 hl0 hR, hC.2.2.2.2.1 _ hst1⟩ ⟨hk_blindE hM.2.2.1, fun U hU hW => hk_preE hC hk_P0t hk_D0t (fun U hU hW => hEs U H locs hS hU hW) U hU hW⟩ rfl hnp hl.1 hst (lv_room hcat) d ⟨hcs.1, hcs.2⟩) hS (fun q _ h => hFc q h) hFc (fun u t H1 locs ht hvm hw hB hz1 hk1 hS => ?_)
  exact k H1 locs ls (hk_P0 hP hk1) hD hS hl
end HKR7
set_option maxHeartbeats 4000000 in
set_option maxRecDepth 100000 in
theorem jw_String_coder {p : Program} {l : Launch} {e : Env} {s : State} {m : MethodId} {args : Array Value} {below : List Frame} {meth : Method} {c : Code} {A : Nat → Prop} {D : va_G} {cI cF : ClassId} (hC : hk_ok p s m args meth c A 1 D cI cF "java/lang/String" jb_String_coder) (hr : meth.sig.returnType = (some .byte)) {sa va : Nat} {tx : Nat → Int32} (hE : jEs sa va tx A s s.heap) (hA : ∀ q, s.heap.size ≤ q → A q)  : hk_W p l e jr_String_coder s m args below meth c A (hk_Zi below args s D A 0 []) 1 D 0 0 [] 0 [(0, .ref sa)] [] := by
  refine hk_gets hC hE.2.2.2.2.1 jq_173 jd_String_coder_0 ?_
  refine hk_if_eq (tgt := 13) hC jd_String_coder_3 (by decide) (fun h => absurd h (by decide)) (fun _ => ?_)
  refine hk_aload_n hC jd_String_coder_6 0 rfl ?_
  refine hk_getfS hC hE.2.1 jq_1002 jd_String_coder_7 ?_
  refine hk_goto (tgt := 14) hC jd_String_coder_10 (by decide) ?_
  exact hk_tret hC hr (by decide) jd_String_coder_14 rfl rfl
theorem jc_String_coder (l : Launch) (D : va_G) (cI cF : ClassId) (sa va : Nat) (tx : Nat → Int32)  : hk_MiE (jE sa va tx) l jy_String_coder jb_String_coder 1 (some .byte) jr_String_coder D cI cF [.ref sa] 0 :=
  ⟨rfl, rfl, jE_blind, fun sz => hk_entryE (by decide) (Nat.le_of_ble_eq_true rfl) fun p e s m args below meth c A hA hs hC hr hnm hE => by subst hs; subst hA; exact jw_String_coder hC hr hE hC.2.2.2.2.2.2.2.1 ⟩
set_option maxHeartbeats 4000000 in
set_option maxRecDepth 100000 in
theorem jw_String_length {p : Program} {l : Launch} {e : Env} {s : State} {m : MethodId} {args : Array Value} {below : List Frame} {meth : Method} {c : Code} {A : Nat → Prop} {D : va_G} {cI cF : ClassId} (hC : hk_ok p s m args meth c A 1 D cI cF "java/lang/String" jb_String_length) (hr : meth.sig.returnType = (some .int)) {sa va : Nat} {tx : Nat → Int32} (hE : jEs sa va tx A s s.heap) (hA : ∀ q, s.heap.size ≤ q → A q)  : hk_W p l e jr_String_length s m args below meth c A (hk_Zi below args s D A 47 []) 1 D 0 0 [] 0 [(0, .ref sa)] [] := by
  refine hk_aload_n hC jd_String_length_0 0 rfl ?_
  refine hk_getfS hC hE.2.2.1 jq_1001 jd_String_length_1 ?_
  refine hk_tlen (v := 47) hC hE.2.2.2.1 (by decide) jd_String_length_4 ?_
  refine hk_aload_n hC jd_String_length_5 0 rfl ?_
  refine hk_callVEi hC (jc_String_coder l D cI cF sa va tx) jl_String_coder hE.1 jq_169 jq_170 jq_171 rfl ⟨by decide, by decide⟩ (jE_go hE hA) rfl (Nat.le_of_ble_eq_true rfl) ⟨Nat.zero_le _, Nat.zero_le _⟩ jd_String_length_6 ?_
  refine hk_ishr hC jd_String_length_9 ?_
  exact hk_iret hC hr jd_String_length_10 (by decide) rfl
theorem jc_String_length (l : Launch) (D : va_G) (cI cF : ClassId) (sa va : Nat) (tx : Nat → Int32)  : hk_MiE (jE sa va tx) l jy_String_length jb_String_length 1 (some .int) jr_String_length D cI cF [.ref sa] 47 :=
  ⟨rfl, rfl, jE_blind, fun sz => hk_entryE (by decide) (Nat.le_of_ble_eq_true rfl) fun p e s m args below meth c A hA hs hC hr hnm hE => by subst hs; subst hA; exact jw_String_length hC hr hE hC.2.2.2.2.2.2.2.1 ⟩
set_option maxHeartbeats 4000000 in
set_option maxRecDepth 100000 in
theorem jw_String_isLatin1 {p : Program} {l : Launch} {e : Env} {s : State} {m : MethodId} {args : Array Value} {below : List Frame} {meth : Method} {c : Code} {A : Nat → Prop} {D : va_G} {cI cF : ClassId} (hC : hk_ok p s m args meth c A 1 D cI cF "java/lang/String" jb_String_isLatin1) (hr : meth.sig.returnType = (some .boolean)) {sa va : Nat} {tx : Nat → Int32} (hE : jEs sa va tx A s s.heap) (hA : ∀ q, s.heap.size ≤ q → A q)  : hk_W p l e jr_String_isLatin1 s m args below meth c A (hk_Zi below args s D A 1 []) 1 D 0 0 [] 0 [(0, .ref sa)] [] := by
  refine hk_gets hC hE.2.2.2.2.1 jq_173 jd_String_isLatin1_0 ?_
  refine hk_if_eq (tgt := 17) hC jd_String_isLatin1_3 (by decide) (fun h => absurd h (by decide)) (fun _ => ?_)
  refine hk_aload_n hC jd_String_isLatin1_6 0 rfl ?_
  refine hk_getfS hC hE.2.1 jq_1002 jd_String_isLatin1_7 ?_
  refine hk_if_ne (tgt := 17) hC jd_String_isLatin1_10 (by decide) (fun h => absurd rfl h) (fun _ => ?_)
  refine hk_iconst (v := 1) hC jd_String_isLatin1_13 (by decide) ?_
  refine hk_goto (tgt := 18) hC jd_String_isLatin1_14 (by decide) ?_
  exact hk_zret hC hr rfl jd_String_isLatin1_18 rfl rfl
theorem jc_String_isLatin1 (l : Launch) (D : va_G) (cI cF : ClassId) (sa va : Nat) (tx : Nat → Int32)  : hk_MiE (jE sa va tx) l jy_String_isLatin1 jb_String_isLatin1 1 (some .boolean) jr_String_isLatin1 D cI cF [.ref sa] 1 :=
  ⟨rfl, rfl, jE_blind, fun sz => hk_entryE (by decide) (Nat.le_of_ble_eq_true rfl) fun p e s m args below meth c A hA hs hC hr hnm hE => by subst hs; subst hA; exact jw_String_isLatin1 hC hr hE hC.2.2.2.2.2.2.2.1 ⟩
set_option maxHeartbeats 4000000 in
set_option maxRecDepth 100000 in
theorem jw_Pre_checkIndex {p : Program} {l : Launch} {e : Env} {s : State} {m : MethodId} {args : Array Value} {below : List Frame} {meth : Method} {c : Code} {A : Nat → Prop} {D : va_G} {cI cF : ClassId} (hC : hk_ok p s m args meth c A 3 D cI cF "jdk/internal/util/Preconditions" jb_Pre_checkIndex) (hr : meth.sig.returnType = (some .int)) {sa va : Nat} {tx : Nat → Int32} (hE : jEs sa va tx A s s.heap) (hA : ∀ q, s.heap.size ≤ q → A q) (i N : Int32) (v : Value) (hv : v = .null ∨ ∃ t, v = .ref t) (h1 : ¬ i < 0) (h2 : i < N) : hk_W p l e jr_Pre_checkIndex s m args below meth c A (hk_Zi below args s D A i []) 3 D 0 0 [] 0 (lv_args 0 [.int i, .int N, v]) [] := by
  have hlv : ∀ w : Value, w = v → hk_W p l e jr_Pre_checkIndex s m args below meth c A (hk_Zi below args s D A i []) 3 D 0 0 [] 0 [(0, .int i), (1, .int N), (2, w)] [] := by
    intro w _
    refine hk_iload_n hC jd_Pre_checkIndex_0 0 rfl ?_
    refine hk_if_lt (tgt := 9) hC jd_Pre_checkIndex_1 (by decide) (fun h => absurd h h1) (fun _ => ?_)
    refine hk_iload_n hC jd_Pre_checkIndex_4 0 rfl ?_
    refine hk_iload_n hC jd_Pre_checkIndex_5 1 rfl ?_
    refine hk_icmp_lt (tgt := 16) hC jd_Pre_checkIndex_6 (by decide) (fun _ => ?_) (fun h => absurd h2 h)
    refine hk_iload_n hC jd_Pre_checkIndex_16 0 rfl ?_
    exact hk_iret hC hr jd_Pre_checkIndex_17 rfl rfl
  rcases hv with rfl | ⟨t, rfl⟩
  · exact hlv _ rfl
  · exact hlv _ rfl
theorem jc_Pre_checkIndex (l : Launch) (D : va_G) (cI cF : ClassId) (sa va : Nat) (tx : Nat → Int32) (i N : Int32) (v : Value) (hv : v = .null ∨ ∃ t, v = .ref t) (h1 : ¬ i < 0) (h2 : i < N) : hk_MiE (jE sa va tx) l jy_Pre_checkIndex jb_Pre_checkIndex 3 (some .int) jr_Pre_checkIndex D cI cF [.int i, .int N, v] i :=
  ⟨rfl, rfl, jE_blind, fun sz => hk_entryE (by decide) (by rcases hv with rfl | ⟨t, rfl⟩ <;> exact Nat.le_of_ble_eq_true rfl) fun p e s m args below meth c A hA hs hC hr hnm hE => by subst hs; subst hA; exact jw_Pre_checkIndex hC hr hE hC.2.2.2.2.2.2.2.1 i N v hv h1 h2⟩
set_option maxHeartbeats 4000000 in
set_option maxRecDepth 100000 in
theorem jw_String_checkIndex {p : Program} {l : Launch} {e : Env} {s : State} {m : MethodId} {args : Array Value} {below : List Frame} {meth : Method} {c : Code} {A : Nat → Prop} {D : va_G} {cI cF : ClassId} (hC : hk_ok p s m args meth c A 2 D cI cF "java/lang/String" jb_String_checkIndex) (hr : meth.sig.returnType = none) {sa va : Nat} {tx : Nat → Int32} (hE : jEs sa va tx A s s.heap) (hA : ∀ q, s.heap.size ≤ q → A q) (i N : Int32) (h1 : ¬ i < 0) (h2 : i < N) : hk_W p l e jr_String_checkIndex s m args below meth c A (hk_Zv below args s D A []) 2 D 0 0 [] 0 [(0, .int i), (1, .int N)] [] := by
  rcases hE.2.2.2.2.2 with hz | ⟨t, hz⟩
  · refine hk_iload_n hC jd_String_checkIndex_0 0 rfl ?_
    refine hk_iload_n hC jd_String_checkIndex_1 1 rfl ?_
    refine hk_gets hC hz jq_189 jd_String_checkIndex_2 ?_
    refine hk_callSEi hC (as := [.int i, .int N, .null]) (jc_Pre_checkIndex l D cI cF sa va tx i N .null (Or.inl rfl) h1 h2) jl_Pre_checkIndex jq_191 jq_192 rfl ⟨by decide, by decide⟩ (jE_go hE hA) rfl (Nat.le_of_ble_eq_true rfl) ⟨Nat.zero_le _, Nat.zero_le _⟩ jd_String_checkIndex_5 ?_
    refine hk_pop hC jd_String_checkIndex_8 rfl ?_
    exact hk_vret hC hr jd_String_checkIndex_9 rfl
  · refine hk_iload_n hC jd_String_checkIndex_0 0 rfl ?_
    refine hk_iload_n hC jd_String_checkIndex_1 1 rfl ?_
    refine hk_gets hC hz jq_189 jd_String_checkIndex_2 ?_
    refine hk_callSEi hC (as := [.int i, .int N, (.ref t)]) (jc_Pre_checkIndex l D cI cF sa va tx i N (.ref t) (Or.inr ⟨t, rfl⟩) h1 h2) jl_Pre_checkIndex jq_191 jq_192 rfl ⟨by decide, by decide⟩ (jE_go hE hA) rfl (Nat.le_of_ble_eq_true rfl) ⟨Nat.zero_le _, Nat.zero_le _⟩ jd_String_checkIndex_5 ?_
    refine hk_pop hC jd_String_checkIndex_8 rfl ?_
    exact hk_vret hC hr jd_String_checkIndex_9 rfl
theorem jc_String_checkIndex (l : Launch) (D : va_G) (cI cF : ClassId) (sa va : Nat) (tx : Nat → Int32) (i N : Int32) (h1 : ¬ i < 0) (h2 : i < N) : hk_MvE (jE sa va tx) l jy_String_checkIndex jb_String_checkIndex 2 jr_String_checkIndex D cI cF [.int i, .int N] :=
  ⟨rfl, rfl, jE_blind, fun sz => hk_entryE (by decide) (Nat.le_of_ble_eq_true rfl) fun p e s m args below meth c A hA hs hC hr hnm hE => by subst hs; subst hA; exact jw_String_checkIndex hC hr hE hC.2.2.2.2.2.2.2.1 i N h1 h2⟩
set_option maxHeartbeats 4000000 in
set_option maxRecDepth 100000 in
theorem jw_Latin_charAt {p : Program} {l : Launch} {e : Env} {s : State} {m : MethodId} {args : Array Value} {below : List Frame} {meth : Method} {c : Code} {A : Nat → Prop} {D : va_G} {cI cF : ClassId} (hC : hk_ok p s m args meth c A 2 D cI cF "java/lang/StringLatin1" jb_Latin_charAt) (hr : meth.sig.returnType = (some .char)) {sa va : Nat} {tx : Nat → Int32} (hE : jEs sa va tx A s s.heap) (hA : ∀ q, s.heap.size ≤ q → A q) (i : Int32) (h1 : ¬ i < 0) (h2 : i < 47) : hk_W p l e jr_Latin_charAt s m args below meth c A (hk_Zi below args s D A ((tx i.toNatClampNeg &&& (255 : Int32)).toUInt32 % 65536).toInt32 []) 2 D 0 0 [] 0 [(0, .ref va), (1, .int i)] [] := by
  refine hk_iload_n hC jd_Latin_charAt_0 1 rfl ?_
  refine hk_aload_n hC jd_Latin_charAt_1 0 rfl ?_
  refine hk_tlen (v := 47) hC hE.2.2.2.1 (by decide) jd_Latin_charAt_2 ?_
  refine hk_callSEv hC (as := [.int i, .int 47]) (jc_String_checkIndex l D cI cF sa va tx i 47 h1 h2) jl_String_checkIndex jq_186 jq_187 rfl ⟨by decide, by decide⟩ (jE_go hE hA) rfl (Nat.le_of_ble_eq_true rfl) ⟨Nat.zero_le _, Nat.zero_le _⟩ jd_Latin_charAt_3 ?_
  refine hk_aload_n hC jd_Latin_charAt_6 0 rfl ?_
  refine hk_iload_n hC jd_Latin_charAt_7 1 rfl ?_
  refine hk_tb (v := .int (tx i.toNatClampNeg)) hC hE.2.2.2.1 (by obtain ⟨j, hj, e⟩ := nI_of h1; rw [e] at h2 ⊢; exact vp_in_nI ((nI_ltI hj (by decide)).mp h2) (by decide)) rfl jd_Latin_charAt_8 ?_
  refine hk_sipush (v := 255) hC jd_Latin_charAt_9 (by decide) ?_
  refine hk_iand hC jd_Latin_charAt_12 ?_
  refine hk_i2c hC jd_Latin_charAt_13 ?_
  exact hk_tret hC hr (pk_nc _) jd_Latin_charAt_14 rfl rfl
theorem jc_Latin_charAt (l : Launch) (D : va_G) (cI cF : ClassId) (sa va : Nat) (tx : Nat → Int32) (i : Int32) (h1 : ¬ i < 0) (h2 : i < 47) : hk_MiE (jE sa va tx) l jy_Latin_charAt jb_Latin_charAt 2 (some .char) jr_Latin_charAt D cI cF [.ref va, .int i] ((tx i.toNatClampNeg &&& (255 : Int32)).toUInt32 % 65536).toInt32 :=
  ⟨rfl, rfl, jE_blind, fun sz => hk_entryE (by decide) (Nat.le_of_ble_eq_true rfl) fun p e s m args below meth c A hA hs hC hr hnm hE => by subst hs; subst hA; exact jw_Latin_charAt hC hr hE hC.2.2.2.2.2.2.2.1 i h1 h2⟩
set_option maxHeartbeats 4000000 in
set_option maxRecDepth 100000 in
theorem jw_String_charAt {p : Program} {l : Launch} {e : Env} {s : State} {m : MethodId} {args : Array Value} {below : List Frame} {meth : Method} {c : Code} {A : Nat → Prop} {D : va_G} {cI cF : ClassId} (hC : hk_ok p s m args meth c A 2 D cI cF "java/lang/String" jb_String_charAt) (hr : meth.sig.returnType = (some .char)) {sa va : Nat} {tx : Nat → Int32} (hE : jEs sa va tx A s s.heap) (hA : ∀ q, s.heap.size ≤ q → A q) (i : Int32) (h1 : ¬ i < 0) (h2 : i < 47) : hk_W p l e jr_String_charAt s m args below meth c A (hk_Zi below args s D A ((tx i.toNatClampNeg &&& (255 : Int32)).toUInt32 % 65536).toInt32 []) 2 D 0 0 [] 0 [(0, .ref sa), (1, .int i)] [] := by
  refine hk_aload_n hC jd_String_charAt_0 0 rfl ?_
  refine hk_callVEi hC (as := []) (jc_String_isLatin1 l D cI cF sa va tx) jl_String_isLatin1 hE.1 jq_179 jq_180 jq_181 rfl ⟨by decide, by decide⟩ (jE_go hE hA) rfl (Nat.le_of_ble_eq_true rfl) ⟨Nat.zero_le _, Nat.zero_le _⟩ jd_String_charAt_1 ?_
  refine hk_if_eq (tgt := 16) hC jd_String_charAt_4 (by decide) (fun h => absurd h (by decide)) (fun _ => ?_)
  refine hk_aload_n hC jd_String_charAt_7 0 rfl ?_
  refine hk_getfS hC hE.2.2.1 jq_1001 jd_String_charAt_8 ?_
  refine hk_iload_n hC jd_String_charAt_11 1 rfl ?_
  refine hk_callSEi hC (as := [.ref va, .int i]) (jc_Latin_charAt l D cI cF sa va tx i h1 h2) jl_Latin_charAt jq_183 jq_184 rfl ⟨by decide, by decide⟩ (jE_go hE hA) rfl (Nat.le_of_ble_eq_true rfl) ⟨Nat.zero_le _, Nat.zero_le _⟩ jd_String_charAt_12 ?_
  exact hk_tret hC hr (pk_nc _) jd_String_charAt_15 rfl rfl
theorem jc_String_charAt (l : Launch) (D : va_G) (cI cF : ClassId) (sa va : Nat) (tx : Nat → Int32) (i : Int32) (h1 : ¬ i < 0) (h2 : i < 47) : hk_MiE (jE sa va tx) l jy_String_charAt jb_String_charAt 2 (some .char) jr_String_charAt D cI cF [.ref sa, .int i] ((tx i.toNatClampNeg &&& (255 : Int32)).toUInt32 % 65536).toInt32 :=
  ⟨rfl, rfl, jE_blind, fun sz => hk_entryE (by decide) (Nat.le_of_ble_eq_true rfl) fun p e s m args below meth c A hA hs hC hr hnm hE => by subst hs; subst hA; exact jw_String_charAt hC hr hE hC.2.2.2.2.2.2.2.1 i h1 h2⟩
