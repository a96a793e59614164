-- ===== PART A: goes FIRST, ahead of the names: the tables' words, and 'selects' of the private methods out of them =====
/-- a private method of a class that the tables say can be made, by its rows of tables_1 -/
def lw_okq (q : MethodName × Nat) : Prop := (q.1.cls ≠ "java/lang/invoke/MethodHandle" ∧ q.1.cls ≠ "java/lang/invoke/VarHandle") ∧ Cond.instantiable q.1.cls q.2 ∈ tables_1 ∧ Cond.privateMethod q.1 ∈ tables_1 ∧ Cond.instanceMethod q.1 ∈ tables_1
theorem lw_p0 : lw_okq (⟨"HayTalk$Land", "readItem", "(LHayTalk$Text;II)Z"⟩, 9) := ⟨⟨by decide +kernel, by decide +kernel⟩, List.mem_of_getElem? (i := 121) (by decide +kernel), List.mem_of_getElem? (i := 237) (by decide +kernel), List.mem_of_getElem? (i := 238) (by decide +kernel)⟩
theorem lw_p1 : lw_okq (⟨"HayTalk$Land", "readMower", "(LHayTalk$Text;II)Z"⟩, 9) := ⟨⟨by decide +kernel, by decide +kernel⟩, List.mem_of_getElem? (i := 121) (by decide +kernel), List.mem_of_getElem? (i := 242) (by decide +kernel), List.mem_of_getElem? (i := 243) (by decide +kernel)⟩
theorem lw_p2 : lw_okq (⟨"HayTalk$Land", "readWeather", "(LHayTalk$Text;II)Z"⟩, 9) := ⟨⟨by decide +kernel, by decide +kernel⟩, List.mem_of_getElem? (i := 121) (by decide +kernel), List.mem_of_getElem? (i := 258) (by decide +kernel), List.mem_of_getElem? (i := 259) (by decide +kernel)⟩
theorem lw_p3 : lw_okq (⟨"HayTalk$Land", "readCow", "(LHayTalk$Text;II)Z"⟩, 9) := ⟨⟨by decide +kernel, by decide +kernel⟩, List.mem_of_getElem? (i := 121) (by decide +kernel), List.mem_of_getElem? (i := 262) (by decide +kernel), List.mem_of_getElem? (i := 263) (by decide +kernel)⟩
theorem lw_p4 : lw_okq (⟨"HayTalk$Land", "readRick", "(LHayTalk$Text;II)Z"⟩, 9) := ⟨⟨by decide +kernel, by decide +kernel⟩, List.mem_of_getElem? (i := 121) (by decide +kernel), List.mem_of_getElem? (i := 269) (by decide +kernel), List.mem_of_getElem? (i := 270) (by decide +kernel)⟩
theorem lw_p5 : lw_okq (⟨"HayTalk", "isMower", "(I)Z"⟩, 8) := ⟨⟨by decide +kernel, by decide +kernel⟩, List.mem_of_getElem? (i := 17) (by decide +kernel), List.mem_of_getElem? (i := 337) (by decide +kernel), List.mem_of_getElem? (i := 338) (by decide +kernel)⟩
theorem lw_p6 : lw_okq (⟨"HayTalk", "isCow", "(I)Z"⟩, 8) := ⟨⟨by decide +kernel, by decide +kernel⟩, List.mem_of_getElem? (i := 17) (by decide +kernel), List.mem_of_getElem? (i := 356) (by decide +kernel), List.mem_of_getElem? (i := 357) (by decide +kernel)⟩
theorem lw_p7 : lw_okq (⟨"HayTalk", "isRick", "(I)Z"⟩, 8) := ⟨⟨by decide +kernel, by decide +kernel⟩, List.mem_of_getElem? (i := 17) (by decide +kernel), List.mem_of_getElem? (i := 368) (by decide +kernel), List.mem_of_getElem? (i := 369) (by decide +kernel)⟩
theorem lw_p8 : lw_okq (⟨"HayTalk$Pile", "newestField", "()LHayTalk$Field;"⟩, 3) := ⟨⟨by decide +kernel, by decide +kernel⟩, List.mem_of_getElem? (i := 81) (by decide +kernel), List.mem_of_getElem? (i := 412) (by decide +kernel), List.mem_of_getElem? (i := 413) (by decide +kernel)⟩
theorem lw_p9 : lw_okq (⟨"HayTalk$Field", "heatRick", "(II)V"⟩, 9) := ⟨⟨by decide +kernel, by decide +kernel⟩, List.mem_of_getElem? (i := 41) (by decide +kernel), List.mem_of_getElem? (i := 435) (by decide +kernel), List.mem_of_getElem? (i := 436) (by decide +kernel)⟩
theorem lw_p10 : lw_okq (⟨"HayTalk$Field", "addLayer", "(IIII)V"⟩, 9) := ⟨⟨by decide +kernel, by decide +kernel⟩, List.mem_of_getElem? (i := 41) (by decide +kernel), List.mem_of_getElem? (i := 461) (by decide +kernel), List.mem_of_getElem? (i := 462) (by decide +kernel)⟩
theorem lw_p11 : lw_okq (⟨"HayTalk", "fewestCuts", "(II)I"⟩, 8) := ⟨⟨by decide +kernel, by decide +kernel⟩, List.mem_of_getElem? (i := 17) (by decide +kernel), List.mem_of_getElem? (i := 523) (by decide +kernel), List.mem_of_getElem? (i := 524) (by decide +kernel)⟩
theorem lw_p12 : lw_okq (⟨"HayTalk", "cutsOfThird", "(III)I"⟩, 8) := ⟨⟨by decide +kernel, by decide +kernel⟩, List.mem_of_getElem? (i := 17) (by decide +kernel), List.mem_of_getElem? (i := 527) (by decide +kernel), List.mem_of_getElem? (i := 528) (by decide +kernel)⟩
theorem lw_p13 : lw_okq (⟨"HayTalk", "actByDraw", "(I)V"⟩, 8) := ⟨⟨by decide +kernel, by decide +kernel⟩, List.mem_of_getElem? (i := 17) (by decide +kernel), List.mem_of_getElem? (i := 618) (by decide +kernel), List.mem_of_getElem? (i := 619) (by decide +kernel)⟩
theorem lw_p14 : lw_okq (⟨"HayTalkModel", "readItem", "(II)Z"⟩, 29) := ⟨⟨by decide +kernel, by decide +kernel⟩, List.mem_of_getElem? (i := 647) (by decide +kernel), List.mem_of_getElem? (i := 661) (by decide +kernel), List.mem_of_getElem? (i := 662) (by decide +kernel)⟩
theorem lw_p15 : lw_okq (⟨"HayTalkModel", "readMower", "(II)Z"⟩, 29) := ⟨⟨by decide +kernel, by decide +kernel⟩, List.mem_of_getElem? (i := 647) (by decide +kernel), List.mem_of_getElem? (i := 665) (by decide +kernel), List.mem_of_getElem? (i := 666) (by decide +kernel)⟩
def lw_privs_1 : List (MethodName × Nat) := [(⟨"HayTalk$Land", "readItem", "(LHayTalk$Text;II)Z"⟩, 9), (⟨"HayTalk$Land", "readMower", "(LHayTalk$Text;II)Z"⟩, 9), (⟨"HayTalk$Land", "readWeather", "(LHayTalk$Text;II)Z"⟩, 9), (⟨"HayTalk$Land", "readCow", "(LHayTalk$Text;II)Z"⟩, 9), (⟨"HayTalk$Land", "readRick", "(LHayTalk$Text;II)Z"⟩, 9), (⟨"HayTalk", "isMower", "(I)Z"⟩, 8), (⟨"HayTalk", "isCow", "(I)Z"⟩, 8), (⟨"HayTalk", "isRick", "(I)Z"⟩, 8), (⟨"HayTalk$Pile", "newestField", "()LHayTalk$Field;"⟩, 3), (⟨"HayTalk$Field", "heatRick", "(II)V"⟩, 9), (⟨"HayTalk$Field", "addLayer", "(IIII)V"⟩, 9), (⟨"HayTalk", "fewestCuts", "(II)I"⟩, 8), (⟨"HayTalk", "cutsOfThird", "(III)I"⟩, 8), (⟨"HayTalk", "actByDraw", "(I)V"⟩, 8), (⟨"HayTalkModel", "readItem", "(II)Z"⟩, 29), (⟨"HayTalkModel", "readMower", "(II)Z"⟩, 29)]
theorem lw_r1 : ∀ q ∈ lw_privs_1, lw_okq q := List.forall_mem_cons.mpr ⟨lw_p0, List.forall_mem_cons.mpr ⟨lw_p1, List.forall_mem_cons.mpr ⟨lw_p2, List.forall_mem_cons.mpr ⟨lw_p3, List.forall_mem_cons.mpr ⟨lw_p4, List.forall_mem_cons.mpr ⟨lw_p5, List.forall_mem_cons.mpr ⟨lw_p6, List.forall_mem_cons.mpr ⟨lw_p7, List.forall_mem_cons.mpr ⟨lw_p8, List.forall_mem_cons.mpr ⟨lw_p9, List.forall_mem_cons.mpr ⟨lw_p10, List.forall_mem_cons.mpr ⟨lw_p11, List.forall_mem_cons.mpr ⟨lw_p12, List.forall_mem_cons.mpr ⟨lw_p13, List.forall_mem_cons.mpr ⟨lw_p14, List.forall_mem_cons.mpr ⟨lw_p15, fun _ h => absurd h List.not_mem_nil⟩⟩⟩⟩⟩⟩⟩⟩⟩⟩⟩⟩⟩⟩⟩⟩
theorem lw_p16 : lw_okq (⟨"HayTalkModel", "isRow", "(III)Z"⟩, 29) := ⟨⟨by decide +kernel, by decide +kernel⟩, List.mem_of_getElem? (i := 647) (by decide +kernel), List.mem_of_getElem? (i := 669) (by decide +kernel), List.mem_of_getElem? (i := 670) (by decide +kernel)⟩
theorem lw_p17 : lw_okq (⟨"HayTalkModel", "readWeather", "(II)Z"⟩, 29) := ⟨⟨by decide +kernel, by decide +kernel⟩, List.mem_of_getElem? (i := 647) (by decide +kernel), List.mem_of_getElem? (i := 678) (by decide +kernel), List.mem_of_getElem? (i := 679) (by decide +kernel)⟩
theorem lw_p18 : lw_okq (⟨"HayTalkModel", "readCow", "(II)Z"⟩, 29) := ⟨⟨by decide +kernel, by decide +kernel⟩, List.mem_of_getElem? (i := 647) (by decide +kernel), List.mem_of_getElem? (i := 682) (by decide +kernel), List.mem_of_getElem? (i := 683) (by decide +kernel)⟩
theorem lw_p19 : lw_okq (⟨"HayTalkModel", "numberOf", "(II)I"⟩, 29) := ⟨⟨by decide +kernel, by decide +kernel⟩, List.mem_of_getElem? (i := 647) (by decide +kernel), List.mem_of_getElem? (i := 686) (by decide +kernel), List.mem_of_getElem? (i := 687) (by decide +kernel)⟩
theorem lw_p20 : lw_okq (⟨"HayTalkModel", "readRick", "(II)Z"⟩, 29) := ⟨⟨by decide +kernel, by decide +kernel⟩, List.mem_of_getElem? (i := 647) (by decide +kernel), List.mem_of_getElem? (i := 692) (by decide +kernel), List.mem_of_getElem? (i := 693) (by decide +kernel)⟩
theorem lw_p21 : lw_okq (⟨"HayTalkModel", "isMower", "(I)Z"⟩, 29) := ⟨⟨by decide +kernel, by decide +kernel⟩, List.mem_of_getElem? (i := 647) (by decide +kernel), List.mem_of_getElem? (i := 803) (by decide +kernel), List.mem_of_getElem? (i := 804) (by decide +kernel)⟩
theorem lw_p22 : lw_okq (⟨"HayTalkModel", "nextWord", "(II)I"⟩, 29) := ⟨⟨by decide +kernel, by decide +kernel⟩, List.mem_of_getElem? (i := 647) (by decide +kernel), List.mem_of_getElem? (i := 807) (by decide +kernel), List.mem_of_getElem? (i := 808) (by decide +kernel)⟩
theorem lw_p23 : lw_okq (⟨"HayTalkModel", "isCow", "(I)Z"⟩, 29) := ⟨⟨by decide +kernel, by decide +kernel⟩, List.mem_of_getElem? (i := 647) (by decide +kernel), List.mem_of_getElem? (i := 815) (by decide +kernel), List.mem_of_getElem? (i := 816) (by decide +kernel)⟩
theorem lw_p24 : lw_okq (⟨"HayTalkModel", "isRick", "(I)Z"⟩, 29) := ⟨⟨by decide +kernel, by decide +kernel⟩, List.mem_of_getElem? (i := 647) (by decide +kernel), List.mem_of_getElem? (i := 823) (by decide +kernel), List.mem_of_getElem? (i := 824) (by decide +kernel)⟩
theorem lw_p25 : lw_okq (⟨"HayTalkModel", "hottest", "(I)I"⟩, 29) := ⟨⟨by decide +kernel, by decide +kernel⟩, List.mem_of_getElem? (i := 647) (by decide +kernel), List.mem_of_getElem? (i := 827) (by decide +kernel), List.mem_of_getElem? (i := 828) (by decide +kernel)⟩
theorem lw_p26 : lw_okq (⟨"HayTalkModel", "note", "()V"⟩, 29) := ⟨⟨by decide +kernel, by decide +kernel⟩, List.mem_of_getElem? (i := 647) (by decide +kernel), List.mem_of_getElem? (i := 844) (by decide +kernel), List.mem_of_getElem? (i := 845) (by decide +kernel)⟩
theorem lw_p27 : lw_okq (⟨"HayTalkModel", "oneHour", "()V"⟩, 29) := ⟨⟨by decide +kernel, by decide +kernel⟩, List.mem_of_getElem? (i := 647) (by decide +kernel), List.mem_of_getElem? (i := 848) (by decide +kernel), List.mem_of_getElem? (i := 849) (by decide +kernel)⟩
theorem lw_p28 : lw_okq (⟨"HayTalkModel", "heat", "(I)V"⟩, 29) := ⟨⟨by decide +kernel, by decide +kernel⟩, List.mem_of_getElem? (i := 647) (by decide +kernel), List.mem_of_getElem? (i := 852) (by decide +kernel), List.mem_of_getElem? (i := 853) (by decide +kernel)⟩
theorem lw_p29 : lw_okq (⟨"HayTalkModel", "rains", "(I)I"⟩, 29) := ⟨⟨by decide +kernel, by decide +kernel⟩, List.mem_of_getElem? (i := 647) (by decide +kernel), List.mem_of_getElem? (i := 856) (by decide +kernel), List.mem_of_getElem? (i := 857) (by decide +kernel)⟩
theorem lw_p30 : lw_okq (⟨"HayTalkModel", "wetter", "(II)I"⟩, 29) := ⟨⟨by decide +kernel, by decide +kernel⟩, List.mem_of_getElem? (i := 647) (by decide +kernel), List.mem_of_getElem? (i := 860) (by decide +kernel), List.mem_of_getElem? (i := 861) (by decide +kernel)⟩
theorem lw_p31 : lw_okq (⟨"HayTalkModel", "lying", "(II)I"⟩, 29) := ⟨⟨by decide +kernel, by decide +kernel⟩, List.mem_of_getElem? (i := 647) (by decide +kernel), List.mem_of_getElem? (i := 868) (by decide +kernel), List.mem_of_getElem? (i := 869) (by decide +kernel)⟩
def lw_privs_2 : List (MethodName × Nat) := [(⟨"HayTalkModel", "isRow", "(III)Z"⟩, 29), (⟨"HayTalkModel", "readWeather", "(II)Z"⟩, 29), (⟨"HayTalkModel", "readCow", "(II)Z"⟩, 29), (⟨"HayTalkModel", "numberOf", "(II)I"⟩, 29), (⟨"HayTalkModel", "readRick", "(II)Z"⟩, 29), (⟨"HayTalkModel", "isMower", "(I)Z"⟩, 29), (⟨"HayTalkModel", "nextWord", "(II)I"⟩, 29), (⟨"HayTalkModel", "isCow", "(I)Z"⟩, 29), (⟨"HayTalkModel", "isRick", "(I)Z"⟩, 29), (⟨"HayTalkModel", "hottest", "(I)I"⟩, 29), (⟨"HayTalkModel", "note", "()V"⟩, 29), (⟨"HayTalkModel", "oneHour", "()V"⟩, 29), (⟨"HayTalkModel", "heat", "(I)V"⟩, 29), (⟨"HayTalkModel", "rains", "(I)I"⟩, 29), (⟨"HayTalkModel", "wetter", "(II)I"⟩, 29), (⟨"HayTalkModel", "lying", "(II)I"⟩, 29)]
theorem lw_r2 : ∀ q ∈ lw_privs_2, lw_okq q := List.forall_mem_cons.mpr ⟨lw_p16, List.forall_mem_cons.mpr ⟨lw_p17, List.forall_mem_cons.mpr ⟨lw_p18, List.forall_mem_cons.mpr ⟨lw_p19, List.forall_mem_cons.mpr ⟨lw_p20, List.forall_mem_cons.mpr ⟨lw_p21, List.forall_mem_cons.mpr ⟨lw_p22, List.forall_mem_cons.mpr ⟨lw_p23, List.forall_mem_cons.mpr ⟨lw_p24, List.forall_mem_cons.mpr ⟨lw_p25, List.forall_mem_cons.mpr ⟨lw_p26, List.forall_mem_cons.mpr ⟨lw_p27, List.forall_mem_cons.mpr ⟨lw_p28, List.forall_mem_cons.mpr ⟨lw_p29, List.forall_mem_cons.mpr ⟨lw_p30, List.forall_mem_cons.mpr ⟨lw_p31, fun _ h => absurd h List.not_mem_nil⟩⟩⟩⟩⟩⟩⟩⟩⟩⟩⟩⟩⟩⟩⟩⟩
theorem lw_p32 : lw_okq (⟨"HayTalkModel", "rakeIn", "(III)V"⟩, 29) := ⟨⟨by decide +kernel, by decide +kernel⟩, List.mem_of_getElem? (i := 647) (by decide +kernel), List.mem_of_getElem? (i := 872) (by decide +kernel), List.mem_of_getElem? (i := 873) (by decide +kernel)⟩
theorem lw_p33 : lw_okq (⟨"HayTalkModel", "cutFor", "(II)I"⟩, 29) := ⟨⟨by decide +kernel, by decide +kernel⟩, List.mem_of_getElem? (i := 647) (by decide +kernel), List.mem_of_getElem? (i := 880) (by decide +kernel), List.mem_of_getElem? (i := 881) (by decide +kernel)⟩
theorem lw_p34 : lw_okq (⟨"HayTalkModel", "top", "(I)I"⟩, 29) := ⟨⟨by decide +kernel, by decide +kernel⟩, List.mem_of_getElem? (i := 647) (by decide +kernel), List.mem_of_getElem? (i := 884) (by decide +kernel), List.mem_of_getElem? (i := 885) (by decide +kernel)⟩
theorem lw_p35 : lw_okq (⟨"HayTalkModel", "toldBy", "(IIII)I"⟩, 29) := ⟨⟨by decide +kernel, by decide +kernel⟩, List.mem_of_getElem? (i := 647) (by decide +kernel), List.mem_of_getElem? (i := 913) (by decide +kernel), List.mem_of_getElem? (i := 914) (by decide +kernel)⟩
theorem lw_p36 : lw_okq (⟨"HayTalkModel", "weight", "(II)I"⟩, 29) := ⟨⟨by decide +kernel, by decide +kernel⟩, List.mem_of_getElem? (i := 647) (by decide +kernel), List.mem_of_getElem? (i := 936) (by decide +kernel), List.mem_of_getElem? (i := 937) (by decide +kernel)⟩
theorem lw_p37 : lw_okq (⟨"HayTalkModel", "allOf", "(II)I"⟩, 29) := ⟨⟨by decide +kernel, by decide +kernel⟩, List.mem_of_getElem? (i := 647) (by decide +kernel), List.mem_of_getElem? (i := 975) (by decide +kernel), List.mem_of_getElem? (i := 976) (by decide +kernel)⟩
theorem lw_p38 : lw_okq (⟨"HayTalkModel", "draw", "(I)V"⟩, 29) := ⟨⟨by decide +kernel, by decide +kernel⟩, List.mem_of_getElem? (i := 647) (by decide +kernel), List.mem_of_getElem? (i := 982) (by decide +kernel), List.mem_of_getElem? (i := 983) (by decide +kernel)⟩
theorem lw_p39 : lw_okq (⟨"HayTalkModel", "allTold", "()I"⟩, 29) := ⟨⟨by decide +kernel, by decide +kernel⟩, List.mem_of_getElem? (i := 647) (by decide +kernel), List.mem_of_getElem? (i := 986) (by decide +kernel), List.mem_of_getElem? (i := 987) (by decide +kernel)⟩
def lw_privs_3 : List (MethodName × Nat) := [(⟨"HayTalkModel", "rakeIn", "(III)V"⟩, 29), (⟨"HayTalkModel", "cutFor", "(II)I"⟩, 29), (⟨"HayTalkModel", "top", "(I)I"⟩, 29), (⟨"HayTalkModel", "toldBy", "(IIII)I"⟩, 29), (⟨"HayTalkModel", "weight", "(II)I"⟩, 29), (⟨"HayTalkModel", "allOf", "(II)I"⟩, 29), (⟨"HayTalkModel", "draw", "(I)V"⟩, 29), (⟨"HayTalkModel", "allTold", "()I"⟩, 29)]
theorem lw_r3 : ∀ q ∈ lw_privs_3, lw_okq q := List.forall_mem_cons.mpr ⟨lw_p32, List.forall_mem_cons.mpr ⟨lw_p33, List.forall_mem_cons.mpr ⟨lw_p34, List.forall_mem_cons.mpr ⟨lw_p35, List.forall_mem_cons.mpr ⟨lw_p36, List.forall_mem_cons.mpr ⟨lw_p37, List.forall_mem_cons.mpr ⟨lw_p38, List.forall_mem_cons.mpr ⟨lw_p39, fun _ h => absurd h List.not_mem_nil⟩⟩⟩⟩⟩⟩⟩⟩
def lw_privs : List (MethodName × Nat) := lw_privs_1 ++ (lw_privs_2 ++ (lw_privs_3))
def lw_tbl : List Cond := k2_sels lw_privs ++ tables_1
theorem lw_privs_ok : ∀ q ∈ lw_privs, lw_okq q := by
  show ∀ q ∈ lw_privs_1 ++ (lw_privs_2 ++ (lw_privs_3)), lw_okq q
  exact List.forall_mem_append.mpr ⟨lw_r1, List.forall_mem_append.mpr ⟨lw_r2, lw_r3⟩⟩

def cR_H : String := "HayTalk"
def cF_H : u_T := fun k => match k with
  | 0 => ("HayTalk", "text", "LHayTalk$Text;", true)
  | 1 => ("HayTalk", "field", "LHayTalk$Field;", true)
  | 2 => ("HayTalk", "trial", "LHayTalk$Field;", true)
  | 3 => ("HayTalk", "past", "LHayTalk$Pile;", true)
  | 4 => ("HayTalk", "kept", "LHayTalk$Pile;", true)
  | 5 => ("HayTalk", "seen", "LHayTalk$Seen;", true)
  | 6 => ("HayTalk", "land", "LHayTalk$Land;", false)
  | _ => ("HayTalk", "draft", "LHayTalk$Land;", false)
def ct_H : Nat → FieldType := fun k => match k with
  | 0 => .object "HayTalk$Text"
  | 1 => .object "HayTalk$Field"
  | 2 => .object "HayTalk$Field"
  | 3 => .object "HayTalk$Pile"
  | 4 => .object "HayTalk$Pile"
  | 5 => .object "HayTalk$Seen"
  | 6 => .object "HayTalk$Land"
  | _ => .object "HayTalk$Land"
theorem cn_H : ∀ a, a < 8 → ∀ b, b < 8 → a ≠ b → (cF_H a).2.1 ≠ (cF_H b).2.1 := by decide +kernel
theorem ct_H_ok : ∀ k, k < 8 → parseFieldDescriptor (cF_H k).2.2.1 = some (ct_H k) := by decide +kernel
theorem ci_H : ∀ w ∈ u_ws cR_H cF_H 8, w ∈ lw_tbl := by decide +kernel
def cR_T : String := "HayTalk$Text"
def cF_T : u_T := fun k => match k with
  | 0 => ("HayTalk$Text", "letters", "[I", true)
  | _ => ("HayTalk$Text", "length", "I", false)
def ct_T : Nat → FieldType := fun k => match k with
  | 0 => .array .int
  | _ => .int
theorem cn_T : ∀ a, a < 2 → ∀ b, b < 2 → a ≠ b → (cF_T a).2.1 ≠ (cF_T b).2.1 := by decide +kernel
theorem ct_T_ok : ∀ k, k < 2 → parseFieldDescriptor (cF_T k).2.2.1 = some (ct_T k) := by decide +kernel
theorem ci_T : ∀ w ∈ u_ws cR_T cF_T 2, w ∈ lw_tbl := by decide +kernel
def cR_F : String := "HayTalk$Field"
def cF_F : u_T := fun k => match k with
  | 0 => ("HayTalk$Field", "lying", "[I", true)
  | 1 => ("HayTalk$Field", "damp", "[I", true)
  | 2 => ("HayTalk$Field", "told", "[I", true)
  | 3 => ("HayTalk$Field", "heights", "[I", true)
  | 4 => ("HayTalk$Field", "burnt", "[I", true)
  | 5 => ("HayTalk$Field", "layerWords", "[I", true)
  | 6 => ("HayTalk$Field", "layerWetness", "[I", true)
  | 7 => ("HayTalk$Field", "layerHeat", "[I", true)
  | _ => ("HayTalk$Field", "hours", "I", false)
def ct_F : Nat → FieldType := fun k => match k with
  | 0 => .array .int
  | 1 => .array .int
  | 2 => .array .int
  | 3 => .array .int
  | 4 => .array .int
  | 5 => .array .int
  | 6 => .array .int
  | 7 => .array .int
  | _ => .int
theorem cn_F : ∀ a, a < 9 → ∀ b, b < 9 → a ≠ b → (cF_F a).2.1 ≠ (cF_F b).2.1 := by decide +kernel
theorem ct_F_ok : ∀ k, k < 9 → parseFieldDescriptor (cF_F k).2.2.1 = some (ct_F k) := by decide +kernel
theorem ci_F : ∀ w ∈ u_ws cR_F cF_F 9, w ∈ lw_tbl := by decide +kernel
def cR_P : String := "HayTalk$Pile"
def cF_P : u_T := fun k => match k with
  | 0 => ("HayTalk$Pile", "fields", "[LHayTalk$Field;", true)
  | 1 => ("HayTalk$Pile", "newest", "I", false)
  | _ => ("HayTalk$Pile", "size", "I", false)
def ct_P : Nat → FieldType := fun k => match k with
  | 0 => .array (.object "HayTalk$Field")
  | 1 => .int
  | _ => .int
theorem cn_P : ∀ a, a < 3 → ∀ b, b < 3 → a ≠ b → (cF_P a).2.1 ≠ (cF_P b).2.1 := by decide +kernel
theorem ct_P_ok : ∀ k, k < 3 → parseFieldDescriptor (cF_P k).2.2.1 = some (ct_P k) := by decide +kernel
theorem ci_P : ∀ w ∈ u_ws cR_P cF_P 3, w ∈ lw_tbl := by decide +kernel
def cR_S : String := "HayTalk$Seen"
def cF_S : u_T := fun k => match k with
  | 0 => ("HayTalk$Seen", "words", "[I", true)
  | 1 => ("HayTalk$Seen", "hours", "[I", true)
  | _ => ("HayTalk$Seen", "size", "I", false)
def ct_S : Nat → FieldType := fun k => match k with
  | 0 => .array .int
  | 1 => .array .int
  | _ => .int
theorem cn_S : ∀ a, a < 3 → ∀ b, b < 3 → a ≠ b → (cF_S a).2.1 ≠ (cF_S b).2.1 := by decide +kernel
theorem ct_S_ok : ∀ k, k < 3 → parseFieldDescriptor (cF_S k).2.2.1 = some (ct_S k) := by decide +kernel
theorem ci_S : ∀ w ∈ u_ws cR_S cF_S 3, w ∈ lw_tbl := by decide +kernel
def cR_L : String := "HayTalk$Land"
def cF_L : u_T := fun k => match k with
  | 0 => ("HayTalk$Land", "speeches", "[I", true)
  | 1 => ("HayTalk$Land", "speechLengths", "[I", true)
  | 2 => ("HayTalk$Land", "weather", "[I", true)
  | 3 => ("HayTalk$Land", "kindsOfCows", "[I", true)
  | 4 => ("HayTalk$Land", "thatches", "[I", true)
  | 5 => ("HayTalk$Land", "weatherLength", "I", false)
  | 6 => ("HayTalk$Land", "mowers", "I", false)
  | 7 => ("HayTalk$Land", "cows", "I", false)
  | _ => ("HayTalk$Land", "ricks", "I", false)
def ct_L : Nat → FieldType := fun k => match k with
  | 0 => .array .int
  | 1 => .array .int
  | 2 => .array .int
  | 3 => .array .int
  | 4 => .array .int
  | 5 => .int
  | 6 => .int
  | 7 => .int
  | _ => .int
theorem cn_L : ∀ a, a < 9 → ∀ b, b < 9 → a ≠ b → (cF_L a).2.1 ≠ (cF_L b).2.1 := by decide +kernel
theorem ct_L_ok : ∀ k, k < 9 → parseFieldDescriptor (cF_L k).2.2.1 = some (ct_L k) := by decide +kernel
theorem ci_L : ∀ w ∈ u_ws cR_L cF_L 9, w ∈ lw_tbl := by decide +kernel
def cR_M : String := "HayTalkModel"
def cF_M : u_T := fun k => match k with
  | 0 => ("HayTalkModel", "text", "[I", true)
  | 1 => ("HayTalkModel", "letters", "I", false)
  | 2 => ("HayTalkModel", "mowers", "I", false)
  | 3 => ("HayTalkModel", "cows", "I", false)
  | 4 => ("HayTalkModel", "ricks", "I", false)
  | 5 => ("HayTalkModel", "weathers", "I", false)
  | 6 => ("HayTalkModel", "says", "[I", true)
  | 7 => ("HayTalkModel", "words", "[I", true)
  | 8 => ("HayTalkModel", "weather", "[I", true)
  | 9 => ("HayTalkModel", "kindOf", "[I", true)
  | 10 => ("HayTalkModel", "thatch", "[I", true)
  | 11 => ("HayTalkModel", "newMowers", "I", false)
  | 12 => ("HayTalkModel", "newCows", "I", false)
  | 13 => ("HayTalkModel", "newRicks", "I", false)
  | 14 => ("HayTalkModel", "newWeathers", "I", false)
  | 15 => ("HayTalkModel", "newSays", "[I", true)
  | 16 => ("HayTalkModel", "newWords", "[I", true)
  | 17 => ("HayTalkModel", "newWeather", "[I", true)
  | 18 => ("HayTalkModel", "newKind", "[I", true)
  | 19 => ("HayTalkModel", "newThatch", "[I", true)
  | 20 => ("HayTalkModel", "st", "[I", true)
  | 21 => ("HayTalkModel", "pasts", "I", false)
  | 22 => ("HayTalkModel", "past", "[I", true)
  | 23 => ("HayTalkModel", "aside", "[I", true)
  | 24 => ("HayTalkModel", "seen", "I", false)
  | 25 => ("HayTalkModel", "seenWord", "[I", true)
  | 26 => ("HayTalkModel", "seenHour", "[I", true)
  | 27 => ("HayTalkModel", "keeps", "I", false)
  | _ => ("HayTalkModel", "kept", "[I", true)
def ct_M : Nat → FieldType := fun k => match k with
  | 0 => .array .int
  | 1 => .int
  | 2 => .int
  | 3 => .int
  | 4 => .int
  | 5 => .int
  | 6 => .array .int
  | 7 => .array .int
  | 8 => .array .int
  | 9 => .array .int
  | 10 => .array .int
  | 11 => .int
  | 12 => .int
  | 13 => .int
  | 14 => .int
  | 15 => .array .int
  | 16 => .array .int
  | 17 => .array .int
  | 18 => .array .int
  | 19 => .array .int
  | 20 => .array .int
  | 21 => .int
  | 22 => .array .int
  | 23 => .array .int
  | 24 => .int
  | 25 => .array .int
  | 26 => .array .int
  | 27 => .int
  | _ => .array .int
theorem cn_M : ∀ a, a < 29 → ∀ b, b < 29 → a ≠ b → (cF_M a).2.1 ≠ (cF_M b).2.1 := by decide +kernel
theorem ct_M_ok : ∀ k, k < 29 → parseFieldDescriptor (cF_M k).2.2.1 = some (ct_M k) := by decide +kernel
theorem ci_M : ∀ w ∈ u_ws cR_M cF_M 29, w ∈ lw_tbl := by decide +kernel
abbrev classes : List vw_C := [(cR_H, cF_H, 8), (cR_T, cF_T, 2), (cR_F, cF_F, 9), (cR_P, cF_P, 3), (cR_S, cF_S, 3), (cR_L, cF_L, 9), (cR_M, cF_M, 29)]
