theorem jq_20 : Jvm.Cond.code ({ cls := "HayTalk", name := "<init>", desc := "()V" } : Jvm.MethodName) prog_1_method_1_code (1 : Nat) (Option.none : Option Jvm.ClassFile.FieldType) ∈ lw_gd := lw_in 20 (by decide +kernel) rfl
theorem jq_21 : Jvm.Cond.methodLink "HayTalk" (1 : Nat) ({ cls := "java/lang/Object", name := "<init>", desc := "()V" } : Jvm.MethodName) ∈ lw_gd := lw_in 21 (by decide +kernel) rfl
theorem jq_24 : Jvm.Cond.classLink "HayTalk" (7 : Nat) "HayTalk$Text" ∈ lw_gd := lw_in 24 (by decide +kernel) rfl
theorem jq_26 : Jvm.Cond.methodLinkNest "HayTalk" (9 : Nat) ({ cls := "HayTalk$Text", name := "<init>", desc := "()V" } : Jvm.MethodName) "HayTalk" ∈ lw_nt := lw_inN 26 (by decide +kernel) rfl
theorem jq_40 : Jvm.Cond.classLink "HayTalk" (16 : Nat) "HayTalk$Field" ∈ lw_gd := lw_in 40 (by decide +kernel) rfl
theorem jq_42 : Jvm.Cond.methodLinkNest "HayTalk" (18 : Nat) ({ cls := "HayTalk$Field", name := "<init>", desc := "()V" } : Jvm.MethodName) "HayTalk" ∈ lw_nt := lw_inN 42 (by decide +kernel) rfl
theorem jq_80 : Jvm.Cond.classLink "HayTalk" (26 : Nat) "HayTalk$Pile" ∈ lw_gd := lw_in 80 (by decide +kernel) rfl
theorem jq_81 : Jvm.Cond.instantiable "HayTalk$Pile" (3 : Nat) ∈ lw_gd := lw_in 81 (by decide +kernel) rfl
theorem jq_82 : Jvm.Cond.methodLink "HayTalk" (28 : Nat) ({ cls := "HayTalk$Pile", name := "<init>", desc := "(I)V" } : Jvm.MethodName) ∈ lw_gd := lw_in 82 (by decide +kernel) rfl
theorem jq_83 : Jvm.Cond.instanceMethod ({ cls := "HayTalk$Pile", name := "<init>", desc := "(I)V" } : Jvm.MethodName) ∈ lw_gd := lw_in 83 (by decide +kernel) rfl
theorem jq_103 : Jvm.Cond.classLink "HayTalk" (38 : Nat) "HayTalk$Seen" ∈ lw_gd := lw_in 103 (by decide +kernel) rfl
theorem jq_104 : Jvm.Cond.instantiable "HayTalk$Seen" (3 : Nat) ∈ lw_gd := lw_in 104 (by decide +kernel) rfl
theorem jq_105 : Jvm.Cond.methodLinkNest "HayTalk" (40 : Nat) ({ cls := "HayTalk$Seen", name := "<init>", desc := "()V" } : Jvm.MethodName) "HayTalk" ∈ lw_nt := lw_inN 105 (by decide +kernel) rfl
theorem jq_106 : Jvm.Cond.instanceMethod ({ cls := "HayTalk$Seen", name := "<init>", desc := "()V" } : Jvm.MethodName) ∈ lw_gd := lw_in 106 (by decide +kernel) rfl
theorem jq_120 : Jvm.Cond.classLink "HayTalk" (45 : Nat) "HayTalk$Land" ∈ lw_gd := lw_in 120 (by decide +kernel) rfl
theorem jq_121 : Jvm.Cond.instantiable "HayTalk$Land" (9 : Nat) ∈ lw_gd := lw_in 121 (by decide +kernel) rfl
theorem jq_122 : Jvm.Cond.methodLinkNest "HayTalk" (47 : Nat) ({ cls := "HayTalk$Land", name := "<init>", desc := "()V" } : Jvm.MethodName) "HayTalk" ∈ lw_nt := lw_inN 122 (by decide +kernel) rfl
theorem jq_123 : Jvm.Cond.instanceMethod ({ cls := "HayTalk$Land", name := "<init>", desc := "()V" } : Jvm.MethodName) ∈ lw_gd := lw_in 123 (by decide +kernel) rfl
theorem jq_160 : Jvm.Cond.methodLink "HayTalk" (57 : Nat) ({ cls := "HayTalk$Text", name := "of", desc := "(Ljava/lang/String;)LHayTalk$Text;" } : Jvm.MethodName) ∈ lw_gd := lw_in 160 (by decide +kernel) rfl
theorem jq_161 : Jvm.Cond.static ({ cls := "HayTalk$Text", name := "of", desc := "(Ljava/lang/String;)LHayTalk$Text;" } : Jvm.MethodName) ∈ lw_gd := lw_in 161 (by decide +kernel) rfl
abbrev jLV : Type := (Nat → Int32) × (Nat → Int32) × (Nat → Int32) × (Nat → Int32) × (Nat → Int32) × Int32 × Int32 × Int32 × Int32
abbrev wLv (cI : ClassId) (a : Nat → Nat) (x : jLV) : va_W := wL cI a x.1 x.2.1 x.2.2.1 x.2.2.2.1 x.2.2.2.2.1 x.2.2.2.2.2.1 x.2.2.2.2.2.2.1 x.2.2.2.2.2.2.2.1 x.2.2.2.2.2.2.2.2
def jLV0 : jLV := (fun _ => 0, fun _ => 0, fun _ => 0, fun _ => 0, fun _ => 0, 0, 0, 0, 0)
abbrev wHay (cI cF : ClassId) (u : Nat → Nat → Nat) (t_letters : Nat → Int32) (t_length : Int32) (fv rv : jFV) (s_words s_hours : Nat → Int32) (s_size : Int32) (gv dv : jLV) (p_newest p_size : Int32) (p_v : Nat → jFV) (k_newest k_size : Int32) (k_v : Nat → jFV) : va_W := (wH (u 0) (u 1) (u 2) (u 3) (u 4) (u 5) (u 6) (u 7) (u 8) ++ (wT cI (u 1) t_letters t_length ++ (wFv cI (u 2) fv ++ (wFv cI (u 3) rv ++ (wS cI (u 6) s_words s_hours s_size ++ (wLv cI (u 7) gv ++ (wLv cI (u 8) dv ++ (wP cI cF 8 (u 4) p_newest p_size p_v ++ wP cI cF 2 (u 5) k_newest k_size k_v))))))))

def jf_H_init (N : Nat) (tx : Nat → Int32) : Option (Int32 × jLV) := xb (jf_T_of N tx 47 0 (fun _ => 0) 0) (fun q1 => xb (jf_L_readText N (fun _ => 0) (fun _ => 0) (fun _ => 0) (fun _ => 0) (fun _ => 0) 0 0 0 0 q1.1 q1.2) (fun q2 => some q2))
theorem pm_HA (b0 b1 b2 b3 b4 b5 b6 b7 b8 b9 : va_W) : List.Perm (((((((((b0 ++ b1) ++ b2) ++ b3) ++ b4) ++ b5) ++ b6) ++ b7) ++ b8) ++ b9) ((b7 ++ b9) ++ (b0 ++ (b1 ++ (b2 ++ (b3 ++ (b6 ++ (b8 ++ (b4 ++ b5)))))))) := by
  have h := pm_ok [b0, b1, b2, b3, b4, b5, b6, b7, b8, b9] [b7, b9, b0, b1, b2, b3, b6, b8, b4, b5] [7, 9, 0, 1, 2, 3, 6, 8, 4, 5] (show List.Perm _ (List.range 10) by decide) rfl
  simpa only [List.flatten_cons, List.flatten_nil, List.append_nil, List.append_assoc] using h
theorem pm_HB (b0 b1 b2 b3 b4 b5 b6 b7 b8 b9 : va_W) : List.Perm ((b0 ++ (b1 ++ (b2 ++ (b3 ++ (b6 ++ (b7 ++ (b8 ++ (b4 ++ b5)))))))) ++ b9) ((b7 ++ b9) ++ (b0 ++ (b1 ++ (b2 ++ (b3 ++ (b6 ++ (b8 ++ (b4 ++ b5)))))))) := by
  have h := pm_ok [b0, b1, b2, b3, b6, b7, b8, b4, b5, b9] [b7, b9, b0, b1, b2, b3, b6, b8, b4, b5] [5, 9, 0, 1, 2, 3, 4, 6, 7, 8] (show List.Perm _ (List.range 10) by decide) rfl
  simpa only [List.flatten_cons, List.flatten_nil, List.append_nil, List.append_assoc] using h
def hk_ZH (below : List Frame) (args : Array Value) (s : State) (D : va_G) (A : Nat → Prop) (h0 mc ms : Nat) (Wf : (Nat → Nat → Nat) → va_W) : State → Prop := MQ below (va_Qv (S := Nat → Nat → Nat) (fun u => u 0 0 = h0) (fun u t => va_P D classes (Wf u) t.heap ∧ va_D A (Wf u)) A) args s mc ms A
def hk_MH (E : State → Prop) (l : Launch) (y : MethodName) (b : ByteArray) (n : Nat) (rm : Room) (D : va_G) (cI cF : ClassId) (wc : va_W) (as : List Value) (h0 mc ms : Nat) (Wf : (Nat → Nat → Nat) → va_W) : Prop :=
  rm.cells = mc ∧ rm.slots = ms ∧ (∀ U g mk a, E U → E (U.calling g mk a)) ∧ ∀ sz : Nat, Met l y (.code y b n none :: lw_gd) rm (hk_PcE E D cI cF wc as sz) (va_Qv (S := Nat → Nat → Nat) (fun u => u 0 0 = h0) (fun u t => va_P D classes (Wf u) t.heap ∧ va_D (va_A wc sz) (Wf u)) (va_A wc sz)) mc ms (va_A wc sz)
section HKR9
variable {p : Program} {l : Launch} {e : Env} {R : Room} {s : State} {m : MethodId} {args : Array Value} {below : List Frame} {meth : Method} {c : Code} {A : Nat → Prop} {Q : State → Prop} {nL : Nat} {D : va_G} {cI cF : ClassId} {own : String} {cc : ByteArray} {cells slots : Nat} {ws : va_W} {pc : Nat} {lv : List (Nat × Value)} {st : List Value}
theorem hk_hret (hC : hk_ok p s m args meth c A nL D cI cF own cc) {h0 : Nat} {Wf : (Nat → Nat → Nat) → va_W} (hr : meth.sig.returnType = none) (d : decode cc pc = .ok (.return_, 1)) (u : Nat → Nat → Nat) (h1 : u 0 0 = h0) {wr : va_W} (hp : ws.Perm (Wf u ++ wr)) : hk_W p l e R s m args below meth c A (hk_ZH below args s D A h0 cells slots Wf) nL D cells slots ws pc lv [] :=
  fun H locs ls hP hD hS hl => W.vret hC.1 hC.2.1 hr (fun t ht hW => ⟨⟨u, rfl, h1, (by show va_P D classes (Wf u) t.heap; rw [ht]; exact pm_P hp hP), pm_D hp hD⟩, hS.F ht⟩) hS.2.2 d hC.2.2.2.2.2.2.1
theorem hk_callIH (hC : hk_ok p s m args meth c A nL D cI cF own cc) {E : State → Prop} {y : MethodName} {b : ByteArray} {n np index mc ms : Nat} {rm : Room} {wc wr : va_W} {Wf : (Nat → Nat → Nat) → va_W} {as st0 : List Value} {bref : Nat} (hM : hk_MH E l y b n rm D cI cF wc (.ref bref :: as) bref mc ms Wf) (hL : hk_L y b n none np) (hl0 : Cond.methodLink own index y ∈ lw_gd) (hin : Cond.instanceMethod y ∈ lw_gd) (hy1 : y.name = "<init>") (hnp : as.length = np) (hR : rm.frames + 1 ≤ R.frames ∧ 8 + (n + 11) + rm.locals ≤ R.locals) (hp : ws.Perm (wc ++ wr)) (hEs : ∀ (U : State) (H : Heap) (locs : List Loc), va_P D classes ws H → va_D A ws → va_S A s.heap H locs → U.heap = H → s.WarmedH U.vm → E U) (hst : st0 = as.reverse ++ .ref bref :: st) (hcat : (st.map fun v => v.category).sum ≤ 8) (hcs : cells + mc ≤ R.cells ∧ slots + ms ≤ R.slots) (d : decode cc pc = .ok (.invokespecial index, 3))
    (k : ∀ u : Nat → Nat → Nat, u 0 0 = bref → hk_W p l e R s m args below meth c A Q nL D (cells + mc) (slots + ms) (wr ++ Wf u) (pc + 3) lv st) : hk_W p l e R s m args below meth c A Q nL D cells slots ws pc lv st0 := by
  intro H locs ls hP hD hS hl
  have hPc := pm_P hp hP
  have hDc := pm_D hp hD
  have hFc := hk_freeW hC hDc hS
  refine va_callv (va_runI (As := as) (rest := st) ⟨hC.1, hC.2.1, hC.2.2.1, hC.2.2.2.1, hC.2.2.2.2.1⟩ (hM.2.2.2 H.size) ⟨callB_of np hC.2.2.2.2.1 (hk_goodL hL) rfl hM.1 hM.2.1 (hC.2.2.2.2.1 _ hL.2.1) (hC.2.2.2.2.1 _ hl0) hL.2.2 hR, hy1, hC.2.2.2.2.1 _ hin⟩ ⟨hk_blindE hM.2.2.1, fun U hU hW => hk_preE hC hPc hDc (fun U hU hW => hEs U H locs hP hD hS hU hW) U hU hW⟩ rfl hnp hl.1 hst (lv_room hcat) d hcs) hS (fun q _ h => hFc q h) hFc (fun u t H1 locs ht hvm hw hB hz1 hk1 hS => ?_)
  rw [ht] at hB
  obtain ⟨hP2, hD2⟩ := pm_grow hp hP hD hk1 hFc hB.1 hB.2
  exact k u hw H1 locs ls hP2 hD2 hS hl
end HKR9
def jtext : String := "m314;m2718;m5;m9902;e0120;c0;c1;c2;c3;k2;k0;k5;"
def jEH (sa va : Nat) (tx : Nat → Int32) (wc : va_W) (U : State) : Prop := va_AO "HayTalk$Field" U ∧ jEs sa va tx (va_A wc U.heap.size) U U.heap ∧ vk_R "HayTalk" 55 jtext sa U
theorem jEH_blind {sa va : Nat} {tx : Nat → Int32} {wc : va_W} (U : State) (g : JFrame) (mk : MethodId) (a : Array Value) (h : jEH sa va tx wc U) : jEH sa va tx wc (U.calling g mk a) :=
  ⟨h.1, jEs_go (s := U) (U := U.calling g mk a) (H := U.heap) h.2.1 va_S.rf rfl (Vm.Alike.refl U.vm) (fun _ h => h), h.2.2.same rfl⟩
abbrev jb_H_init : ByteArray := prog_1_method_1_code
abbrev jy_H_init : MethodName := ⟨"HayTalk", "<init>", "()V"⟩
abbrev jr_H_init : Room := { frames := 6, cells := 131, slots := 1797, locals := 142 }
theorem jl_H_init : hk_L jy_H_init jb_H_init 1 none 0 := ⟨jq_20, jq_1, by decide, by decide, by decide +kernel⟩
theorem jd_H_init_0 : decode jb_H_init 0 = .ok (.aload_n 0, 1) := by decide +kernel
theorem jd_H_init_1 : decode jb_H_init 1 = .ok (.invokespecial 1, 3) := by decide +kernel
theorem jd_H_init_4 : decode jb_H_init 4 = .ok (.aload_n 0, 1) := by decide +kernel
theorem jd_H_init_5 : decode jb_H_init 5 = .ok (.new 7, 3) := by decide +kernel
theorem jd_H_init_8 : decode jb_H_init 8 = .ok (.dup, 1) := by decide +kernel
theorem jd_H_init_9 : decode jb_H_init 9 = .ok (.invokespecial 9, 3) := by decide +kernel
theorem jd_H_init_12 : decode jb_H_init 12 = .ok (.putfield 10, 3) := by decide +kernel
theorem jd_H_init_15 : decode jb_H_init 15 = .ok (.aload_n 0, 1) := by decide +kernel
theorem jd_H_init_16 : decode jb_H_init 16 = .ok (.new 16, 3) := by decide +kernel
theorem jd_H_init_19 : decode jb_H_init 19 = .ok (.dup, 1) := by decide +kernel
theorem jd_H_init_20 : decode jb_H_init 20 = .ok (.invokespecial 18, 3) := by decide +kernel
theorem jd_H_init_23 : decode jb_H_init 23 = .ok (.putfield 19, 3) := by decide +kernel
theorem jd_H_init_26 : decode jb_H_init 26 = .ok (.aload_n 0, 1) := by decide +kernel
theorem jd_H_init_27 : decode jb_H_init 27 = .ok (.new 16, 3) := by decide +kernel
theorem jd_H_init_30 : decode jb_H_init 30 = .ok (.dup, 1) := by decide +kernel
theorem jd_H_init_31 : decode jb_H_init 31 = .ok (.invokespecial 18, 3) := by decide +kernel
theorem jd_H_init_34 : decode jb_H_init 34 = .ok (.putfield 23, 3) := by decide +kernel
theorem jd_H_init_37 : decode jb_H_init 37 = .ok (.aload_n 0, 1) := by decide +kernel
theorem jd_H_init_38 : decode jb_H_init 38 = .ok (.new 26, 3) := by decide +kernel
theorem jd_H_init_41 : decode jb_H_init 41 = .ok (.dup, 1) := by decide +kernel
theorem jd_H_init_42 : decode jb_H_init 42 = .ok (.bipush 8, 2) := by decide +kernel
theorem jd_H_init_44 : decode jb_H_init 44 = .ok (.invokespecial 28, 3) := by decide +kernel
theorem jd_H_init_47 : decode jb_H_init 47 = .ok (.putfield 31, 3) := by decide +kernel
theorem jd_H_init_50 : decode jb_H_init 50 = .ok (.aload_n 0, 1) := by decide +kernel
theorem jd_H_init_51 : decode jb_H_init 51 = .ok (.new 26, 3) := by decide +kernel
theorem jd_H_init_54 : decode jb_H_init 54 = .ok (.dup, 1) := by decide +kernel
theorem jd_H_init_55 : decode jb_H_init 55 = .ok (.iconst 2, 1) := by decide +kernel
theorem jd_H_init_56 : decode jb_H_init 56 = .ok (.invokespecial 28, 3) := by decide +kernel
theorem jd_H_init_59 : decode jb_H_init 59 = .ok (.putfield 35, 3) := by decide +kernel
theorem jd_H_init_62 : decode jb_H_init 62 = .ok (.aload_n 0, 1) := by decide +kernel
theorem jd_H_init_63 : decode jb_H_init 63 = .ok (.new 38, 3) := by decide +kernel
theorem jd_H_init_66 : decode jb_H_init 66 = .ok (.dup, 1) := by decide +kernel
theorem jd_H_init_67 : decode jb_H_init 67 = .ok (.invokespecial 40, 3) := by decide +kernel
theorem jd_H_init_70 : decode jb_H_init 70 = .ok (.putfield 41, 3) := by decide +kernel
theorem jd_H_init_73 : decode jb_H_init 73 = .ok (.aload_n 0, 1) := by decide +kernel
theorem jd_H_init_74 : decode jb_H_init 74 = .ok (.new 45, 3) := by decide +kernel
theorem jd_H_init_77 : decode jb_H_init 77 = .ok (.dup, 1) := by decide +kernel
theorem jd_H_init_78 : decode jb_H_init 78 = .ok (.invokespecial 47, 3) := by decide +kernel
theorem jd_H_init_81 : decode jb_H_init 81 = .ok (.putfield 48, 3) := by decide +kernel
theorem jd_H_init_84 : decode jb_H_init 84 = .ok (.aload_n 0, 1) := by decide +kernel
theorem jd_H_init_85 : decode jb_H_init 85 = .ok (.new 45, 3) := by decide +kernel
theorem jd_H_init_88 : decode jb_H_init 88 = .ok (.dup, 1) := by decide +kernel
theorem jd_H_init_89 : decode jb_H_init 89 = .ok (.invokespecial 47, 3) := by decide +kernel
theorem jd_H_init_92 : decode jb_H_init 92 = .ok (.putfield 52, 3) := by decide +kernel
theorem jd_H_init_95 : decode jb_H_init 95 = .ok (.aload_n 0, 1) := by decide +kernel
theorem jd_H_init_96 : decode jb_H_init 96 = .ok (.getfield 48, 3) := by decide +kernel
theorem jd_H_init_99 : decode jb_H_init 99 = .ok (.ldc 55, 2) := by decide +kernel
theorem jd_H_init_101 : decode jb_H_init 101 = .ok (.invokestatic 57, 3) := by decide +kernel
theorem jd_H_init_104 : decode jb_H_init 104 = .ok (.invokevirtual 61, 3) := by decide +kernel
theorem jd_H_init_107 : decode jb_H_init 107 = .ok (.pop, 1) := by decide +kernel
theorem jd_H_init_108 : decode jb_H_init 108 = .ok (.return_, 1) := by decide +kernel
set_option maxHeartbeats 16000000 in
set_option maxRecDepth 100000 in
theorem jw_H_init {p : Program} {l : Launch} {e : Env} {s : State} {m : MethodId} {args : Array Value} {below : List Frame} {meth : Method} {c : Code} {A : Nat → Prop} {D : va_G} {cI cF : ClassId} (hC : hk_ok p s m args meth c A 1 D cI cF "HayTalk" jb_H_init) (hr : meth.sig.returnType = none) (hnm : meth.name = "<init>") {sa va : Nat} {tx : Nat → Int32} (h0 : Nat) (hE : va_AO "HayTalk$Field" s ∧ jEs sa va tx A s s.heap ∧ vk_R "HayTalk" 55 jtext sa s) (N : Nat) {o : Int32 × jLV} (h : jf_H_init N tx = some o) : hk_W p l e jr_H_init s m args below meth c A (hk_ZH below args s D A h0 131 1797 (fun u => wHay cI cF u (fun _ => 0) 0 jFV0 jFV0 (fun _ => 0) (fun _ => 0) 0 o.2 jLV0 0 0 (fun _ => jFV0) 0 0 (fun _ => jFV0))) 1 D 0 0 [(h0, .inr (0, [.null, .null, .null, .null, .null, .null, .null, .null]))] 0 [(0, .ref h0)] [] := by
  have hA := hC.2.2.2.2.2.2.2.1
  delta jf_H_init at h
  refine hk_aload_n hC jd_H_init_0 0 rfl ?_
  refine hk_objInit hC jq_21 ⟨by decide, by decide⟩ jd_H_init_1 ?_
  refine hk_aload_n hC jd_H_init_4 0 rfl ?_
  refine hk_new (fs := [.null, .int 0]) hC jk_T (fun j hj => by rcases (show j = 0 ∨ j = 1 by omega) with rfl | rfl <;> rfl) jq_24 jq_25 jq_2 ⟨Nat.le_of_ble_eq_true rfl, Nat.le_of_ble_eq_true rfl⟩ jd_H_init_5 (fun q => ?_)
  refine hk_dup hC jd_H_init_8 rfl ?_
  refine hk_callIN hC (jc_T_init l D cI cF q) jl_T_init jq_26 jq_27 rfl rfl ⟨by decide, by decide⟩ List.perm_append_comm rfl (Nat.le_of_ble_eq_true rfl) ⟨Nat.le_of_ble_eq_true rfl, Nat.le_of_ble_eq_true rfl⟩ jd_H_init_9 (fun aText h_aText => ?_)
  subst h_aText
  refine hk_ws (ws2 := ([(h0, .inr (0, [.null, .null, .null, .null, .null, .null, .null, .null]))] ++ (wT cI aText (fun _ => 0) 0))) rfl ?_
  refine hk_widen (k1 := 2) (k2 := 202) (Nat.le_of_ble_eq_true rfl) (Nat.le_of_ble_eq_true rfl) ?_
  refine hk_putF hC jk_H 0 rfl 0 (by decide) jq_272 rfl hnm rfl rfl rfl (Nat.le_of_ble_eq_true rfl) (ws2 := ([(h0, .inr (0, [.ref (aText 0), .null, .null, .null, .null, .null, .null, .null]))] ++ (wT cI aText (fun _ => 0) 0))) rfl jd_H_init_12 ?_
  refine hk_aload_n hC jd_H_init_15 0 rfl ?_
  refine hk_new (fs := [.null, .null, .null, .null, .null, .null, .null, .null, .int 0]) hC jk_F (fun j hj => by rcases (show j = 0 ∨ j = 1 ∨ j = 2 ∨ j = 3 ∨ j = 4 ∨ j = 5 ∨ j = 6 ∨ j = 7 ∨ j = 8 by omega) with rfl | rfl | rfl | rfl | rfl | rfl | rfl | rfl | rfl <;> rfl) jq_40 jq_41 jq_3 ⟨Nat.le_of_ble_eq_true rfl, Nat.le_of_ble_eq_true rfl⟩ jd_H_init_16 (fun q => ?_)
  refine hk_dup hC jd_H_init_19 rfl ?_
  refine hk_callIN hC (jc_F_init l D cI cF q) jl_F_init jq_42 jq_43 rfl rfl ⟨by decide, by decide⟩ List.perm_append_comm rfl (Nat.le_of_ble_eq_true rfl) ⟨Nat.le_of_ble_eq_true rfl, Nat.le_of_ble_eq_true rfl⟩ jd_H_init_20 (fun aField h_aField => ?_)
  subst h_aField
  refine hk_ws (ws2 := (([(h0, .inr (0, [.ref (aText 0), .null, .null, .null, .null, .null, .null, .null]))] ++ (wT cI aText (fun _ => 0) 0)) ++ (wF cI aField (fun _ => 0) (fun _ => 0) (fun _ => 0) (fun _ => 0) (fun _ => 0) (fun _ => 0) (fun _ => 0) (fun _ => 0) 0))) rfl ?_
  refine hk_widen (k1 := 11) (k2 := 303) (Nat.le_of_ble_eq_true rfl) (Nat.le_of_ble_eq_true rfl) ?_
  refine hk_putF hC jk_H 0 rfl 1 (by decide) jq_273 rfl hnm rfl rfl rfl (Nat.le_of_ble_eq_true rfl) (ws2 := (([(h0, .inr (0, [.ref (aText 0), .ref (aField 0), .null, .null, .null, .null, .null, .null]))] ++ (wT cI aText (fun _ => 0) 0)) ++ (wF cI aField (fun _ => 0) (fun _ => 0) (fun _ => 0) (fun _ => 0) (fun _ => 0) (fun _ => 0) (fun _ => 0) (fun _ => 0) 0))) rfl jd_H_init_23 ?_
  refine hk_aload_n hC jd_H_init_26 0 rfl ?_
  refine hk_new (fs := [.null, .null, .null, .null, .null, .null, .null, .null, .int 0]) hC jk_F (fun j hj => by rcases (show j = 0 ∨ j = 1 ∨ j = 2 ∨ j = 3 ∨ j = 4 ∨ j = 5 ∨ j = 6 ∨ j = 7 ∨ j = 8 by omega) with rfl | rfl | rfl | rfl | rfl | rfl | rfl | rfl | rfl <;> rfl) jq_40 jq_41 jq_3 ⟨Nat.le_of_ble_eq_true rfl, Nat.le_of_ble_eq_true rfl⟩ jd_H_init_27 (fun q => ?_)
  refine hk_dup hC jd_H_init_30 rfl ?_
  refine hk_callIN hC (jc_F_init l D cI cF q) jl_F_init jq_42 jq_43 rfl rfl ⟨by decide, by decide⟩ List.perm_append_comm rfl (Nat.le_of_ble_eq_true rfl) ⟨Nat.le_of_ble_eq_true rfl, Nat.le_of_ble_eq_true rfl⟩ jd_H_init_31 (fun aTrial h_aTrial => ?_)
  subst h_aTrial
  refine hk_ws (ws2 := ((([(h0, .inr (0, [.ref (aText 0), .ref (aField 0), .null, .null, .null, .null, .null, .null]))] ++ (wT cI aText (fun _ => 0) 0)) ++ (wF cI aField (fun _ => 0) (fun _ => 0) (fun _ => 0) (fun _ => 0) (fun _ => 0) (fun _ => 0) (fun _ => 0) (fun _ => 0) 0)) ++ (wF cI aTrial (fun _ => 0) (fun _ => 0) (fun _ => 0) (fun _ => 0) (fun _ => 0) (fun _ => 0) (fun _ => 0) (fun _ => 0) 0))) rfl ?_
  refine hk_widen (k1 := 20) (k2 := 404) (Nat.le_of_ble_eq_true rfl) (Nat.le_of_ble_eq_true rfl) ?_
  refine hk_putF hC jk_H 0 rfl 2 (by decide) jq_274 rfl hnm rfl rfl rfl (Nat.le_of_ble_eq_true rfl) (ws2 := ((([(h0, .inr (0, [.ref (aText 0), .ref (aField 0), .ref (aTrial 0), .null, .null, .null, .null, .null]))] ++ (wT cI aText (fun _ => 0) 0)) ++ (wF cI aField (fun _ => 0) (fun _ => 0) (fun _ => 0) (fun _ => 0) (fun _ => 0) (fun _ => 0) (fun _ => 0) (fun _ => 0) 0)) ++ (wF cI aTrial (fun _ => 0) (fun _ => 0) (fun _ => 0) (fun _ => 0) (fun _ => 0) (fun _ => 0) (fun _ => 0) (fun _ => 0) 0))) rfl jd_H_init_34 ?_
  refine hk_aload_n hC jd_H_init_37 0 rfl ?_
  refine hk_new (fs := [.null, .int 0, .int 0]) hC jk_P (fun j hj => by rcases (show j = 0 ∨ j = 1 ∨ j = 2 by omega) with rfl | rfl | rfl <;> rfl) jq_80 jq_81 jq_4 ⟨Nat.le_of_ble_eq_true rfl, Nat.le_of_ble_eq_true rfl⟩ jd_H_init_38 (fun q => ?_)
  refine hk_dup hC jd_H_init_41 rfl ?_
  refine hk_bipush (v := nI 8) hC jd_H_init_42 (by decide) ?_
  refine hk_callIE hC (as := [.int (nI 8)]) (jc_P_init l D cI cF q 8 (by decide) (by decide)) jl_P_init jq_82 jq_83 rfl rfl ⟨by decide, by decide⟩ List.perm_append_comm (fun U H locs hS hU hW => va_AO.moved hW.alike hE.1) rfl (Nat.le_of_ble_eq_true rfl) ⟨Nat.le_of_ble_eq_true rfl, Nat.le_of_ble_eq_true rfl⟩ jd_H_init_44 (fun aPast h_aPast => ?_)
  subst h_aPast
  refine hk_ws (ws2 := (((([(h0, .inr (0, [.ref (aText 0), .ref (aField 0), .ref (aTrial 0), .null, .null, .null, .null, .null]))] ++ (wT cI aText (fun _ => 0) 0)) ++ (wF cI aField (fun _ => 0) (fun _ => 0) (fun _ => 0) (fun _ => 0) (fun _ => 0) (fun _ => 0) (fun _ => 0) (fun _ => 0) 0)) ++ (wF cI aTrial (fun _ => 0) (fun _ => 0) (fun _ => 0) (fun _ => 0) (fun _ => 0) (fun _ => 0) (fun _ => 0) (fun _ => 0) 0)) ++ (wP cI cF 8 aPast 0 0 (fun _ => jFV0)))) rfl ?_
  refine hk_widen (k1 := 94) (k2 := 1223) (Nat.le_of_ble_eq_true rfl) (Nat.le_of_ble_eq_true rfl) ?_
  refine hk_putF hC jk_H 0 rfl 3 (by decide) jq_275 rfl hnm rfl rfl rfl (Nat.le_of_ble_eq_true rfl) (ws2 := (((([(h0, .inr (0, [.ref (aText 0), .ref (aField 0), .ref (aTrial 0), .ref (aPast 0), .null, .null, .null, .null]))] ++ (wT cI aText (fun _ => 0) 0)) ++ (wF cI aField (fun _ => 0) (fun _ => 0) (fun _ => 0) (fun _ => 0) (fun _ => 0) (fun _ => 0) (fun _ => 0) (fun _ => 0) 0)) ++ (wF cI aTrial (fun _ => 0) (fun _ => 0) (fun _ => 0) (fun _ => 0) (fun _ => 0) (fun _ => 0) (fun _ => 0) (fun _ => 0) 0)) ++ (wP cI cF 8 aPast 0 0 (fun _ => jFV0)))) rfl jd_H_init_47 ?_
  refine hk_aload_n hC jd_H_init_50 0 rfl ?_
  refine hk_new (fs := [.null, .int 0, .int 0]) hC jk_P (fun j hj => by rcases (show j = 0 ∨ j = 1 ∨ j = 2 by omega) with rfl | rfl | rfl <;> rfl) jq_80 jq_81 jq_4 ⟨Nat.le_of_ble_eq_true rfl, Nat.le_of_ble_eq_true rfl⟩ jd_H_init_51 (fun q => ?_)
  refine hk_dup hC jd_H_init_54 rfl ?_
  refine hk_iconst (v := nI 2) hC jd_H_init_55 (by decide) ?_
  refine hk_callIE hC (as := [.int (nI 2)]) (jc_P_init l D cI cF q 2 (by decide) (by decide)) jl_P_init jq_82 jq_83 rfl rfl ⟨by decide, by decide⟩ List.perm_append_comm (fun U H locs hS hU hW => va_AO.moved hW.alike hE.1) rfl (Nat.le_of_ble_eq_true rfl) ⟨Nat.le_of_ble_eq_true rfl, Nat.le_of_ble_eq_true rfl⟩ jd_H_init_56 (fun aKept h_aKept => ?_)
  subst h_aKept
  refine hk_ws (ws2 := ((((([(h0, .inr (0, [.ref (aText 0), .ref (aField 0), .ref (aTrial 0), .ref (aPast 0), .null, .null, .null, .null]))] ++ (wT cI aText (fun _ => 0) 0)) ++ (wF cI aField (fun _ => 0) (fun _ => 0) (fun _ => 0) (fun _ => 0) (fun _ => 0) (fun _ => 0) (fun _ => 0) (fun _ => 0) 0)) ++ (wF cI aTrial (fun _ => 0) (fun _ => 0) (fun _ => 0) (fun _ => 0) (fun _ => 0) (fun _ => 0) (fun _ => 0) (fun _ => 0) 0)) ++ (wP cI cF 8 aPast 0 0 (fun _ => jFV0))) ++ (wP cI cF 2 aKept 0 0 (fun _ => jFV0)))) rfl ?_
  refine hk_widen (k1 := 114) (k2 := 1430) (Nat.le_of_ble_eq_true rfl) (Nat.le_of_ble_eq_true rfl) ?_
  refine hk_putF hC jk_H 0 rfl 4 (by decide) jq_276 rfl hnm rfl rfl rfl (Nat.le_of_ble_eq_true rfl) (ws2 := ((((([(h0, .inr (0, [.ref (aText 0), .ref (aField 0), .ref (aTrial 0), .ref (aPast 0), .ref (aKept 0), .null, .null, .null]))] ++ (wT cI aText (fun _ => 0) 0)) ++ (wF cI aField (fun _ => 0) (fun _ => 0) (fun _ => 0) (fun _ => 0) (fun _ => 0) (fun _ => 0) (fun _ => 0) (fun _ => 0) 0)) ++ (wF cI aTrial (fun _ => 0) (fun _ => 0) (fun _ => 0) (fun _ => 0) (fun _ => 0) (fun _ => 0) (fun _ => 0) (fun _ => 0) 0)) ++ (wP cI cF 8 aPast 0 0 (fun _ => jFV0))) ++ (wP cI cF 2 aKept 0 0 (fun _ => jFV0)))) rfl jd_H_init_59 ?_
  refine hk_aload_n hC jd_H_init_62 0 rfl ?_
  refine hk_new (fs := [.null, .null, .int 0]) hC jk_S (fun j hj => by rcases (show j = 0 ∨ j = 1 ∨ j = 2 by omega) with rfl | rfl | rfl <;> rfl) jq_103 jq_104 jq_6 ⟨Nat.le_of_ble_eq_true rfl, Nat.le_of_ble_eq_true rfl⟩ jd_H_init_63 (fun q => ?_)
  refine hk_dup hC jd_H_init_66 rfl ?_
  refine hk_callIN hC (jc_S_init l D cI cF q) jl_S_init jq_105 jq_106 rfl rfl ⟨by decide, by decide⟩ List.perm_append_comm rfl (Nat.le_of_ble_eq_true rfl) ⟨Nat.le_of_ble_eq_true rfl, Nat.le_of_ble_eq_true rfl⟩ jd_H_init_67 (fun aSeen h_aSeen => ?_)
  subst h_aSeen
  refine hk_ws (ws2 := (((((([(h0, .inr (0, [.ref (aText 0), .ref (aField 0), .ref (aTrial 0), .ref (aPast 0), .ref (aKept 0), .null, .null, .null]))] ++ (wT cI aText (fun _ => 0) 0)) ++ (wF cI aField (fun _ => 0) (fun _ => 0) (fun _ => 0) (fun _ => 0) (fun _ => 0) (fun _ => 0) (fun _ => 0) (fun _ => 0) 0)) ++ (wF cI aTrial (fun _ => 0) (fun _ => 0) (fun _ => 0) (fun _ => 0) (fun _ => 0) (fun _ => 0) (fun _ => 0) (fun _ => 0) 0)) ++ (wP cI cF 8 aPast 0 0 (fun _ => jFV0))) ++ (wP cI cF 2 aKept 0 0 (fun _ => jFV0))) ++ (wS cI aSeen (fun _ => 0) (fun _ => 0) 0))) rfl ?_
  refine hk_widen (k1 := 117) (k2 := 1445) (Nat.le_of_ble_eq_true rfl) (Nat.le_of_ble_eq_true rfl) ?_
  refine hk_putF hC jk_H 0 rfl 5 (by decide) jq_277 rfl hnm rfl rfl rfl (Nat.le_of_ble_eq_true rfl) (ws2 := (((((([(h0, .inr (0, [.ref (aText 0), .ref (aField 0), .ref (aTrial 0), .ref (aPast 0), .ref (aKept 0), .ref (aSeen 0), .null, .null]))] ++ (wT cI aText (fun _ => 0) 0)) ++ (wF cI aField (fun _ => 0) (fun _ => 0) (fun _ => 0) (fun _ => 0) (fun _ => 0) (fun _ => 0) (fun _ => 0) (fun _ => 0) 0)) ++ (wF cI aTrial (fun _ => 0) (fun _ => 0) (fun _ => 0) (fun _ => 0) (fun _ => 0) (fun _ => 0) (fun _ => 0) (fun _ => 0) 0)) ++ (wP cI cF 8 aPast 0 0 (fun _ => jFV0))) ++ (wP cI cF 2 aKept 0 0 (fun _ => jFV0))) ++ (wS cI aSeen (fun _ => 0) (fun _ => 0) 0))) rfl jd_H_init_70 ?_
  refine hk_aload_n hC jd_H_init_73 0 rfl ?_
  refine hk_new (fs := [.null, .null, .null, .null, .null, .int 0, .int 0, .int 0, .int 0]) hC jk_L (fun j hj => by rcases (show j = 0 ∨ j = 1 ∨ j = 2 ∨ j = 3 ∨ j = 4 ∨ j = 5 ∨ j = 6 ∨ j = 7 ∨ j = 8 by omega) with rfl | rfl | rfl | rfl | rfl | rfl | rfl | rfl | rfl <;> rfl) jq_120 jq_121 jq_7 ⟨Nat.le_of_ble_eq_true rfl, Nat.le_of_ble_eq_true rfl⟩ jd_H_init_74 (fun q => ?_)
  refine hk_dup hC jd_H_init_77 rfl ?_
  refine hk_callIN hC (jc_L_init l D cI cF q) jl_L_init jq_122 jq_123 rfl rfl ⟨by decide, by decide⟩ List.perm_append_comm rfl (Nat.le_of_ble_eq_true rfl) ⟨Nat.le_of_ble_eq_true rfl, Nat.le_of_ble_eq_true rfl⟩ jd_H_init_78 (fun aLand h_aLand => ?_)
  subst h_aLand
  refine hk_ws (ws2 := ((((((([(h0, .inr (0, [.ref (aText 0), .ref (aField 0), .ref (aTrial 0), .ref (aPast 0), .ref (aKept 0), .ref (aSeen 0), .null, .null]))] ++ (wT cI aText (fun _ => 0) 0)) ++ (wF cI aField (fun _ => 0) (fun _ => 0) (fun _ => 0) (fun _ => 0) (fun _ => 0) (fun _ => 0) (fun _ => 0) (fun _ => 0) 0)) ++ (wF cI aTrial (fun _ => 0) (fun _ => 0) (fun _ => 0) (fun _ => 0) (fun _ => 0) (fun _ => 0) (fun _ => 0) (fun _ => 0) 0)) ++ (wP cI cF 8 aPast 0 0 (fun _ => jFV0))) ++ (wP cI cF 2 aKept 0 0 (fun _ => jFV0))) ++ (wS cI aSeen (fun _ => 0) (fun _ => 0) 0)) ++ (wL cI aLand (fun _ => 0) (fun _ => 0) (fun _ => 0) (fun _ => 0) (fun _ => 0) 0 0 0 0))) rfl ?_
  refine hk_widen (k1 := 123) (k2 := 1520) (Nat.le_of_ble_eq_true rfl) (Nat.le_of_ble_eq_true rfl) ?_
  refine hk_put hC jk_H 0 rfl 6 (by decide) jq_278 rfl rfl rfl (Nat.le_of_ble_eq_true rfl) (ws2 := ((((((([(h0, .inr (0, [.ref (aText 0), .ref (aField 0), .ref (aTrial 0), .ref (aPast 0), .ref (aKept 0), .ref (aSeen 0), .ref (aLand 0), .null]))] ++ (wT cI aText (fun _ => 0) 0)) ++ (wF cI aField (fun _ => 0) (fun _ => 0) (fun _ => 0) (fun _ => 0) (fun _ => 0) (fun _ => 0) (fun _ => 0) (fun _ => 0) 0)) ++ (wF cI aTrial (fun _ => 0) (fun _ => 0) (fun _ => 0) (fun _ => 0) (fun _ => 0) (fun _ => 0) (fun _ => 0) (fun _ => 0) 0)) ++ (wP cI cF 8 aPast 0 0 (fun _ => jFV0))) ++ (wP cI cF 2 aKept 0 0 (fun _ => jFV0))) ++ (wS cI aSeen (fun _ => 0) (fun _ => 0) 0)) ++ (wL cI aLand (fun _ => 0) (fun _ => 0) (fun _ => 0) (fun _ => 0) (fun _ => 0) 0 0 0 0))) rfl jd_H_init_81 ?_
  refine hk_aload_n hC jd_H_init_84 0 rfl ?_
  refine hk_new (fs := [.null, .null, .null, .null, .null, .int 0, .int 0, .int 0, .int 0]) hC jk_L (fun j hj => by rcases (show j = 0 ∨ j = 1 ∨ j = 2 ∨ j = 3 ∨ j = 4 ∨ j = 5 ∨ j = 6 ∨ j = 7 ∨ j = 8 by omega) with rfl | rfl | rfl | rfl | rfl | rfl | rfl | rfl | rfl <;> rfl) jq_120 jq_121 jq_7 ⟨Nat.le_of_ble_eq_true rfl, Nat.le_of_ble_eq_true rfl⟩ jd_H_init_85 (fun q => ?_)
  refine hk_dup hC jd_H_init_88 rfl ?_
  refine hk_callIN hC (jc_L_init l D cI cF q) jl_L_init jq_122 jq_123 rfl rfl ⟨by decide, by decide⟩ List.perm_append_comm rfl (Nat.le_of_ble_eq_true rfl) ⟨Nat.le_of_ble_eq_true rfl, Nat.le_of_ble_eq_true rfl⟩ jd_H_init_89 (fun aDraft h_aDraft => ?_)
  subst h_aDraft
  refine hk_ws (ws2 := (((((((([(h0, .inr (0, [.ref (aText 0), .ref (aField 0), .ref (aTrial 0), .ref (aPast 0), .ref (aKept 0), .ref (aSeen 0), .ref (aLand 0), .null]))] ++ (wT cI aText (fun _ => 0) 0)) ++ (wF cI aField (fun _ => 0) (fun _ => 0) (fun _ => 0) (fun _ => 0) (fun _ => 0) (fun _ => 0) (fun _ => 0) (fun _ => 0) 0)) ++ (wF cI aTrial (fun _ => 0) (fun _ => 0) (fun _ => 0) (fun _ => 0) (fun _ => 0) (fun _ => 0) (fun _ => 0) (fun _ => 0) 0)) ++ (wP cI cF 8 aPast 0 0 (fun _ => jFV0))) ++ (wP cI cF 2 aKept 0 0 (fun _ => jFV0))) ++ (wS cI aSeen (fun _ => 0) (fun _ => 0) 0)) ++ (wL cI aLand (fun _ => 0) (fun _ => 0) (fun _ => 0) (fun _ => 0) (fun _ => 0) 0 0 0 0)) ++ (wL cI aDraft (fun _ => 0) (fun _ => 0) (fun _ => 0) (fun _ => 0) (fun _ => 0) 0 0 0 0))) rfl ?_
  refine hk_widen (k1 := 129) (k2 := 1595) (Nat.le_of_ble_eq_true rfl) (Nat.le_of_ble_eq_true rfl) ?_
  refine hk_put hC jk_H 0 rfl 7 (by decide) jq_279 rfl rfl rfl (Nat.le_of_ble_eq_true rfl) (ws2 := (((((((([(h0, .inr (0, [.ref (aText 0), .ref (aField 0), .ref (aTrial 0), .ref (aPast 0), .ref (aKept 0), .ref (aSeen 0), .ref (aLand 0), .ref (aDraft 0)]))] ++ (wT cI aText (fun _ => 0) 0)) ++ (wF cI aField (fun _ => 0) (fun _ => 0) (fun _ => 0) (fun _ => 0) (fun _ => 0) (fun _ => 0) (fun _ => 0) (fun _ => 0) 0)) ++ (wF cI aTrial (fun _ => 0) (fun _ => 0) (fun _ => 0) (fun _ => 0) (fun _ => 0) (fun _ => 0) (fun _ => 0) (fun _ => 0) 0)) ++ (wP cI cF 8 aPast 0 0 (fun _ => jFV0))) ++ (wP cI cF 2 aKept 0 0 (fun _ => jFV0))) ++ (wS cI aSeen (fun _ => 0) (fun _ => 0) 0)) ++ (wL cI aLand (fun _ => 0) (fun _ => 0) (fun _ => 0) (fun _ => 0) (fun _ => 0) 0 0 0 0)) ++ (wL cI aDraft (fun _ => 0) (fun _ => 0) (fun _ => 0) (fun _ => 0) (fun _ => 0) 0 0 0 0))) rfl jd_H_init_92 ?_
  refine hk_aload_n hC jd_H_init_95 0 rfl ?_
  refine hk_get hC jk_H 0 rfl 6 (by decide) jq_278 rfl jd_H_init_96 ?_
  refine hk_ldcS hC hE.2.2 jd_H_init_99 ?_
  obtain ⟨q1, hq1, h⟩ := xb_go h
  refine hk_callSEr hC (as := [.ref sa]) (jc_T_of l D cI cF sa va tx N hq1) jl_T_of jq_160 jq_161 rfl ⟨by decide, by decide⟩ (jE_go hE.2.1 hA) rfl (Nat.le_of_ble_eq_true rfl) ⟨Nat.le_of_ble_eq_true rfl, Nat.le_of_ble_eq_true rfl⟩ jd_H_init_101 (fun aT => ?_)
  refine hk_widen (k1 := 131) (k2 := 1797) (Nat.le_of_ble_eq_true rfl) (Nat.le_of_ble_eq_true rfl) ?_
  obtain ⟨q2, hq2, h⟩ := xb_go h
  refine hk_callVBi hC (as := [.ref (aT 0)]) (jc_L_readText l D cI cF N aLand aT (fun _ => 0) (fun _ => 0) (fun _ => 0) (fun _ => 0) (fun _ => 0) 0 0 0 0 q1.1 q1.2 hq2) jl_L_readText rfl (List.mem_append_left _ (List.mem_append_left _ (List.mem_append_right _ List.mem_cons_self))) jq_224 jq_225 jq_226 rfl ⟨by decide, by decide⟩ (pm_HA _ _ _ _ _ _ _ _ _ _) (ws2 := (((wH (fun _ => h0) aText aField aTrial aPast aKept aSeen aLand aDraft) ++ ((wT cI aText (fun _ => 0) 0) ++ ((wF cI aField (fun _ => 0) (fun _ => 0) (fun _ => 0) (fun _ => 0) (fun _ => 0) (fun _ => 0) (fun _ => 0) (fun _ => 0) 0) ++ ((wF cI aTrial (fun _ => 0) (fun _ => 0) (fun _ => 0) (fun _ => 0) (fun _ => 0) (fun _ => 0) (fun _ => 0) (fun _ => 0) 0) ++ ((wS cI aSeen (fun _ => 0) (fun _ => 0) 0) ++ ((wL cI aLand q2.2.1 q2.2.2.1 q2.2.2.2.1 q2.2.2.2.2.1 q2.2.2.2.2.2.1 q2.2.2.2.2.2.2.1 q2.2.2.2.2.2.2.2.1 q2.2.2.2.2.2.2.2.2.1 q2.2.2.2.2.2.2.2.2.2) ++ ((wL cI aDraft (fun _ => 0) (fun _ => 0) (fun _ => 0) (fun _ => 0) (fun _ => 0) 0 0 0 0) ++ ((wP cI cF 8 aPast 0 0 (fun _ => jFV0)) ++ (wP cI cF 2 aKept 0 0 (fun _ => jFV0)))))))))) ++ wT cI aT q1.1 q1.2)) (pm_HB _ _ _ _ _ _ _ _ _ _) rfl rfl (Nat.le_of_ble_eq_true rfl) ⟨Nat.le_of_ble_eq_true rfl, Nat.le_of_ble_eq_true rfl⟩ jd_H_init_104 ?_
  refine hk_pop hC jd_H_init_107 rfl ?_
  obtain rfl := Option.some.inj h
  exact hk_hret hC hr jd_H_init_108 (fun b => match b with | 0 => (fun _ => h0) | 1 => aText | 2 => aField | 3 => aTrial | 4 => aPast | 5 => aKept | 6 => aSeen | 7 => aLand | _ => aDraft) rfl (wr := wT cI aT q1.1 q1.2) (List.Perm.refl _)
theorem jc_H_init (l : Launch) (D : va_G) (cI cF : ClassId) (sa va : Nat) (tx : Nat → Int32) (h0 N : Nat) {o : Int32 × jLV} (h : jf_H_init N tx = some o) : hk_MH (jEH sa va tx [(h0, .inr (0, [.null, .null, .null, .null, .null, .null, .null, .null]))]) l jy_H_init jb_H_init 1 jr_H_init D cI cF [(h0, .inr (0, [.null, .null, .null, .null, .null, .null, .null, .null]))] [.ref h0] h0 131 1797 (fun u => wHay cI cF u (fun _ => 0) 0 jFV0 jFV0 (fun _ => 0) (fun _ => 0) 0 o.2 jLV0 0 0 (fun _ => jFV0) 0 0 (fun _ => jFV0)) :=
  ⟨rfl, rfl, jEH_blind, fun sz => hk_entryE (by decide) (Nat.le_of_ble_eq_true rfl) fun p e s m args below meth c A hA hs hC hr hnm hE => by subst hs; subst hA; exact jw_H_init hC hr hnm h0 hE N h⟩
