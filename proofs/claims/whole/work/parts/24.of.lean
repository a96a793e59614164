theorem jq_25 : Jvm.Cond.instantiable "HayTalk$Text" (2 : Nat) ∈ lw_gd := lw_in 25 (by decide +kernel) rfl
theorem jq_27 : Jvm.Cond.instanceMethod ({ cls := "HayTalk$Text", name := "<init>", desc := "()V" } : Jvm.MethodName) ∈ lw_gd := lw_in 27 (by decide +kernel) rfl
theorem jq_163 : Jvm.Cond.classLink "HayTalk$Text" (9 : Nat) "HayTalk$Text" ∈ lw_gd := lw_in 163 (by decide +kernel) rfl
theorem jq_164 : Jvm.Cond.methodLink "HayTalk$Text" (15 : Nat) ({ cls := "HayTalk$Text", name := "<init>", desc := "()V" } : Jvm.MethodName) ∈ lw_gd := lw_in 164 (by decide +kernel) rfl
theorem jq_165 : Jvm.Cond.methodLink "HayTalk$Text" (16 : Nat) ({ cls := "java/lang/String", name := "length", desc := "()I" } : Jvm.MethodName) ∈ lw_gd := lw_in 165 (by decide +kernel) rfl
theorem jq_166 : Jvm.Cond.instanceMethod ({ cls := "java/lang/String", name := "length", desc := "()I" } : Jvm.MethodName) ∈ lw_gd := lw_in 166 (by decide +kernel) rfl
theorem jq_167 : Jvm.Cond.selects "java/lang/String" ({ cls := "java/lang/String", name := "length", desc := "()I" } : Jvm.MethodName) ({ cls := "java/lang/String", name := "length", desc := "()I" } : Jvm.MethodName) ∈ lw_gd := lw_in 167 (by decide +kernel) rfl
theorem jq_175 : Jvm.Cond.methodLink "HayTalk$Text" (22 : Nat) ({ cls := "java/lang/String", name := "charAt", desc := "(I)C" } : Jvm.MethodName) ∈ lw_gd := lw_in 175 (by decide +kernel) rfl
theorem jq_176 : Jvm.Cond.instanceMethod ({ cls := "java/lang/String", name := "charAt", desc := "(I)C" } : Jvm.MethodName) ∈ lw_gd := lw_in 176 (by decide +kernel) rfl
theorem jq_177 : Jvm.Cond.selects "java/lang/String" ({ cls := "java/lang/String", name := "charAt", desc := "(I)C" } : Jvm.MethodName) ({ cls := "java/lang/String", name := "charAt", desc := "(I)C" } : Jvm.MethodName) ∈ lw_gd := lw_in 177 (by decide +kernel) rfl
theorem jq_213 : Jvm.Cond.methodLink "HayTalk$Text" (26 : Nat) ({ cls := "HayTalk$Text", name := "add", desc := "(I)V" } : Jvm.MethodName) ∈ lw_gd := lw_in 213 (by decide +kernel) rfl
/-! Text.of, and the constructor of HayTalk -/
def jch (tx : Nat → Int32) (i : Nat) : Int32 := ((tx i &&& (255 : Int32)).toUInt32 % 65536).toInt32
def jf_T_of (N : Nat) (tx : Nat → Int32) : Nat → Nat → (Nat → Int32) → Int32 → Option ((Nat → Int32) × Int32)
  | 0, _, letters, length => some (letters, length)
  | k + 1, i, letters, length => xb (jf_T_add N letters length (jch tx i)) (fun q => jf_T_of N tx k (i + 1) q.1 q.2)
def hk_Zr (below : List Frame) (args : Array Value) (s : State) (D : va_G) (A : Nat → Prop) (mc ms : Nat) (Wf : (Nat → Nat) → va_W) : State → Prop := MQ below (va_Qr (S := Nat → Nat) (fun _ => True) (fun u ra t => ra = u 0 ∧ va_P D classes (Wf u) t.heap ∧ va_D A (Wf u)) A) args s mc ms A
def hk_MrE (E : State → Prop) (l : Launch) (y : MethodName) (b : ByteArray) (n : Nat) (ret : Option FieldType) (rm : Room) (D : va_G) (cI cF : ClassId) (as : List Value) (mc ms : Nat) (Wf : (Nat → Nat) → va_W) : Prop :=
  rm.cells = mc ∧ rm.slots = ms ∧ (∀ U g mk a, E U → E (U.calling g mk a)) ∧ ∀ sz : Nat, Met l y (.code y b n ret :: lw_gd) rm (hk_PcE E D cI cF [] as sz) (va_Qr (S := Nat → Nat) (fun _ => True) (fun u ra t => ra = u 0 ∧ va_P D classes (Wf u) t.heap ∧ va_D (va_A [] sz) (Wf u)) (va_A [] sz)) mc ms (va_A [] sz)
section HKR8
variable {p : Program} {l : Launch} {e : Env} {R : Room} {s : State} {m : MethodId} {args : Array Value} {below : List Frame} {meth : Method} {c : Code} {A : Nat → Prop} {Q : State → Prop} {nL : Nat} {D : va_G} {cI cF : ClassId} {own : String} {cc : ByteArray} {cells slots : Nat} {ws : va_W} {pc : Nat} {lv : List (Nat × Value)} {st : List Value}
theorem hk_rret (hC : hk_ok p s m args meth c A nL D cI cF own cc) {C : String} {Wf : (Nat → Nat) → va_W} (hr : meth.sig.returnType = some (.object C)) (d : decode cc pc = .ok (.areturn, 1)) (a2 : Nat → Nat) (hw : ws = Wf a2) : hk_W p l e R s m args below meth c A (hk_Zr below args s D A cells slots Wf) nL D cells slots ws pc lv [.ref (a2 0)] := by
  subst hw
  exact fun H locs ls hP hD hS hl => W.aret hC.1 hC.2.1 hr (Or.inl ⟨_, rfl⟩) (Or.inr ⟨_, rfl⟩) (fun t ht hW => ⟨⟨a2, a2 0, rfl, trivial, rfl, (by show va_P D classes (Wf a2) t.heap; rw [ht]; exact hP), hD⟩, hS.F ht⟩) hS.2.2 d hC.2.2.2.2.2.2.1
theorem hk_callSEr (hC : hk_ok p s m args meth c A nL D cI cF own cc) {E : State → Prop} {y : MethodName} {b : ByteArray} {n np index mc ms : Nat} {ret : Option FieldType} {rm : Room} {Wf : (Nat → Nat) → va_W} {as st0 : List Value} (hM : hk_MrE E l y b n ret rm D cI cF as mc ms Wf) (hL : hk_L y b n ret np) (hl0 : Cond.methodLink own index y ∈ lw_gd) (hst1 : Cond.static y ∈ lw_gd) (hnp : as.length = np) (hR : rm.frames + 1 ≤ R.frames ∧ 8 + (n + 11) + rm.locals ≤ R.locals) (hEs : ∀ (U : State) (H : Heap) (locs : List Loc), va_S A s.heap H locs → U.heap = H → s.WarmedH U.vm → E U) (hst : st0 = as.reverse ++ st) (hcat : (st.map fun v => v.category).sum ≤ 8) (hcs : cells + mc ≤ R.cells ∧ slots + ms ≤ R.slots) (d : decode cc pc = .ok (.invokestatic index, 3))
    (k : ∀ a2 : Nat → Nat, hk_W p l e R s m args below meth c A Q nL D (cells + mc) (slots + ms) (ws ++ Wf a2) (pc + 3) lv (.ref (a2 0) :: st)) : hk_W p l e R s m args below meth c A Q nL D cells slots ws pc lv st0 := by
  intro H locs ls hP hD hS hl
  have hFc := hk_freeW (ws := []) hC hk_D0t hS
  refine va_callr (va_runS (As := as) (rest := st) ⟨hC.1, hC.2.1, hC.2.2.1, hC.2.2.2.1, hC.2.2.2.2.1⟩ (hM.2.2.2 H.size) ⟨callB_of np hC.2.2.2.2.1 (hk_goodL hL) rfl hM.1 hM.2.1 (hC.2.2.2.2.1 _ hL.2.1) (hC.2.2.2.2.1 _ hl0) hL.2.2 hR, hC.2.2.2.2.1 _ hst1⟩ ⟨hk_blindE hM.2.2.1, fun U hU hW => hk_preE hC hk_P0t hk_D0t (fun U hU hW => hEs U H locs hS hU hW) U hU hW⟩ rfl hnp hl.1 hst (lv_room hcat) d hcs) hS (fun q _ h => hFc q h) hFc (fun u ra t H1 locs ht hvm hw hB hz1 hk1 hS => ?_)
  obtain ⟨e1, hB1, hB2⟩ := hB
  subst e1
  rw [ht] at hB1
  obtain ⟨hP2, hD2⟩ := pm_grow (wc := []) (wr := ws) (List.Perm.refl _) hP hD hk1 hFc hB1 hB2
  exact k u H1 locs ls hP2 hD2 hS hl
theorem hk_ldcS (hC : hk_ok p s m args meth c A nL D cI cF own cc) {tx : String} {index q : Nat} (hZ : vk_R own index tx q s) (d : decode cc pc = .ok (.ldc index, 2))
    (k : hk_W p l e R s m args below meth c A Q nL D cells slots ws (pc + 2) lv (.ref q :: st)) : hk_W p l e R s m args below meth c A Q nL D cells slots ws pc lv st :=
  fun H locs ls hP hD hS hl => va_ldcS hC.1 hC.2.1 hC.2.2.2.1 hZ d (k H locs ls hP hD hS hl)
theorem hk_callIE (hC : hk_ok p s m args meth c A nL D cI cF own cc) {E : State → Prop} {y : MethodName} {b : ByteArray} {n np index mc ms : Nat} {rm : Room} {wc wr : va_W} {Wf : (Nat → Nat) → va_W} {as st0 : List Value} {bref : Nat} (hM : hk_MxE E l y b n rm D cI cF wc (.ref bref :: as) bref mc ms Wf) (hL : hk_L y b n none np) (hl0 : Cond.methodLink own index y ∈ lw_gd) (hin : Cond.instanceMethod y ∈ lw_gd) (hy1 : y.name = "<init>") (hnp : as.length = np) (hR : rm.frames + 1 ≤ R.frames ∧ 8 + (n + 11) + rm.locals ≤ R.locals) (hp : ws.Perm (wc ++ wr)) (hEs : ∀ (U : State) (H : Heap) (locs : List Loc), va_S A s.heap H locs → U.heap = H → s.WarmedH U.vm → E U) (hst : st0 = as.reverse ++ .ref bref :: st) (hcat : (st.map fun v => v.category).sum ≤ 8) (hcs : cells + mc ≤ R.cells ∧ slots + ms ≤ R.slots) (d : decode cc pc = .ok (.invokespecial index, 3))
    (k : ∀ a2 : Nat → Nat, a2 0 = bref → hk_W p l e R s m args below meth c A Q nL D (cells + mc) (slots + ms) (wr ++ Wf a2) (pc + 3) lv st) : hk_W p l e R s m args below meth c A Q nL D cells slots ws pc lv st0 := by
  intro H locs ls hP hD hS hl
  have hPc := pm_P hp hP
  have hDc := pm_D hp hD
  have hFc := hk_freeW hC hDc hS
  refine va_callv (va_runI (As := as) (rest := st) ⟨hC.1, hC.2.1, hC.2.2.1, hC.2.2.2.1, hC.2.2.2.2.1⟩ (hM.2.2.2 H.size) ⟨callB_of np hC.2.2.2.2.1 (hk_goodL hL) rfl hM.1 hM.2.1 (hC.2.2.2.2.1 _ hL.2.1) (hC.2.2.2.2.1 _ hl0) hL.2.2 hR, hy1, hC.2.2.2.2.1 _ hin⟩ ⟨hk_blindE hM.2.2.1, fun U hU hW => hk_preE hC hPc hDc (fun U hU hW => hEs U H locs hS hU hW) U hU hW⟩ rfl hnp hl.1 hst (lv_room hcat) d hcs) hS (fun q _ h => hFc q h) hFc (fun u t H1 locs ht hvm hw hB hz1 hk1 hS => ?_)
  rw [ht] at hB
  obtain ⟨hP2, hD2⟩ := pm_grow hp hP hD hk1 hFc hB.1 hB.2
  exact k u hw H1 locs ls hP2 hD2 hS hl
end HKR8
theorem jn_ch {tx : Nat → Int32} {i : Nat} (h : i < 47) : ((tx (nI i).toNatClampNeg &&& (255 : Int32)).toUInt32 % 65536).toInt32 = jch tx i := by
  rw [nI_clamp (by omega)]
  rfl
set_option maxHeartbeats 8000000 in
set_option maxRecDepth 100000 in
theorem jw_T_of {p : Program} {l : Launch} {e : Env} {s : State} {m : MethodId} {args : Array Value} {below : List Frame} {meth : Method} {c : Code} {A : Nat → Prop} {D : va_G} {cI cF : ClassId} (hC : hk_ok p s m args meth c A 3 D cI cF "HayTalk$Text" jb_T_of) (hr : meth.sig.returnType = some (.object "HayTalk$Text")) {sa va : Nat} {tx : Nat → Int32} (hE : jEs sa va tx A s s.heap) (N : Nat) {o : (Nat → Int32) × Int32} (h : jf_T_of N tx 47 0 (fun _ => 0) 0 = some o) : hk_W p l e jr_T_of s m args below meth c A (hk_Zr below args s D A 2 202 (fun u => wT cI u o.1 o.2)) 3 D 0 0 [] 0 [(0, .ref sa)] [] := by
  have hA := hC.2.2.2.2.2.2.2.1
  have loop : ∀ (k i : Nat) (a2 : Nat → Nat) (letters : Nat → Int32) (length : Int32), i + k = 47 → jf_T_of N tx k i letters length = some o → hk_W p l e jr_T_of s m args below meth c A (hk_Zr below args s D A 2 202 (fun u => wT cI u o.1 o.2)) 3 D 2 202 (wT cI a2 letters length) 10 [(0, .ref sa), (1, .ref (a2 0)), (2, .int (nI i))] [] := by
    intro k
    induction k with
    | zero =>
      intro i a2 letters length hi h
      have hi : i = 47 := by omega
      subst hi
      obtain rfl := Option.some.inj h
      refine hk_iload_n hC jd_T_of_10 2 rfl ?_
      refine hk_aload_n hC jd_T_of_11 0 rfl ?_
      refine hk_callVEi hC (as := []) (jc_String_length l D cI cF sa va tx) jl_String_length hE.1 jq_165 jq_166 jq_167 rfl ⟨by decide, by decide⟩ (jE_go hE hA) rfl (Nat.le_of_ble_eq_true rfl) ⟨Nat.le_of_ble_eq_true rfl, Nat.le_of_ble_eq_true rfl⟩ jd_T_of_12 ?_
      refine hk_icmp_ge (tgt := 33) hC jd_T_of_15 (by decide) (fun _ => ?_) (fun cc => absurd (by decide) cc)
      refine hk_aload_n hC jd_T_of_33 1 rfl ?_
      exact hk_rret hC hr jd_T_of_34 a2 rfl
    | succ k ih =>
      intro i a2 letters length hi h
      refine hk_iload_n hC jd_T_of_10 2 rfl ?_
      refine hk_aload_n hC jd_T_of_11 0 rfl ?_
      refine hk_callVEi hC (as := []) (jc_String_length l D cI cF sa va tx) jl_String_length hE.1 jq_165 jq_166 jq_167 rfl ⟨by decide, by decide⟩ (jE_go hE hA) rfl (Nat.le_of_ble_eq_true rfl) ⟨Nat.le_of_ble_eq_true rfl, Nat.le_of_ble_eq_true rfl⟩ jd_T_of_12 ?_
      refine hk_icmp_ge (tgt := 33) hC jd_T_of_15 (by decide) (fun cc => absurd cc (nI_ge (a := i) (b := 47) (by omega) (by decide))) (fun _ => ?_)
      refine hk_aload_n hC jd_T_of_18 1 rfl ?_
      refine hk_aload_n hC jd_T_of_19 0 rfl ?_
      refine hk_iload_n hC jd_T_of_20 2 rfl ?_
      refine hk_callVEi hC (as := [.int (nI i)]) (jc_String_charAt l D cI cF sa va tx (nI i) (nI_pos (by omega)) (nI_lt (a := i) (b := 47) (by omega) (by decide))) jl_String_charAt hE.1 jq_175 jq_176 jq_177 rfl ⟨by decide, by decide⟩ (jE_go hE hA) rfl (Nat.le_of_ble_eq_true rfl) ⟨Nat.le_of_ble_eq_true rfl, Nat.le_of_ble_eq_true rfl⟩ jd_T_of_21 ?_
      rw [jn_ch (by omega)]
      obtain ⟨q, hq, h⟩ := xb_go h
      refine hk_callVWv hC (q0 := 0) (jc_T_add l D cI cF N a2 letters length (jch tx i) hq) jl_T_add rfl rfl jq_213 jq_214 jq_215 rfl ⟨by decide, by decide⟩ rfl rfl (Nat.le_of_ble_eq_true rfl) ⟨Nat.le_of_ble_eq_true rfl, Nat.le_of_ble_eq_true rfl⟩ jd_T_of_24 ?_
      refine hk_iinc (v := nI (i + 1)) hC (lv2 := [(2, .int (nI (i + 1))), (0, .ref sa), (1, .ref (a2 0))]) jd_T_of_27 2 rfl (nI_succ i) (by decide) rfl ?_
      refine hk_goto (tgt := 10) hC jd_T_of_30 (by decide) ?_
      exact hk_lv [1, 2, 0] rfl (ih (i + 1) a2 q.1 q.2 (by omega) h)
  refine hk_new (fs := [.null, .int 0]) hC jk_T (fun j hj => by rcases (show j = 0 ∨ j = 1 by omega) with rfl | rfl <;> rfl) jq_163 jq_25 jq_2 ⟨Nat.le_of_ble_eq_true rfl, Nat.le_of_ble_eq_true rfl⟩ jd_T_of_0 (fun q => ?_)
  refine hk_dup hC jd_T_of_3 rfl ?_
  refine hk_callI hC (wr := []) (jc_T_init l D cI cF q) jl_T_init jq_164 jq_27 rfl rfl ⟨by decide, by decide⟩ (List.Perm.refl _) rfl (Nat.le_of_ble_eq_true rfl) ⟨Nat.le_of_ble_eq_true rfl, Nat.le_of_ble_eq_true rfl⟩ jd_T_of_4 (fun a2 ha2 => ?_)
  subst ha2
  refine hk_ws (ws2 := wT cI a2 (fun _ => 0) 0) rfl ?_
  refine hk_widen (k1 := 2) (k2 := 202) (Nat.le_of_ble_eq_true rfl) (Nat.le_of_ble_eq_true rfl) ?_
  refine hk_astore_n hC (i := 1) (lv2 := [(1, .ref (a2 0)), (0, .ref sa)]) jd_T_of_7 rfl rfl (by decide) rfl ?_
  refine hk_iconst (v := 0) hC jd_T_of_8 (by decide) ?_
  refine hk_istore_n hC (i := 2) (y := (0 : Int32)) (lv2 := [(2, .int (0 : Int32)), (1, .ref (a2 0)), (0, .ref sa)]) jd_T_of_9 rfl rfl (by decide) rfl ?_
  exact hk_lv [2, 1, 0] rfl (loop 47 0 a2 (fun _ => 0) 0 (by omega) h)
theorem jc_T_of (l : Launch) (D : va_G) (cI cF : ClassId) (sa va : Nat) (tx : Nat → Int32) (N : Nat) {o : (Nat → Int32) × Int32} (h : jf_T_of N tx 47 0 (fun _ => 0) 0 = some o) : hk_MrE (jE sa va tx) l jy_T_of jb_T_of 3 (some (.object "HayTalk$Text")) jr_T_of D cI cF [.ref sa] 2 202 (fun u => wT cI u o.1 o.2) :=
  ⟨rfl, rfl, jE_blind, fun sz => hk_entryE (by decide) (Nat.le_of_ble_eq_true rfl) fun p e s m args below meth c A hA hs hC hr hnm hE => by subst hs; subst hA; exact jw_T_of hC hr hE N h⟩
