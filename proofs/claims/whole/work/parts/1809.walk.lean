set_option maxHeartbeats 8000000 in
set_option maxRecDepth 100000 in
theorem jw_H_kinds {p : Program} {l : Launch} {e : Env} {s : State} {m : MethodId} {args : Array Value} {below : List Frame} {meth : Method} {c : Code} {A : Nat → Prop} {D : va_G} {cI cF : ClassId} (hC : hk_ok p s m args meth c A 5 D cI cF "HayTalk" jb_H_kinds) (hr : meth.sig.returnType = (some .int)) (N : Nat) (a : Nat → Nat) (aText : Nat → Nat) (aField : Nat → Nat) (aTrial : Nat → Nat) (aPast : Nat → Nat) (aKept : Nat → Nat) (aSeen : Nat → Nat) (aLand : Nat → Nat) (aDraft : Nat → Nat)   (x1 : Int32) (x2 : Int32) {o : Int32} (h : jf_H_kinds N x1 x2 = some o) : hk_W p l e jr_H_kinds s m args below meth c A (hk_Zi below args s D A o (wH a aText aField aTrial aPast aKept aSeen aLand aDraft)) 5 D 0 0 (wH a aText aField aTrial aPast aKept aSeen aLand aDraft) 0 [(0, .ref (a 0)), (1, .int x1), (2, .int x2)] [] := by
  have B_53 : ∀ (x1 : Int32) (x2 : Int32) (x3 : Int32) (x4 : Int32) (kh29 : (Int32 × Int32) → Option (Int32)) (ihh29 : ∀ q, kh29 q = some o → hk_W p l e jr_H_kinds s m args below meth c A (hk_Zi below args s D A o (wH a aText aField aTrial aPast aKept aSeen aLand aDraft)) 5 D 0 0 (wH a aText aField aTrial aPast aKept aSeen aLand aDraft) 29 [(1, .int x1), (2, .int x2), (3, .int q.1), (4, .int q.2)] []) (_ : jf_H_kinds_53 N x1 x2 x3 x4 kh29 = some o), hk_W p l e jr_H_kinds s m args below meth c A (hk_Zi below args s D A o (wH a aText aField aTrial aPast aKept aSeen aLand aDraft)) 5 D 0 0 (wH a aText aField aTrial aPast aKept aSeen aLand aDraft) 53 [(1, .int x1), (2, .int x2), (3, .int x3), (4, .int x4)] [] := by
    intro x1 x2 x3 x4 kh29 ihh29 h
    delta jf_H_kinds_53 at h
    obtain ⟨v1, e_v1, h⟩ := xl_go h
    refine hk_iinc hC (lv2 := [(4, .int v1), (1, .int x1), (2, .int x2), (3, .int x3)]) jd_H_kinds_53 3 rfl e_v1 (by decide) rfl ?_
    refine hk_goto (tgt := 29) hC jd_H_kinds_56 (by decide) ?_
    exact hk_lv [1, 2, 3, 0] rfl (ihh29 (x3, v1) h)
  have B_29 : ∀ (x1 : Int32) (x2 : Int32) (x3 : Int32) (x4 : Int32) (kh29 : (Int32 × Int32) → Option (Int32)) (ihh29 : ∀ q, kh29 q = some o → hk_W p l e jr_H_kinds s m args below meth c A (hk_Zi below args s D A o (wH a aText aField aTrial aPast aKept aSeen aLand aDraft)) 5 D 0 0 (wH a aText aField aTrial aPast aKept aSeen aLand aDraft) 29 [(1, .int x1), (2, .int x2), (3, .int q.1), (4, .int q.2)] []) (_ : jf_H_kinds_29B N x1 x2 x3 x4 kh29 = some o), hk_W p l e jr_H_kinds s m args below meth c A (hk_Zi below args s D A o (wH a aText aField aTrial aPast aKept aSeen aLand aDraft)) 5 D 0 0 (wH a aText aField aTrial aPast aKept aSeen aLand aDraft) 29 [(1, .int x1), (2, .int x2), (3, .int x3), (4, .int x4)] [] := by
    intro x1 x2 x3 x4 kh29 ihh29 h
    delta jf_H_kinds_29B at h
    refine hk_iload hC jd_H_kinds_29 3 rfl ?_
    refine hk_iconst (v := 4) hC jd_H_kinds_31 (by decide) ?_
    refine hk_icmp_ge (tgt := 59) hC jd_H_kinds_32 (by decide) (fun cc1 => ?_) (fun cc1 => ?_)
    · replace h := xi_t h cc1
      refine hk_iload_n hC jd_H_kinds_59 2 rfl ?_
      obtain rfl := Option.some.inj h
      exact hk_iret hC hr jd_H_kinds_60 rfl rfl
    · replace h := xi_f h cc1
      refine hk_iload hC jd_H_kinds_35 3 rfl ?_
      refine hk_iload_n hC jd_H_kinds_37 0 rfl ?_
      refine hk_iconst (v := 0) hC jd_H_kinds_38 (by decide) ?_
      obtain ⟨q1, h_q1, h⟩ := xb_go h
      refine hk_callS0i hC (jc_H_heardBy l D cI cF N x4 x1 (0 : Int32) h_q1) jl_H_heardBy jq_531 jq_482 rfl ⟨by decide, by decide⟩ rfl (Nat.le_of_ble_eq_true rfl) ⟨Nat.zero_le _, Nat.zero_le _⟩ jd_H_kinds_39 ?_
      refine hk_iload_n hC jd_H_kinds_42 1 rfl ?_
      refine hk_icmp_ne (tgt := 53) hC jd_H_kinds_43 (by decide) (fun cc2 => ?_) (fun cc2 => ?_)
      · replace h := xi_f h cc2
        exact (B_53 x1 x2 x3 x4 kh29 ihh29 h)
      · replace h := xi_t h cc2
        refine hk_iload_n hC jd_H_kinds_46 2 rfl ?_
        refine hk_iconst (v := 1) hC jd_H_kinds_47 (by decide) ?_
        refine hk_iload hC jd_H_kinds_48 3 rfl ?_
        refine hk_ishl hC jd_H_kinds_50 ?_
        refine hk_ior hC jd_H_kinds_51 ?_
        obtain ⟨v1, e_v1, h⟩ := xl_go h
        refine hk_istore_n hC (i := 3) (y := v1) (lv2 := [(3, .int v1), (1, .int x1), (2, .int x2), (4, .int x4)]) jd_H_kinds_52 rfl e_v1 (by decide) rfl ?_
        exact hk_lv [1, 2, 0, 3] rfl (B_53 x1 x2 v1 x4 kh29 ihh29 h)
  have L_29 : ∀ (x1 : Int32) (x2 : Int32) (x3 : Int32) (x4 : Int32)   (_ : jf_H_kinds_29 N x1 x2 x3 x4  = some o), hk_W p l e jr_H_kinds s m args below meth c A (hk_Zi below args s D A o (wH a aText aField aTrial aPast aKept aSeen aLand aDraft)) 5 D 0 0 (wH a aText aField aTrial aPast aKept aSeen aLand aDraft) 29 [(1, .int x1), (2, .int x2), (3, .int x3), (4, .int x4)] [] := by
    intro x1 x2 x3 x4   h
    exact xloopW (fun (q : Int32 × Int32) => hk_W p l e jr_H_kinds s m args below meth c A (hk_Zi below args s D A o (wH a aText aField aTrial aPast aKept aSeen aLand aDraft)) 5 D 0 0 (wH a aText aField aTrial aPast aKept aSeen aLand aDraft) 29 [(1, .int x1), (2, .int x2), (3, .int q.1), (4, .int q.2)] []) (fun kh ih q h => B_29 x1 x2 q.1 q.2 kh  ih  h) N (x3, x4) h
  delta jf_H_kinds at h
  refine hk_iload_n hC jd_H_kinds_0 1 rfl ?_
  refine hk_iconst (v := 0) hC jd_H_kinds_1 (by decide) ?_
  refine hk_sipush (v := 1023) hC jd_H_kinds_2 (by decide) ?_
  obtain ⟨q1, h_q1, h⟩ := xb_go h
  refine hk_callS0i hC (jc_H_isWithin l D cI cF N x1 (0 : Int32) (1023 : Int32) h_q1) jl_H_isWithin jq_302 jq_249 rfl ⟨by decide, by decide⟩ rfl (Nat.le_of_ble_eq_true rfl) ⟨Nat.zero_le _, Nat.zero_le _⟩ jd_H_kinds_5 ?_
  refine hk_if_eq (tgt := 22) hC jd_H_kinds_8 (by decide) (fun cc1 => ?_) (fun cc1 => ?_)
  · replace h := xi_t h cc1
    refine hk_iconst (v := -1) hC jd_H_kinds_22 (by decide) ?_
    obtain rfl := Option.some.inj h
    exact hk_iret hC hr jd_H_kinds_23 rfl rfl
  · replace h := xi_f h cc1
    refine hk_iload_n hC jd_H_kinds_11 2 rfl ?_
    refine hk_iconst (v := 0) hC jd_H_kinds_12 (by decide) ?_
    refine hk_sipush (v := 1023) hC jd_H_kinds_13 (by decide) ?_
    obtain ⟨q2, h_q2, h⟩ := xb_go h
    refine hk_callS0i hC (jc_H_isWithin l D cI cF N x2 (0 : Int32) (1023 : Int32) h_q2) jl_H_isWithin jq_302 jq_249 rfl ⟨by decide, by decide⟩ rfl (Nat.le_of_ble_eq_true rfl) ⟨Nat.zero_le _, Nat.zero_le _⟩ jd_H_kinds_16 ?_
    refine hk_if_ne (tgt := 24) hC jd_H_kinds_19 (by decide) (fun cc2 => ?_) (fun cc2 => ?_)
    · replace h := xi_f h cc2
      refine hk_iconst (v := 0) hC jd_H_kinds_24 (by decide) ?_
      refine hk_istore_n hC (i := 3) (y := (0 : Int32)) (lv2 := [(3, .int (0 : Int32)), (0, .ref (a 0)), (1, .int x1), (2, .int x2)]) jd_H_kinds_25 rfl rfl (by decide) rfl ?_
      refine hk_iconst (v := 0) hC jd_H_kinds_26 (by decide) ?_
      refine hk_istore hC (i := 4) (y := (0 : Int32)) (lv2 := [(4, .int (0 : Int32)), (3, .int (0 : Int32)), (0, .ref (a 0)), (1, .int x1), (2, .int x2)]) jd_H_kinds_27 rfl (by decide) rfl ?_
      exact hk_lv [3, 4, 1, 0] rfl (L_29 x1 x2 (0 : Int32) (0 : Int32)   h)
    · replace h := xi_t h cc2
      refine hk_iconst (v := -1) hC jd_H_kinds_22 (by decide) ?_
      obtain rfl := Option.some.inj h
      exact hk_iret hC hr jd_H_kinds_23 rfl rfl
theorem jc_H_kinds (l : Launch) (D : va_G) (cI cF : ClassId) (N : Nat) (a : Nat → Nat) (aText : Nat → Nat) (aField : Nat → Nat) (aTrial : Nat → Nat) (aPast : Nat → Nat) (aKept : Nat → Nat) (aSeen : Nat → Nat) (aLand : Nat → Nat) (aDraft : Nat → Nat)   (x1 : Int32) (x2 : Int32) {o : Int32} (h : jf_H_kinds N x1 x2 = some o) : hk_Mi l jy_H_kinds jb_H_kinds 5 (some .int) jr_H_kinds D cI cF (wH a aText aField aTrial aPast aKept aSeen aLand aDraft) [.ref (a 0), .int x1, .int x2] o (wH a aText aField aTrial aPast aKept aSeen aLand aDraft) :=
  hk_metI (by decide) (Nat.le_of_ble_eq_true rfl) rfl rfl (fun p e s m args below meth c A hC hr => jw_H_kinds hC hr N a aText aField aTrial aPast aKept aSeen aLand aDraft x1 x2 h)
set_option maxHeartbeats 8000000 in
set_option maxRecDepth 100000 in
theorem jw_H_waysOf {p : Program} {l : Launch} {e : Env} {s : State} {m : MethodId} {args : Array Value} {below : List Frame} {meth : Method} {c : Code} {A : Nat → Prop} {D : va_G} {cI cF : ClassId} (hC : hk_ok p s m args meth c A 4 D cI cF "HayTalk" jb_H_waysOf) (hr : meth.sig.returnType = (some .int)) (N : Nat)    (x0 : Int32) (x1 : Int32) {o : Int32} (h : jf_H_waysOf N x0 x1 = some o) : hk_W p l e jr_H_waysOf s m args below meth c A (hk_Zi below args s D A o ([] : va_W)) 4 D 0 0 ([] : va_W) 0 [(0, .int x0), (1, .int x1)] [] := by
  have B_4 : ∀ (x0 : Int32) (x1 : Int32) (x2 : Int32) (x3 : Int32) (kh4 : (Int32 × Int32) → Option (Int32)) (ihh4 : ∀ q, kh4 q = some o → hk_W p l e jr_H_waysOf s m args below meth c A (hk_Zi below args s D A o ([] : va_W)) 4 D 0 0 ([] : va_W) 4 [(0, .int x0), (1, .int x1), (2, .int q.1), (3, .int q.2)] []) (_ : jf_H_waysOf_4B N x0 x1 x2 x3 kh4 = some o), hk_W p l e jr_H_waysOf s m args below meth c A (hk_Zi below args s D A o ([] : va_W)) 4 D 0 0 ([] : va_W) 4 [(0, .int x0), (1, .int x1), (2, .int x2), (3, .int x3)] [] := by
    intro x0 x1 x2 x3 kh4 ihh4 h
    delta jf_H_waysOf_4B at h
    refine hk_iload_n hC jd_H_waysOf_4 3 rfl ?_
    refine hk_iload_n hC jd_H_waysOf_5 1 rfl ?_
    refine hk_icmp_gt (tgt := 25) hC jd_H_waysOf_6 (by decide) (fun cc1 => ?_) (fun cc1 => ?_)
    · replace h := xi_t h cc1
      refine hk_iload_n hC jd_H_waysOf_25 2 rfl ?_
      obtain rfl := Option.some.inj h
      exact hk_iret hC hr jd_H_waysOf_26 rfl rfl
    · replace h := xi_f h cc1
      refine hk_iload_n hC jd_H_waysOf_9 2 rfl ?_
      refine hk_iload_n hC jd_H_waysOf_10 0 rfl ?_
      refine hk_iload_n hC jd_H_waysOf_11 3 rfl ?_
      refine hk_isub hC jd_H_waysOf_12 ?_
      refine hk_iconst (v := 1) hC jd_H_waysOf_13 (by decide) ?_
      refine hk_iadd hC jd_H_waysOf_14 ?_
      refine hk_imul hC jd_H_waysOf_15 ?_
      refine hk_iload_n hC jd_H_waysOf_16 3 rfl ?_
      have hz1 := xz_in h
      replace h := xz_go h
      refine hk_idiv hC jd_H_waysOf_17 hz1 ?_
      obtain ⟨v1, e_v1, h⟩ := xl_go h
      refine hk_istore_n hC (i := 2) (y := v1) (lv2 := [(2, .int v1), (0, .int x0), (1, .int x1), (3, .int x3)]) jd_H_waysOf_18 rfl e_v1 (by decide) rfl ?_
      obtain ⟨v2, e_v2, h⟩ := xl_go h
      refine hk_iinc hC (lv2 := [(3, .int v2), (2, .int v1), (0, .int x0), (1, .int x1)]) jd_H_waysOf_19 3 rfl e_v2 (by decide) rfl ?_
      refine hk_goto (tgt := 4) hC jd_H_waysOf_22 (by decide) ?_
      exact hk_lv [2, 3, 1, 0] rfl (ihh4 (v1, v2) h)
  have L_4 : ∀ (x0 : Int32) (x1 : Int32) (x2 : Int32) (x3 : Int32)   (_ : jf_H_waysOf_4 N x0 x1 x2 x3  = some o), hk_W p l e jr_H_waysOf s m args below meth c A (hk_Zi below args s D A o ([] : va_W)) 4 D 0 0 ([] : va_W) 4 [(0, .int x0), (1, .int x1), (2, .int x2), (3, .int x3)] [] := by
    intro x0 x1 x2 x3   h
    exact xloopW (fun (q : Int32 × Int32) => hk_W p l e jr_H_waysOf s m args below meth c A (hk_Zi below args s D A o ([] : va_W)) 4 D 0 0 ([] : va_W) 4 [(0, .int x0), (1, .int x1), (2, .int q.1), (3, .int q.2)] []) (fun kh ih q h => B_4 x0 x1 q.1 q.2 kh  ih  h) N (x2, x3) h
  delta jf_H_waysOf at h
  refine hk_iconst (v := 1) hC jd_H_waysOf_0 (by decide) ?_
  refine hk_istore_n hC (i := 2) (y := (1 : Int32)) (lv2 := [(2, .int (1 : Int32)), (0, .int x0), (1, .int x1)]) jd_H_waysOf_1 rfl rfl (by decide) rfl ?_
  refine hk_iconst (v := 1) hC jd_H_waysOf_2 (by decide) ?_
  refine hk_istore_n hC (i := 3) (y := (1 : Int32)) (lv2 := [(3, .int (1 : Int32)), (2, .int (1 : Int32)), (0, .int x0), (1, .int x1)]) jd_H_waysOf_3 rfl rfl (by decide) rfl ?_
  exact hk_lv [2, 3, 1, 0] rfl (L_4 x0 x1 (1 : Int32) (1 : Int32)   h)
theorem jc_H_waysOf (l : Launch) (D : va_G) (cI cF : ClassId) (N : Nat)    (x0 : Int32) (x1 : Int32) {o : Int32} (h : jf_H_waysOf N x0 x1 = some o) : hk_Mi l jy_H_waysOf jb_H_waysOf 4 (some .int) jr_H_waysOf D cI cF ([] : va_W) [.int x0, .int x1] o ([] : va_W) :=
  hk_metI (by decide) (Nat.le_of_ble_eq_true rfl) rfl rfl (fun p e s m args below meth c A hC hr => jw_H_waysOf hC hr N x0 x1 h)
set_option maxHeartbeats 8000000 in
set_option maxRecDepth 100000 in
theorem jw_H_power {p : Program} {l : Launch} {e : Env} {s : State} {m : MethodId} {args : Array Value} {below : List Frame} {meth : Method} {c : Code} {A : Nat → Prop} {D : va_G} {cI cF : ClassId} (hC : hk_ok p s m args meth c A 4 D cI cF "HayTalk" jb_H_power) (hr : meth.sig.returnType = (some .int)) (N : Nat)    (x0 : Int32) (x1 : Int32) {o : Int32} (h : jf_H_power N x0 x1 = some o) : hk_W p l e jr_H_power s m args below meth c A (hk_Zi below args s D A o ([] : va_W)) 4 D 0 0 ([] : va_W) 0 [(0, .int x0), (1, .int x1)] [] := by
  have B_4 : ∀ (x0 : Int32) (x1 : Int32) (x2 : Int32) (x3 : Int32) (kh4 : (Int32 × Int32) → Option (Int32)) (ihh4 : ∀ q, kh4 q = some o → hk_W p l e jr_H_power s m args below meth c A (hk_Zi below args s D A o ([] : va_W)) 4 D 0 0 ([] : va_W) 4 [(0, .int x0), (1, .int x1), (2, .int q.1), (3, .int q.2)] []) (_ : jf_H_power_4B N x0 x1 x2 x3 kh4 = some o), hk_W p l e jr_H_power s m args below meth c A (hk_Zi below args s D A o ([] : va_W)) 4 D 0 0 ([] : va_W) 4 [(0, .int x0), (1, .int x1), (2, .int x2), (3, .int x3)] [] := by
    intro x0 x1 x2 x3 kh4 ihh4 h
    delta jf_H_power_4B at h
    refine hk_iload_n hC jd_H_power_4 3 rfl ?_
    refine hk_iload_n hC jd_H_power_5 1 rfl ?_
    refine hk_icmp_ge (tgt := 19) hC jd_H_power_6 (by decide) (fun cc1 => ?_) (fun cc1 => ?_)
    · replace h := xi_t h cc1
      refine hk_iload_n hC jd_H_power_19 2 rfl ?_
      obtain rfl := Option.some.inj h
      exact hk_iret hC hr jd_H_power_20 rfl rfl
    · replace h := xi_f h cc1
      refine hk_iload_n hC jd_H_power_9 2 rfl ?_
      refine hk_iload_n hC jd_H_power_10 0 rfl ?_
      refine hk_imul hC jd_H_power_11 ?_
      obtain ⟨v1, e_v1, h⟩ := xl_go h
      refine hk_istore_n hC (i := 2) (y := v1) (lv2 := [(2, .int v1), (0, .int x0), (1, .int x1), (3, .int x3)]) jd_H_power_12 rfl e_v1 (by decide) rfl ?_
      obtain ⟨v2, e_v2, h⟩ := xl_go h
      refine hk_iinc hC (lv2 := [(3, .int v2), (2, .int v1), (0, .int x0), (1, .int x1)]) jd_H_power_13 3 rfl e_v2 (by decide) rfl ?_
      refine hk_goto (tgt := 4) hC jd_H_power_16 (by decide) ?_
      exact hk_lv [2, 3, 1, 0] rfl (ihh4 (v1, v2) h)
  have L_4 : ∀ (x0 : Int32) (x1 : Int32) (x2 : Int32) (x3 : Int32)   (_ : jf_H_power_4 N x0 x1 x2 x3  = some o), hk_W p l e jr_H_power s m args below meth c A (hk_Zi below args s D A o ([] : va_W)) 4 D 0 0 ([] : va_W) 4 [(0, .int x0), (1, .int x1), (2, .int x2), (3, .int x3)] [] := by
    intro x0 x1 x2 x3   h
    exact xloopW (fun (q : Int32 × Int32) => hk_W p l e jr_H_power s m args below meth c A (hk_Zi below args s D A o ([] : va_W)) 4 D 0 0 ([] : va_W) 4 [(0, .int x0), (1, .int x1), (2, .int q.1), (3, .int q.2)] []) (fun kh ih q h => B_4 x0 x1 q.1 q.2 kh  ih  h) N (x2, x3) h
  delta jf_H_power at h
  refine hk_iconst (v := 1) hC jd_H_power_0 (by decide) ?_
  refine hk_istore_n hC (i := 2) (y := (1 : Int32)) (lv2 := [(2, .int (1 : Int32)), (0, .int x0), (1, .int x1)]) jd_H_power_1 rfl rfl (by decide) rfl ?_
  refine hk_iconst (v := 0) hC jd_H_power_2 (by decide) ?_
  refine hk_istore_n hC (i := 3) (y := (0 : Int32)) (lv2 := [(3, .int (0 : Int32)), (2, .int (1 : Int32)), (0, .int x0), (1, .int x1)]) jd_H_power_3 rfl rfl (by decide) rfl ?_
  exact hk_lv [2, 3, 1, 0] rfl (L_4 x0 x1 (1 : Int32) (0 : Int32)   h)
theorem jc_H_power (l : Launch) (D : va_G) (cI cF : ClassId) (N : Nat)    (x0 : Int32) (x1 : Int32) {o : Int32} (h : jf_H_power N x0 x1 = some o) : hk_Mi l jy_H_power jb_H_power 4 (some .int) jr_H_power D cI cF ([] : va_W) [.int x0, .int x1] o ([] : va_W) :=
  hk_metI (by decide) (Nat.le_of_ble_eq_true rfl) rfl rfl (fun p e s m args below meth c A hC hr => jw_H_power hC hr N x0 x1 h)
set_option maxHeartbeats 8000000 in
set_option maxRecDepth 100000 in
theorem jw_H_rain {p : Program} {l : Launch} {e : Env} {s : State} {m : MethodId} {args : Array Value} {below : List Frame} {meth : Method} {c : Code} {A : Nat → Prop} {D : va_G} {cI cF : ClassId} (hC : hk_ok p s m args meth c A 9 D cI cF "HayTalk" jb_H_rain) (hr : meth.sig.returnType = (some .int)) (N : Nat) (a : Nat → Nat) (aText : Nat → Nat) (aField : Nat → Nat) (aTrial : Nat → Nat) (aPast : Nat → Nat) (aKept : Nat → Nat) (aSeen : Nat → Nat) (aLand : Nat → Nat) (aDraft : Nat → Nat)  (f_lying : Nat → Int32) (f_damp : Nat → Int32) (f_told : Nat → Int32) (f_heights : Nat → Int32) (f_burnt : Nat → Int32) (f_layerWords : Nat → Int32) (f_layerWetness : Nat → Int32) (f_layerHeat : Nat → Int32) (f_hours : Int32) (r_lying : Nat → Int32) (r_damp : Nat → Int32) (r_told : Nat → Int32) (r_heights : Nat → Int32) (r_burnt : Nat → Int32) (r_layerWords : Nat → Int32) (r_layerWetness : Nat → Int32) (r_layerHeat : Nat → Int32) (r_hours : Int32) (g_speeches : Nat → Int32) (g_speechLengths : Nat → Int32) (g_weather : Nat → Int32) (g_kindsOfCows : Nat → Int32) (g_thatches : Nat → Int32) (g_weatherLength : Int32) (g_mowers : Int32) (g_cows : Int32) (g_ricks : Int32) (x1 : Int32) (x2 : Int32) (x3 : Int32) (x4 : Int32) (x5 : Int32) {o : Int32 × (Nat → Int32) × (Nat → Int32) × (Nat → Int32) × (Nat → Int32) × (Nat → Int32) × (Nat → Int32) × (Nat → Int32) × (Nat → Int32) × Int32} (h : jf_H_rain N f_lying f_damp f_told f_heights f_burnt f_layerWords f_layerWetness f_layerHeat f_hours r_lying r_damp r_told r_heights r_burnt r_layerWords r_layerWetness r_layerHeat r_hours g_speeches g_speechLengths g_weather g_thatches g_weatherLength g_mowers g_ricks x1 x2 x3 x4 x5 = some o) : hk_W p l e jr_H_rain s m args below meth c A (hk_Zi below args s D A o.1 ((wH a aText aField aTrial aPast aKept aSeen aLand aDraft) ++ ((wF cI aField f_lying f_damp f_told f_heights f_burnt f_layerWords f_layerWetness f_layerHeat f_hours) ++ ((wF cI aTrial o.2.1 o.2.2.1 o.2.2.2.1 o.2.2.2.2.1 o.2.2.2.2.2.1 o.2.2.2.2.2.2.1 o.2.2.2.2.2.2.2.1 o.2.2.2.2.2.2.2.2.1 o.2.2.2.2.2.2.2.2.2) ++ (wL cI aLand g_speeches g_speechLengths g_weather g_kindsOfCows g_thatches g_weatherLength g_mowers g_cows g_ricks))))) 9 D 0 0 ((wH a aText aField aTrial aPast aKept aSeen aLand aDraft) ++ ((wF cI aField f_lying f_damp f_told f_heights f_burnt f_layerWords f_layerWetness f_layerHeat f_hours) ++ ((wF cI aTrial r_lying r_damp r_told r_heights r_burnt r_layerWords r_layerWetness r_layerHeat r_hours) ++ (wL cI aLand g_speeches g_speechLengths g_weather g_kindsOfCows g_thatches g_weatherLength g_mowers g_cows g_ricks)))) 0 [(0, .ref (a 0)), (1, .int x1), (2, .int x2), (3, .int x3), (4, .int x4), (5, .int x5)] [] := by
  have B_146 : ∀ (f_lying : Nat → Int32) (f_damp : Nat → Int32) (f_told : Nat → Int32) (f_heights : Nat → Int32) (f_burnt : Nat → Int32) (f_layerWords : Nat → Int32) (f_layerWetness : Nat → Int32) (f_layerHeat : Nat → Int32) (f_hours : Int32) (r_lying : Nat → Int32) (r_damp : Nat → Int32) (r_told : Nat → Int32) (r_heights : Nat → Int32) (r_burnt : Nat → Int32) (r_layerWords : Nat → Int32) (r_layerWetness : Nat → Int32) (r_layerHeat : Nat → Int32) (r_hours : Int32) (g_speeches : Nat → Int32) (g_speechLengths : Nat → Int32) (g_weather : Nat → Int32) (g_thatches : Nat → Int32) (g_weatherLength : Int32) (g_mowers : Int32) (g_ricks : Int32) (x2 : Int32) (x3 : Int32) (x4 : Int32) (x5 : Int32) (x6 : Int32) (x7 : Int32) (x8 : Int32) (kh93 : (Int32 × Int32) → Option (Int32 × (Nat → Int32) × (Nat → Int32) × (Nat → Int32) × (Nat → Int32) × (Nat → Int32) × (Nat → Int32) × (Nat → Int32) × (Nat → Int32) × Int32)) (kx152 : (Int32) → Option (Int32 × (Nat → Int32) × (Nat → Int32) × (Nat → Int32) × (Nat → Int32) × (Nat → Int32) × (Nat → Int32) × (Nat → Int32) × (Nat → Int32) × Int32)) (ihh93 : ∀ q, kh93 q = some o → hk_W p l e jr_H_rain s m args below meth c A (hk_Zi below args s D A o.1 ((wH a aText aField aTrial aPast aKept aSeen aLand aDraft) ++ ((wF cI aField f_lying f_damp f_told f_heights f_burnt f_layerWords f_layerWetness f_layerHeat f_hours) ++ ((wF cI aTrial o.2.1 o.2.2.1 o.2.2.2.1 o.2.2.2.2.1 o.2.2.2.2.2.1 o.2.2.2.2.2.2.1 o.2.2.2.2.2.2.2.1 o.2.2.2.2.2.2.2.2.1 o.2.2.2.2.2.2.2.2.2) ++ (wL cI aLand g_speeches g_speechLengths g_weather g_kindsOfCows g_thatches g_weatherLength g_mowers g_cows g_ricks))))) 9 D 0 0 ((wH a aText aField aTrial aPast aKept aSeen aLand aDraft) ++ ((wF cI aField f_lying f_damp f_told f_heights f_burnt f_layerWords f_layerWetness f_layerHeat f_hours) ++ ((wF cI aTrial r_lying r_damp r_told r_heights r_burnt r_layerWords r_layerWetness r_layerHeat r_hours) ++ (wL cI aLand g_speeches g_speechLengths g_weather g_kindsOfCows g_thatches g_weatherLength g_mowers g_cows g_ricks)))) 93 [(2, .int x2), (3, .int x3), (4, .int x4), (5, .int x5), (6, .int x6), (7, .int q.1), (8, .int q.2)] []) (ihx152 : ∀ q, kx152 q = some o → hk_W p l e jr_H_rain s m args below meth c A (hk_Zi below args s D A o.1 ((wH a aText aField aTrial aPast aKept aSeen aLand aDraft) ++ ((wF cI aField f_lying f_damp f_told f_heights f_burnt f_layerWords f_layerWetness f_layerHeat f_hours) ++ ((wF cI aTrial o.2.1 o.2.2.1 o.2.2.2.1 o.2.2.2.2.1 o.2.2.2.2.2.1 o.2.2.2.2.2.2.1 o.2.2.2.2.2.2.2.1 o.2.2.2.2.2.2.2.2.1 o.2.2.2.2.2.2.2.2.2) ++ (wL cI aLand g_speeches g_speechLengths g_weather g_kindsOfCows g_thatches g_weatherLength g_mowers g_cows g_ricks))))) 9 D 0 0 ((wH a aText aField aTrial aPast aKept aSeen aLand aDraft) ++ ((wF cI aField f_lying f_damp f_told f_heights f_burnt f_layerWords f_layerWetness f_layerHeat f_hours) ++ ((wF cI aTrial r_lying r_damp r_told r_heights r_burnt r_layerWords r_layerWetness r_layerHeat r_hours) ++ (wL cI aLand g_speeches g_speechLengths g_weather g_kindsOfCows g_thatches g_weatherLength g_mowers g_cows g_ricks)))) 152 [(2, .int x2), (5, .int x5), (7, .int q)] []) (_ : jf_H_rain_146 N f_lying f_damp f_told f_heights f_burnt f_layerWords f_layerWetness f_layerHeat f_hours r_lying r_damp r_told r_heights r_burnt r_layerWords r_layerWetness r_layerHeat r_hours g_speeches g_speechLengths g_weather g_thatches g_weatherLength g_mowers g_ricks x2 x3 x4 x5 x6 x7 x8 kh93 kx152 = some o), hk_W p l e jr_H_rain s m args below meth c A (hk_Zi below args s D A o.1 ((wH a aText aField aTrial aPast aKept aSeen aLand aDraft) ++ ((wF cI aField f_lying f_damp f_told f_heights f_burnt f_layerWords f_layerWetness f_layerHeat f_hours) ++ ((wF cI aTrial o.2.1 o.2.2.1 o.2.2.2.1 o.2.2.2.2.1 o.2.2.2.2.2.1 o.2.2.2.2.2.2.1 o.2.2.2.2.2.2.2.1 o.2.2.2.2.2.2.2.2.1 o.2.2.2.2.2.2.2.2.2) ++ (wL cI aLand g_speeches g_speechLengths g_weather g_kindsOfCows g_thatches g_weatherLength g_mowers g_cows g_ricks))))) 9 D 0 0 ((wH a aText aField aTrial aPast aKept aSeen aLand aDraft) ++ ((wF cI aField f_lying f_damp f_told f_heights f_burnt f_layerWords f_layerWetness f_layerHeat f_hours) ++ ((wF cI aTrial r_lying r_damp r_told r_heights r_burnt r_layerWords r_layerWetness r_layerHeat r_hours) ++ (wL cI aLand g_speeches g_speechLengths g_weather g_kindsOfCows g_thatches g_weatherLength g_mowers g_cows g_ricks)))) 146 [(2, .int x2), (3, .int x3), (4, .int x4), (5, .int x5), (6, .int x6), (7, .int x7), (8, .int x8)] [] := by
    intro f_lying f_damp f_told f_heights f_burnt f_layerWords f_layerWetness f_layerHeat f_hours r_lying r_damp r_told r_heights r_burnt r_layerWords r_layerWetness r_layerHeat r_hours g_speeches g_speechLengths g_weather g_thatches g_weatherLength g_mowers g_ricks x2 x3 x4 x5 x6 x7 x8 kh93 kx152 ihh93 ihx152 h
    delta jf_H_rain_146 at h
    obtain ⟨v1, e_v1, h⟩ := xl_go h
    refine hk_iinc hC (lv2 := [(8, .int v1), (2, .int x2), (3, .int x3), (4, .int x4), (5, .int x5), (6, .int x6), (7, .int x7)]) jd_H_rain_146 6 rfl e_v1 (by decide) rfl ?_
    refine hk_goto (tgt := 93) hC jd_H_rain_149 (by decide) ?_
    exact hk_lv [1, 2, 3, 4, 5, 6, 0] rfl (ihh93 (x7, v1) h)
  have B_93 : ∀ (f_lying : Nat → Int32) (f_damp : Nat → Int32) (f_told : Nat → Int32) (f_heights : Nat → Int32) (f_burnt : Nat → Int32) (f_layerWords : Nat → Int32) (f_layerWetness : Nat → Int32) (f_layerHeat : Nat → Int32) (f_hours : Int32) (r_lying : Nat → Int32) (r_damp : Nat → Int32) (r_told : Nat → Int32) (r_heights : Nat → Int32) (r_burnt : Nat → Int32) (r_layerWords : Nat → Int32) (r_layerWetness : Nat → Int32) (r_layerHeat : Nat → Int32) (r_hours : Int32) (g_speeches : Nat → Int32) (g_speechLengths : Nat → Int32) (g_weather : Nat → Int32) (g_thatches : Nat → Int32) (g_weatherLength : Int32) (g_mowers : Int32) (g_ricks : Int32) (x2 : Int32) (x3 : Int32) (x4 : Int32) (x5 : Int32) (x6 : Int32) (x7 : Int32) (x8 : Int32) (kh93 : (Int32 × Int32) → Option (Int32 × (Nat → Int32) × (Nat → Int32) × (Nat → Int32) × (Nat → Int32) × (Nat → Int32) × (Nat → Int32) × (Nat → Int32) × (Nat → Int32) × Int32)) (kx152 : (Int32) → Option (Int32 × (Nat → Int32) × (Nat → Int32) × (Nat → Int32) × (Nat → Int32) × (Nat → Int32) × (Nat → Int32) × (Nat → Int32) × (Nat → Int32) × Int32)) (ihh93 : ∀ q, kh93 q = some o → hk_W p l e jr_H_rain s m args below meth c A (hk_Zi below args s D A o.1 ((wH a aText aField aTrial aPast aKept aSeen aLand aDraft) ++ ((wF cI aField f_lying f_damp f_told f_heights f_burnt f_layerWords f_layerWetness f_layerHeat f_hours) ++ ((wF cI aTrial o.2.1 o.2.2.1 o.2.2.2.1 o.2.2.2.2.1 o.2.2.2.2.2.1 o.2.2.2.2.2.2.1 o.2.2.2.2.2.2.2.1 o.2.2.2.2.2.2.2.2.1 o.2.2.2.2.2.2.2.2.2) ++ (wL cI aLand g_speeches g_speechLengths g_weather g_kindsOfCows g_thatches g_weatherLength g_mowers g_cows g_ricks))))) 9 D 0 0 ((wH a aText aField aTrial aPast aKept aSeen aLand aDraft) ++ ((wF cI aField f_lying f_damp f_told f_heights f_burnt f_layerWords f_layerWetness f_layerHeat f_hours) ++ ((wF cI aTrial r_lying r_damp r_told r_heights r_burnt r_layerWords r_layerWetness r_layerHeat r_hours) ++ (wL cI aLand g_speeches g_speechLengths g_weather g_kindsOfCows g_thatches g_weatherLength g_mowers g_cows g_ricks)))) 93 [(2, .int x2), (3, .int x3), (4, .int x4), (5, .int x5), (6, .int x6), (7, .int q.1), (8, .int q.2)] []) (ihx152 : ∀ q, kx152 q = some o → hk_W p l e jr_H_rain s m args below meth c A (hk_Zi below args s D A o.1 ((wH a aText aField aTrial aPast aKept aSeen aLand aDraft) ++ ((wF cI aField f_lying f_damp f_told f_heights f_burnt f_layerWords f_layerWetness f_layerHeat f_hours) ++ ((wF cI aTrial o.2.1 o.2.2.1 o.2.2.2.1 o.2.2.2.2.1 o.2.2.2.2.2.1 o.2.2.2.2.2.2.1 o.2.2.2.2.2.2.2.1 o.2.2.2.2.2.2.2.2.1 o.2.2.2.2.2.2.2.2.2) ++ (wL cI aLand g_speeches g_speechLengths g_weather g_kindsOfCows g_thatches g_weatherLength g_mowers g_cows g_ricks))))) 9 D 0 0 ((wH a aText aField aTrial aPast aKept aSeen aLand aDraft) ++ ((wF cI aField f_lying f_damp f_told f_heights f_burnt f_layerWords f_layerWetness f_layerHeat f_hours) ++ ((wF cI aTrial r_lying r_damp r_told r_heights r_burnt r_layerWords r_layerWetness r_layerHeat r_hours) ++ (wL cI aLand g_speeches g_speechLengths g_weather g_kindsOfCows g_thatches g_weatherLength g_mowers g_cows g_ricks)))) 152 [(2, .int x2), (5, .int x5), (7, .int q)] []) (_ : jf_H_rain_93B N f_lying f_damp f_told f_heights f_burnt f_layerWords f_layerWetness f_layerHeat f_hours r_lying r_damp r_told r_heights r_burnt r_layerWords r_layerWetness r_layerHeat r_hours g_speeches g_speechLengths g_weather g_thatches g_weatherLength g_mowers g_ricks x2 x3 x4 x5 x6 x7 x8 kh93 kx152 = some o), hk_W p l e jr_H_rain s m args below meth c A (hk_Zi below args s D A o.1 ((wH a aText aField aTrial aPast aKept aSeen aLand aDraft) ++ ((wF cI aField f_lying f_damp f_told f_heights f_burnt f_layerWords f_layerWetness f_layerHeat f_hours) ++ ((wF cI aTrial o.2.1 o.2.2.1 o.2.2.2.1 o.2.2.2.2.1 o.2.2.2.2.2.1 o.2.2.2.2.2.2.1 o.2.2.2.2.2.2.2.1 o.2.2.2.2.2.2.2.2.1 o.2.2.2.2.2.2.2.2.2) ++ (wL cI aLand g_speeches g_speechLengths g_weather g_kindsOfCows g_thatches g_weatherLength g_mowers g_cows g_ricks))))) 9 D 0 0 ((wH a aText aField aTrial aPast aKept aSeen aLand aDraft) ++ ((wF cI aField f_lying f_damp f_told f_heights f_burnt f_layerWords f_layerWetness f_layerHeat f_hours) ++ ((wF cI aTrial r_lying r_damp r_told r_heights r_burnt r_layerWords r_layerWetness r_layerHeat r_hours) ++ (wL cI aLand g_speeches g_speechLengths g_weather g_kindsOfCows g_thatches g_weatherLength g_mowers g_cows g_ricks)))) 93 [(2, .int x2), (3, .int x3), (4, .int x4), (5, .int x5), (6, .int x6), (7, .int x7), (8, .int x8)] [] := by
    intro f_lying f_damp f_told f_heights f_burnt f_layerWords f_layerWetness f_layerHeat f_hours r_lying r_damp r_told r_heights r_burnt r_layerWords r_layerWetness r_layerHeat r_hours g_speeches g_speechLengths g_weather g_thatches g_weatherLength g_mowers g_ricks x2 x3 x4 x5 x6 x7 x8 kh93 kx152 ihh93 ihx152 h
    delta jf_H_rain_93B at h
    refine hk_iload hC jd_H_rain_93 6 rfl ?_
    refine hk_iload_n hC jd_H_rain_95 0 rfl ?_
    refine hk_icmp_gt (tgt := 152) hC jd_H_rain_96 (by decide) (fun cc1 => ?_) (fun cc1 => ?_)
    · replace h := xi_t h cc1
      exact hk_lv [0, 3, 5] rfl (ihx152 x7 h)
    · replace h := xi_f h cc1
      refine hk_bipush (v := 99) hC jd_H_rain_99 (by decide) ?_
      refine hk_iload hC jd_H_rain_101 4 rfl ?_
      refine hk_iconst (v := 3) hC jd_H_rain_103 (by decide) ?_
      refine hk_iload hC jd_H_rain_104 6 rfl ?_
      refine hk_imul hC jd_H_rain_106 ?_
      refine hk_iadd hC jd_H_rain_107 ?_
      obtain ⟨v1, e_v1, h⟩ := xl_go h
      refine hk_mmin hC jq_600 ⟨Nat.le_of_ble_eq_true rfl, Nat.le_of_ble_eq_true rfl, Nat.zero_le _, Nat.zero_le _⟩ e_v1 jd_H_rain_108 ?_
      refine hk_iload hC jd_H_rain_111 2 rfl ?_
      refine hk_icmp_lt (tgt := 146) hC jd_H_rain_113 (by decide) (fun cc2 => ?_) (fun cc2 => ?_)
      · replace h := xi_t h cc2
        exact (B_146 f_lying f_damp f_told f_heights f_burnt f_layerWords f_layerWetness f_layerHeat f_hours r_lying r_damp r_told r_heights r_burnt r_layerWords r_layerWetness r_layerHeat r_hours g_speeches g_speechLengths g_weather g_thatches g_weatherLength g_mowers g_ricks x2 x3 x4 x5 x6 x7 x8 kh93 kx152 ihh93 ihx152 h)
      · replace h := xi_f h cc2
        refine hk_iload hC jd_H_rain_116 5 rfl ?_
        refine hk_iload_n hC jd_H_rain_118 0 rfl ?_
        refine hk_iload hC jd_H_rain_119 6 rfl ?_
        obtain ⟨q1, h_q1, h⟩ := xb_go h
        refine hk_callS0i hC (jc_H_waysOf l D cI cF N x2 x8 h_q1) jl_H_waysOf jq_601 jq_602 rfl ⟨by decide, by decide⟩ rfl (Nat.le_of_ble_eq_true rfl) ⟨Nat.zero_le _, Nat.zero_le _⟩ jd_H_rain_121 ?_
        refine hk_iload_n hC jd_H_rain_124 1 rfl ?_
        refine hk_iload hC jd_H_rain_125 6 rfl ?_
        obtain ⟨q2, h_q2, h⟩ := xb_go h
        refine hk_callS0i hC (jc_H_power l D cI cF N x3 x8 h_q2) jl_H_power jq_604 jq_605 rfl ⟨by decide, by decide⟩ rfl (Nat.le_of_ble_eq_true rfl) ⟨Nat.zero_le _, Nat.zero_le _⟩ jd_H_rain_127 ?_
        refine hk_imul hC jd_H_rain_130 ?_
        refine hk_bipush (v := 10) hC jd_H_rain_131 (by decide) ?_
        refine hk_iload_n hC jd_H_rain_133 1 rfl ?_
        refine hk_isub hC jd_H_rain_134 ?_
        refine hk_iload_n hC jd_H_rain_135 0 rfl ?_
        refine hk_iload hC jd_H_rain_136 6 rfl ?_
        refine hk_isub hC jd_H_rain_138 ?_
        obtain ⟨q3, h_q3, h⟩ := xb_go h
        refine hk_callS0i hC (jc_H_power l D cI cF N ((10 : Int32) - x3) (x2 - x8) h_q3) jl_H_power jq_604 jq_605 rfl ⟨by decide, by decide⟩ rfl (Nat.le_of_ble_eq_true rfl) ⟨Nat.zero_le _, Nat.zero_le _⟩ jd_H_rain_139 ?_
        refine hk_imul hC jd_H_rain_142 ?_
        refine hk_iadd hC jd_H_rain_143 ?_
        obtain ⟨v2, e_v2, h⟩ := xl_go h
        refine hk_istore hC (i := 7) (y := v2) (lv2 := [(7, .int v2), (2, .int x2), (3, .int x3), (4, .int x4), (5, .int x5), (6, .int x6), (8, .int x8)]) jd_H_rain_144 e_v2 (by decide) rfl ?_
        exact hk_lv [1, 2, 3, 4, 5, 0, 6] rfl (B_146 f_lying f_damp f_told f_heights f_burnt f_layerWords f_layerWetness f_layerHeat f_hours r_lying r_damp r_told r_heights r_burnt r_layerWords r_layerWetness r_layerHeat r_hours g_speeches g_speechLengths g_weather g_thatches g_weatherLength g_mowers g_ricks x2 x3 x4 x5 x6 v2 x8 kh93 kx152 ihh93 ihx152 h)
  have L_93 : ∀ (f_lying : Nat → Int32) (f_damp : Nat → Int32) (f_told : Nat → Int32) (f_heights : Nat → Int32) (f_burnt : Nat → Int32) (f_layerWords : Nat → Int32) (f_layerWetness : Nat → Int32) (f_layerHeat : Nat → Int32) (f_hours : Int32) (r_lying : Nat → Int32) (r_damp : Nat → Int32) (r_told : Nat → Int32) (r_heights : Nat → Int32) (r_burnt : Nat → Int32) (r_layerWords : Nat → Int32) (r_layerWetness : Nat → Int32) (r_layerHeat : Nat → Int32) (r_hours : Int32) (g_speeches : Nat → Int32) (g_speechLengths : Nat → Int32) (g_weather : Nat → Int32) (g_thatches : Nat → Int32) (g_weatherLength : Int32) (g_mowers : Int32) (g_ricks : Int32) (x2 : Int32) (x3 : Int32) (x4 : Int32) (x5 : Int32) (x6 : Int32) (x7 : Int32) (x8 : Int32) (kx152 : (Int32) → Option (Int32 × (Nat → Int32) × (Nat → Int32) × (Nat → Int32) × (Nat → Int32) × (Nat → Int32) × (Nat → Int32) × (Nat → Int32) × (Nat → Int32) × Int32)) (ihx152 : ∀ q, kx152 q = some o → hk_W p l e jr_H_rain s m args below meth c A (hk_Zi below args s D A o.1 ((wH a aText aField aTrial aPast aKept aSeen aLand aDraft) ++ ((wF cI aField f_lying f_damp f_told f_heights f_burnt f_layerWords f_layerWetness f_layerHeat f_hours) ++ ((wF cI aTrial o.2.1 o.2.2.1 o.2.2.2.1 o.2.2.2.2.1 o.2.2.2.2.2.1 o.2.2.2.2.2.2.1 o.2.2.2.2.2.2.2.1 o.2.2.2.2.2.2.2.2.1 o.2.2.2.2.2.2.2.2.2) ++ (wL cI aLand g_speeches g_speechLengths g_weather g_kindsOfCows g_thatches g_weatherLength g_mowers g_cows g_ricks))))) 9 D 0 0 ((wH a aText aField aTrial aPast aKept aSeen aLand aDraft) ++ ((wF cI aField f_lying f_damp f_told f_heights f_burnt f_layerWords f_layerWetness f_layerHeat f_hours) ++ ((wF cI aTrial r_lying r_damp r_told r_heights r_burnt r_layerWords r_layerWetness r_layerHeat r_hours) ++ (wL cI aLand g_speeches g_speechLengths g_weather g_kindsOfCows g_thatches g_weatherLength g_mowers g_cows g_ricks)))) 152 [(2, .int x2), (5, .int x5), (7, .int q)] []) (_ : jf_H_rain_93 N f_lying f_damp f_told f_heights f_burnt f_layerWords f_layerWetness f_layerHeat f_hours r_lying r_damp r_told r_heights r_burnt r_layerWords r_layerWetness r_layerHeat r_hours g_speeches g_speechLengths g_weather g_thatches g_weatherLength g_mowers g_ricks x2 x3 x4 x5 x6 x7 x8 kx152 = some o), hk_W p l e jr_H_rain s m args below meth c A (hk_Zi below args s D A o.1 ((wH a aText aField aTrial aPast aKept aSeen aLand aDraft) ++ ((wF cI aField f_lying f_damp f_told f_heights f_burnt f_layerWords f_layerWetness f_layerHeat f_hours) ++ ((wF cI aTrial o.2.1 o.2.2.1 o.2.2.2.1 o.2.2.2.2.1 o.2.2.2.2.2.1 o.2.2.2.2.2.2.1 o.2.2.2.2.2.2.2.1 o.2.2.2.2.2.2.2.2.1 o.2.2.2.2.2.2.2.2.2) ++ (wL cI aLand g_speeches g_speechLengths g_weather g_kindsOfCows g_thatches g_weatherLength g_mowers g_cows g_ricks))))) 9 D 0 0 ((wH a aText aField aTrial aPast aKept aSeen aLand aDraft) ++ ((wF cI aField f_lying f_damp f_told f_heights f_burnt f_layerWords f_layerWetness f_layerHeat f_hours) ++ ((wF cI aTrial r_lying r_damp r_told r_heights r_burnt r_layerWords r_layerWetness r_layerHeat r_hours) ++ (wL cI aLand g_speeches g_speechLengths g_weather g_kindsOfCows g_thatches g_weatherLength g_mowers g_cows g_ricks)))) 93 [(2, .int x2), (3, .int x3), (4, .int x4), (5, .int x5), (6, .int x6), (7, .int x7), (8, .int x8)] [] := by
    intro f_lying f_damp f_told f_heights f_burnt f_layerWords f_layerWetness f_layerHeat f_hours r_lying r_damp r_told r_heights r_burnt r_layerWords r_layerWetness r_layerHeat r_hours g_speeches g_speechLengths g_weather g_thatches g_weatherLength g_mowers g_ricks x2 x3 x4 x5 x6 x7 x8 kx152 ihx152 h
    exact xloopW (fun (q : Int32 × Int32) => hk_W p l e jr_H_rain s m args below meth c A (hk_Zi below args s D A o.1 ((wH a aText aField aTrial aPast aKept aSeen aLand aDraft) ++ ((wF cI aField f_lying f_damp f_told f_heights f_burnt f_layerWords f_layerWetness f_layerHeat f_hours) ++ ((wF cI aTrial o.2.1 o.2.2.1 o.2.2.2.1 o.2.2.2.2.1 o.2.2.2.2.2.1 o.2.2.2.2.2.2.1 o.2.2.2.2.2.2.2.1 o.2.2.2.2.2.2.2.2.1 o.2.2.2.2.2.2.2.2.2) ++ (wL cI aLand g_speeches g_speechLengths g_weather g_kindsOfCows g_thatches g_weatherLength g_mowers g_cows g_ricks))))) 9 D 0 0 ((wH a aText aField aTrial aPast aKept aSeen aLand aDraft) ++ ((wF cI aField f_lying f_damp f_told f_heights f_burnt f_layerWords f_layerWetness f_layerHeat f_hours) ++ ((wF cI aTrial r_lying r_damp r_told r_heights r_burnt r_layerWords r_layerWetness r_layerHeat r_hours) ++ (wL cI aLand g_speeches g_speechLengths g_weather g_kindsOfCows g_thatches g_weatherLength g_mowers g_cows g_ricks)))) 93 [(2, .int x2), (3, .int x3), (4, .int x4), (5, .int x5), (6, .int x6), (7, .int q.1), (8, .int q.2)] []) (fun kh ih q h => B_93 f_lying f_damp f_told f_heights f_burnt f_layerWords f_layerWetness f_layerHeat f_hours r_lying r_damp r_told r_heights r_burnt r_layerWords r_layerWetness r_layerHeat r_hours g_speeches g_speechLengths g_weather g_thatches g_weatherLength g_mowers g_ricks x2 x3 x4 x5 x6 q.1 q.2 kh kx152 ih ihx152 h) N (x7, x8) h
  have B_152 : ∀ (f_lying : Nat → Int32) (f_damp : Nat → Int32) (f_told : Nat → Int32) (f_heights : Nat → Int32) (f_burnt : Nat → Int32) (f_layerWords : Nat → Int32) (f_layerWetness : Nat → Int32) (f_layerHeat : Nat → Int32) (f_hours : Int32) (r_lying : Nat → Int32) (r_damp : Nat → Int32) (r_told : Nat → Int32) (r_heights : Nat → Int32) (r_burnt : Nat → Int32) (r_layerWords : Nat → Int32) (r_layerWetness : Nat → Int32) (r_layerHeat : Nat → Int32) (r_hours : Int32) (g_speeches : Nat → Int32) (g_speechLengths : Nat → Int32) (g_weather : Nat → Int32) (g_thatches : Nat → Int32) (g_weatherLength : Int32) (g_mowers : Int32) (g_ricks : Int32) (x2 : Int32) (x5 : Int32) (x7 : Int32)   (_ : jf_H_rain_152 N f_lying f_damp f_told f_heights f_burnt f_layerWords f_layerWetness f_layerHeat f_hours r_lying r_damp r_told r_heights r_burnt r_layerWords r_layerWetness r_layerHeat r_hours g_speeches g_speechLengths g_weather g_thatches g_weatherLength g_mowers g_ricks x2 x5 x7  = some o), hk_W p l e jr_H_rain s m args below meth c A (hk_Zi below args s D A o.1 ((wH a aText aField aTrial aPast aKept aSeen aLand aDraft) ++ ((wF cI aField f_lying f_damp f_told f_heights f_burnt f_layerWords f_layerWetness f_layerHeat f_hours) ++ ((wF cI aTrial o.2.1 o.2.2.1 o.2.2.2.1 o.2.2.2.2.1 o.2.2.2.2.2.1 o.2.2.2.2.2.2.1 o.2.2.2.2.2.2.2.1 o.2.2.2.2.2.2.2.2.1 o.2.2.2.2.2.2.2.2.2) ++ (wL cI aLand g_speeches g_speechLengths g_weather g_kindsOfCows g_thatches g_weatherLength g_mowers g_cows g_ricks))))) 9 D 0 0 ((wH a aText aField aTrial aPast aKept aSeen aLand aDraft) ++ ((wF cI aField f_lying f_damp f_told f_heights f_burnt f_layerWords f_layerWetness f_layerHeat f_hours) ++ ((wF cI aTrial r_lying r_damp r_told r_heights r_burnt r_layerWords r_layerWetness r_layerHeat r_hours) ++ (wL cI aLand g_speeches g_speechLengths g_weather g_kindsOfCows g_thatches g_weatherLength g_mowers g_cows g_ricks)))) 152 [(2, .int x2), (5, .int x5), (7, .int x7)] [] := by
    intro f_lying f_damp f_told f_heights f_burnt f_layerWords f_layerWetness f_layerHeat f_hours r_lying r_damp r_told r_heights r_burnt r_layerWords r_layerWetness r_layerHeat r_hours g_speeches g_speechLengths g_weather g_thatches g_weatherLength g_mowers g_ricks x2 x5 x7   h
    delta jf_H_rain_152 at h
    refine hk_iload hC jd_H_rain_152 2 rfl ?_
    refine hk_bipush (v := 10) hC jd_H_rain_154 (by decide) ?_
    refine hk_iload_n hC jd_H_rain_156 0 rfl ?_
    obtain ⟨q1, h_q1, h⟩ := xb_go h
    refine hk_callS0i hC (jc_H_power l D cI cF N (10 : Int32) x2 h_q1) jl_H_power jq_604 jq_605 rfl ⟨by decide, by decide⟩ rfl (Nat.le_of_ble_eq_true rfl) ⟨Nat.zero_le _, Nat.zero_le _⟩ jd_H_rain_157 ?_
    refine hk_iload hC jd_H_rain_160 1 rfl ?_
    obtain ⟨q2, h_q2, h⟩ := xb_go h
    refine hk_callS0i hC (jc_H_inLowestTerms l D cI cF N x7 q1 x5 h_q2) jl_H_inLowestTerms jq_562 jq_563 rfl ⟨by decide, by decide⟩ rfl (Nat.le_of_ble_eq_true rfl) ⟨Nat.zero_le _, Nat.zero_le _⟩ jd_H_rain_162 ?_
    obtain rfl := Option.some.inj h
    exact hk_iret hC hr jd_H_rain_165 rfl rfl
  delta jf_H_rain at h
  refine hk_aload_n hC jd_H_rain_0 0 rfl ?_
  refine hk_iload_n hC jd_H_rain_1 1 rfl ?_
  obtain ⟨q1, h_q1, h⟩ := xb_go h
  refine hk_callVBi hC (jc_H_isMower l D cI cF N a aText aField aTrial aPast aKept aSeen aLand aDraft g_speeches g_speechLengths g_weather g_kindsOfCows g_thatches g_weatherLength g_mowers g_cows g_ricks x1 h_q1) jl_H_isMower rfl (List.mem_of_getElem? (at_l (k := 0) rfl)) jq_336 jq_338 jq0_5 rfl ⟨by decide, by decide⟩ (pm_4_0_3 _ _ _ _) (pm_4_0_3 _ _ _ _) rfl (ws2 := ((wH a aText aField aTrial aPast aKept aSeen aLand aDraft) ++ ((wF cI aField f_lying f_damp f_told f_heights f_burnt f_layerWords f_layerWetness f_layerHeat f_hours) ++ ((wF cI aTrial r_lying r_damp r_told r_heights r_burnt r_layerWords r_layerWetness r_layerHeat r_hours) ++ (wL cI aLand g_speeches g_speechLengths g_weather g_kindsOfCows g_thatches g_weatherLength g_mowers g_cows g_ricks))))) rfl (Nat.le_of_ble_eq_true rfl) ⟨Nat.zero_le _, Nat.zero_le _⟩ jd_H_rain_2 ?_
  refine hk_if_eq (tgt := 49) hC jd_H_rain_5 (by decide) (fun cc1 => ?_) (fun cc1 => ?_)
  · replace h := xi_t h cc1
    refine hk_iconst (v := -1) hC jd_H_rain_49 (by decide) ?_
    obtain rfl := Option.some.inj h
    exact hk_iret hC hr jd_H_rain_50 rfl rfl
  · replace h := xi_f h cc1
    refine hk_iload_n hC jd_H_rain_8 2 rfl ?_
    refine hk_iconst (v := 0) hC jd_H_rain_9 (by decide) ?_
    refine hk_bipush (v := 8) hC jd_H_rain_10 (by decide) ?_
    obtain ⟨q2, h_q2, h⟩ := xb_go h
    refine hk_callS0i hC (jc_H_isWithin l D cI cF N x2 (0 : Int32) (8 : Int32) h_q2) jl_H_isWithin jq_302 jq_249 rfl ⟨by decide, by decide⟩ rfl (Nat.le_of_ble_eq_true rfl) ⟨Nat.zero_le _, Nat.zero_le _⟩ jd_H_rain_12 ?_
    refine hk_if_eq (tgt := 49) hC jd_H_rain_15 (by decide) (fun cc2 => ?_) (fun cc2 => ?_)
    · replace h := xi_t h cc2
      refine hk_iconst (v := -1) hC jd_H_rain_49 (by decide) ?_
      obtain rfl := Option.some.inj h
      exact hk_iret hC hr jd_H_rain_50 rfl rfl
    · replace h := xi_f h cc2
      refine hk_iload_n hC jd_H_rain_18 3 rfl ?_
      refine hk_iconst (v := 0) hC jd_H_rain_19 (by decide) ?_
      refine hk_bipush (v := 10) hC jd_H_rain_20 (by decide) ?_
      obtain ⟨q3, h_q3, h⟩ := xb_go h
      refine hk_callS0i hC (jc_H_isWithin l D cI cF N x3 (0 : Int32) (10 : Int32) h_q3) jl_H_isWithin jq_302 jq_249 rfl ⟨by decide, by decide⟩ rfl (Nat.le_of_ble_eq_true rfl) ⟨Nat.zero_le _, Nat.zero_le _⟩ jd_H_rain_22 ?_
      refine hk_if_eq (tgt := 49) hC jd_H_rain_25 (by decide) (fun cc3 => ?_) (fun cc3 => ?_)
      · replace h := xi_t h cc3
        refine hk_iconst (v := -1) hC jd_H_rain_49 (by decide) ?_
        obtain rfl := Option.some.inj h
        exact hk_iret hC hr jd_H_rain_50 rfl rfl
      · replace h := xi_f h cc3
        refine hk_iload hC jd_H_rain_28 4 rfl ?_
        refine hk_iconst (v := 0) hC jd_H_rain_30 (by decide) ?_
        refine hk_bipush (v := 99) hC jd_H_rain_31 (by decide) ?_
        obtain ⟨q4, h_q4, h⟩ := xb_go h
        refine hk_callS0i hC (jc_H_isWithin l D cI cF N x4 (0 : Int32) (99 : Int32) h_q4) jl_H_isWithin jq_302 jq_249 rfl ⟨by decide, by decide⟩ rfl (Nat.le_of_ble_eq_true rfl) ⟨Nat.zero_le _, Nat.zero_le _⟩ jd_H_rain_33 ?_
        refine hk_if_eq (tgt := 49) hC jd_H_rain_36 (by decide) (fun cc4 => ?_) (fun cc4 => ?_)
        · replace h := xi_t h cc4
          refine hk_iconst (v := -1) hC jd_H_rain_49 (by decide) ?_
          obtain rfl := Option.some.inj h
          exact hk_iret hC hr jd_H_rain_50 rfl rfl
        · replace h := xi_f h cc4
          refine hk_iload hC jd_H_rain_39 5 rfl ?_
          refine hk_iconst (v := 0) hC jd_H_rain_41 (by decide) ?_
          refine hk_iconst (v := 1) hC jd_H_rain_42 (by decide) ?_
          obtain ⟨q5, h_q5, h⟩ := xb_go h
          refine hk_callS0i hC (jc_H_isWithin l D cI cF N x5 (0 : Int32) (1 : Int32) h_q5) jl_H_isWithin jq_302 jq_249 rfl ⟨by decide, by decide⟩ rfl (Nat.le_of_ble_eq_true rfl) ⟨Nat.zero_le _, Nat.zero_le _⟩ jd_H_rain_43 ?_
          refine hk_if_ne (tgt := 51) hC jd_H_rain_46 (by decide) (fun cc5 => ?_) (fun cc5 => ?_)
          · replace h := xi_f h cc5
            refine hk_aload_n hC jd_H_rain_51 0 rfl ?_
            refine hk_get hC jk_H _ (at_l (k := 0) rfl) 2 (by decide) jq_274 rfl jd_H_rain_52 ?_
            refine hk_aload_n hC jd_H_rain_55 0 rfl ?_
            refine hk_get hC jk_H _ (at_l (k := 0) rfl) 1 (by decide) jq_273 rfl jd_H_rain_56 ?_
            obtain ⟨q6, h_q6, h⟩ := xb_go h
            refine hk_callVBv hC (jc_F_copyFrom l D cI cF N aTrial aField r_lying r_damp r_told r_heights r_burnt r_layerWords r_layerWetness r_layerHeat r_hours f_lying f_damp f_told f_heights f_burnt f_layerWords f_layerWetness f_layerHeat f_hours h_q6) jl_F_copyFrom rfl (List.mem_of_getElem? (at_r (at_r (at_l (k := 0) rfl)))) jq_512 jq_416 jq_417 rfl ⟨by decide, by decide⟩ (pm_4_2_1 _ _ _ _) (pm_4_2_1 _ _ _ _) rfl (ws2 := ((wH a aText aField aTrial aPast aKept aSeen aLand aDraft) ++ ((wF cI aField f_lying f_damp f_told f_heights f_burnt f_layerWords f_layerWetness f_layerHeat f_hours) ++ ((wF cI aTrial q6.1 q6.2.1 q6.2.2.1 q6.2.2.2.1 q6.2.2.2.2.1 q6.2.2.2.2.2.1 q6.2.2.2.2.2.2.1 q6.2.2.2.2.2.2.2.1 q6.2.2.2.2.2.2.2.2) ++ (wL cI aLand g_speeches g_speechLengths g_weather g_kindsOfCows g_thatches g_weatherLength g_mowers g_cows g_ricks))))) rfl (Nat.le_of_ble_eq_true rfl) ⟨Nat.zero_le _, Nat.zero_le _⟩ jd_H_rain_59 ?_
            refine hk_aload_n hC jd_H_rain_62 0 rfl ?_
            refine hk_get hC jk_H _ (at_l (k := 0) rfl) 2 (by decide) jq_274 rfl jd_H_rain_63 ?_
            refine hk_aload_n hC jd_H_rain_66 0 rfl ?_
            refine hk_get hC jk_H _ (at_l (k := 0) rfl) 6 (by decide) jq_278 rfl jd_H_rain_67 ?_
            refine hk_iload_n hC jd_H_rain_70 2 rfl ?_
            obtain ⟨q7, h_q7, h⟩ := xb_go h
            refine hk_callVBv hC (jc_F_hoursGoBy l D cI cF N aTrial aLand q6.1 q6.2.1 q6.2.2.1 q6.2.2.2.1 q6.2.2.2.2.1 q6.2.2.2.2.2.1 q6.2.2.2.2.2.2.1 q6.2.2.2.2.2.2.2.1 q6.2.2.2.2.2.2.2.2 g_speeches g_speechLengths g_weather g_kindsOfCows g_thatches g_weatherLength g_mowers g_cows g_ricks x2 h_q7) jl_F_hoursGoBy rfl (List.mem_of_getElem? (at_r (at_r (at_l (k := 0) rfl)))) jq_425 jq_426 jq_427 rfl ⟨by decide, by decide⟩ (pm_4_2_3 _ _ _ _) (pm_4_2_3 _ _ _ _) rfl (ws2 := ((wH a aText aField aTrial aPast aKept aSeen aLand aDraft) ++ ((wF cI aField f_lying f_damp f_told f_heights f_burnt f_layerWords f_layerWetness f_layerHeat f_hours) ++ ((wF cI aTrial q7.1 q7.2.1 q6.2.2.1 q7.2.2.1 q7.2.2.2.1 q6.2.2.2.2.2.1 q6.2.2.2.2.2.2.1 q7.2.2.2.2.1 q7.2.2.2.2.2) ++ (wL cI aLand g_speeches g_speechLengths g_weather g_kindsOfCows g_thatches g_weatherLength g_mowers g_cows g_ricks))))) rfl (Nat.le_of_ble_eq_true rfl) ⟨Nat.zero_le _, Nat.zero_le _⟩ jd_H_rain_71 ?_
            refine hk_aload_n hC jd_H_rain_74 0 rfl ?_
            refine hk_get hC jk_H _ (at_l (k := 0) rfl) 2 (by decide) jq_274 rfl jd_H_rain_75 ?_
            refine hk_getN hC jk_F _ (at_r (at_r (at_l (k := 0) rfl))) 1 (by decide) jq_49 rfl jd_H_rain_78 ?_
            refine hk_iload_n hC jd_H_rain_81 1 rfl ?_
            obtain ⟨q8, h_q8, h⟩ := xb_go h
            refine hk_callSi hC (jc_R_at l D cI cF N (fun _ => (aTrial 2)) 5 q7.2.1 x1 h_q8) jl_R_at jq_350 jq_345 rfl ⟨by decide, by decide⟩ [_] (congrArg (fun z => [z]) (at_r (at_r (at_l (k := 2) rfl)))) rfl rfl (ws2 := ((wH a aText aField aTrial aPast aKept aSeen aLand aDraft) ++ ((wF cI aField f_lying f_damp f_told f_heights f_burnt f_layerWords f_layerWetness f_layerHeat f_hours) ++ ((wF cI aTrial q7.1 q7.2.1 q6.2.2.1 q7.2.2.1 q7.2.2.2.1 q6.2.2.2.2.2.1 q6.2.2.2.2.2.2.1 q7.2.2.2.2.1 q7.2.2.2.2.2) ++ (wL cI aLand g_speeches g_speechLengths g_weather g_kindsOfCows g_thatches g_weatherLength g_mowers g_cows g_ricks))))) (set_r (set_r (set_l (Nat.le_of_ble_eq_true rfl) rfl))) rfl (Nat.le_of_ble_eq_true rfl) ⟨Nat.zero_le _, Nat.zero_le _⟩ jd_H_rain_82 ?_
            refine hk_istore hC (i := 6) (y := q8) (lv2 := [(6, .int q8), (0, .ref (a 0)), (1, .int x1), (2, .int x2), (3, .int x3), (4, .int x4), (5, .int x5)]) jd_H_rain_85 rfl (by decide) rfl ?_
            refine hk_iconst (v := 0) hC jd_H_rain_87 (by decide) ?_
            refine hk_istore hC (i := 7) (y := (0 : Int32)) (lv2 := [(7, .int (0 : Int32)), (6, .int q8), (0, .ref (a 0)), (1, .int x1), (2, .int x2), (3, .int x3), (4, .int x4), (5, .int x5)]) jd_H_rain_88 rfl (by decide) rfl ?_
            refine hk_iconst (v := 0) hC jd_H_rain_90 (by decide) ?_
            refine hk_istore hC (i := 8) (y := (0 : Int32)) (lv2 := [(8, .int (0 : Int32)), (7, .int (0 : Int32)), (6, .int q8), (0, .ref (a 0)), (1, .int x1), (2, .int x2), (3, .int x3), (4, .int x4), (5, .int x5)]) jd_H_rain_91 rfl (by decide) rfl ?_
            exact hk_lv [5, 6, 7, 8, 2, 1, 0] rfl (L_93 f_lying f_damp f_told f_heights f_burnt f_layerWords f_layerWetness f_layerHeat f_hours q7.1 q7.2.1 q6.2.2.1 q7.2.2.1 q7.2.2.2.1 q6.2.2.2.2.2.1 q6.2.2.2.2.2.2.1 q7.2.2.2.2.1 q7.2.2.2.2.2 g_speeches g_speechLengths g_weather g_thatches g_weatherLength g_mowers g_ricks x2 x3 x4 x5 q8 (0 : Int32) (0 : Int32) _ (fun q9 h => by exact (B_152 f_lying f_damp f_told f_heights f_burnt f_layerWords f_layerWetness f_layerHeat f_hours q7.1 q7.2.1 q6.2.2.1 q7.2.2.1 q7.2.2.2.1 q6.2.2.2.2.2.1 q6.2.2.2.2.2.2.1 q7.2.2.2.2.1 q7.2.2.2.2.2 g_speeches g_speechLengths g_weather g_thatches g_weatherLength g_mowers g_ricks x2 x5 q9   h)) h)
          · replace h := xi_t h cc5
            refine hk_iconst (v := -1) hC jd_H_rain_49 (by decide) ?_
            obtain rfl := Option.some.inj h
            exact hk_iret hC hr jd_H_rain_50 rfl rfl
theorem jc_H_rain (l : Launch) (D : va_G) (cI cF : ClassId) (N : Nat) (a : Nat → Nat) (aText : Nat → Nat) (aField : Nat → Nat) (aTrial : Nat → Nat) (aPast : Nat → Nat) (aKept : Nat → Nat) (aSeen : Nat → Nat) (aLand : Nat → Nat) (aDraft : Nat → Nat)  (f_lying : Nat → Int32) (f_damp : Nat → Int32) (f_told : Nat → Int32) (f_heights : Nat → Int32) (f_burnt : Nat → Int32) (f_layerWords : Nat → Int32) (f_layerWetness : Nat → Int32) (f_layerHeat : Nat → Int32) (f_hours : Int32) (r_lying : Nat → Int32) (r_damp : Nat → Int32) (r_told : Nat → Int32) (r_heights : Nat → Int32) (r_burnt : Nat → Int32) (r_layerWords : Nat → Int32) (r_layerWetness : Nat → Int32) (r_layerHeat : Nat → Int32) (r_hours : Int32) (g_speeches : Nat → Int32) (g_speechLengths : Nat → Int32) (g_weather : Nat → Int32) (g_kindsOfCows : Nat → Int32) (g_thatches : Nat → Int32) (g_weatherLength : Int32) (g_mowers : Int32) (g_cows : Int32) (g_ricks : Int32) (x1 : Int32) (x2 : Int32) (x3 : Int32) (x4 : Int32) (x5 : Int32) {o : Int32 × (Nat → Int32) × (Nat → Int32) × (Nat → Int32) × (Nat → Int32) × (Nat → Int32) × (Nat → Int32) × (Nat → Int32) × (Nat → Int32) × Int32} (h : jf_H_rain N f_lying f_damp f_told f_heights f_burnt f_layerWords f_layerWetness f_layerHeat f_hours r_lying r_damp r_told r_heights r_burnt r_layerWords r_layerWetness r_layerHeat r_hours g_speeches g_speechLengths g_weather g_thatches g_weatherLength g_mowers g_ricks x1 x2 x3 x4 x5 = some o) : hk_Mi l jy_H_rain jb_H_rain 9 (some .int) jr_H_rain D cI cF ((wH a aText aField aTrial aPast aKept aSeen aLand aDraft) ++ ((wF cI aField f_lying f_damp f_told f_heights f_burnt f_layerWords f_layerWetness f_layerHeat f_hours) ++ ((wF cI aTrial r_lying r_damp r_told r_heights r_burnt r_layerWords r_layerWetness r_layerHeat r_hours) ++ (wL cI aLand g_speeches g_speechLengths g_weather g_kindsOfCows g_thatches g_weatherLength g_mowers g_cows g_ricks)))) [.ref (a 0), .int x1, .int x2, .int x3, .int x4, .int x5] o.1 ((wH a aText aField aTrial aPast aKept aSeen aLand aDraft) ++ ((wF cI aField f_lying f_damp f_told f_heights f_burnt f_layerWords f_layerWetness f_layerHeat f_hours) ++ ((wF cI aTrial o.2.1 o.2.2.1 o.2.2.2.1 o.2.2.2.2.1 o.2.2.2.2.2.1 o.2.2.2.2.2.2.1 o.2.2.2.2.2.2.2.1 o.2.2.2.2.2.2.2.2.1 o.2.2.2.2.2.2.2.2.2) ++ (wL cI aLand g_speeches g_speechLengths g_weather g_kindsOfCows g_thatches g_weatherLength g_mowers g_cows g_ricks)))) :=
  hk_metI (by decide) (Nat.le_of_ble_eq_true rfl) rfl rfl (fun p e s m args below meth c A hC hr => jw_H_rain hC hr N a aText aField aTrial aPast aKept aSeen aLand aDraft f_lying f_damp f_told f_heights f_burnt f_layerWords f_layerWetness f_layerHeat f_hours r_lying r_damp r_told r_heights r_burnt r_layerWords r_layerWetness r_layerHeat r_hours g_speeches g_speechLengths g_weather g_kindsOfCows g_thatches g_weatherLength g_mowers g_cows g_ricks x1 x2 x3 x4 x5 h)
