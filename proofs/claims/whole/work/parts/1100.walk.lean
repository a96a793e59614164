set_option maxHeartbeats 8000000 in
set_option maxRecDepth 100000 in
theorem jw_Integer_bitCount {p : Program} {l : Launch} {e : Env} {s : State} {m : MethodId} {args : Array Value} {below : List Frame} {meth : Method} {c : Code} {A : Nat → Prop} {D : va_G} {cI cF : ClassId} (hC : hk_ok p s m args meth c A 1 D cI cF "java/lang/Integer" jb_Integer_bitCount) (hr : meth.sig.returnType = (some .int)) (N : Nat)    (x0 : Int32) {o : Int32} (h : jf_Integer_bitCount N x0 = some o) : hk_W p l e jr_Integer_bitCount s m args below meth c A (hk_Zi below args s D A o ([] : va_W)) 1 D 0 0 ([] : va_W) 0 [(0, .int x0)] [] := by
  delta jf_Integer_bitCount at h
  refine hk_iload_n hC jd_Integer_bitCount_0 0 rfl ?_
  refine hk_iload_n hC jd_Integer_bitCount_1 0 rfl ?_
  refine hk_iconst (v := 1) hC jd_Integer_bitCount_2 (by decide) ?_
  refine hk_iushr hC jd_Integer_bitCount_3 ?_
  refine hk_ldcw hC jd_Integer_bitCount_4 jq_539 ?_
  refine hk_iand hC jd_Integer_bitCount_7 ?_
  refine hk_isub hC jd_Integer_bitCount_8 ?_
  obtain ⟨v1, e_v1, h⟩ := xl_go h
  refine hk_istore_n hC (i := 0) (y := v1) (lv2 := [(0, .int v1)]) jd_Integer_bitCount_9 rfl e_v1 (by decide) rfl ?_
  refine hk_iload_n hC jd_Integer_bitCount_10 0 rfl ?_
  refine hk_ldcw hC jd_Integer_bitCount_11 jq_540 ?_
  refine hk_iand hC jd_Integer_bitCount_14 ?_
  refine hk_iload_n hC jd_Integer_bitCount_15 0 rfl ?_
  refine hk_iconst (v := 2) hC jd_Integer_bitCount_16 (by decide) ?_
  refine hk_iushr hC jd_Integer_bitCount_17 ?_
  refine hk_ldcw hC jd_Integer_bitCount_18 jq_540 ?_
  refine hk_iand hC jd_Integer_bitCount_21 ?_
  refine hk_iadd hC jd_Integer_bitCount_22 ?_
  obtain ⟨v2, e_v2, h⟩ := xl_go h
  refine hk_istore_n hC (i := 0) (y := v2) (lv2 := [(0, .int v2)]) jd_Integer_bitCount_23 rfl e_v2 (by decide) rfl ?_
  refine hk_iload_n hC jd_Integer_bitCount_24 0 rfl ?_
  refine hk_iload_n hC jd_Integer_bitCount_25 0 rfl ?_
  refine hk_iconst (v := 4) hC jd_Integer_bitCount_26 (by decide) ?_
  refine hk_iushr hC jd_Integer_bitCount_27 ?_
  refine hk_iadd hC jd_Integer_bitCount_28 ?_
  refine hk_ldcw hC jd_Integer_bitCount_29 jq_541 ?_
  refine hk_iand hC jd_Integer_bitCount_32 ?_
  obtain ⟨v3, e_v3, h⟩ := xl_go h
  refine hk_istore_n hC (i := 0) (y := v3) (lv2 := [(0, .int v3)]) jd_Integer_bitCount_33 rfl e_v3 (by decide) rfl ?_
  refine hk_iload_n hC jd_Integer_bitCount_34 0 rfl ?_
  refine hk_iload_n hC jd_Integer_bitCount_35 0 rfl ?_
  refine hk_bipush (v := 8) hC jd_Integer_bitCount_36 (by decide) ?_
  refine hk_iushr hC jd_Integer_bitCount_38 ?_
  refine hk_iadd hC jd_Integer_bitCount_39 ?_
  obtain ⟨v4, e_v4, h⟩ := xl_go h
  refine hk_istore_n hC (i := 0) (y := v4) (lv2 := [(0, .int v4)]) jd_Integer_bitCount_40 rfl e_v4 (by decide) rfl ?_
  refine hk_iload_n hC jd_Integer_bitCount_41 0 rfl ?_
  refine hk_iload_n hC jd_Integer_bitCount_42 0 rfl ?_
  refine hk_bipush (v := 16) hC jd_Integer_bitCount_43 (by decide) ?_
  refine hk_iushr hC jd_Integer_bitCount_45 ?_
  refine hk_iadd hC jd_Integer_bitCount_46 ?_
  obtain ⟨v5, e_v5, h⟩ := xl_go h
  refine hk_istore_n hC (i := 0) (y := v5) (lv2 := [(0, .int v5)]) jd_Integer_bitCount_47 rfl e_v5 (by decide) rfl ?_
  refine hk_iload_n hC jd_Integer_bitCount_48 0 rfl ?_
  refine hk_bipush (v := 63) hC jd_Integer_bitCount_49 (by decide) ?_
  refine hk_iand hC jd_Integer_bitCount_51 ?_
  obtain rfl := Option.some.inj h
  exact hk_iret hC hr jd_Integer_bitCount_52 rfl rfl
theorem jc_Integer_bitCount (l : Launch) (D : va_G) (cI cF : ClassId) (N : Nat)    (x0 : Int32) {o : Int32} (h : jf_Integer_bitCount N x0 = some o) : hk_Mi l jy_Integer_bitCount jb_Integer_bitCount 1 (some .int) jr_Integer_bitCount D cI cF ([] : va_W) [.int x0] o ([] : va_W) :=
  hk_metI (by decide) (Nat.le_of_ble_eq_true rfl) rfl rfl (fun p e s m args below meth c A hC hr => jw_Integer_bitCount hC hr N x0 h)
set_option maxHeartbeats 8000000 in
set_option maxRecDepth 100000 in
theorem jw_Arrays_fill {p : Program} {l : Launch} {e : Env} {s : State} {m : MethodId} {args : Array Value} {below : List Frame} {meth : Method} {c : Code} {A : Nat → Prop} {D : va_G} {cI cF : ClassId} (hC : hk_ok p s m args meth c A 4 D cI cF "java/util/Arrays" jb_Arrays_fill) (hr : meth.sig.returnType = none) (N : Nat) (w0 : Nat → Nat) (n0 : Nat) (u0 : Nat → Int32) (x1 : Int32) {o : (Nat → Int32)} (h : jf_Arrays_fill N n0 u0 x1 = some o) : hk_W p l e jr_Arrays_fill s m args below meth c A (hk_Zv below args s D A (wA cI w0 n0 o)) 4 D 0 0 (wA cI w0 n0 u0) 0 [(0, .ref (w0 0)), (1, .int x1)] [] := by
  have B_5 : ∀ (n0 : Nat) (u0 : Nat → Int32) (x1 : Int32) (x2 : Int32) (x3 : Int32) (kh5 : ((Nat → Int32) × Int32) → Option ((Nat → Int32))) (ihh5 : ∀ q, kh5 q = some o → hk_W p l e jr_Arrays_fill s m args below meth c A (hk_Zv below args s D A (wA cI w0 n0 o)) 4 D 0 0 (wA cI w0 n0 q.1) 5 [(0, .ref (w0 0)), (1, .int x1), (2, .int q.2), (3, .int x3)] []) (_ : jf_Arrays_fill_5B N n0 u0 x1 x2 x3 kh5 = some o), hk_W p l e jr_Arrays_fill s m args below meth c A (hk_Zv below args s D A (wA cI w0 n0 o)) 4 D 0 0 (wA cI w0 n0 u0) 5 [(0, .ref (w0 0)), (1, .int x1), (2, .int x2), (3, .int x3)] [] := by
    intro n0 u0 x1 x2 x3 kh5 ihh5 h
    delta jf_Arrays_fill_5B at h
    refine hk_iload_n hC jd_Arrays_fill_5 2 rfl ?_
    refine hk_iload_n hC jd_Arrays_fill_6 3 rfl ?_
    refine hk_icmp_ge (tgt := 20) hC jd_Arrays_fill_7 (by decide) (fun cc1 => ?_) (fun cc1 => ?_)
    · replace h := xi_t h cc1
      obtain rfl := Option.some.inj h
      exact hk_vret hC hr jd_Arrays_fill_20 rfl
    · replace h := xi_f h cc1
      refine hk_aload_n hC jd_Arrays_fill_10 0 rfl ?_
      refine hk_iload_n hC jd_Arrays_fill_11 2 rfl ?_
      refine hk_iload_n hC jd_Arrays_fill_12 1 rfl ?_
      have hr1 := xr_in h
      replace h := xr_go h
      obtain ⟨z1, e_z1, h⟩ := xl_go h
      refine hk_iast hC 0 rfl hr1 e_z1 (ws2 := (wA cI w0 n0 z1)) rfl jd_Arrays_fill_13 ?_
      obtain ⟨v1, e_v1, h⟩ := xl_go h
      refine hk_iinc hC (lv2 := [(2, .int v1), (0, .ref (w0 0)), (1, .int x1), (3, .int x3)]) jd_Arrays_fill_14 2 rfl e_v1 (by decide) rfl ?_
      refine hk_goto (tgt := 5) hC jd_Arrays_fill_17 (by decide) ?_
      exact hk_lv [1, 2, 0, 3] rfl (ihh5 (z1, v1) h)
  have L_5 : ∀ (n0 : Nat) (u0 : Nat → Int32) (x1 : Int32) (x2 : Int32) (x3 : Int32)   (_ : jf_Arrays_fill_5 N n0 u0 x1 x2 x3  = some o), hk_W p l e jr_Arrays_fill s m args below meth c A (hk_Zv below args s D A (wA cI w0 n0 o)) 4 D 0 0 (wA cI w0 n0 u0) 5 [(0, .ref (w0 0)), (1, .int x1), (2, .int x2), (3, .int x3)] [] := by
    intro n0 u0 x1 x2 x3   h
    exact xloopW (fun (q : (Nat → Int32) × Int32) => hk_W p l e jr_Arrays_fill s m args below meth c A (hk_Zv below args s D A (wA cI w0 n0 o)) 4 D 0 0 (wA cI w0 n0 q.1) 5 [(0, .ref (w0 0)), (1, .int x1), (2, .int q.2), (3, .int x3)] []) (fun kh ih q h => B_5 n0 q.1 x1 q.2 x3 kh  ih  h) N (u0, x2) h
  delta jf_Arrays_fill at h
  refine hk_iconst (v := 0) hC jd_Arrays_fill_0 (by decide) ?_
  refine hk_istore_n hC (i := 2) (y := (0 : Int32)) (lv2 := [(2, .int (0 : Int32)), (0, .ref (w0 0)), (1, .int x1)]) jd_Arrays_fill_1 rfl rfl (by decide) rfl ?_
  refine hk_aload_n hC jd_Arrays_fill_2 1 rfl ?_
  refine hk_alen hC 0 rfl jd_Arrays_fill_3 ?_
  obtain ⟨v1, e_v1, h⟩ := xl_go h
  refine hk_istore_n hC (i := 3) (y := v1) (lv2 := [(3, .int v1), (2, .int (0 : Int32)), (0, .ref (w0 0)), (1, .int x1)]) jd_Arrays_fill_4 rfl e_v1 (by decide) rfl ?_
  exact hk_lv [2, 3, 1, 0] rfl (L_5 n0 u0 x1 (0 : Int32) v1   h)
theorem jc_Arrays_fill (l : Launch) (D : va_G) (cI cF : ClassId) (N : Nat) (w0 : Nat → Nat) (n0 : Nat) (u0 : Nat → Int32) (x1 : Int32) {o : (Nat → Int32)} (h : jf_Arrays_fill N n0 u0 x1 = some o) : hk_Mv l jy_Arrays_fill jb_Arrays_fill 4 jr_Arrays_fill D cI cF (wA cI w0 n0 u0) [.ref (w0 0), .int x1] (wA cI w0 n0 o) :=
  hk_metV (by decide) (Nat.le_of_ble_eq_true rfl) rfl rfl (fun p e s m args below meth c A hC hr => jw_Arrays_fill hC hr N w0 n0 u0 x1 h)
set_option maxHeartbeats 8000000 in
set_option maxRecDepth 100000 in
theorem jw_T_isFull {p : Program} {l : Launch} {e : Env} {s : State} {m : MethodId} {args : Array Value} {below : List Frame} {meth : Method} {c : Code} {A : Nat → Prop} {D : va_G} {cI cF : ClassId} (hC : hk_ok p s m args meth c A 1 D cI cF "HayTalk$Text" jb_T_isFull) (hr : meth.sig.returnType = (some .boolean)) (N : Nat) (a : Nat → Nat)  (letters : Nat → Int32) (length : Int32)  {o : Int32} (h : jf_T_isFull N length = some o) : hk_W p l e jr_T_isFull s m args below meth c A (hk_Zi below args s D A o (wT cI a letters length)) 1 D 0 0 (wT cI a letters length) 0 [(0, .ref (a 0))] [] := by
  delta jf_T_isFull at h
  refine hk_aload_n hC jd_T_isFull_0 0 rfl ?_
  refine hk_get hC jk_T 0 rfl 1 (by decide) jq_32 rfl jd_T_isFull_1 ?_
  refine hk_sipush (v := 200) hC jd_T_isFull_4 (by decide) ?_
  refine hk_icmp_lt (tgt := 14) hC jd_T_isFull_7 (by decide) (fun cc1 => ?_) (fun cc1 => ?_)
  · replace h := xi_t h cc1
    refine hk_iconst (v := 0) hC jd_T_isFull_14 (by decide) ?_
    obtain rfl := Option.some.inj h
    exact hk_zret hC hr rfl jd_T_isFull_15 rfl rfl
  · replace h := xi_f h cc1
    refine hk_iconst (v := 1) hC jd_T_isFull_10 (by decide) ?_
    refine hk_goto (tgt := 15) hC jd_T_isFull_11 (by decide) ?_
    obtain rfl := Option.some.inj h
    exact hk_zret hC hr rfl jd_T_isFull_15 rfl rfl
theorem jc_T_isFull (l : Launch) (D : va_G) (cI cF : ClassId) (N : Nat) (a : Nat → Nat)  (letters : Nat → Int32) (length : Int32)  {o : Int32} (h : jf_T_isFull N length = some o) : hk_Mi l jy_T_isFull jb_T_isFull 1 (some .boolean) jr_T_isFull D cI cF (wT cI a letters length) [.ref (a 0)] o (wT cI a letters length) :=
  hk_metI (by decide) (Nat.le_of_ble_eq_true rfl) rfl rfl (fun p e s m args below meth c A hC hr => jw_T_isFull hC hr N a letters length h)
set_option maxHeartbeats 8000000 in
set_option maxRecDepth 100000 in
theorem jw_T_add {p : Program} {l : Launch} {e : Env} {s : State} {m : MethodId} {args : Array Value} {below : List Frame} {meth : Method} {c : Code} {A : Nat → Prop} {D : va_G} {cI cF : ClassId} (hC : hk_ok p s m args meth c A 2 D cI cF "HayTalk$Text" jb_T_add) (hr : meth.sig.returnType = none) (N : Nat) (a : Nat → Nat)  (letters : Nat → Int32) (length : Int32) (x1 : Int32) {o : (Nat → Int32) × Int32} (h : jf_T_add N letters length x1 = some o) : hk_W p l e jr_T_add s m args below meth c A (hk_Zv below args s D A (wT cI a o.1 o.2)) 2 D 0 0 (wT cI a letters length) 0 [(0, .ref (a 0)), (1, .int x1)] [] := by
  delta jf_T_add at h
  refine hk_aload_n hC jd_T_add_0 0 rfl ?_
  obtain ⟨q1, h_q1, h⟩ := xb_go h
  refine hk_callVWi hC (q0 := 0) (jc_T_isFull l D cI cF N a letters length h_q1) jl_T_isFull rfl rfl jq_217 jq_218 jq_219 rfl ⟨by decide, by decide⟩ rfl rfl (Nat.le_of_ble_eq_true rfl) ⟨Nat.zero_le _, Nat.zero_le _⟩ jd_T_add_1 ?_
  refine hk_if_ne (tgt := 29) hC jd_T_add_4 (by decide) (fun cc1 => ?_) (fun cc1 => ?_)
  · replace h := xi_f h cc1
    obtain rfl := Option.some.inj h
    exact hk_vret hC hr jd_T_add_29 rfl
  · replace h := xi_t h cc1
    refine hk_aload_n hC jd_T_add_7 0 rfl ?_
    refine hk_get hC jk_T 0 rfl 0 (by decide) jq_30 rfl jd_T_add_8 ?_
    refine hk_aload_n hC jd_T_add_11 0 rfl ?_
    refine hk_get hC jk_T 0 rfl 1 (by decide) jq_32 rfl jd_T_add_12 ?_
    refine hk_iload_n hC jd_T_add_15 1 rfl ?_
    obtain ⟨q2, h_q2, h⟩ := xb_go h
    refine hk_callSv hC (jc_R_put l D cI cF N (fun _ => (a 1)) 200 letters length x1 h_q2) jl_R_put jq_221 jq_222 rfl ⟨by decide, by decide⟩ [1] rfl (by decide) rfl (ws2 := (wT cI a q2 length)) rfl rfl (Nat.le_of_ble_eq_true rfl) ⟨Nat.zero_le _, Nat.zero_le _⟩ jd_T_add_16 ?_
    refine hk_aload_n hC jd_T_add_19 0 rfl ?_
    refine hk_dup hC jd_T_add_20 rfl ?_
    refine hk_get hC jk_T 0 rfl 1 (by decide) jq_32 rfl jd_T_add_21 ?_
    refine hk_iconst (v := 1) hC jd_T_add_24 (by decide) ?_
    refine hk_iadd hC jd_T_add_25 ?_
    obtain ⟨v1, e_v1, h⟩ := xl_go h
    refine hk_topi e_v1 ?_
    refine hk_put hC jk_T 0 rfl 1 (by decide) jq_32 rfl rfl rfl (Nat.le_of_ble_eq_true rfl) (ws2 := (wT cI a q2 v1)) rfl jd_T_add_26 ?_
    obtain rfl := Option.some.inj h
    exact hk_vret hC hr jd_T_add_29 rfl
theorem jc_T_add (l : Launch) (D : va_G) (cI cF : ClassId) (N : Nat) (a : Nat → Nat)  (letters : Nat → Int32) (length : Int32) (x1 : Int32) {o : (Nat → Int32) × Int32} (h : jf_T_add N letters length x1 = some o) : hk_Mv l jy_T_add jb_T_add 2 jr_T_add D cI cF (wT cI a letters length) [.ref (a 0), .int x1] (wT cI a o.1 o.2) :=
  hk_metV (by decide) (Nat.le_of_ble_eq_true rfl) rfl rfl (fun p e s m args below meth c A hC hr => jw_T_add hC hr N a letters length x1 h)
