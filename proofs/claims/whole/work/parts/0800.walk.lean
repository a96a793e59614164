set_option maxHeartbeats 8000000 in
set_option maxRecDepth 100000 in
theorem jw_R_at {p : Program} {l : Launch} {e : Env} {s : State} {m : MethodId} {args : Array Value} {below : List Frame} {meth : Method} {c : Code} {A : Nat → Prop} {D : va_G} {cI cF : ClassId} (hC : hk_ok p s m args meth c A 2 D cI cF "HayTalk$Rows" jb_R_at) (hr : meth.sig.returnType = (some .int)) (N : Nat) (w0 : Nat → Nat) (n0 : Nat) (u0 : Nat → Int32) (x1 : Int32) {o : Int32} (h : jf_R_at N n0 u0 x1 = some o) : hk_W p l e jr_R_at s m args below meth c A (hk_Zi below args s D A o (wA cI w0 n0 u0)) 2 D 0 0 (wA cI w0 n0 u0) 0 [(0, .ref (w0 0)), (1, .int x1)] [] := by
  delta jf_R_at at h
  refine hk_iload_n hC jd_R_at_0 1 rfl ?_
  refine hk_if_lt (tgt := 16) hC jd_R_at_1 (by decide) (fun cc1 => ?_) (fun cc1 => ?_)
  · replace h := xi_t h cc1
    refine hk_iconst (v := 0) hC jd_R_at_16 (by decide) ?_
    obtain rfl := Option.some.inj h
    exact hk_iret hC hr jd_R_at_17 rfl rfl
  · replace h := xi_f h cc1
    refine hk_iload_n hC jd_R_at_4 1 rfl ?_
    refine hk_aload_n hC jd_R_at_5 0 rfl ?_
    refine hk_alen hC 0 rfl jd_R_at_6 ?_
    refine hk_icmp_ge (tgt := 16) hC jd_R_at_7 (by decide) (fun cc2 => ?_) (fun cc2 => ?_)
    · replace h := xi_t h cc2
      refine hk_iconst (v := 0) hC jd_R_at_16 (by decide) ?_
      obtain rfl := Option.some.inj h
      exact hk_iret hC hr jd_R_at_17 rfl rfl
    · replace h := xi_f h cc2
      refine hk_aload_n hC jd_R_at_10 0 rfl ?_
      refine hk_iload_n hC jd_R_at_11 1 rfl ?_
      have hr1 := xr_in h
      replace h := xr_go h
      refine hk_iald hC 0 rfl hr1 jd_R_at_12 ?_
      refine hk_goto (tgt := 17) hC jd_R_at_13 (by decide) ?_
      obtain rfl := Option.some.inj h
      exact hk_iret hC hr jd_R_at_17 rfl rfl
theorem jc_R_at (l : Launch) (D : va_G) (cI cF : ClassId) (N : Nat) (w0 : Nat → Nat) (n0 : Nat) (u0 : Nat → Int32) (x1 : Int32) {o : Int32} (h : jf_R_at N n0 u0 x1 = some o) : hk_Mi l jy_R_at jb_R_at 2 (some .int) jr_R_at D cI cF (wA cI w0 n0 u0) [.ref (w0 0), .int x1] o (wA cI w0 n0 u0) :=
  hk_metI (by decide) (Nat.le_of_ble_eq_true rfl) rfl rfl (fun p e s m args below meth c A hC hr => jw_R_at hC hr N w0 n0 u0 x1 h)
set_option maxHeartbeats 8000000 in
set_option maxRecDepth 100000 in
theorem jw_R_put {p : Program} {l : Launch} {e : Env} {s : State} {m : MethodId} {args : Array Value} {below : List Frame} {meth : Method} {c : Code} {A : Nat → Prop} {D : va_G} {cI cF : ClassId} (hC : hk_ok p s m args meth c A 3 D cI cF "HayTalk$Rows" jb_R_put) (hr : meth.sig.returnType = none) (N : Nat) (w0 : Nat → Nat) (n0 : Nat) (u0 : Nat → Int32) (x1 : Int32) (x2 : Int32) {o : (Nat → Int32)} (h : jf_R_put N n0 u0 x1 x2 = some o) : hk_W p l e jr_R_put s m args below meth c A (hk_Zv below args s D A (wA cI w0 n0 o)) 3 D 0 0 (wA cI w0 n0 u0) 0 [(0, .ref (w0 0)), (1, .int x1), (2, .int x2)] [] := by
  delta jf_R_put at h
  refine hk_iload_n hC jd_R_put_0 1 rfl ?_
  refine hk_if_lt (tgt := 14) hC jd_R_put_1 (by decide) (fun cc1 => ?_) (fun cc1 => ?_)
  · replace h := xi_t h cc1
    obtain rfl := Option.some.inj h
    exact hk_vret hC hr jd_R_put_14 rfl
  · replace h := xi_f h cc1
    refine hk_iload_n hC jd_R_put_4 1 rfl ?_
    refine hk_aload_n hC jd_R_put_5 0 rfl ?_
    refine hk_alen hC 0 rfl jd_R_put_6 ?_
    refine hk_icmp_ge (tgt := 14) hC jd_R_put_7 (by decide) (fun cc2 => ?_) (fun cc2 => ?_)
    · replace h := xi_t h cc2
      obtain rfl := Option.some.inj h
      exact hk_vret hC hr jd_R_put_14 rfl
    · replace h := xi_f h cc2
      refine hk_aload_n hC jd_R_put_10 0 rfl ?_
      refine hk_iload_n hC jd_R_put_11 1 rfl ?_
      refine hk_iload_n hC jd_R_put_12 2 rfl ?_
      have hr1 := xr_in h
      replace h := xr_go h
      obtain ⟨z1, e_z1, h⟩ := xl_go h
      refine hk_iast hC 0 rfl hr1 e_z1 (ws2 := (wA cI w0 n0 z1)) rfl jd_R_put_13 ?_
      obtain rfl := Option.some.inj h
      exact hk_vret hC hr jd_R_put_14 rfl
theorem jc_R_put (l : Launch) (D : va_G) (cI cF : ClassId) (N : Nat) (w0 : Nat → Nat) (n0 : Nat) (u0 : Nat → Int32) (x1 : Int32) (x2 : Int32) {o : (Nat → Int32)} (h : jf_R_put N n0 u0 x1 x2 = some o) : hk_Mv l jy_R_put jb_R_put 3 jr_R_put D cI cF (wA cI w0 n0 u0) [.ref (w0 0), .int x1, .int x2] (wA cI w0 n0 o) :=
  hk_metV (by decide) (Nat.le_of_ble_eq_true rfl) rfl rfl (fun p e s m args below meth c A hC hr => jw_R_put hC hr N w0 n0 u0 x1 x2 h)
set_option maxHeartbeats 8000000 in
set_option maxRecDepth 100000 in
theorem jw_R_copy {p : Program} {l : Launch} {e : Env} {s : State} {m : MethodId} {args : Array Value} {below : List Frame} {meth : Method} {c : Code} {A : Nat → Prop} {D : va_G} {cI cF : ClassId} (hC : hk_ok p s m args meth c A 3 D cI cF "HayTalk$Rows" jb_R_copy) (hr : meth.sig.returnType = none) (N : Nat) (w0 : Nat → Nat) (w1 : Nat → Nat) (n0 : Nat) (n1 : Nat) (u0 : Nat → Int32) (u1 : Nat → Int32)  {o : (Nat → Int32)} (h : jf_R_copy N n0 n1 u0 u1 = some o) : hk_W p l e jr_R_copy s m args below meth c A (hk_Zv below args s D A ((wA cI w0 n0 u0) ++ (wA cI w1 n1 o))) 3 D 0 0 ((wA cI w0 n0 u0) ++ (wA cI w1 n1 u1)) 0 [(0, .ref (w0 0)), (1, .ref (w1 0))] [] := by
  have B_2 : ∀ (n0 : Nat) (n1 : Nat) (u0 : Nat → Int32) (u1 : Nat → Int32) (x2 : Int32) (kh2 : ((Nat → Int32) × Int32) → Option ((Nat → Int32))) (ihh2 : ∀ q, kh2 q = some o → hk_W p l e jr_R_copy s m args below meth c A (hk_Zv below args s D A ((wA cI w0 n0 u0) ++ (wA cI w1 n1 o))) 3 D 0 0 ((wA cI w0 n0 u0) ++ (wA cI w1 n1 q.1)) 2 [(0, .ref (w0 0)), (1, .ref (w1 0)), (2, .int q.2)] []) (_ : jf_R_copy_2B N n0 n1 u0 u1 x2 kh2 = some o), hk_W p l e jr_R_copy s m args below meth c A (hk_Zv below args s D A ((wA cI w0 n0 u0) ++ (wA cI w1 n1 o))) 3 D 0 0 ((wA cI w0 n0 u0) ++ (wA cI w1 n1 u1)) 2 [(0, .ref (w0 0)), (1, .ref (w1 0)), (2, .int x2)] [] := by
    intro n0 n1 u0 u1 x2 kh2 ihh2 h
    delta jf_R_copy_2B at h
    refine hk_iload_n hC jd_R_copy_2 2 rfl ?_
    refine hk_aload_n hC jd_R_copy_3 0 rfl ?_
    refine hk_alen hC 0 rfl jd_R_copy_4 ?_
    refine hk_icmp_ge (tgt := 26) hC jd_R_copy_5 (by decide) (fun cc1 => ?_) (fun cc1 => ?_)
    · replace h := xi_t h cc1
      obtain rfl := Option.some.inj h
      exact hk_vret hC hr jd_R_copy_26 rfl
    · replace h := xi_f h cc1
      refine hk_iload_n hC jd_R_copy_8 2 rfl ?_
      refine hk_aload_n hC jd_R_copy_9 1 rfl ?_
      refine hk_alen hC 1 rfl jd_R_copy_10 ?_
      refine hk_icmp_ge (tgt := 26) hC jd_R_copy_11 (by decide) (fun cc2 => ?_) (fun cc2 => ?_)
      · replace h := xi_t h cc2
        obtain rfl := Option.some.inj h
        exact hk_vret hC hr jd_R_copy_26 rfl
      · replace h := xi_f h cc2
        refine hk_aload_n hC jd_R_copy_14 1 rfl ?_
        refine hk_iload_n hC jd_R_copy_15 2 rfl ?_
        refine hk_aload_n hC jd_R_copy_16 0 rfl ?_
        refine hk_iload_n hC jd_R_copy_17 2 rfl ?_
        have hr1 := xr_in h
        replace h := xr_go h
        refine hk_iald hC 0 rfl hr1 jd_R_copy_18 ?_
        have hr2 := xr_in h
        replace h := xr_go h
        obtain ⟨z1, e_z1, h⟩ := xl_go h
        refine hk_iast hC 1 rfl hr2 e_z1 (ws2 := ((wA cI w0 n0 u0) ++ (wA cI w1 n1 z1))) rfl jd_R_copy_19 ?_
        obtain ⟨v1, e_v1, h⟩ := xl_go h
        refine hk_iinc hC (lv2 := [(2, .int v1), (0, .ref (w0 0)), (1, .ref (w1 0))]) jd_R_copy_20 2 rfl e_v1 (by decide) rfl ?_
        refine hk_goto (tgt := 2) hC jd_R_copy_23 (by decide) ?_
        exact hk_lv [1, 2, 0] rfl (ihh2 (z1, v1) h)
  have L_2 : ∀ (n0 : Nat) (n1 : Nat) (u0 : Nat → Int32) (u1 : Nat → Int32) (x2 : Int32)   (_ : jf_R_copy_2 N n0 n1 u0 u1 x2  = some o), hk_W p l e jr_R_copy s m args below meth c A (hk_Zv below args s D A ((wA cI w0 n0 u0) ++ (wA cI w1 n1 o))) 3 D 0 0 ((wA cI w0 n0 u0) ++ (wA cI w1 n1 u1)) 2 [(0, .ref (w0 0)), (1, .ref (w1 0)), (2, .int x2)] [] := by
    intro n0 n1 u0 u1 x2   h
    exact xloopW (fun (q : (Nat → Int32) × Int32) => hk_W p l e jr_R_copy s m args below meth c A (hk_Zv below args s D A ((wA cI w0 n0 u0) ++ (wA cI w1 n1 o))) 3 D 0 0 ((wA cI w0 n0 u0) ++ (wA cI w1 n1 q.1)) 2 [(0, .ref (w0 0)), (1, .ref (w1 0)), (2, .int q.2)] []) (fun kh ih q h => B_2 n0 n1 u0 q.1 q.2 kh  ih  h) N (u1, x2) h
  delta jf_R_copy at h
  refine hk_iconst (v := 0) hC jd_R_copy_0 (by decide) ?_
  refine hk_istore_n hC (i := 2) (y := (0 : Int32)) (lv2 := [(2, .int (0 : Int32)), (0, .ref (w0 0)), (1, .ref (w1 0))]) jd_R_copy_1 rfl rfl (by decide) rfl ?_
  exact hk_lv [1, 2, 0] rfl (L_2 n0 n1 u0 u1 (0 : Int32)   h)
theorem jc_R_copy (l : Launch) (D : va_G) (cI cF : ClassId) (N : Nat) (w0 : Nat → Nat) (w1 : Nat → Nat) (n0 : Nat) (n1 : Nat) (u0 : Nat → Int32) (u1 : Nat → Int32)  {o : (Nat → Int32)} (h : jf_R_copy N n0 n1 u0 u1 = some o) : hk_Mv l jy_R_copy jb_R_copy 3 jr_R_copy D cI cF ((wA cI w0 n0 u0) ++ (wA cI w1 n1 u1)) [.ref (w0 0), .ref (w1 0)] ((wA cI w0 n0 u0) ++ (wA cI w1 n1 o)) :=
  hk_metV (by decide) (Nat.le_of_ble_eq_true rfl) rfl rfl (fun p e s m args below meth c A hC hr => jw_R_copy hC hr N w0 w1 n0 n1 u0 u1 h)
set_option maxHeartbeats 8000000 in
set_option maxRecDepth 100000 in
theorem jw_R_sum {p : Program} {l : Launch} {e : Env} {s : State} {m : MethodId} {args : Array Value} {below : List Frame} {meth : Method} {c : Code} {A : Nat → Prop} {D : va_G} {cI cF : ClassId} (hC : hk_ok p s m args meth c A 3 D cI cF "HayTalk$Rows" jb_R_sum) (hr : meth.sig.returnType = (some .int)) (N : Nat) (w0 : Nat → Nat) (n0 : Nat) (u0 : Nat → Int32)  {o : Int32} (h : jf_R_sum N n0 u0 = some o) : hk_W p l e jr_R_sum s m args below meth c A (hk_Zi below args s D A o (wA cI w0 n0 u0)) 3 D 0 0 (wA cI w0 n0 u0) 0 [(0, .ref (w0 0))] [] := by
  have B_4 : ∀ (n0 : Nat) (u0 : Nat → Int32) (x1 : Int32) (x2 : Int32) (kh4 : (Int32 × Int32) → Option (Int32)) (ihh4 : ∀ q, kh4 q = some o → hk_W p l e jr_R_sum s m args below meth c A (hk_Zi below args s D A o (wA cI w0 n0 u0)) 3 D 0 0 (wA cI w0 n0 u0) 4 [(0, .ref (w0 0)), (1, .int q.1), (2, .int q.2)] []) (_ : jf_R_sum_4B N n0 u0 x1 x2 kh4 = some o), hk_W p l e jr_R_sum s m args below meth c A (hk_Zi below args s D A o (wA cI w0 n0 u0)) 3 D 0 0 (wA cI w0 n0 u0) 4 [(0, .ref (w0 0)), (1, .int x1), (2, .int x2)] [] := by
    intro n0 u0 x1 x2 kh4 ihh4 h
    delta jf_R_sum_4B at h
    refine hk_iload_n hC jd_R_sum_4 2 rfl ?_
    refine hk_aload_n hC jd_R_sum_5 0 rfl ?_
    refine hk_alen hC 0 rfl jd_R_sum_6 ?_
    refine hk_icmp_ge (tgt := 22) hC jd_R_sum_7 (by decide) (fun cc1 => ?_) (fun cc1 => ?_)
    · replace h := xi_t h cc1
      refine hk_iload_n hC jd_R_sum_22 1 rfl ?_
      obtain rfl := Option.some.inj h
      exact hk_iret hC hr jd_R_sum_23 rfl rfl
    · replace h := xi_f h cc1
      refine hk_iload_n hC jd_R_sum_10 1 rfl ?_
      refine hk_aload_n hC jd_R_sum_11 0 rfl ?_
      refine hk_iload_n hC jd_R_sum_12 2 rfl ?_
      have hr1 := xr_in h
      replace h := xr_go h
      refine hk_iald hC 0 rfl hr1 jd_R_sum_13 ?_
      refine hk_iadd hC jd_R_sum_14 ?_
      obtain ⟨v1, e_v1, h⟩ := xl_go h
      refine hk_istore_n hC (i := 1) (y := v1) (lv2 := [(1, .int v1), (0, .ref (w0 0)), (2, .int x2)]) jd_R_sum_15 rfl e_v1 (by decide) rfl ?_
      obtain ⟨v2, e_v2, h⟩ := xl_go h
      refine hk_iinc hC (lv2 := [(2, .int v2), (1, .int v1), (0, .ref (w0 0))]) jd_R_sum_16 2 rfl e_v2 (by decide) rfl ?_
      refine hk_goto (tgt := 4) hC jd_R_sum_19 (by decide) ?_
      exact hk_lv [2, 1, 0] rfl (ihh4 (v1, v2) h)
  have L_4 : ∀ (n0 : Nat) (u0 : Nat → Int32) (x1 : Int32) (x2 : Int32)   (_ : jf_R_sum_4 N n0 u0 x1 x2  = some o), hk_W p l e jr_R_sum s m args below meth c A (hk_Zi below args s D A o (wA cI w0 n0 u0)) 3 D 0 0 (wA cI w0 n0 u0) 4 [(0, .ref (w0 0)), (1, .int x1), (2, .int x2)] [] := by
    intro n0 u0 x1 x2   h
    exact xloopW (fun (q : Int32 × Int32) => hk_W p l e jr_R_sum s m args below meth c A (hk_Zi below args s D A o (wA cI w0 n0 u0)) 3 D 0 0 (wA cI w0 n0 u0) 4 [(0, .ref (w0 0)), (1, .int q.1), (2, .int q.2)] []) (fun kh ih q h => B_4 n0 u0 q.1 q.2 kh  ih  h) N (x1, x2) h
  delta jf_R_sum at h
  refine hk_iconst (v := 0) hC jd_R_sum_0 (by decide) ?_
  refine hk_istore_n hC (i := 1) (y := (0 : Int32)) (lv2 := [(1, .int (0 : Int32)), (0, .ref (w0 0))]) jd_R_sum_1 rfl rfl (by decide) rfl ?_
  refine hk_iconst (v := 0) hC jd_R_sum_2 (by decide) ?_
  refine hk_istore_n hC (i := 2) (y := (0 : Int32)) (lv2 := [(2, .int (0 : Int32)), (1, .int (0 : Int32)), (0, .ref (w0 0))]) jd_R_sum_3 rfl rfl (by decide) rfl ?_
  exact hk_lv [2, 1, 0] rfl (L_4 n0 u0 (0 : Int32) (0 : Int32)   h)
theorem jc_R_sum (l : Launch) (D : va_G) (cI cF : ClassId) (N : Nat) (w0 : Nat → Nat) (n0 : Nat) (u0 : Nat → Int32)  {o : Int32} (h : jf_R_sum N n0 u0 = some o) : hk_Mi l jy_R_sum jb_R_sum 3 (some .int) jr_R_sum D cI cF (wA cI w0 n0 u0) [.ref (w0 0)] o (wA cI w0 n0 u0) :=
  hk_metI (by decide) (Nat.le_of_ble_eq_true rfl) rfl rfl (fun p e s m args below meth c A hC hr => jw_R_sum hC hr N w0 n0 u0 h)
