set_option maxHeartbeats 8000000 in
set_option maxRecDepth 100000 in
theorem jw_T_letterAt {p : Program} {l : Launch} {e : Env} {s : State} {m : MethodId} {args : Array Value} {below : List Frame} {meth : Method} {c : Code} {A : Nat → Prop} {D : va_G} {cI cF : ClassId} (hC : hk_ok p s m args meth c A 2 D cI cF "HayTalk$Text" jb_T_letterAt) (hr : meth.sig.returnType = (some .int)) (N : Nat) (a : Nat → Nat)  (letters : Nat → Int32) (length : Int32) (x1 : Int32) {o : Int32} (h : jf_T_letterAt N letters length x1 = some o) : hk_W p l e jr_T_letterAt s m args below meth c A (hk_Zi below args s D A o (wT cI a letters length)) 2 D 0 0 (wT cI a letters length) 0 [(0, .ref (a 0)), (1, .int x1)] [] := by
  delta jf_T_letterAt at h
  refine hk_iload_n hC jd_T_letterAt_0 1 rfl ?_
  refine hk_if_lt (tgt := 30) hC jd_T_letterAt_1 (by decide) (fun cc1 => ?_) (fun cc1 => ?_)
  · replace h := xi_t h cc1
    refine hk_iconst (v := 0) hC jd_T_letterAt_30 (by decide) ?_
    obtain rfl := Option.some.inj h
    exact hk_iret hC hr jd_T_letterAt_31 rfl rfl
  · replace h := xi_f h cc1
    refine hk_iload_n hC jd_T_letterAt_4 1 rfl ?_
    refine hk_aload_n hC jd_T_letterAt_5 0 rfl ?_
    refine hk_get hC jk_T 0 rfl 1 (by decide) jq_32 rfl jd_T_letterAt_6 ?_
    refine hk_icmp_ge (tgt := 30) hC jd_T_letterAt_9 (by decide) (fun cc2 => ?_) (fun cc2 => ?_)
    · replace h := xi_t h cc2
      refine hk_iconst (v := 0) hC jd_T_letterAt_30 (by decide) ?_
      obtain rfl := Option.some.inj h
      exact hk_iret hC hr jd_T_letterAt_31 rfl rfl
    · replace h := xi_f h cc2
      refine hk_iload_n hC jd_T_letterAt_12 1 rfl ?_
      refine hk_aload_n hC jd_T_letterAt_13 0 rfl ?_
      refine hk_get hC jk_T 0 rfl 0 (by decide) jq_30 rfl jd_T_letterAt_14 ?_
      refine hk_alen hC 1 rfl jd_T_letterAt_17 ?_
      refine hk_icmp_ge (tgt := 30) hC jd_T_letterAt_18 (by decide) (fun cc3 => ?_) (fun cc3 => ?_)
      · replace h := xi_t h cc3
        refine hk_iconst (v := 0) hC jd_T_letterAt_30 (by decide) ?_
        obtain rfl := Option.some.inj h
        exact hk_iret hC hr jd_T_letterAt_31 rfl rfl
      · replace h := xi_f h cc3
        refine hk_aload_n hC jd_T_letterAt_21 0 rfl ?_
        refine hk_get hC jk_T 0 rfl 0 (by decide) jq_30 rfl jd_T_letterAt_22 ?_
        refine hk_iload_n hC jd_T_letterAt_25 1 rfl ?_
        have hr1 := xr_in h
        replace h := xr_go h
        refine hk_iald hC 1 rfl hr1 jd_T_letterAt_26 ?_
        refine hk_goto (tgt := 31) hC jd_T_letterAt_27 (by decide) ?_
        obtain rfl := Option.some.inj h
        exact hk_iret hC hr jd_T_letterAt_31 rfl rfl
theorem jc_T_letterAt (l : Launch) (D : va_G) (cI cF : ClassId) (N : Nat) (a : Nat → Nat)  (letters : Nat → Int32) (length : Int32) (x1 : Int32) {o : Int32} (h : jf_T_letterAt N letters length x1 = some o) : hk_Mi l jy_T_letterAt jb_T_letterAt 2 (some .int) jr_T_letterAt D cI cF (wT cI a letters length) [.ref (a 0), .int x1] o (wT cI a letters length) :=
  hk_metI (by decide) (Nat.le_of_ble_eq_true rfl) rfl rfl (fun p e s m args below meth c A hC hr => jw_T_letterAt hC hr N a letters length x1 h)
set_option maxHeartbeats 8000000 in
set_option maxRecDepth 100000 in
theorem jw_T_endFrom {p : Program} {l : Launch} {e : Env} {s : State} {m : MethodId} {args : Array Value} {below : List Frame} {meth : Method} {c : Code} {A : Nat → Prop} {D : va_G} {cI cF : ClassId} (hC : hk_ok p s m args meth c A 3 D cI cF "HayTalk$Text" jb_T_endFrom) (hr : meth.sig.returnType = (some .int)) (N : Nat) (a : Nat → Nat)  (letters : Nat → Int32) (length : Int32) (x1 : Int32) {o : Int32} (h : jf_T_endFrom N letters length x1 = some o) : hk_W p l e jr_T_endFrom s m args below meth c A (hk_Zi below args s D A o (wT cI a letters length)) 3 D 0 0 (wT cI a letters length) 0 [(0, .ref (a 0)), (1, .int x1)] [] := by
  have B_2 : ∀ (letters : Nat → Int32) (length : Int32) (x2 : Int32) (kh2 : (Int32) → Option (Int32)) (ihh2 : ∀ q, kh2 q = some o → hk_W p l e jr_T_endFrom s m args below meth c A (hk_Zi below args s D A o (wT cI a letters length)) 3 D 0 0 (wT cI a letters length) 2 [(0, .ref (a 0)), (2, .int q)] []) (_ : jf_T_endFrom_2B N letters length x2 kh2 = some o), hk_W p l e jr_T_endFrom s m args below meth c A (hk_Zi below args s D A o (wT cI a letters length)) 3 D 0 0 (wT cI a letters length) 2 [(0, .ref (a 0)), (2, .int x2)] [] := by
    intro letters length x2 kh2 ihh2 h
    delta jf_T_endFrom_2B at h
    refine hk_iload_n hC jd_T_endFrom_2 1 rfl ?_
    refine hk_aload_n hC jd_T_endFrom_3 0 rfl ?_
    refine hk_get hC jk_T 0 rfl 1 (by decide) jq_32 rfl jd_T_endFrom_4 ?_
    refine hk_icmp_ge (tgt := 28) hC jd_T_endFrom_7 (by decide) (fun cc1 => ?_) (fun cc1 => ?_)
    · replace h := xi_t h cc1
      refine hk_bipush (v := -4) hC jd_T_endFrom_28 (by decide) ?_
      obtain rfl := Option.some.inj h
      exact hk_iret hC hr jd_T_endFrom_30 rfl rfl
    · replace h := xi_f h cc1
      refine hk_aload_n hC jd_T_endFrom_10 0 rfl ?_
      refine hk_iload_n hC jd_T_endFrom_11 1 rfl ?_
      obtain ⟨q1, h_q1, h⟩ := xb_go h
      refine hk_callVWi hC (q0 := 0) (jc_T_letterAt l D cI cF N a letters length x2 h_q1) jl_T_letterAt rfl rfl jq_232 jq_233 jq_234 rfl ⟨by decide, by decide⟩ rfl rfl (Nat.le_of_ble_eq_true rfl) ⟨Nat.zero_le _, Nat.zero_le _⟩ jd_T_endFrom_12 ?_
      refine hk_bipush (v := 59) hC jd_T_endFrom_15 (by decide) ?_
      refine hk_icmp_ne (tgt := 22) hC jd_T_endFrom_17 (by decide) (fun cc2 => ?_) (fun cc2 => ?_)
      · replace h := xi_f h cc2
        obtain ⟨v1, e_v1, h⟩ := xl_go h
        refine hk_iinc hC (lv2 := [(2, .int v1), (0, .ref (a 0))]) jd_T_endFrom_22 1 rfl e_v1 (by decide) rfl ?_
        refine hk_goto (tgt := 2) hC jd_T_endFrom_25 (by decide) ?_
        exact hk_lv [1, 0] rfl (ihh2 v1 h)
      · replace h := xi_t h cc2
        refine hk_iload_n hC jd_T_endFrom_20 1 rfl ?_
        obtain rfl := Option.some.inj h
        exact hk_iret hC hr jd_T_endFrom_21 rfl rfl
  have L_2 : ∀ (letters : Nat → Int32) (length : Int32) (x2 : Int32)   (_ : jf_T_endFrom_2 N letters length x2  = some o), hk_W p l e jr_T_endFrom s m args below meth c A (hk_Zi below args s D A o (wT cI a letters length)) 3 D 0 0 (wT cI a letters length) 2 [(0, .ref (a 0)), (2, .int x2)] [] := by
    intro letters length x2   h
    exact xloopW (fun (q : Int32) => hk_W p l e jr_T_endFrom s m args below meth c A (hk_Zi below args s D A o (wT cI a letters length)) 3 D 0 0 (wT cI a letters length) 2 [(0, .ref (a 0)), (2, .int q)] []) (fun kh ih q h => B_2 letters length q kh  ih  h) N x2 h
  delta jf_T_endFrom at h
  refine hk_iload_n hC jd_T_endFrom_0 1 rfl ?_
  refine hk_istore_n hC (i := 2) (y := x1) (lv2 := [(2, .int x1), (0, .ref (a 0)), (1, .int x1)]) jd_T_endFrom_1 rfl rfl (by decide) rfl ?_
  exact hk_lv [1, 0] rfl (L_2 letters length x1   h)
theorem jc_T_endFrom (l : Launch) (D : va_G) (cI cF : ClassId) (N : Nat) (a : Nat → Nat)  (letters : Nat → Int32) (length : Int32) (x1 : Int32) {o : Int32} (h : jf_T_endFrom N letters length x1 = some o) : hk_Mi l jy_T_endFrom jb_T_endFrom 3 (some .int) jr_T_endFrom D cI cF (wT cI a letters length) [.ref (a 0), .int x1] o (wT cI a letters length) :=
  hk_metI (by decide) (Nat.le_of_ble_eq_true rfl) rfl rfl (fun p e s m args below meth c A hC hr => jw_T_endFrom hC hr N a letters length x1 h)
set_option maxHeartbeats 8000000 in
set_option maxRecDepth 100000 in
theorem jw_H_isWithin {p : Program} {l : Launch} {e : Env} {s : State} {m : MethodId} {args : Array Value} {below : List Frame} {meth : Method} {c : Code} {A : Nat → Prop} {D : va_G} {cI cF : ClassId} (hC : hk_ok p s m args meth c A 3 D cI cF "HayTalk" jb_H_isWithin) (hr : meth.sig.returnType = (some .boolean)) (N : Nat)    (x0 : Int32) (x1 : Int32) (x2 : Int32) {o : Int32} (h : jf_H_isWithin N x0 x1 x2 = some o) : hk_W p l e jr_H_isWithin s m args below meth c A (hk_Zi below args s D A o ([] : va_W)) 3 D 0 0 ([] : va_W) 0 [(0, .int x0), (1, .int x1), (2, .int x2)] [] := by
  delta jf_H_isWithin at h
  refine hk_iload_n hC jd_H_isWithin_0 0 rfl ?_
  refine hk_iload_n hC jd_H_isWithin_1 1 rfl ?_
  refine hk_icmp_lt (tgt := 14) hC jd_H_isWithin_2 (by decide) (fun cc1 => ?_) (fun cc1 => ?_)
  · replace h := xi_t h cc1
    refine hk_iconst (v := 0) hC jd_H_isWithin_14 (by decide) ?_
    obtain rfl := Option.some.inj h
    exact hk_zret hC hr rfl jd_H_isWithin_15 rfl rfl
  · replace h := xi_f h cc1
    refine hk_iload_n hC jd_H_isWithin_5 0 rfl ?_
    refine hk_iload_n hC jd_H_isWithin_6 2 rfl ?_
    refine hk_icmp_gt (tgt := 14) hC jd_H_isWithin_7 (by decide) (fun cc2 => ?_) (fun cc2 => ?_)
    · replace h := xi_t h cc2
      refine hk_iconst (v := 0) hC jd_H_isWithin_14 (by decide) ?_
      obtain rfl := Option.some.inj h
      exact hk_zret hC hr rfl jd_H_isWithin_15 rfl rfl
    · replace h := xi_f h cc2
      refine hk_iconst (v := 1) hC jd_H_isWithin_10 (by decide) ?_
      refine hk_goto (tgt := 15) hC jd_H_isWithin_11 (by decide) ?_
      obtain rfl := Option.some.inj h
      exact hk_zret hC hr rfl jd_H_isWithin_15 rfl rfl
theorem jc_H_isWithin (l : Launch) (D : va_G) (cI cF : ClassId) (N : Nat)    (x0 : Int32) (x1 : Int32) (x2 : Int32) {o : Int32} (h : jf_H_isWithin N x0 x1 x2 = some o) : hk_Mi l jy_H_isWithin jb_H_isWithin 3 (some .boolean) jr_H_isWithin D cI cF ([] : va_W) [.int x0, .int x1, .int x2] o ([] : va_W) :=
  hk_metI (by decide) (Nat.le_of_ble_eq_true rfl) rfl rfl (fun p e s m args below meth c A hC hr => jw_H_isWithin hC hr N x0 x1 x2 h)
set_option maxHeartbeats 8000000 in
set_option maxRecDepth 100000 in
theorem jw_T_figureAt {p : Program} {l : Launch} {e : Env} {s : State} {m : MethodId} {args : Array Value} {below : List Frame} {meth : Method} {c : Code} {A : Nat → Prop} {D : va_G} {cI cF : ClassId} (hC : hk_ok p s m args meth c A 3 D cI cF "HayTalk$Text" jb_T_figureAt) (hr : meth.sig.returnType = (some .int)) (N : Nat) (a : Nat → Nat)  (letters : Nat → Int32) (length : Int32) (x1 : Int32) {o : Int32} (h : jf_T_figureAt N letters length x1 = some o) : hk_W p l e jr_T_figureAt s m args below meth c A (hk_Zi below args s D A o (wT cI a letters length)) 3 D 0 0 (wT cI a letters length) 0 [(0, .ref (a 0)), (1, .int x1)] [] := by
  delta jf_T_figureAt at h
  refine hk_aload_n hC jd_T_figureAt_0 0 rfl ?_
  refine hk_iload_n hC jd_T_figureAt_1 1 rfl ?_
  obtain ⟨q1, h_q1, h⟩ := xb_go h
  refine hk_callVWi hC (q0 := 0) (jc_T_letterAt l D cI cF N a letters length x1 h_q1) jl_T_letterAt rfl rfl jq_232 jq_233 jq_234 rfl ⟨by decide, by decide⟩ rfl rfl (Nat.le_of_ble_eq_true rfl) ⟨Nat.zero_le _, Nat.zero_le _⟩ jd_T_figureAt_2 ?_
  refine hk_bipush (v := 48) hC jd_T_figureAt_5 (by decide) ?_
  refine hk_isub hC jd_T_figureAt_7 ?_
  obtain ⟨v1, e_v1, h⟩ := xl_go h
  refine hk_istore_n hC (i := 2) (y := v1) (lv2 := [(2, .int v1), (0, .ref (a 0)), (1, .int x1)]) jd_T_figureAt_8 rfl e_v1 (by decide) rfl ?_
  refine hk_iload_n hC jd_T_figureAt_9 0 rfl ?_
  refine hk_iconst (v := 0) hC jd_T_figureAt_10 (by decide) ?_
  refine hk_bipush (v := 9) hC jd_T_figureAt_11 (by decide) ?_
  obtain ⟨q2, h_q2, h⟩ := xb_go h
  refine hk_callN0i hC (jc_H_isWithin l D cI cF N v1 (0 : Int32) (9 : Int32) h_q2) jl_H_isWithin jq_255 jq_249 rfl ⟨by decide, by decide⟩ rfl (Nat.le_of_ble_eq_true rfl) ⟨Nat.zero_le _, Nat.zero_le _⟩ jd_T_figureAt_13 ?_
  refine hk_if_eq (tgt := 23) hC jd_T_figureAt_16 (by decide) (fun cc1 => ?_) (fun cc1 => ?_)
  · replace h := xi_t h cc1
    refine hk_bipush (v := -4) hC jd_T_figureAt_23 (by decide) ?_
    obtain rfl := Option.some.inj h
    exact hk_iret hC hr jd_T_figureAt_25 rfl rfl
  · replace h := xi_f h cc1
    refine hk_iload_n hC jd_T_figureAt_19 0 rfl ?_
    refine hk_goto (tgt := 25) hC jd_T_figureAt_20 (by decide) ?_
    obtain rfl := Option.some.inj h
    exact hk_iret hC hr jd_T_figureAt_25 rfl rfl
theorem jc_T_figureAt (l : Launch) (D : va_G) (cI cF : ClassId) (N : Nat) (a : Nat → Nat)  (letters : Nat → Int32) (length : Int32) (x1 : Int32) {o : Int32} (h : jf_T_figureAt N letters length x1 = some o) : hk_Mi l jy_T_figureAt jb_T_figureAt 3 (some .int) jr_T_figureAt D cI cF (wT cI a letters length) [.ref (a 0), .int x1] o (wT cI a letters length) :=
  hk_metI (by decide) (Nat.le_of_ble_eq_true rfl) rfl rfl (fun p e s m args below meth c A hC hr => jw_T_figureAt hC hr N a letters length x1 h)
