set_option maxHeartbeats 8000000 in
set_option maxRecDepth 100000 in
theorem jw_F_hottestOf {p : Program} {l : Launch} {e : Env} {s : State} {m : MethodId} {args : Array Value} {below : List Frame} {meth : Method} {c : Code} {A : Nat → Prop} {D : va_G} {cI cF : ClassId} (hC : hk_ok p s m args meth c A 4 D cI cF "HayTalk$Field" jb_F_hottestOf) (hr : meth.sig.returnType = (some .int)) (N : Nat) (a : Nat → Nat)  (lying : Nat → Int32) (damp : Nat → Int32) (told : Nat → Int32) (heights : Nat → Int32) (burnt : Nat → Int32) (layerWords : Nat → Int32) (layerWetness : Nat → Int32) (layerHeat : Nat → Int32) (hours : Int32) (x1 : Int32) {o : Int32} (h : jf_F_hottestOf N heights layerHeat x1 = some o) : hk_W p l e jr_F_hottestOf s m args below meth c A (hk_Zi below args s D A o (wF cI a lying damp told heights burnt layerWords layerWetness layerHeat hours)) 4 D 0 0 (wF cI a lying damp told heights burnt layerWords layerWetness layerHeat hours) 0 [(0, .ref (a 0)), (1, .int x1)] [] := by
  have B_4 : ∀ (heights : Nat → Int32) (layerHeat : Nat → Int32) (x1 : Int32) (x2 : Int32) (x3 : Int32) (kh4 : (Int32 × Int32) → Option (Int32)) (ihh4 : ∀ q, kh4 q = some o → hk_W p l e jr_F_hottestOf s m args below meth c A (hk_Zi below args s D A o (wF cI a lying damp told heights burnt layerWords layerWetness layerHeat hours)) 4 D 0 0 (wF cI a lying damp told heights burnt layerWords layerWetness layerHeat hours) 4 [(0, .ref (a 0)), (1, .int x1), (2, .int q.1), (3, .int q.2)] []) (_ : jf_F_hottestOf_4B N heights layerHeat x1 x2 x3 kh4 = some o), hk_W p l e jr_F_hottestOf s m args below meth c A (hk_Zi below args s D A o (wF cI a lying damp told heights burnt layerWords layerWetness layerHeat hours)) 4 D 0 0 (wF cI a lying damp told heights burnt layerWords layerWetness layerHeat hours) 4 [(0, .ref (a 0)), (1, .int x1), (2, .int x2), (3, .int x3)] [] := by
    intro heights layerHeat x1 x2 x3 kh4 ihh4 h
    delta jf_F_hottestOf_4B at h
    refine hk_iload_n hC jd_F_hottestOf_4 3 rfl ?_
    refine hk_aload_n hC jd_F_hottestOf_5 0 rfl ?_
    refine hk_iload_n hC jd_F_hottestOf_6 1 rfl ?_
    obtain ⟨q1, h_q1, h⟩ := xb_go h
    refine hk_callVWi hC (q0 := 0) (jc_F_heightOf l D cI cF N a lying damp told heights burnt layerWords layerWetness layerHeat hours x1 h_q1) jl_F_heightOf rfl rfl jq_384 jq_376 jq_377 rfl ⟨by decide, by decide⟩ rfl rfl (Nat.le_of_ble_eq_true rfl) ⟨Nat.zero_le _, Nat.zero_le _⟩ jd_F_hottestOf_7 ?_
    refine hk_icmp_ge (tgt := 30) hC jd_F_hottestOf_10 (by decide) (fun cc1 => ?_) (fun cc1 => ?_)
    · replace h := xi_t h cc1
      refine hk_iload_n hC jd_F_hottestOf_30 2 rfl ?_
      obtain rfl := Option.some.inj h
      exact hk_iret hC hr jd_F_hottestOf_31 rfl rfl
    · replace h := xi_f h cc1
      refine hk_iload_n hC jd_F_hottestOf_13 2 rfl ?_
      refine hk_aload_n hC jd_F_hottestOf_14 0 rfl ?_
      refine hk_iload_n hC jd_F_hottestOf_15 1 rfl ?_
      refine hk_iload_n hC jd_F_hottestOf_16 3 rfl ?_
      obtain ⟨q2, h_q2, h⟩ := xb_go h
      refine hk_callVWi hC (q0 := 0) (jc_F_heatOf l D cI cF N a lying damp told heights burnt layerWords layerWetness layerHeat hours x1 x3 h_q2) jl_F_heatOf rfl rfl jq_385 jq_386 jq_387 rfl ⟨by decide, by decide⟩ rfl rfl (Nat.le_of_ble_eq_true rfl) ⟨Nat.zero_le _, Nat.zero_le _⟩ jd_F_hottestOf_17 ?_
      obtain ⟨v1, e_v1, h⟩ := xl_go h
      refine hk_mmax hC jq_389 ⟨Nat.le_of_ble_eq_true rfl, Nat.le_of_ble_eq_true rfl, Nat.zero_le _, Nat.zero_le _⟩ e_v1 jd_F_hottestOf_20 ?_
      refine hk_istore_n hC (i := 2) (y := v1) (lv2 := [(2, .int v1), (0, .ref (a 0)), (1, .int x1), (3, .int x3)]) jd_F_hottestOf_23 rfl rfl (by decide) rfl ?_
      obtain ⟨v2, e_v2, h⟩ := xl_go h
      refine hk_iinc hC (lv2 := [(3, .int v2), (2, .int v1), (0, .ref (a 0)), (1, .int x1)]) jd_F_hottestOf_24 3 rfl e_v2 (by decide) rfl ?_
      refine hk_goto (tgt := 4) hC jd_F_hottestOf_27 (by decide) ?_
      exact hk_lv [2, 3, 1, 0] rfl (ihh4 (v1, v2) h)
  have L_4 : ∀ (heights : Nat → Int32) (layerHeat : Nat → Int32) (x1 : Int32) (x2 : Int32) (x3 : Int32)   (_ : jf_F_hottestOf_4 N heights layerHeat x1 x2 x3  = some o), hk_W p l e jr_F_hottestOf s m args below meth c A (hk_Zi below args s D A o (wF cI a lying damp told heights burnt layerWords layerWetness layerHeat hours)) 4 D 0 0 (wF cI a lying damp told heights burnt layerWords layerWetness layerHeat hours) 4 [(0, .ref (a 0)), (1, .int x1), (2, .int x2), (3, .int x3)] [] := by
    intro heights layerHeat x1 x2 x3   h
    exact xloopW (fun (q : Int32 × Int32) => hk_W p l e jr_F_hottestOf s m args below meth c A (hk_Zi below args s D A o (wF cI a lying damp told heights burnt layerWords layerWetness layerHeat hours)) 4 D 0 0 (wF cI a lying damp told heights burnt layerWords layerWetness layerHeat hours) 4 [(0, .ref (a 0)), (1, .int x1), (2, .int q.1), (3, .int q.2)] []) (fun kh ih q h => B_4 heights layerHeat x1 q.1 q.2 kh  ih  h) N (x2, x3) h
  delta jf_F_hottestOf at h
  refine hk_iconst (v := 0) hC jd_F_hottestOf_0 (by decide) ?_
  refine hk_istore_n hC (i := 2) (y := (0 : Int32)) (lv2 := [(2, .int (0 : Int32)), (0, .ref (a 0)), (1, .int x1)]) jd_F_hottestOf_1 rfl rfl (by decide) rfl ?_
  refine hk_iconst (v := 0) hC jd_F_hottestOf_2 (by decide) ?_
  refine hk_istore_n hC (i := 3) (y := (0 : Int32)) (lv2 := [(3, .int (0 : Int32)), (2, .int (0 : Int32)), (0, .ref (a 0)), (1, .int x1)]) jd_F_hottestOf_3 rfl rfl (by decide) rfl ?_
  exact hk_lv [2, 3, 1, 0] rfl (L_4 heights layerHeat x1 (0 : Int32) (0 : Int32)   h)
theorem jc_F_hottestOf (l : Launch) (D : va_G) (cI cF : ClassId) (N : Nat) (a : Nat → Nat)  (lying : Nat → Int32) (damp : Nat → Int32) (told : Nat → Int32) (heights : Nat → Int32) (burnt : Nat → Int32) (layerWords : Nat → Int32) (layerWetness : Nat → Int32) (layerHeat : Nat → Int32) (hours : Int32) (x1 : Int32) {o : Int32} (h : jf_F_hottestOf N heights layerHeat x1 = some o) : hk_Mi l jy_F_hottestOf jb_F_hottestOf 4 (some .int) jr_F_hottestOf D cI cF (wF cI a lying damp told heights burnt layerWords layerWetness layerHeat hours) [.ref (a 0), .int x1] o (wF cI a lying damp told heights burnt layerWords layerWetness layerHeat hours) :=
  hk_metI (by decide) (Nat.le_of_ble_eq_true rfl) rfl rfl (fun p e s m args below meth c A hC hr => jw_F_hottestOf hC hr N a lying damp told heights burnt layerWords layerWetness layerHeat hours x1 h)
set_option maxHeartbeats 8000000 in
set_option maxRecDepth 100000 in
theorem jw_F_wordsOf {p : Program} {l : Launch} {e : Env} {s : State} {m : MethodId} {args : Array Value} {below : List Frame} {meth : Method} {c : Code} {A : Nat → Prop} {D : va_G} {cI cF : ClassId} (hC : hk_ok p s m args meth c A 3 D cI cF "HayTalk$Field" jb_F_wordsOf) (hr : meth.sig.returnType = (some .int)) (N : Nat) (a : Nat → Nat)  (lying : Nat → Int32) (damp : Nat → Int32) (told : Nat → Int32) (heights : Nat → Int32) (burnt : Nat → Int32) (layerWords : Nat → Int32) (layerWetness : Nat → Int32) (layerHeat : Nat → Int32) (hours : Int32) (x1 : Int32) (x2 : Int32) {o : Int32} (h : jf_F_wordsOf N layerWords x1 x2 = some o) : hk_W p l e jr_F_wordsOf s m args below meth c A (hk_Zi below args s D A o (wF cI a lying damp told heights burnt layerWords layerWetness layerHeat hours)) 3 D 0 0 (wF cI a lying damp told heights burnt layerWords layerWetness layerHeat hours) 0 [(0, .ref (a 0)), (1, .int x1), (2, .int x2)] [] := by
  delta jf_F_wordsOf at h
  refine hk_aload_n hC jd_F_wordsOf_0 0 rfl ?_
  refine hk_get hC jk_F 0 rfl 5 (by decide) jq_56 rfl jd_F_wordsOf_1 ?_
  refine hk_iload_n hC jd_F_wordsOf_4 1 rfl ?_
  refine hk_bipush (v := 8) hC jd_F_wordsOf_5 (by decide) ?_
  refine hk_imul hC jd_F_wordsOf_7 ?_
  refine hk_iload_n hC jd_F_wordsOf_8 2 rfl ?_
  refine hk_iadd hC jd_F_wordsOf_9 ?_
  obtain ⟨q1, h_q1, h⟩ := xb_go h
  refine hk_callSi hC (jc_R_at l D cI cF N (fun _ => (a 6)) 24 layerWords ((x1 * (8 : Int32)) + x2) h_q1) jl_R_at jq_379 jq_345 rfl ⟨by decide, by decide⟩ [6] rfl (by decide) rfl (ws2 := (wF cI a lying damp told heights burnt layerWords layerWetness layerHeat hours)) rfl rfl (Nat.le_of_ble_eq_true rfl) ⟨Nat.zero_le _, Nat.zero_le _⟩ jd_F_wordsOf_10 ?_
  obtain rfl := Option.some.inj h
  exact hk_iret hC hr jd_F_wordsOf_13 rfl rfl
theorem jc_F_wordsOf (l : Launch) (D : va_G) (cI cF : ClassId) (N : Nat) (a : Nat → Nat)  (lying : Nat → Int32) (damp : Nat → Int32) (told : Nat → Int32) (heights : Nat → Int32) (burnt : Nat → Int32) (layerWords : Nat → Int32) (layerWetness : Nat → Int32) (layerHeat : Nat → Int32) (hours : Int32) (x1 : Int32) (x2 : Int32) {o : Int32} (h : jf_F_wordsOf N layerWords x1 x2 = some o) : hk_Mi l jy_F_wordsOf jb_F_wordsOf 3 (some .int) jr_F_wordsOf D cI cF (wF cI a lying damp told heights burnt layerWords layerWetness layerHeat hours) [.ref (a 0), .int x1, .int x2] o (wF cI a lying damp told heights burnt layerWords layerWetness layerHeat hours) :=
  hk_metI (by decide) (Nat.le_of_ble_eq_true rfl) rfl rfl (fun p e s m args below meth c A hC hr => jw_F_wordsOf hC hr N a lying damp told heights burnt layerWords layerWetness layerHeat hours x1 x2 h)
set_option maxHeartbeats 8000000 in
set_option maxRecDepth 100000 in
theorem jw_F_wetnessOf {p : Program} {l : Launch} {e : Env} {s : State} {m : MethodId} {args : Array Value} {below : List Frame} {meth : Method} {c : Code} {A : Nat → Prop} {D : va_G} {cI cF : ClassId} (hC : hk_ok p s m args meth c A 3 D cI cF "HayTalk$Field" jb_F_wetnessOf) (hr : meth.sig.returnType = (some .int)) (N : Nat) (a : Nat → Nat)  (lying : Nat → Int32) (damp : Nat → Int32) (told : Nat → Int32) (heights : Nat → Int32) (burnt : Nat → Int32) (layerWords : Nat → Int32) (layerWetness : Nat → Int32) (layerHeat : Nat → Int32) (hours : Int32) (x1 : Int32) (x2 : Int32) {o : Int32} (h : jf_F_wetnessOf N layerWetness x1 x2 = some o) : hk_W p l e jr_F_wetnessOf s m args below meth c A (hk_Zi below args s D A o (wF cI a lying damp told heights burnt layerWords layerWetness layerHeat hours)) 3 D 0 0 (wF cI a lying damp told heights burnt layerWords layerWetness layerHeat hours) 0 [(0, .ref (a 0)), (1, .int x1), (2, .int x2)] [] := by
  delta jf_F_wetnessOf at h
  refine hk_aload_n hC jd_F_wetnessOf_0 0 rfl ?_
  refine hk_get hC jk_F 0 rfl 6 (by decide) jq_57 rfl jd_F_wetnessOf_1 ?_
  refine hk_iload_n hC jd_F_wetnessOf_4 1 rfl ?_
  refine hk_bipush (v := 8) hC jd_F_wetnessOf_5 (by decide) ?_
  refine hk_imul hC jd_F_wetnessOf_7 ?_
  refine hk_iload_n hC jd_F_wetnessOf_8 2 rfl ?_
  refine hk_iadd hC jd_F_wetnessOf_9 ?_
  obtain ⟨q1, h_q1, h⟩ := xb_go h
  refine hk_callSi hC (jc_R_at l D cI cF N (fun _ => (a 7)) 24 layerWetness ((x1 * (8 : Int32)) + x2) h_q1) jl_R_at jq_379 jq_345 rfl ⟨by decide, by decide⟩ [7] rfl (by decide) rfl (ws2 := (wF cI a lying damp told heights burnt layerWords layerWetness layerHeat hours)) rfl rfl (Nat.le_of_ble_eq_true rfl) ⟨Nat.zero_le _, Nat.zero_le _⟩ jd_F_wetnessOf_10 ?_
  obtain rfl := Option.some.inj h
  exact hk_iret hC hr jd_F_wetnessOf_13 rfl rfl
theorem jc_F_wetnessOf (l : Launch) (D : va_G) (cI cF : ClassId) (N : Nat) (a : Nat → Nat)  (lying : Nat → Int32) (damp : Nat → Int32) (told : Nat → Int32) (heights : Nat → Int32) (burnt : Nat → Int32) (layerWords : Nat → Int32) (layerWetness : Nat → Int32) (layerHeat : Nat → Int32) (hours : Int32) (x1 : Int32) (x2 : Int32) {o : Int32} (h : jf_F_wetnessOf N layerWetness x1 x2 = some o) : hk_Mi l jy_F_wetnessOf jb_F_wetnessOf 3 (some .int) jr_F_wetnessOf D cI cF (wF cI a lying damp told heights burnt layerWords layerWetness layerHeat hours) [.ref (a 0), .int x1, .int x2] o (wF cI a lying damp told heights burnt layerWords layerWetness layerHeat hours) :=
  hk_metI (by decide) (Nat.le_of_ble_eq_true rfl) rfl rfl (fun p e s m args below meth c A hC hr => jw_F_wetnessOf hC hr N a lying damp told heights burnt layerWords layerWetness layerHeat hours x1 x2 h)
set_option maxHeartbeats 8000000 in
set_option maxRecDepth 100000 in
theorem jw_F_copyFrom {p : Program} {l : Launch} {e : Env} {s : State} {m : MethodId} {args : Array Value} {below : List Frame} {meth : Method} {c : Code} {A : Nat → Prop} {D : va_G} {cI cF : ClassId} (hC : hk_ok p s m args meth c A 2 D cI cF "HayTalk$Field" jb_F_copyFrom) (hr : meth.sig.returnType = none) (N : Nat) (a : Nat → Nat) (aO : Nat → Nat)  (lying : Nat → Int32) (damp : Nat → Int32) (told : Nat → Int32) (heights : Nat → Int32) (burnt : Nat → Int32) (layerWords : Nat → Int32) (layerWetness : Nat → Int32) (layerHeat : Nat → Int32) (hours : Int32) (o_lying : Nat → Int32) (o_damp : Nat → Int32) (o_told : Nat → Int32) (o_heights : Nat → Int32) (o_burnt : Nat → Int32) (o_layerWords : Nat → Int32) (o_layerWetness : Nat → Int32) (o_layerHeat : Nat → Int32) (o_hours : Int32)  {o : (Nat → Int32) × (Nat → Int32) × (Nat → Int32) × (Nat → Int32) × (Nat → Int32) × (Nat → Int32) × (Nat → Int32) × (Nat → Int32) × Int32} (h : jf_F_copyFrom N lying damp told heights burnt layerWords layerWetness layerHeat hours o_lying o_damp o_told o_heights o_burnt o_layerWords o_layerWetness o_layerHeat o_hours = some o) : hk_W p l e jr_F_copyFrom s m args below meth c A (hk_Zv below args s D A ((wF cI a o.1 o.2.1 o.2.2.1 o.2.2.2.1 o.2.2.2.2.1 o.2.2.2.2.2.1 o.2.2.2.2.2.2.1 o.2.2.2.2.2.2.2.1 o.2.2.2.2.2.2.2.2) ++ (wF cI aO o_lying o_damp o_told o_heights o_burnt o_layerWords o_layerWetness o_layerHeat o_hours))) 2 D 0 0 ((wF cI a lying damp told heights burnt layerWords layerWetness layerHeat hours) ++ (wF cI aO o_lying o_damp o_told o_heights o_burnt o_layerWords o_layerWetness o_layerHeat o_hours)) 0 [(0, .ref (a 0)), (1, .ref (aO 0))] [] := by
  delta jf_F_copyFrom at h
  refine hk_aload_n hC jd_F_copyFrom_0 0 rfl ?_
  refine hk_aload_n hC jd_F_copyFrom_1 1 rfl ?_
  refine hk_get hC jk_F 9 rfl 8 (by decide) jq_59 rfl jd_F_copyFrom_2 ?_
  refine hk_put hC jk_F 0 rfl 8 (by decide) jq_59 rfl rfl rfl (Nat.le_of_ble_eq_true rfl) (ws2 := ((wF cI a lying damp told heights burnt layerWords layerWetness layerHeat o_hours) ++ (wF cI aO o_lying o_damp o_told o_heights o_burnt o_layerWords o_layerWetness o_layerHeat o_hours))) rfl jd_F_copyFrom_5 ?_
  refine hk_aload_n hC jd_F_copyFrom_8 1 rfl ?_
  refine hk_get hC jk_F 9 rfl 0 (by decide) jq_46 rfl jd_F_copyFrom_9 ?_
  refine hk_aload_n hC jd_F_copyFrom_12 0 rfl ?_
  refine hk_get hC jk_F 0 rfl 0 (by decide) jq_46 rfl jd_F_copyFrom_13 ?_
  obtain ⟨q1, h_q1, h⟩ := xb_go h
  refine hk_callSv hC (jc_R_copy l D cI cF N (fun _ => (aO 1)) (fun _ => (a 1)) 5 5 o_lying lying h_q1) jl_R_copy jq_419 jq_420 rfl ⟨by decide, by decide⟩ [10, 1] rfl (by decide) rfl (ws2 := ((wF cI a q1 damp told heights burnt layerWords layerWetness layerHeat o_hours) ++ (wF cI aO o_lying o_damp o_told o_heights o_burnt o_layerWords o_layerWetness o_layerHeat o_hours))) rfl rfl (Nat.le_of_ble_eq_true rfl) ⟨Nat.zero_le _, Nat.zero_le _⟩ jd_F_copyFrom_16 ?_
  refine hk_aload_n hC jd_F_copyFrom_19 1 rfl ?_
  refine hk_get hC jk_F 9 rfl 1 (by decide) jq_48 rfl jd_F_copyFrom_20 ?_
  refine hk_aload_n hC jd_F_copyFrom_23 0 rfl ?_
  refine hk_get hC jk_F 0 rfl 1 (by decide) jq_48 rfl jd_F_copyFrom_24 ?_
  obtain ⟨q2, h_q2, h⟩ := xb_go h
  refine hk_callSv hC (jc_R_copy l D cI cF N (fun _ => (aO 2)) (fun _ => (a 2)) 5 5 o_damp damp h_q2) jl_R_copy jq_419 jq_420 rfl ⟨by decide, by decide⟩ [11, 2] rfl (by decide) rfl (ws2 := ((wF cI a q1 q2 told heights burnt layerWords layerWetness layerHeat o_hours) ++ (wF cI aO o_lying o_damp o_told o_heights o_burnt o_layerWords o_layerWetness o_layerHeat o_hours))) rfl rfl (Nat.le_of_ble_eq_true rfl) ⟨Nat.zero_le _, Nat.zero_le _⟩ jd_F_copyFrom_27 ?_
  refine hk_aload_n hC jd_F_copyFrom_30 1 rfl ?_
  refine hk_get hC jk_F 9 rfl 2 (by decide) jq_50 rfl jd_F_copyFrom_31 ?_
  refine hk_aload_n hC jd_F_copyFrom_34 0 rfl ?_
  refine hk_get hC jk_F 0 rfl 2 (by decide) jq_50 rfl jd_F_copyFrom_35 ?_
  obtain ⟨q3, h_q3, h⟩ := xb_go h
  refine hk_callSv hC (jc_R_copy l D cI cF N (fun _ => (aO 3)) (fun _ => (a 3)) 4 4 o_told told h_q3) jl_R_copy jq_419 jq_420 rfl ⟨by decide, by decide⟩ [12, 3] rfl (by decide) rfl (ws2 := ((wF cI a q1 q2 q3 heights burnt layerWords layerWetness layerHeat o_hours) ++ (wF cI aO o_lying o_damp o_told o_heights o_burnt o_layerWords o_layerWetness o_layerHeat o_hours))) rfl rfl (Nat.le_of_ble_eq_true rfl) ⟨Nat.zero_le _, Nat.zero_le _⟩ jd_F_copyFrom_38 ?_
  refine hk_aload_n hC jd_F_copyFrom_41 1 rfl ?_
  refine hk_get hC jk_F 9 rfl 3 (by decide) jq_52 rfl jd_F_copyFrom_42 ?_
  refine hk_aload_n hC jd_F_copyFrom_45 0 rfl ?_
  refine hk_get hC jk_F 0 rfl 3 (by decide) jq_52 rfl jd_F_copyFrom_46 ?_
  obtain ⟨q4, h_q4, h⟩ := xb_go h
  refine hk_callSv hC (jc_R_copy l D cI cF N (fun _ => (aO 4)) (fun _ => (a 4)) 3 3 o_heights heights h_q4) jl_R_copy jq_419 jq_420 rfl ⟨by decide, by decide⟩ [13, 4] rfl (by decide) rfl (ws2 := ((wF cI a q1 q2 q3 q4 burnt layerWords layerWetness layerHeat o_hours) ++ (wF cI aO o_lying o_damp o_told o_heights o_burnt o_layerWords o_layerWetness o_layerHeat o_hours))) rfl rfl (Nat.le_of_ble_eq_true rfl) ⟨Nat.zero_le _, Nat.zero_le _⟩ jd_F_copyFrom_49 ?_
  refine hk_aload_n hC jd_F_copyFrom_52 1 rfl ?_
  refine hk_get hC jk_F 9 rfl 4 (by decide) jq_54 rfl jd_F_copyFrom_53 ?_
  refine hk_aload_n hC jd_F_copyFrom_56 0 rfl ?_
  refine hk_get hC jk_F 0 rfl 4 (by decide) jq_54 rfl jd_F_copyFrom_57 ?_
  obtain ⟨q5, h_q5, h⟩ := xb_go h
  refine hk_callSv hC (jc_R_copy l D cI cF N (fun _ => (aO 5)) (fun _ => (a 5)) 3 3 o_burnt burnt h_q5) jl_R_copy jq_419 jq_420 rfl ⟨by decide, by decide⟩ [14, 5] rfl (by decide) rfl (ws2 := ((wF cI a q1 q2 q3 q4 q5 layerWords layerWetness layerHeat o_hours) ++ (wF cI aO o_lying o_damp o_told o_heights o_burnt o_layerWords o_layerWetness o_layerHeat o_hours))) rfl rfl (Nat.le_of_ble_eq_true rfl) ⟨Nat.zero_le _, Nat.zero_le _⟩ jd_F_copyFrom_60 ?_
  refine hk_aload_n hC jd_F_copyFrom_63 1 rfl ?_
  refine hk_get hC jk_F 9 rfl 5 (by decide) jq_56 rfl jd_F_copyFrom_64 ?_
  refine hk_aload_n hC jd_F_copyFrom_67 0 rfl ?_
  refine hk_get hC jk_F 0 rfl 5 (by decide) jq_56 rfl jd_F_copyFrom_68 ?_
  obtain ⟨q6, h_q6, h⟩ := xb_go h
  refine hk_callSv hC (jc_R_copy l D cI cF N (fun _ => (aO 6)) (fun _ => (a 6)) 24 24 o_layerWords layerWords h_q6) jl_R_copy jq_419 jq_420 rfl ⟨by decide, by decide⟩ [15, 6] rfl (by decide) rfl (ws2 := ((wF cI a q1 q2 q3 q4 q5 q6 layerWetness layerHeat o_hours) ++ (wF cI aO o_lying o_damp o_told o_heights o_burnt o_layerWords o_layerWetness o_layerHeat o_hours))) rfl rfl (Nat.le_of_ble_eq_true rfl) ⟨Nat.zero_le _, Nat.zero_le _⟩ jd_F_copyFrom_71 ?_
  refine hk_aload_n hC jd_F_copyFrom_74 1 rfl ?_
  refine hk_get hC jk_F 9 rfl 6 (by decide) jq_57 rfl jd_F_copyFrom_75 ?_
  refine hk_aload_n hC jd_F_copyFrom_78 0 rfl ?_
  refine hk_get hC jk_F 0 rfl 6 (by decide) jq_57 rfl jd_F_copyFrom_79 ?_
  obtain ⟨q7, h_q7, h⟩ := xb_go h
  refine hk_callSv hC (jc_R_copy l D cI cF N (fun _ => (aO 7)) (fun _ => (a 7)) 24 24 o_layerWetness layerWetness h_q7) jl_R_copy jq_419 jq_420 rfl ⟨by decide, by decide⟩ [16, 7] rfl (by decide) rfl (ws2 := ((wF cI a q1 q2 q3 q4 q5 q6 q7 layerHeat o_hours) ++ (wF cI aO o_lying o_damp o_told o_heights o_burnt o_layerWords o_layerWetness o_layerHeat o_hours))) rfl rfl (Nat.le_of_ble_eq_true rfl) ⟨Nat.zero_le _, Nat.zero_le _⟩ jd_F_copyFrom_82 ?_
  refine hk_aload_n hC jd_F_copyFrom_85 1 rfl ?_
  refine hk_get hC jk_F 9 rfl 7 (by decide) jq_58 rfl jd_F_copyFrom_86 ?_
  refine hk_aload_n hC jd_F_copyFrom_89 0 rfl ?_
  refine hk_get hC jk_F 0 rfl 7 (by decide) jq_58 rfl jd_F_copyFrom_90 ?_
  obtain ⟨q8, h_q8, h⟩ := xb_go h
  refine hk_callSv hC (jc_R_copy l D cI cF N (fun _ => (aO 8)) (fun _ => (a 8)) 24 24 o_layerHeat layerHeat h_q8) jl_R_copy jq_419 jq_420 rfl ⟨by decide, by decide⟩ [17, 8] rfl (by decide) rfl (ws2 := ((wF cI a q1 q2 q3 q4 q5 q6 q7 q8 o_hours) ++ (wF cI aO o_lying o_damp o_told o_heights o_burnt o_layerWords o_layerWetness o_layerHeat o_hours))) rfl rfl (Nat.le_of_ble_eq_true rfl) ⟨Nat.zero_le _, Nat.zero_le _⟩ jd_F_copyFrom_93 ?_
  obtain rfl := Option.some.inj h
  exact hk_vret hC hr jd_F_copyFrom_96 rfl
theorem jc_F_copyFrom (l : Launch) (D : va_G) (cI cF : ClassId) (N : Nat) (a : Nat → Nat) (aO : Nat → Nat)  (lying : Nat → Int32) (damp : Nat → Int32) (told : Nat → Int32) (heights : Nat → Int32) (burnt : Nat → Int32) (layerWords : Nat → Int32) (layerWetness : Nat → Int32) (layerHeat : Nat → Int32) (hours : Int32) (o_lying : Nat → Int32) (o_damp : Nat → Int32) (o_told : Nat → Int32) (o_heights : Nat → Int32) (o_burnt : Nat → Int32) (o_layerWords : Nat → Int32) (o_layerWetness : Nat → Int32) (o_layerHeat : Nat → Int32) (o_hours : Int32)  {o : (Nat → Int32) × (Nat → Int32) × (Nat → Int32) × (Nat → Int32) × (Nat → Int32) × (Nat → Int32) × (Nat → Int32) × (Nat → Int32) × Int32} (h : jf_F_copyFrom N lying damp told heights burnt layerWords layerWetness layerHeat hours o_lying o_damp o_told o_heights o_burnt o_layerWords o_layerWetness o_layerHeat o_hours = some o) : hk_Mv l jy_F_copyFrom jb_F_copyFrom 2 jr_F_copyFrom D cI cF ((wF cI a lying damp told heights burnt layerWords layerWetness layerHeat hours) ++ (wF cI aO o_lying o_damp o_told o_heights o_burnt o_layerWords o_layerWetness o_layerHeat o_hours)) [.ref (a 0), .ref (aO 0)] ((wF cI a o.1 o.2.1 o.2.2.1 o.2.2.2.1 o.2.2.2.2.1 o.2.2.2.2.2.1 o.2.2.2.2.2.2.1 o.2.2.2.2.2.2.2.1 o.2.2.2.2.2.2.2.2) ++ (wF cI aO o_lying o_damp o_told o_heights o_burnt o_layerWords o_layerWetness o_layerHeat o_hours)) :=
  hk_metV (by decide) (Nat.le_of_ble_eq_true rfl) rfl rfl (fun p e s m args below meth c A hC hr => jw_F_copyFrom hC hr N a aO lying damp told heights burnt layerWords layerWetness layerHeat hours o_lying o_damp o_told o_heights o_burnt o_layerWords o_layerWetness o_layerHeat o_hours h)
