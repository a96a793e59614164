set_option maxHeartbeats 8000000 in
set_option maxRecDepth 100000 in
theorem jw_F_placesOf {p : Program} {l : Launch} {e : Env} {s : State} {m : MethodId} {args : Array Value} {below : List Frame} {meth : Method} {c : Code} {A : Nat → Prop} {D : va_G} {cI cF : ClassId} (hC : hk_ok p s m args meth c A 5 D cI cF "HayTalk$Field" jb_F_placesOf) (hr : meth.sig.returnType = (some .int)) (N : Nat) (a : Nat → Nat)  (lying : Nat → Int32) (damp : Nat → Int32) (told : Nat → Int32) (heights : Nat → Int32) (burnt : Nat → Int32) (layerWords : Nat → Int32) (layerWetness : Nat → Int32) (layerHeat : Nat → Int32) (hours : Int32) (x1 : Int32) (x2 : Int32) {o : Int32} (h : jf_F_placesOf N heights layerWords x1 x2 = some o) : hk_W p l e jr_F_placesOf s m args below meth c A (hk_Zi below args s D A o (wF cI a lying damp told heights burnt layerWords layerWetness layerHeat hours)) 5 D 0 0 (wF cI a lying damp told heights burnt layerWords layerWetness layerHeat hours) 0 [(0, .ref (a 0)), (1, .int x1), (2, .int x2)] [] := by
  have B_36 : ∀ (heights : Nat → Int32) (layerWords : Nat → Int32) (x1 : Int32) (x2 : Int32) (x3 : Int32) (x4 : Int32) (kh5 : (Int32 × Int32) → Option (Int32)) (ihh5 : ∀ q, kh5 q = some o → hk_W p l e jr_F_placesOf s m args below meth c A (hk_Zi below args s D A o (wF cI a lying damp told heights burnt layerWords layerWetness layerHeat hours)) 5 D 0 0 (wF cI a lying damp told heights burnt layerWords layerWetness layerHeat hours) 5 [(0, .ref (a 0)), (1, .int x1), (2, .int x2), (3, .int q.1), (4, .int q.2)] []) (_ : jf_F_placesOf_36 N heights layerWords x1 x2 x3 x4 kh5 = some o), hk_W p l e jr_F_placesOf s m args below meth c A (hk_Zi below args s D A o (wF cI a lying damp told heights burnt layerWords layerWetness layerHeat hours)) 5 D 0 0 (wF cI a lying damp told heights burnt layerWords layerWetness layerHeat hours) 36 [(0, .ref (a 0)), (1, .int x1), (2, .int x2), (3, .int x3), (4, .int x4)] [] := by
    intro heights layerWords x1 x2 x3 x4 kh5 ihh5 h
    delta jf_F_placesOf_36 at h
    obtain ⟨v1, e_v1, h⟩ := xl_go h
    refine hk_iinc hC (lv2 := [(4, .int v1), (0, .ref (a 0)), (1, .int x1), (2, .int x2), (3, .int x3)]) jd_F_placesOf_36 4 rfl e_v1 (by decide) rfl ?_
    refine hk_goto (tgt := 5) hC jd_F_placesOf_39 (by decide) ?_
    exact hk_lv [1, 2, 3, 4, 0] rfl (ihh5 (x3, v1) h)
  have B_5 : ∀ (heights : Nat → Int32) (layerWords : Nat → Int32) (x1 : Int32) (x2 : Int32) (x3 : Int32) (x4 : Int32) (kh5 : (Int32 × Int32) → Option (Int32)) (ihh5 : ∀ q, kh5 q = some o → hk_W p l e jr_F_placesOf s m args below meth c A (hk_Zi below args s D A o (wF cI a lying damp told heights burnt layerWords layerWetness layerHeat hours)) 5 D 0 0 (wF cI a lying damp told heights burnt layerWords layerWetness layerHeat hours) 5 [(0, .ref (a 0)), (1, .int x1), (2, .int x2), (3, .int q.1), (4, .int q.2)] []) (_ : jf_F_placesOf_5B N heights layerWords x1 x2 x3 x4 kh5 = some o), hk_W p l e jr_F_placesOf s m args below meth c A (hk_Zi below args s D A o (wF cI a lying damp told heights burnt layerWords layerWetness layerHeat hours)) 5 D 0 0 (wF cI a lying damp told heights burnt layerWords layerWetness layerHeat hours) 5 [(0, .ref (a 0)), (1, .int x1), (2, .int x2), (3, .int x3), (4, .int x4)] [] := by
    intro heights layerWords x1 x2 x3 x4 kh5 ihh5 h
    delta jf_F_placesOf_5B at h
    refine hk_iload hC jd_F_placesOf_5 4 rfl ?_
    refine hk_aload_n hC jd_F_placesOf_7 0 rfl ?_
    refine hk_iload_n hC jd_F_placesOf_8 1 rfl ?_
    obtain ⟨q1, h_q1, h⟩ := xb_go h
    refine hk_callVWi hC (q0 := 0) (jc_F_heightOf l D cI cF N a lying damp told heights burnt layerWords layerWetness layerHeat hours x1 h_q1) jl_F_heightOf rfl rfl jq_384 jq_376 jq_377 rfl ⟨by decide, by decide⟩ rfl rfl (Nat.le_of_ble_eq_true rfl) ⟨Nat.zero_le _, Nat.zero_le _⟩ jd_F_placesOf_9 ?_
    refine hk_icmp_ge (tgt := 42) hC jd_F_placesOf_12 (by decide) (fun cc1 => ?_) (fun cc1 => ?_)
    · replace h := xi_t h cc1
      refine hk_iload_n hC jd_F_placesOf_42 3 rfl ?_
      obtain rfl := Option.some.inj h
      exact hk_iret hC hr jd_F_placesOf_43 rfl rfl
    · replace h := xi_f h cc1
      refine hk_aload_n hC jd_F_placesOf_15 0 rfl ?_
      refine hk_iload_n hC jd_F_placesOf_16 1 rfl ?_
      refine hk_iload hC jd_F_placesOf_17 4 rfl ?_
      obtain ⟨q2, h_q2, h⟩ := xb_go h
      refine hk_callVWi hC (q0 := 0) (jc_F_wordsOf l D cI cF N a lying damp told heights burnt layerWords layerWetness layerHeat hours x1 x4 h_q2) jl_F_wordsOf rfl rfl jq_480 jq_395 jq_396 rfl ⟨by decide, by decide⟩ rfl rfl (Nat.le_of_ble_eq_true rfl) ⟨Nat.zero_le _, Nat.zero_le _⟩ jd_F_placesOf_19 ?_
      refine hk_iload_n hC jd_F_placesOf_22 2 rfl ?_
      refine hk_ishr hC jd_F_placesOf_23 ?_
      refine hk_iconst (v := 1) hC jd_F_placesOf_24 (by decide) ?_
      refine hk_iand hC jd_F_placesOf_25 ?_
      refine hk_if_eq (tgt := 36) hC jd_F_placesOf_26 (by decide) (fun cc2 => ?_) (fun cc2 => ?_)
      · replace h := xi_t h cc2
        exact (B_36 heights layerWords x1 x2 x3 x4 kh5 ihh5 h)
      · replace h := xi_f h cc2
        refine hk_iload_n hC jd_F_placesOf_29 3 rfl ?_
        refine hk_iload hC jd_F_placesOf_30 4 rfl ?_
        refine hk_iconst (v := 1) hC jd_F_placesOf_32 (by decide) ?_
        refine hk_iadd hC jd_F_placesOf_33 ?_
        refine hk_iadd hC jd_F_placesOf_34 ?_
        obtain ⟨v1, e_v1, h⟩ := xl_go h
        refine hk_istore_n hC (i := 3) (y := v1) (lv2 := [(3, .int v1), (0, .ref (a 0)), (1, .int x1), (2, .int x2), (4, .int x4)]) jd_F_placesOf_35 rfl e_v1 (by decide) rfl ?_
        exact hk_lv [1, 2, 3, 0, 4] rfl (B_36 heights layerWords x1 x2 v1 x4 kh5 ihh5 h)
  have L_5 : ∀ (heights : Nat → Int32) (layerWords : Nat → Int32) (x1 : Int32) (x2 : Int32) (x3 : Int32) (x4 : Int32)   (_ : jf_F_placesOf_5 N heights layerWords x1 x2 x3 x4  = some o), hk_W p l e jr_F_placesOf s m args below meth c A (hk_Zi below args s D A o (wF cI a lying damp told heights burnt layerWords layerWetness layerHeat hours)) 5 D 0 0 (wF cI a lying damp told heights burnt layerWords layerWetness layerHeat hours) 5 [(0, .ref (a 0)), (1, .int x1), (2, .int x2), (3, .int x3), (4, .int x4)] [] := by
    intro heights layerWords x1 x2 x3 x4   h
    exact xloopW (fun (q : Int32 × Int32) => hk_W p l e jr_F_placesOf s m args below meth c A (hk_Zi below args s D A o (wF cI a lying damp told heights burnt layerWords layerWetness layerHeat hours)) 5 D 0 0 (wF cI a lying damp told heights burnt layerWords layerWetness layerHeat hours) 5 [(0, .ref (a 0)), (1, .int x1), (2, .int x2), (3, .int q.1), (4, .int q.2)] []) (fun kh ih q h => B_5 heights layerWords x1 x2 q.1 q.2 kh  ih  h) N (x3, x4) h
  delta jf_F_placesOf at h
  refine hk_iconst (v := 0) hC jd_F_placesOf_0 (by decide) ?_
  refine hk_istore_n hC (i := 3) (y := (0 : Int32)) (lv2 := [(3, .int (0 : Int32)), (0, .ref (a 0)), (1, .int x1), (2, .int x2)]) jd_F_placesOf_1 rfl rfl (by decide) rfl ?_
  refine hk_iconst (v := 0) hC jd_F_placesOf_2 (by decide) ?_
  refine hk_istore hC (i := 4) (y := (0 : Int32)) (lv2 := [(4, .int (0 : Int32)), (3, .int (0 : Int32)), (0, .ref (a 0)), (1, .int x1), (2, .int x2)]) jd_F_placesOf_3 rfl (by decide) rfl ?_
  exact hk_lv [2, 3, 4, 1, 0] rfl (L_5 heights layerWords x1 x2 (0 : Int32) (0 : Int32)   h)
theorem jc_F_placesOf (l : Launch) (D : va_G) (cI cF : ClassId) (N : Nat) (a : Nat → Nat)  (lying : Nat → Int32) (damp : Nat → Int32) (told : Nat → Int32) (heights : Nat → Int32) (burnt : Nat → Int32) (layerWords : Nat → Int32) (layerWetness : Nat → Int32) (layerHeat : Nat → Int32) (hours : Int32) (x1 : Int32) (x2 : Int32) {o : Int32} (h : jf_F_placesOf N heights layerWords x1 x2 = some o) : hk_Mi l jy_F_placesOf jb_F_placesOf 5 (some .int) jr_F_placesOf D cI cF (wF cI a lying damp told heights burnt layerWords layerWetness layerHeat hours) [.ref (a 0), .int x1, .int x2] o (wF cI a lying damp told heights burnt layerWords layerWetness layerHeat hours) :=
  hk_metI (by decide) (Nat.le_of_ble_eq_true rfl) rfl rfl (fun p e s m args below meth c A hC hr => jw_F_placesOf hC hr N a lying damp told heights burnt layerWords layerWetness layerHeat hours x1 x2 h)
set_option maxHeartbeats 8000000 in
set_option maxRecDepth 100000 in
theorem jw_F_wordsTold {p : Program} {l : Launch} {e : Env} {s : State} {m : MethodId} {args : Array Value} {below : List Frame} {meth : Method} {c : Code} {A : Nat → Prop} {D : va_G} {cI cF : ClassId} (hC : hk_ok p s m args meth c A 3 D cI cF "HayTalk$Field" jb_F_wordsTold) (hr : meth.sig.returnType = (some .int)) (N : Nat) (a : Nat → Nat)  (lying : Nat → Int32) (damp : Nat → Int32) (told : Nat → Int32) (heights : Nat → Int32) (burnt : Nat → Int32) (layerWords : Nat → Int32) (layerWetness : Nat → Int32) (layerHeat : Nat → Int32) (hours : Int32)  {o : Int32} (h : jf_F_wordsTold N told = some o) : hk_W p l e jr_F_wordsTold s m args below meth c A (hk_Zi below args s D A o (wF cI a lying damp told heights burnt layerWords layerWetness layerHeat hours)) 3 D 0 0 (wF cI a lying damp told heights burnt layerWords layerWetness layerHeat hours) 0 [(0, .ref (a 0))] [] := by
  have B_4 : ∀ (told : Nat → Int32) (x1 : Int32) (x2 : Int32) (kh4 : (Int32 × Int32) → Option (Int32)) (ihh4 : ∀ q, kh4 q = some o → hk_W p l e jr_F_wordsTold s m args below meth c A (hk_Zi below args s D A o (wF cI a lying damp told heights burnt layerWords layerWetness layerHeat hours)) 3 D 0 0 (wF cI a lying damp told heights burnt layerWords layerWetness layerHeat hours) 4 [(0, .ref (a 0)), (1, .int q.1), (2, .int q.2)] []) (_ : jf_F_wordsTold_4B N told x1 x2 kh4 = some o), hk_W p l e jr_F_wordsTold s m args below meth c A (hk_Zi below args s D A o (wF cI a lying damp told heights burnt layerWords layerWetness layerHeat hours)) 3 D 0 0 (wF cI a lying damp told heights burnt layerWords layerWetness layerHeat hours) 4 [(0, .ref (a 0)), (1, .int x1), (2, .int x2)] [] := by
    intro told x1 x2 kh4 ihh4 h
    delta jf_F_wordsTold_4B at h
    refine hk_iload_n hC jd_F_wordsTold_4 2 rfl ?_
    refine hk_iconst (v := 4) hC jd_F_wordsTold_5 (by decide) ?_
    refine hk_icmp_ge (tgt := 29) hC jd_F_wordsTold_6 (by decide) (fun cc1 => ?_) (fun cc1 => ?_)
    · replace h := xi_t h cc1
      refine hk_iload_n hC jd_F_wordsTold_29 1 rfl ?_
      obtain rfl := Option.some.inj h
      exact hk_iret hC hr jd_F_wordsTold_30 rfl rfl
    · replace h := xi_f h cc1
      refine hk_iload_n hC jd_F_wordsTold_9 1 rfl ?_
      refine hk_aload_n hC jd_F_wordsTold_10 0 rfl ?_
      refine hk_get hC jk_F 0 rfl 2 (by decide) jq_50 rfl jd_F_wordsTold_11 ?_
      refine hk_iload_n hC jd_F_wordsTold_14 2 rfl ?_
      obtain ⟨q1, h_q1, h⟩ := xb_go h
      refine hk_callSi hC (jc_R_at l D cI cF N (fun _ => (a 3)) 4 told x2 h_q1) jl_R_at jq_379 jq_345 rfl ⟨by decide, by decide⟩ [3] rfl (by decide) rfl (ws2 := (wF cI a lying damp told heights burnt layerWords layerWetness layerHeat hours)) rfl rfl (Nat.le_of_ble_eq_true rfl) ⟨Nat.zero_le _, Nat.zero_le _⟩ jd_F_wordsTold_15 ?_
      obtain ⟨q2, h_q2, h⟩ := xb_go h
      refine hk_callS0i hC (jc_Integer_bitCount l D cI cF N q1 h_q2) jl_Integer_bitCount jq_626 jq_537 rfl ⟨by decide, by decide⟩ rfl (Nat.le_of_ble_eq_true rfl) ⟨Nat.zero_le _, Nat.zero_le _⟩ jd_F_wordsTold_18 ?_
      refine hk_iadd hC jd_F_wordsTold_21 ?_
      obtain ⟨v1, e_v1, h⟩ := xl_go h
      refine hk_istore_n hC (i := 1) (y := v1) (lv2 := [(1, .int v1), (0, .ref (a 0)), (2, .int x2)]) jd_F_wordsTold_22 rfl e_v1 (by decide) rfl ?_
      obtain ⟨v2, e_v2, h⟩ := xl_go h
      refine hk_iinc hC (lv2 := [(2, .int v2), (1, .int v1), (0, .ref (a 0))]) jd_F_wordsTold_23 2 rfl e_v2 (by decide) rfl ?_
      refine hk_goto (tgt := 4) hC jd_F_wordsTold_26 (by decide) ?_
      exact hk_lv [2, 1, 0] rfl (ihh4 (v1, v2) h)
  have L_4 : ∀ (told : Nat → Int32) (x1 : Int32) (x2 : Int32)   (_ : jf_F_wordsTold_4 N told x1 x2  = some o), hk_W p l e jr_F_wordsTold s m args below meth c A (hk_Zi below args s D A o (wF cI a lying damp told heights burnt layerWords layerWetness layerHeat hours)) 3 D 0 0 (wF cI a lying damp told heights burnt layerWords layerWetness layerHeat hours) 4 [(0, .ref (a 0)), (1, .int x1), (2, .int x2)] [] := by
    intro told x1 x2   h
    exact xloopW (fun (q : Int32 × Int32) => hk_W p l e jr_F_wordsTold s m args below meth c A (hk_Zi below args s D A o (wF cI a lying damp told heights burnt layerWords layerWetness layerHeat hours)) 3 D 0 0 (wF cI a lying damp told heights burnt layerWords layerWetness layerHeat hours) 4 [(0, .ref (a 0)), (1, .int q.1), (2, .int q.2)] []) (fun kh ih q h => B_4 told q.1 q.2 kh  ih  h) N (x1, x2) h
  delta jf_F_wordsTold at h
  refine hk_iconst (v := 0) hC jd_F_wordsTold_0 (by decide) ?_
  refine hk_istore_n hC (i := 1) (y := (0 : Int32)) (lv2 := [(1, .int (0 : Int32)), (0, .ref (a 0))]) jd_F_wordsTold_1 rfl rfl (by decide) rfl ?_
  refine hk_iconst (v := 0) hC jd_F_wordsTold_2 (by decide) ?_
  refine hk_istore_n hC (i := 2) (y := (0 : Int32)) (lv2 := [(2, .int (0 : Int32)), (1, .int (0 : Int32)), (0, .ref (a 0))]) jd_F_wordsTold_3 rfl rfl (by decide) rfl ?_
  exact hk_lv [2, 1, 0] rfl (L_4 told (0 : Int32) (0 : Int32)   h)
theorem jc_F_wordsTold (l : Launch) (D : va_G) (cI cF : ClassId) (N : Nat) (a : Nat → Nat)  (lying : Nat → Int32) (damp : Nat → Int32) (told : Nat → Int32) (heights : Nat → Int32) (burnt : Nat → Int32) (layerWords : Nat → Int32) (layerWetness : Nat → Int32) (layerHeat : Nat → Int32) (hours : Int32)  {o : Int32} (h : jf_F_wordsTold N told = some o) : hk_Mi l jy_F_wordsTold jb_F_wordsTold 3 (some .int) jr_F_wordsTold D cI cF (wF cI a lying damp told heights burnt layerWords layerWetness layerHeat hours) [.ref (a 0)] o (wF cI a lying damp told heights burnt layerWords layerWetness layerHeat hours) :=
  hk_metI (by decide) (Nat.le_of_ble_eq_true rfl) rfl rfl (fun p e s m args below meth c A hC hr => jw_F_wordsTold hC hr N a lying damp told heights burnt layerWords layerWetness layerHeat hours h)
