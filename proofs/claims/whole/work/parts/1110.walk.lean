set_option maxHeartbeats 8000000 in
set_option maxRecDepth 100000 in
theorem jw_H_heardBy {p : Program} {l : Launch} {e : Env} {s : State} {m : MethodId} {args : Array Value} {below : List Frame} {meth : Method} {c : Code} {A : Nat → Prop} {D : va_G} {cI cF : ClassId} (hC : hk_ok p s m args meth c A 3 D cI cF "HayTalk" jb_H_heardBy) (hr : meth.sig.returnType = (some .int)) (N : Nat)    (x0 : Int32) (x1 : Int32) (x2 : Int32) {o : Int32} (h : jf_H_heardBy N x0 x1 x2 = some o) : hk_W p l e jr_H_heardBy s m args below meth c A (hk_Zi below args s D A o ([] : va_W)) 3 D 0 0 ([] : va_W) 0 [(0, .int x0), (1, .int x1), (2, .int x2)] [] := by
  delta jf_H_heardBy at h
  refine hk_iload_n hC jd_H_heardBy_0 0 rfl ?_
  by_cases cc1 : x0 = (0 : Int32)
  · replace h := xi_t h cc1
    refine hk_tabIn (tgt := 28) (off := 27) hC jd_H_heardBy_1 (by rw [cc1]; decide) (by rw [cc1]; decide) (by rw [cc1]; rfl) (by decide) ?_
    refine hk_iload_n hC jd_H_heardBy_28 1 rfl ?_
    obtain rfl := Option.some.inj h
    exact hk_iret hC hr jd_H_heardBy_29 rfl rfl
  · replace h := xi_f h cc1
    by_cases cc2 : x0 = (1 : Int32)
    · replace h := xi_t h cc2
      refine hk_tabIn (tgt := 30) (off := 29) hC jd_H_heardBy_1 (by rw [cc2]; decide) (by rw [cc2]; decide) (by rw [cc2]; rfl) (by decide) ?_
      refine hk_iload_n hC jd_H_heardBy_30 1 rfl ?_
      refine hk_sipush (v := 341) hC jd_H_heardBy_31 (by decide) ?_
      refine hk_iand hC jd_H_heardBy_34 ?_
      obtain rfl := Option.some.inj h
      exact hk_iret hC hr jd_H_heardBy_35 rfl rfl
    · replace h := xi_f h cc2
      by_cases cc3 : x0 = (2 : Int32)
      · replace h := xi_t h cc3
        refine hk_tabIn (tgt := 36) (off := 35) hC jd_H_heardBy_1 (by rw [cc3]; decide) (by rw [cc3]; decide) (by rw [cc3]; rfl) (by decide) ?_
        refine hk_iload_n hC jd_H_heardBy_36 1 rfl ?_
        refine hk_iload_n hC jd_H_heardBy_37 1 rfl ?_
        refine hk_ineg hC jd_H_heardBy_38 ?_
        refine hk_iand hC jd_H_heardBy_39 ?_
        obtain rfl := Option.some.inj h
        exact hk_iret hC hr jd_H_heardBy_40 rfl rfl
      · replace h := xi_f h cc3
        refine hk_tabOut (tgt := 41) hC jd_H_heardBy_1 (hk_tabX 3 (by decide) rfl (lt_s (lt_s (lt_s lt_0 cc1) cc2) cc3)) (by decide) ?_
        refine hk_iload_n hC jd_H_heardBy_41 1 rfl ?_
        refine hk_iload_n hC jd_H_heardBy_42 2 rfl ?_
        obtain ⟨q1, h_q1, h⟩ := xb_go h
        refine hk_callS0i hC (jc_H_wordsAboveAll l D cI cF N x1 x2 h_q1) jl_H_wordsAboveAll jq_484 jq_485 rfl ⟨by decide, by decide⟩ rfl (Nat.le_of_ble_eq_true rfl) ⟨Nat.zero_le _, Nat.zero_le _⟩ jd_H_heardBy_43 ?_
        obtain rfl := Option.some.inj h
        exact hk_iret hC hr jd_H_heardBy_46 rfl rfl
theorem jc_H_heardBy (l : Launch) (D : va_G) (cI cF : ClassId) (N : Nat)    (x0 : Int32) (x1 : Int32) (x2 : Int32) {o : Int32} (h : jf_H_heardBy N x0 x1 x2 = some o) : hk_Mi l jy_H_heardBy jb_H_heardBy 3 (some .int) jr_H_heardBy D cI cF ([] : va_W) [.int x0, .int x1, .int x2] o ([] : va_W) :=
  hk_metI (by decide) (Nat.le_of_ble_eq_true rfl) rfl rfl (fun p e s m args below meth c A hC hr => jw_H_heardBy hC hr N x0 x1 x2 h)
set_option maxHeartbeats 8000000 in
set_option maxRecDepth 100000 in
theorem jw_F_freshFor {p : Program} {l : Launch} {e : Env} {s : State} {m : MethodId} {args : Array Value} {below : List Frame} {meth : Method} {c : Code} {A : Nat → Prop} {D : va_G} {cI cF : ClassId} (hC : hk_ok p s m args meth c A 5 D cI cF "HayTalk$Field" jb_F_freshFor) (hr : meth.sig.returnType = (some .int)) (N : Nat) (a : Nat → Nat)  (lying : Nat → Int32) (damp : Nat → Int32) (told : Nat → Int32) (heights : Nat → Int32) (burnt : Nat → Int32) (layerWords : Nat → Int32) (layerWetness : Nat → Int32) (layerHeat : Nat → Int32) (hours : Int32) (x1 : Int32) (x2 : Int32) (x3 : Int32) {o : Int32} (h : jf_F_freshFor N told heights layerWords x1 x2 x3 = some o) : hk_W p l e jr_F_freshFor s m args below meth c A (hk_Zi below args s D A o (wF cI a lying damp told heights burnt layerWords layerWetness layerHeat hours)) 5 D 0 0 (wF cI a lying damp told heights burnt layerWords layerWetness layerHeat hours) 0 [(0, .ref (a 0)), (1, .int x1), (2, .int x2), (3, .int x3)] [] := by
  delta jf_F_freshFor at h
  refine hk_aload_n hC jd_F_freshFor_0 0 rfl ?_
  refine hk_get hC jk_F 0 rfl 2 (by decide) jq_50 rfl jd_F_freshFor_1 ?_
  refine hk_iload_n hC jd_F_freshFor_4 2 rfl ?_
  obtain ⟨q1, h_q1, h⟩ := xb_go h
  refine hk_callSi hC (jc_R_at l D cI cF N (fun _ => (a 3)) 4 told x2 h_q1) jl_R_at jq_379 jq_345 rfl ⟨by decide, by decide⟩ [3] rfl (by decide) rfl (ws2 := (wF cI a lying damp told heights burnt layerWords layerWetness layerHeat hours)) rfl rfl (Nat.le_of_ble_eq_true rfl) ⟨Nat.zero_le _, Nat.zero_le _⟩ jd_F_freshFor_5 ?_
  refine hk_istore hC (i := 4) (y := q1) (lv2 := [(4, .int q1), (0, .ref (a 0)), (1, .int x1), (2, .int x2), (3, .int x3)]) jd_F_freshFor_8 rfl (by decide) rfl ?_
  refine hk_iload_n hC jd_F_freshFor_10 4 rfl ?_
  refine hk_aload_n hC jd_F_freshFor_11 1 rfl ?_
  refine hk_iload_n hC jd_F_freshFor_12 2 rfl ?_
  refine hk_iconst (v := 0) hC jd_F_freshFor_13 (by decide) ?_
  obtain ⟨q2, h_q2, h⟩ := xb_go h
  refine hk_callVWi hC (q0 := 0) (jc_F_wordsFromTop l D cI cF N a lying damp told heights burnt layerWords layerWetness layerHeat hours x1 (0 : Int32) h_q2) jl_F_wordsFromTop rfl rfl jq_476 jq_477 jq_478 rfl ⟨by decide, by decide⟩ rfl rfl (Nat.le_of_ble_eq_true rfl) ⟨Nat.zero_le _, Nat.zero_le _⟩ jd_F_freshFor_14 ?_
  refine hk_iload hC jd_F_freshFor_17 0 rfl ?_
  obtain ⟨q3, h_q3, h⟩ := xb_go h
  refine hk_callN0i hC (jc_H_heardBy l D cI cF N x3 q2 q1 h_q3) jl_H_heardBy jq_481 jq_482 rfl ⟨by decide, by decide⟩ rfl (Nat.le_of_ble_eq_true rfl) ⟨Nat.zero_le _, Nat.zero_le _⟩ jd_F_freshFor_19 ?_
  refine hk_iload hC jd_F_freshFor_22 0 rfl ?_
  refine hk_iconst (v := -1) hC jd_F_freshFor_24 (by decide) ?_
  refine hk_ixor hC jd_F_freshFor_25 ?_
  refine hk_iand hC jd_F_freshFor_26 ?_
  obtain rfl := Option.some.inj h
  exact hk_iret hC hr jd_F_freshFor_27 rfl rfl
theorem jc_F_freshFor (l : Launch) (D : va_G) (cI cF : ClassId) (N : Nat) (a : Nat → Nat)  (lying : Nat → Int32) (damp : Nat → Int32) (told : Nat → Int32) (heights : Nat → Int32) (burnt : Nat → Int32) (layerWords : Nat → Int32) (layerWetness : Nat → Int32) (layerHeat : Nat → Int32) (hours : Int32) (x1 : Int32) (x2 : Int32) (x3 : Int32) {o : Int32} (h : jf_F_freshFor N told heights layerWords x1 x2 x3 = some o) : hk_Mi l jy_F_freshFor jb_F_freshFor 5 (some .int) jr_F_freshFor D cI cF (wF cI a lying damp told heights burnt layerWords layerWetness layerHeat hours) [.ref (a 0), .int x1, .int x2, .int x3] o (wF cI a lying damp told heights burnt layerWords layerWetness layerHeat hours) :=
  hk_metI (by decide) (Nat.le_of_ble_eq_true rfl) rfl rfl (fun p e s m args below meth c A hC hr => jw_F_freshFor hC hr N a lying damp told heights burnt layerWords layerWetness layerHeat hours x1 x2 x3 h)
set_option maxHeartbeats 8000000 in
set_option maxRecDepth 100000 in
theorem jw_F_feed {p : Program} {l : Launch} {e : Env} {s : State} {m : MethodId} {args : Array Value} {below : List Frame} {meth : Method} {c : Code} {A : Nat → Prop} {D : va_G} {cI cF : ClassId} (hC : hk_ok p s m args meth c A 5 D cI cF "HayTalk$Field" jb_F_feed) (hr : meth.sig.returnType = (some .int)) (N : Nat) (a : Nat → Nat)  (lying : Nat → Int32) (damp : Nat → Int32) (told : Nat → Int32) (heights : Nat → Int32) (burnt : Nat → Int32) (layerWords : Nat → Int32) (layerWetness : Nat → Int32) (layerHeat : Nat → Int32) (hours : Int32) (x1 : Int32) (x2 : Int32) (x3 : Int32) {o : Int32 × (Nat → Int32) × (Nat → Int32)} (h : jf_F_feed N told heights layerWords x1 x2 x3 = some o) : hk_W p l e jr_F_feed s m args below meth c A (hk_Zi below args s D A o.1 (wF cI a lying damp o.2.1 o.2.2 burnt layerWords layerWetness layerHeat hours)) 5 D 0 0 (wF cI a lying damp told heights burnt layerWords layerWetness layerHeat hours) 0 [(0, .ref (a 0)), (1, .int x1), (2, .int x2), (3, .int x3)] [] := by
  delta jf_F_feed at h
  refine hk_aload_n hC jd_F_feed_0 0 rfl ?_
  refine hk_iload_n hC jd_F_feed_1 1 rfl ?_
  refine hk_iload_n hC jd_F_feed_2 2 rfl ?_
  refine hk_iload_n hC jd_F_feed_3 3 rfl ?_
  obtain ⟨q1, h_q1, h⟩ := xb_go h
  refine hk_callVWi hC (q0 := 0) (jc_F_freshFor l D cI cF N a lying damp told heights burnt layerWords layerWetness layerHeat hours x1 x2 x3 h_q1) jl_F_freshFor rfl rfl jq_472 jq_473 jq_474 rfl ⟨by decide, by decide⟩ rfl rfl (Nat.le_of_ble_eq_true rfl) ⟨Nat.zero_le _, Nat.zero_le _⟩ jd_F_feed_4 ?_
  refine hk_istore hC (i := 4) (y := q1) (lv2 := [(4, .int q1), (0, .ref (a 0)), (1, .int x1), (2, .int x2), (3, .int x3)]) jd_F_feed_7 rfl (by decide) rfl ?_
  refine hk_aload_n hC jd_F_feed_9 1 rfl ?_
  refine hk_get hC jk_F 0 rfl 2 (by decide) jq_50 rfl jd_F_feed_10 ?_
  refine hk_iload_n hC jd_F_feed_13 3 rfl ?_
  refine hk_aload_n hC jd_F_feed_14 1 rfl ?_
  refine hk_get hC jk_F 0 rfl 2 (by decide) jq_50 rfl jd_F_feed_15 ?_
  refine hk_iload_n hC jd_F_feed_18 3 rfl ?_
  obtain ⟨q2, h_q2, h⟩ := xb_go h
  refine hk_callSi hC (jc_R_at l D cI cF N (fun _ => (a 3)) 4 told x2 h_q2) jl_R_at jq_379 jq_345 rfl ⟨by decide, by decide⟩ [3] rfl (by decide) rfl (ws2 := (wF cI a lying damp told heights burnt layerWords layerWetness layerHeat hours)) rfl rfl (Nat.le_of_ble_eq_true rfl) ⟨Nat.zero_le _, Nat.zero_le _⟩ jd_F_feed_19 ?_
  refine hk_iload hC jd_F_feed_22 0 rfl ?_
  refine hk_ior hC jd_F_feed_24 ?_
  obtain ⟨q3, h_q3, h⟩ := xb_go h
  refine hk_callSv hC (jc_R_put l D cI cF N (fun _ => (a 3)) 4 told x2 (q2 ||| q1) h_q3) jl_R_put jq_439 jq_222 rfl ⟨by decide, by decide⟩ [3] rfl (by decide) rfl (ws2 := (wF cI a lying damp q3 heights burnt layerWords layerWetness layerHeat hours)) rfl rfl (Nat.le_of_ble_eq_true rfl) ⟨Nat.zero_le _, Nat.zero_le _⟩ jd_F_feed_25 ?_
  refine hk_aload_n hC jd_F_feed_28 1 rfl ?_
  refine hk_get hC jk_F 0 rfl 3 (by decide) jq_52 rfl jd_F_feed_29 ?_
  refine hk_iload_n hC jd_F_feed_32 2 rfl ?_
  refine hk_iconst (v := 0) hC jd_F_feed_33 (by decide) ?_
  refine hk_aload_n hC jd_F_feed_34 1 rfl ?_
  refine hk_iload_n hC jd_F_feed_35 2 rfl ?_
  obtain ⟨q4, h_q4, h⟩ := xb_go h
  refine hk_callVWi hC (q0 := 0) (jc_F_heightOf l D cI cF N a lying damp q3 heights burnt layerWords layerWetness layerHeat hours x1 h_q4) jl_F_heightOf rfl rfl jq_384 jq_376 jq_377 rfl ⟨by decide, by decide⟩ rfl rfl (Nat.le_of_ble_eq_true rfl) ⟨Nat.zero_le _, Nat.zero_le _⟩ jd_F_feed_36 ?_
  refine hk_iconst (v := 1) hC jd_F_feed_39 (by decide) ?_
  refine hk_isub hC jd_F_feed_40 ?_
  obtain ⟨v1, e_v1, h⟩ := xl_go h
  refine hk_mmax hC jq_389 ⟨Nat.le_of_ble_eq_true rfl, Nat.le_of_ble_eq_true rfl, Nat.zero_le _, Nat.zero_le _⟩ e_v1 jd_F_feed_41 ?_
  obtain ⟨q5, h_q5, h⟩ := xb_go h
  refine hk_callSv hC (jc_R_put l D cI cF N (fun _ => (a 4)) 3 heights x1 v1 h_q5) jl_R_put jq_439 jq_222 rfl ⟨by decide, by decide⟩ [4] rfl (by decide) rfl (ws2 := (wF cI a lying damp q3 q5 burnt layerWords layerWetness layerHeat hours)) rfl rfl (Nat.le_of_ble_eq_true rfl) ⟨Nat.zero_le _, Nat.zero_le _⟩ jd_F_feed_44 ?_
  refine hk_iload hC jd_F_feed_47 0 rfl ?_
  obtain rfl := Option.some.inj h
  exact hk_iret hC hr jd_F_feed_49 rfl rfl
theorem jc_F_feed (l : Launch) (D : va_G) (cI cF : ClassId) (N : Nat) (a : Nat → Nat)  (lying : Nat → Int32) (damp : Nat → Int32) (told : Nat → Int32) (heights : Nat → Int32) (burnt : Nat → Int32) (layerWords : Nat → Int32) (layerWetness : Nat → Int32) (layerHeat : Nat → Int32) (hours : Int32) (x1 : Int32) (x2 : Int32) (x3 : Int32) {o : Int32 × (Nat → Int32) × (Nat → Int32)} (h : jf_F_feed N told heights layerWords x1 x2 x3 = some o) : hk_Mi l jy_F_feed jb_F_feed 5 (some .int) jr_F_feed D cI cF (wF cI a lying damp told heights burnt layerWords layerWetness layerHeat hours) [.ref (a 0), .int x1, .int x2, .int x3] o.1 (wF cI a lying damp o.2.1 o.2.2 burnt layerWords layerWetness layerHeat hours) :=
  hk_metI (by decide) (Nat.le_of_ble_eq_true rfl) rfl rfl (fun p e s m args below meth c A hC hr => jw_F_feed hC hr N a lying damp told heights burnt layerWords layerWetness layerHeat hours x1 x2 x3 h)
set_option maxHeartbeats 8000000 in
set_option maxRecDepth 100000 in
theorem jw_F_stack {p : Program} {l : Launch} {e : Env} {s : State} {m : MethodId} {args : Array Value} {below : List Frame} {meth : Method} {c : Code} {A : Nat → Prop} {D : va_G} {cI cF : ClassId} (hC : hk_ok p s m args meth c A 5 D cI cF "HayTalk$Field" jb_F_stack) (hr : meth.sig.returnType = none) (N : Nat) (a : Nat → Nat)  (lying : Nat → Int32) (damp : Nat → Int32) (told : Nat → Int32) (heights : Nat → Int32) (burnt : Nat → Int32) (layerWords : Nat → Int32) (layerWetness : Nat → Int32) (layerHeat : Nat → Int32) (hours : Int32) (x1 : Int32) (x2 : Int32) {o : (Nat → Int32) × (Nat → Int32) × (Nat → Int32) × (Nat → Int32)} (h : jf_F_stack N heights layerWords layerWetness layerHeat x1 x2 = some o) : hk_W p l e jr_F_stack s m args below meth c A (hk_Zv below args s D A (wF cI a lying damp told o.1 burnt o.2.1 o.2.2.1 o.2.2.2 hours)) 5 D 0 0 (wF cI a lying damp told heights burnt layerWords layerWetness layerHeat hours) 0 [(0, .ref (a 0)), (1, .int x1), (2, .int x2)] [] := by
  have B_9 : ∀ (heights : Nat → Int32) (layerWords : Nat → Int32) (layerWetness : Nat → Int32) (layerHeat : Nat → Int32) (x1 : Int32) (x2 : Int32) (x3 : Int32) (x4 : Int32) (kh9 : ((Nat → Int32) × (Nat → Int32) × (Nat → Int32) × (Nat → Int32) × Int32) → Option ((Nat → Int32) × (Nat → Int32) × (Nat → Int32) × (Nat → Int32))) (kx47 : ((Nat → Int32) × (Nat → Int32) × (Nat → Int32) × (Nat → Int32)) → Option ((Nat → Int32) × (Nat → Int32) × (Nat → Int32) × (Nat → Int32))) (ihh9 : ∀ q, kh9 q = some o → hk_W p l e jr_F_stack s m args below meth c A (hk_Zv below args s D A (wF cI a lying damp told o.1 burnt o.2.1 o.2.2.1 o.2.2.2 hours)) 5 D 0 0 (wF cI a lying damp told q.1 burnt q.2.1 q.2.2.1 q.2.2.2.1 hours) 9 [(0, .ref (a 0)), (1, .int x1), (2, .int x2), (3, .int x3), (4, .int q.2.2.2.2)] []) (ihx47 : ∀ q, kx47 q = some o → hk_W p l e jr_F_stack s m args below meth c A (hk_Zv below args s D A (wF cI a lying damp told o.1 burnt o.2.1 o.2.2.1 o.2.2.2 hours)) 5 D 0 0 (wF cI a lying damp told q.1 burnt q.2.1 q.2.2.1 q.2.2.2 hours) 47 [(0, .ref (a 0)), (1, .int x1)] []) (_ : jf_F_stack_9B N heights layerWords layerWetness layerHeat x1 x2 x3 x4 kh9 kx47 = some o), hk_W p l e jr_F_stack s m args below meth c A (hk_Zv below args s D A (wF cI a lying damp told o.1 burnt o.2.1 o.2.2.1 o.2.2.2 hours)) 5 D 0 0 (wF cI a lying damp told heights burnt layerWords layerWetness layerHeat hours) 9 [(0, .ref (a 0)), (1, .int x1), (2, .int x2), (3, .int x3), (4, .int x4)] [] := by
    intro heights layerWords layerWetness layerHeat x1 x2 x3 x4 kh9 kx47 ihh9 ihx47 h
    delta jf_F_stack_9B at h
    refine hk_iload hC jd_F_stack_9 4 rfl ?_
    refine hk_iload_n hC jd_F_stack_11 3 rfl ?_
    refine hk_icmp_ge (tgt := 47) hC jd_F_stack_12 (by decide) (fun cc1 => ?_) (fun cc1 => ?_)
    · replace h := xi_t h cc1
      exact hk_lv [0, 1] rfl (ihx47 (heights, layerWords, layerWetness, layerHeat) h)
    · replace h := xi_f h cc1
      refine hk_aload_n hC jd_F_stack_15 0 rfl ?_
      refine hk_iload_n hC jd_F_stack_16 2 rfl ?_
      refine hk_aload_n hC jd_F_stack_17 0 rfl ?_
      refine hk_iload_n hC jd_F_stack_18 1 rfl ?_
      refine hk_iload hC jd_F_stack_19 4 rfl ?_
      obtain ⟨q1, h_q1, h⟩ := xb_go h
      refine hk_callVWi hC (q0 := 0) (jc_F_wordsOf l D cI cF N a lying damp told heights burnt layerWords layerWetness layerHeat hours x1 x4 h_q1) jl_F_wordsOf rfl rfl jq_480 jq_395 jq_396 rfl ⟨by decide, by decide⟩ rfl rfl (Nat.le_of_ble_eq_true rfl) ⟨Nat.zero_le _, Nat.zero_le _⟩ jd_F_stack_21 ?_
      refine hk_aload_n hC jd_F_stack_24 0 rfl ?_
      refine hk_iload_n hC jd_F_stack_25 1 rfl ?_
      refine hk_iload hC jd_F_stack_26 4 rfl ?_
      obtain ⟨q2, h_q2, h⟩ := xb_go h
      refine hk_callVWi hC (q0 := 0) (jc_F_wetnessOf l D cI cF N a lying damp told heights burnt layerWords layerWetness layerHeat hours x1 x4 h_q2) jl_F_wetnessOf rfl rfl jq_438 jq_399 jq_400 rfl ⟨by decide, by decide⟩ rfl rfl (Nat.le_of_ble_eq_true rfl) ⟨Nat.zero_le _, Nat.zero_le _⟩ jd_F_stack_28 ?_
      refine hk_aload_n hC jd_F_stack_31 0 rfl ?_
      refine hk_iload_n hC jd_F_stack_32 1 rfl ?_
      refine hk_iload hC jd_F_stack_33 4 rfl ?_
      obtain ⟨q3, h_q3, h⟩ := xb_go h
      refine hk_callVWi hC (q0 := 0) (jc_F_heatOf l D cI cF N a lying damp told heights burnt layerWords layerWetness layerHeat hours x1 x4 h_q3) jl_F_heatOf rfl rfl jq_385 jq_386 jq_387 rfl ⟨by decide, by decide⟩ rfl rfl (Nat.le_of_ble_eq_true rfl) ⟨Nat.zero_le _, Nat.zero_le _⟩ jd_F_stack_35 ?_
      obtain ⟨q4, h_q4, h⟩ := xb_go h
      refine hk_callVWv hC (q0 := 0) (jc_F_addLayer l D cI cF N a lying damp told heights burnt layerWords layerWetness layerHeat hours x2 q1 q2 q3 h_q4) jl_F_addLayer rfl rfl jq_460 jq_462 jq0_10 rfl ⟨by decide, by decide⟩ rfl rfl (Nat.le_of_ble_eq_true rfl) ⟨Nat.zero_le _, Nat.zero_le _⟩ jd_F_stack_38 ?_
      obtain ⟨v1, e_v1, h⟩ := xl_go h
      refine hk_iinc hC (lv2 := [(4, .int v1), (0, .ref (a 0)), (1, .int x1), (2, .int x2), (3, .int x3)]) jd_F_stack_41 4 rfl e_v1 (by decide) rfl ?_
      refine hk_goto (tgt := 9) hC jd_F_stack_44 (by decide) ?_
      exact hk_lv [1, 2, 3, 4, 0] rfl (ihh9 (q4.1, q4.2.1, q4.2.2.1, q4.2.2.2, v1) h)
  have L_9 : ∀ (heights : Nat → Int32) (layerWords : Nat → Int32) (layerWetness : Nat → Int32) (layerHeat : Nat → Int32) (x1 : Int32) (x2 : Int32) (x3 : Int32) (x4 : Int32) (kx47 : ((Nat → Int32) × (Nat → Int32) × (Nat → Int32) × (Nat → Int32)) → Option ((Nat → Int32) × (Nat → Int32) × (Nat → Int32) × (Nat → Int32))) (ihx47 : ∀ q, kx47 q = some o → hk_W p l e jr_F_stack s m args below meth c A (hk_Zv below args s D A (wF cI a lying damp told o.1 burnt o.2.1 o.2.2.1 o.2.2.2 hours)) 5 D 0 0 (wF cI a lying damp told q.1 burnt q.2.1 q.2.2.1 q.2.2.2 hours) 47 [(0, .ref (a 0)), (1, .int x1)] []) (_ : jf_F_stack_9 N heights layerWords layerWetness layerHeat x1 x2 x3 x4 kx47 = some o), hk_W p l e jr_F_stack s m args below meth c A (hk_Zv below args s D A (wF cI a lying damp told o.1 burnt o.2.1 o.2.2.1 o.2.2.2 hours)) 5 D 0 0 (wF cI a lying damp told heights burnt layerWords layerWetness layerHeat hours) 9 [(0, .ref (a 0)), (1, .int x1), (2, .int x2), (3, .int x3), (4, .int x4)] [] := by
    intro heights layerWords layerWetness layerHeat x1 x2 x3 x4 kx47 ihx47 h
    exact xloopW (fun (q : (Nat → Int32) × (Nat → Int32) × (Nat → Int32) × (Nat → Int32) × Int32) => hk_W p l e jr_F_stack s m args below meth c A (hk_Zv below args s D A (wF cI a lying damp told o.1 burnt o.2.1 o.2.2.1 o.2.2.2 hours)) 5 D 0 0 (wF cI a lying damp told q.1 burnt q.2.1 q.2.2.1 q.2.2.2.1 hours) 9 [(0, .ref (a 0)), (1, .int x1), (2, .int x2), (3, .int x3), (4, .int q.2.2.2.2)] []) (fun kh ih q h => B_9 q.1 q.2.1 q.2.2.1 q.2.2.2.1 x1 x2 x3 q.2.2.2.2 kh kx47 ih ihx47 h) N (heights, layerWords, layerWetness, layerHeat, x4) h
  have B_47 : ∀ (heights : Nat → Int32) (layerWords : Nat → Int32) (layerWetness : Nat → Int32) (layerHeat : Nat → Int32) (x1 : Int32)   (_ : jf_F_stack_47 N heights layerWords layerWetness layerHeat x1  = some o), hk_W p l e jr_F_stack s m args below meth c A (hk_Zv below args s D A (wF cI a lying damp told o.1 burnt o.2.1 o.2.2.1 o.2.2.2 hours)) 5 D 0 0 (wF cI a lying damp told heights burnt layerWords layerWetness layerHeat hours) 47 [(0, .ref (a 0)), (1, .int x1)] [] := by
    intro heights layerWords layerWetness layerHeat x1   h
    delta jf_F_stack_47 at h
    refine hk_aload_n hC jd_F_stack_47 0 rfl ?_
    refine hk_get hC jk_F 0 rfl 3 (by decide) jq_52 rfl jd_F_stack_48 ?_
    refine hk_iload_n hC jd_F_stack_51 1 rfl ?_
    refine hk_iconst (v := 0) hC jd_F_stack_52 (by decide) ?_
    obtain ⟨q1, h_q1, h⟩ := xb_go h
    refine hk_callSv hC (jc_R_put l D cI cF N (fun _ => (a 4)) 3 heights x1 (0 : Int32) h_q1) jl_R_put jq_439 jq_222 rfl ⟨by decide, by decide⟩ [4] rfl (by decide) rfl (ws2 := (wF cI a lying damp told q1 burnt layerWords layerWetness layerHeat hours)) rfl rfl (Nat.le_of_ble_eq_true rfl) ⟨Nat.zero_le _, Nat.zero_le _⟩ jd_F_stack_53 ?_
    obtain rfl := Option.some.inj h
    exact hk_vret hC hr jd_F_stack_56 rfl
  delta jf_F_stack at h
  refine hk_aload_n hC jd_F_stack_0 0 rfl ?_
  refine hk_iload_n hC jd_F_stack_1 1 rfl ?_
  obtain ⟨q1, h_q1, h⟩ := xb_go h
  refine hk_callVWi hC (q0 := 0) (jc_F_heightOf l D cI cF N a lying damp told heights burnt layerWords layerWetness layerHeat hours x1 h_q1) jl_F_heightOf rfl rfl jq_384 jq_376 jq_377 rfl ⟨by decide, by decide⟩ rfl rfl (Nat.le_of_ble_eq_true rfl) ⟨Nat.zero_le _, Nat.zero_le _⟩ jd_F_stack_2 ?_
  refine hk_istore_n hC (i := 3) (y := q1) (lv2 := [(3, .int q1), (0, .ref (a 0)), (1, .int x1), (2, .int x2)]) jd_F_stack_5 rfl rfl (by decide) rfl ?_
  refine hk_iconst (v := 0) hC jd_F_stack_6 (by decide) ?_
  refine hk_istore hC (i := 4) (y := (0 : Int32)) (lv2 := [(4, .int (0 : Int32)), (3, .int q1), (0, .ref (a 0)), (1, .int x1), (2, .int x2)]) jd_F_stack_7 rfl (by decide) rfl ?_
  exact hk_lv [2, 3, 4, 1, 0] rfl (L_9 heights layerWords layerWetness layerHeat x1 x2 q1 (0 : Int32) _ (fun q2 h => by exact (B_47 q2.1 q2.2.1 q2.2.2.1 q2.2.2.2 x1   h)) h)
theorem jc_F_stack (l : Launch) (D : va_G) (cI cF : ClassId) (N : Nat) (a : Nat → Nat)  (lying : Nat → Int32) (damp : Nat → Int32) (told : Nat → Int32) (heights : Nat → Int32) (burnt : Nat → Int32) (layerWords : Nat → Int32) (layerWetness : Nat → Int32) (layerHeat : Nat → Int32) (hours : Int32) (x1 : Int32) (x2 : Int32) {o : (Nat → Int32) × (Nat → Int32) × (Nat → Int32) × (Nat → Int32)} (h : jf_F_stack N heights layerWords layerWetness layerHeat x1 x2 = some o) : hk_Mv l jy_F_stack jb_F_stack 5 jr_F_stack D cI cF (wF cI a lying damp told heights burnt layerWords layerWetness layerHeat hours) [.ref (a 0), .int x1, .int x2] (wF cI a lying damp told o.1 burnt o.2.1 o.2.2.1 o.2.2.2 hours) :=
  hk_metV (by decide) (Nat.le_of_ble_eq_true rfl) rfl rfl (fun p e s m args below meth c A hC hr => jw_F_stack hC hr N a lying damp told heights burnt layerWords layerWetness layerHeat hours x1 x2 h)
