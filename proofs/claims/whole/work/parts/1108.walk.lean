set_option maxHeartbeats 8000000 in
set_option maxRecDepth 100000 in
theorem jw_F_heatRick {p : Program} {l : Launch} {e : Env} {s : State} {m : MethodId} {args : Array Value} {below : List Frame} {meth : Method} {c : Code} {A : Nat → Prop} {D : va_G} {cI cF : ClassId} (hC : hk_ok p s m args meth c A 5 D cI cF "HayTalk$Field" jb_F_heatRick) (hr : meth.sig.returnType = none) (N : Nat) (a : Nat → Nat)  (lying : Nat → Int32) (damp : Nat → Int32) (told : Nat → Int32) (heights : Nat → Int32) (burnt : Nat → Int32) (layerWords : Nat → Int32) (layerWetness : Nat → Int32) (layerHeat : Nat → Int32) (hours : Int32) (x1 : Int32) (x2 : Int32) {o : (Nat → Int32) × (Nat → Int32) × (Nat → Int32)} (h : jf_F_heatRick N heights burnt layerWetness layerHeat x1 x2 = some o) : hk_W p l e jr_F_heatRick s m args below meth c A (hk_Zv below args s D A (wF cI a lying damp told o.1 o.2.1 layerWords layerWetness o.2.2 hours)) 5 D 0 0 (wF cI a lying damp told heights burnt layerWords layerWetness layerHeat hours) 0 [(0, .ref (a 0)), (1, .int x1), (2, .int x2)] [] := by
  have B_2 : ∀ (heights : Nat → Int32) (burnt : Nat → Int32) (layerWetness : Nat → Int32) (layerHeat : Nat → Int32) (x1 : Int32) (x2 : Int32) (x3 : Int32) (kh2 : ((Nat → Int32) × Int32) → Option ((Nat → Int32) × (Nat → Int32) × (Nat → Int32))) (kx53 : ((Nat → Int32)) → Option ((Nat → Int32) × (Nat → Int32) × (Nat → Int32))) (ihh2 : ∀ q, kh2 q = some o → hk_W p l e jr_F_heatRick s m args below meth c A (hk_Zv below args s D A (wF cI a lying damp told o.1 o.2.1 layerWords layerWetness o.2.2 hours)) 5 D 0 0 (wF cI a lying damp told heights burnt layerWords layerWetness q.1 hours) 2 [(0, .ref (a 0)), (1, .int x1), (2, .int x2), (3, .int q.2)] []) (ihx53 : ∀ q, kx53 q = some o → hk_W p l e jr_F_heatRick s m args below meth c A (hk_Zv below args s D A (wF cI a lying damp told o.1 o.2.1 layerWords layerWetness o.2.2 hours)) 5 D 0 0 (wF cI a lying damp told heights burnt layerWords layerWetness q hours) 53 [(0, .ref (a 0)), (1, .int x1)] []) (_ : jf_F_heatRick_2B N heights burnt layerWetness layerHeat x1 x2 x3 kh2 kx53 = some o), hk_W p l e jr_F_heatRick s m args below meth c A (hk_Zv below args s D A (wF cI a lying damp told o.1 o.2.1 layerWords layerWetness o.2.2 hours)) 5 D 0 0 (wF cI a lying damp told heights burnt layerWords layerWetness layerHeat hours) 2 [(0, .ref (a 0)), (1, .int x1), (2, .int x2), (3, .int x3)] [] := by
    intro heights burnt layerWetness layerHeat x1 x2 x3 kh2 kx53 ihh2 ihx53 h
    delta jf_F_heatRick_2B at h
    refine hk_iload_n hC jd_F_heatRick_2 3 rfl ?_
    refine hk_aload_n hC jd_F_heatRick_3 0 rfl ?_
    refine hk_iload_n hC jd_F_heatRick_4 1 rfl ?_
    obtain ⟨q1, h_q1, h⟩ := xb_go h
    refine hk_callVWi hC (q0 := 0) (jc_F_heightOf l D cI cF N a lying damp told heights burnt layerWords layerWetness layerHeat hours x1 h_q1) jl_F_heightOf rfl rfl jq_384 jq_376 jq_377 rfl ⟨by decide, by decide⟩ rfl rfl (Nat.le_of_ble_eq_true rfl) ⟨Nat.zero_le _, Nat.zero_le _⟩ jd_F_heatRick_5 ?_
    refine hk_icmp_ge (tgt := 53) hC jd_F_heatRick_8 (by decide) (fun cc1 => ?_) (fun cc1 => ?_)
    · replace h := xi_t h cc1
      exact hk_lv [0, 1] rfl (ihx53 layerHeat h)
    · replace h := xi_f h cc1
      refine hk_iconst (v := 0) hC jd_F_heatRick_11 (by decide) ?_
      refine hk_aload_n hC jd_F_heatRick_12 0 rfl ?_
      refine hk_iload_n hC jd_F_heatRick_13 1 rfl ?_
      refine hk_iload_n hC jd_F_heatRick_14 3 rfl ?_
      obtain ⟨q2, h_q2, h⟩ := xb_go h
      refine hk_callVWi hC (q0 := 0) (jc_F_wetnessOf l D cI cF N a lying damp told heights burnt layerWords layerWetness layerHeat hours x1 x3 h_q2) jl_F_wetnessOf rfl rfl jq_438 jq_399 jq_400 rfl ⟨by decide, by decide⟩ rfl rfl (Nat.le_of_ble_eq_true rfl) ⟨Nat.zero_le _, Nat.zero_le _⟩ jd_F_heatRick_15 ?_
      refine hk_iload_n hC jd_F_heatRick_18 2 rfl ?_
      refine hk_isub hC jd_F_heatRick_19 ?_
      obtain ⟨v1, e_v1, h⟩ := xl_go h
      refine hk_mmax hC jq_389 ⟨Nat.le_of_ble_eq_true rfl, Nat.le_of_ble_eq_true rfl, Nat.zero_le _, Nat.zero_le _⟩ e_v1 jd_F_heatRick_20 ?_
      refine hk_istore hC (i := 4) (y := v1) (lv2 := [(4, .int v1), (0, .ref (a 0)), (1, .int x1), (2, .int x2), (3, .int x3)]) jd_F_heatRick_23 rfl (by decide) rfl ?_
      refine hk_aload_n hC jd_F_heatRick_25 1 rfl ?_
      refine hk_get hC jk_F 0 rfl 7 (by decide) jq_58 rfl jd_F_heatRick_26 ?_
      refine hk_iload_n hC jd_F_heatRick_29 2 rfl ?_
      refine hk_bipush (v := 8) hC jd_F_heatRick_30 (by decide) ?_
      refine hk_imul hC jd_F_heatRick_32 ?_
      refine hk_iload_n hC jd_F_heatRick_33 4 rfl ?_
      refine hk_iadd hC jd_F_heatRick_34 ?_
      refine hk_aload_n hC jd_F_heatRick_35 1 rfl ?_
      refine hk_iload_n hC jd_F_heatRick_36 2 rfl ?_
      refine hk_iload_n hC jd_F_heatRick_37 4 rfl ?_
      obtain ⟨q3, h_q3, h⟩ := xb_go h
      refine hk_callVWi hC (q0 := 0) (jc_F_heatOf l D cI cF N a lying damp told heights burnt layerWords layerWetness layerHeat hours x1 x3 h_q3) jl_F_heatOf rfl rfl jq_385 jq_386 jq_387 rfl ⟨by decide, by decide⟩ rfl rfl (Nat.le_of_ble_eq_true rfl) ⟨Nat.zero_le _, Nat.zero_le _⟩ jd_F_heatRick_38 ?_
      refine hk_iload hC jd_F_heatRick_41 0 rfl ?_
      refine hk_iadd hC jd_F_heatRick_43 ?_
      obtain ⟨q4, h_q4, h⟩ := xb_go h
      refine hk_callSv hC (jc_R_put l D cI cF N (fun _ => (a 8)) 24 layerHeat ((x1 * (8 : Int32)) + x3) (q3 + v1) h_q4) jl_R_put jq_439 jq_222 rfl ⟨by decide, by decide⟩ [8] rfl (by decide) rfl (ws2 := (wF cI a lying damp told heights burnt layerWords layerWetness q4 hours)) rfl rfl (Nat.le_of_ble_eq_true rfl) ⟨Nat.zero_le _, Nat.zero_le _⟩ jd_F_heatRick_44 ?_
      obtain ⟨v2, e_v2, h⟩ := xl_go h
      refine hk_iinc hC (lv2 := [(3, .int v2), (4, .int v1), (0, .ref (a 0)), (1, .int x1), (2, .int x2)]) jd_F_heatRick_47 4 rfl e_v2 (by decide) rfl ?_
      refine hk_goto (tgt := 2) hC jd_F_heatRick_50 (by decide) ?_
      exact hk_lv [2, 3, 4, 0] rfl (ihh2 (q4, v2) h)
  have L_2 : ∀ (heights : Nat → Int32) (burnt : Nat → Int32) (layerWetness : Nat → Int32) (layerHeat : Nat → Int32) (x1 : Int32) (x2 : Int32) (x3 : Int32) (kx53 : ((Nat → Int32)) → Option ((Nat → Int32) × (Nat → Int32) × (Nat → Int32))) (ihx53 : ∀ q, kx53 q = some o → hk_W p l e jr_F_heatRick s m args below meth c A (hk_Zv below args s D A (wF cI a lying damp told o.1 o.2.1 layerWords layerWetness o.2.2 hours)) 5 D 0 0 (wF cI a lying damp told heights burnt layerWords layerWetness q hours) 53 [(0, .ref (a 0)), (1, .int x1)] []) (_ : jf_F_heatRick_2 N heights burnt layerWetness layerHeat x1 x2 x3 kx53 = some o), hk_W p l e jr_F_heatRick s m args below meth c A (hk_Zv below args s D A (wF cI a lying damp told o.1 o.2.1 layerWords layerWetness o.2.2 hours)) 5 D 0 0 (wF cI a lying damp told heights burnt layerWords layerWetness layerHeat hours) 2 [(0, .ref (a 0)), (1, .int x1), (2, .int x2), (3, .int x3)] [] := by
    intro heights burnt layerWetness layerHeat x1 x2 x3 kx53 ihx53 h
    exact xloopW (fun (q : (Nat → Int32) × Int32) => hk_W p l e jr_F_heatRick s m args below meth c A (hk_Zv below args s D A (wF cI a lying damp told o.1 o.2.1 layerWords layerWetness o.2.2 hours)) 5 D 0 0 (wF cI a lying damp told heights burnt layerWords layerWetness q.1 hours) 2 [(0, .ref (a 0)), (1, .int x1), (2, .int x2), (3, .int q.2)] []) (fun kh ih q h => B_2 heights burnt layerWetness q.1 x1 x2 q.2 kh kx53 ih ihx53 h) N (layerHeat, x3) h
  have B_53 : ∀ (heights : Nat → Int32) (burnt : Nat → Int32) (layerWetness : Nat → Int32) (layerHeat : Nat → Int32) (x1 : Int32)   (_ : jf_F_heatRick_53 N heights burnt layerWetness layerHeat x1  = some o), hk_W p l e jr_F_heatRick s m args below meth c A (hk_Zv below args s D A (wF cI a lying damp told o.1 o.2.1 layerWords layerWetness o.2.2 hours)) 5 D 0 0 (wF cI a lying damp told heights burnt layerWords layerWetness layerHeat hours) 53 [(0, .ref (a 0)), (1, .int x1)] [] := by
    intro heights burnt layerWetness layerHeat x1   h
    delta jf_F_heatRick_53 at h
    refine hk_aload_n hC jd_F_heatRick_53 0 rfl ?_
    refine hk_iload_n hC jd_F_heatRick_54 1 rfl ?_
    obtain ⟨q1, h_q1, h⟩ := xb_go h
    refine hk_callVWi hC (q0 := 0) (jc_F_hottestOf l D cI cF N a lying damp told heights burnt layerWords layerWetness layerHeat hours x1 h_q1) jl_F_hottestOf rfl rfl jq_440 jq_381 jq_382 rfl ⟨by decide, by decide⟩ rfl rfl (Nat.le_of_ble_eq_true rfl) ⟨Nat.zero_le _, Nat.zero_le _⟩ jd_F_heatRick_55 ?_
    refine hk_bipush (v := 40) hC jd_F_heatRick_58 (by decide) ?_
    refine hk_icmp_lt (tgt := 90) hC jd_F_heatRick_60 (by decide) (fun cc1 => ?_) (fun cc1 => ?_)
    · replace h := xi_t h cc1
      obtain rfl := Option.some.inj h
      exact hk_vret hC hr jd_F_heatRick_90 rfl
    · replace h := xi_f h cc1
      refine hk_aload_n hC jd_F_heatRick_63 0 rfl ?_
      refine hk_get hC jk_F 0 rfl 3 (by decide) jq_52 rfl jd_F_heatRick_64 ?_
      refine hk_iload_n hC jd_F_heatRick_67 1 rfl ?_
      refine hk_iconst (v := 0) hC jd_F_heatRick_68 (by decide) ?_
      obtain ⟨q2, h_q2, h⟩ := xb_go h
      refine hk_callSv hC (jc_R_put l D cI cF N (fun _ => (a 4)) 3 heights x1 (0 : Int32) h_q2) jl_R_put jq_439 jq_222 rfl ⟨by decide, by decide⟩ [4] rfl (by decide) rfl (ws2 := (wF cI a lying damp told q2 burnt layerWords layerWetness layerHeat hours)) rfl rfl (Nat.le_of_ble_eq_true rfl) ⟨Nat.zero_le _, Nat.zero_le _⟩ jd_F_heatRick_69 ?_
      refine hk_aload_n hC jd_F_heatRick_72 0 rfl ?_
      refine hk_get hC jk_F 0 rfl 4 (by decide) jq_54 rfl jd_F_heatRick_73 ?_
      refine hk_iload_n hC jd_F_heatRick_76 1 rfl ?_
      refine hk_aload_n hC jd_F_heatRick_77 0 rfl ?_
      refine hk_get hC jk_F 0 rfl 4 (by decide) jq_54 rfl jd_F_heatRick_78 ?_
      refine hk_iload_n hC jd_F_heatRick_81 1 rfl ?_
      obtain ⟨q3, h_q3, h⟩ := xb_go h
      refine hk_callSi hC (jc_R_at l D cI cF N (fun _ => (a 5)) 3 burnt x1 h_q3) jl_R_at jq_379 jq_345 rfl ⟨by decide, by decide⟩ [5] rfl (by decide) rfl (ws2 := (wF cI a lying damp told q2 burnt layerWords layerWetness layerHeat hours)) rfl rfl (Nat.le_of_ble_eq_true rfl) ⟨Nat.zero_le _, Nat.zero_le _⟩ jd_F_heatRick_82 ?_
      refine hk_iconst (v := 1) hC jd_F_heatRick_85 (by decide) ?_
      refine hk_iadd hC jd_F_heatRick_86 ?_
      obtain ⟨q4, h_q4, h⟩ := xb_go h
      refine hk_callSv hC (jc_R_put l D cI cF N (fun _ => (a 5)) 3 burnt x1 (q3 + (1 : Int32)) h_q4) jl_R_put jq_439 jq_222 rfl ⟨by decide, by decide⟩ [5] rfl (by decide) rfl (ws2 := (wF cI a lying damp told q2 q4 layerWords layerWetness layerHeat hours)) rfl rfl (Nat.le_of_ble_eq_true rfl) ⟨Nat.zero_le _, Nat.zero_le _⟩ jd_F_heatRick_87 ?_
      obtain rfl := Option.some.inj h
      exact hk_vret hC hr jd_F_heatRick_90 rfl
  delta jf_F_heatRick at h
  refine hk_iconst (v := 0) hC jd_F_heatRick_0 (by decide) ?_
  refine hk_istore_n hC (i := 3) (y := (0 : Int32)) (lv2 := [(3, .int (0 : Int32)), (0, .ref (a 0)), (1, .int x1), (2, .int x2)]) jd_F_heatRick_1 rfl rfl (by decide) rfl ?_
  exact hk_lv [1, 2, 3, 0] rfl (L_2 heights burnt layerWetness layerHeat x1 x2 (0 : Int32) _ (fun q1 h => by exact (B_53 heights burnt layerWetness q1 x1   h)) h)
theorem jc_F_heatRick (l : Launch) (D : va_G) (cI cF : ClassId) (N : Nat) (a : Nat → Nat)  (lying : Nat → Int32) (damp : Nat → Int32) (told : Nat → Int32) (heights : Nat → Int32) (burnt : Nat → Int32) (layerWords : Nat → Int32) (layerWetness : Nat → Int32) (layerHeat : Nat → Int32) (hours : Int32) (x1 : Int32) (x2 : Int32) {o : (Nat → Int32) × (Nat → Int32) × (Nat → Int32)} (h : jf_F_heatRick N heights burnt layerWetness layerHeat x1 x2 = some o) : hk_Mv l jy_F_heatRick jb_F_heatRick 5 jr_F_heatRick D cI cF (wF cI a lying damp told heights burnt layerWords layerWetness layerHeat hours) [.ref (a 0), .int x1, .int x2] (wF cI a lying damp told o.1 o.2.1 layerWords layerWetness o.2.2 hours) :=
  hk_metV (by decide) (Nat.le_of_ble_eq_true rfl) rfl rfl (fun p e s m args below meth c A hC hr => jw_F_heatRick hC hr N a lying damp told heights burnt layerWords layerWetness layerHeat hours x1 x2 h)
set_option maxHeartbeats 8000000 in
set_option maxRecDepth 100000 in
theorem jw_F_hourGoesBy {p : Program} {l : Launch} {e : Env} {s : State} {m : MethodId} {args : Array Value} {below : List Frame} {meth : Method} {c : Code} {A : Nat → Prop} {D : va_G} {cI cF : ClassId} (hC : hk_ok p s m args meth c A 4 D cI cF "HayTalk$Field" jb_F_hourGoesBy) (hr : meth.sig.returnType = none) (N : Nat) (a : Nat → Nat) (aL : Nat → Nat)  (lying : Nat → Int32) (damp : Nat → Int32) (told : Nat → Int32) (heights : Nat → Int32) (burnt : Nat → Int32) (layerWords : Nat → Int32) (layerWetness : Nat → Int32) (layerHeat : Nat → Int32) (hours : Int32) (g_speeches : Nat → Int32) (g_speechLengths : Nat → Int32) (g_weather : Nat → Int32) (g_kindsOfCows : Nat → Int32) (g_thatches : Nat → Int32) (g_weatherLength : Int32) (g_mowers : Int32) (g_cows : Int32) (g_ricks : Int32)  {o : (Nat → Int32) × (Nat → Int32) × (Nat → Int32) × (Nat → Int32) × (Nat → Int32) × Int32} (h : jf_F_hourGoesBy N lying damp heights burnt layerWetness layerHeat hours g_speeches g_speechLengths g_weather g_thatches g_weatherLength g_mowers g_ricks = some o) : hk_W p l e jr_F_hourGoesBy s m args below meth c A (hk_Zv below args s D A ((wF cI a o.1 o.2.1 told o.2.2.1 o.2.2.2.1 layerWords layerWetness o.2.2.2.2.1 o.2.2.2.2.2) ++ (wL cI aL g_speeches g_speechLengths g_weather g_kindsOfCows g_thatches g_weatherLength g_mowers g_cows g_ricks))) 4 D 0 0 ((wF cI a lying damp told heights burnt layerWords layerWetness layerHeat hours) ++ (wL cI aL g_speeches g_speechLengths g_weather g_kindsOfCows g_thatches g_weatherLength g_mowers g_cows g_ricks)) 0 [(0, .ref (a 0)), (1, .ref (aL 0))] [] := by
  have B_2 : ∀ (lying : Nat → Int32) (damp : Nat → Int32) (heights : Nat → Int32) (burnt : Nat → Int32) (layerWetness : Nat → Int32) (layerHeat : Nat → Int32) (hours : Int32) (g_speeches : Nat → Int32) (g_speechLengths : Nat → Int32) (g_weather : Nat → Int32) (g_thatches : Nat → Int32) (g_weatherLength : Int32) (g_mowers : Int32) (g_ricks : Int32) (x2 : Int32) (kh2 : ((Nat → Int32) × (Nat → Int32) × (Nat → Int32) × Int32) → Option ((Nat → Int32) × (Nat → Int32) × (Nat → Int32) × (Nat → Int32) × (Nat → Int32) × Int32)) (kx26 : ((Nat → Int32) × (Nat → Int32) × (Nat → Int32)) → Option ((Nat → Int32) × (Nat → Int32) × (Nat → Int32) × (Nat → Int32) × (Nat → Int32) × Int32)) (ihh2 : ∀ q, kh2 q = some o → hk_W p l e jr_F_hourGoesBy s m args below meth c A (hk_Zv below args s D A ((wF cI a o.1 o.2.1 told o.2.2.1 o.2.2.2.1 layerWords layerWetness o.2.2.2.2.1 o.2.2.2.2.2) ++ (wL cI aL g_speeches g_speechLengths g_weather g_kindsOfCows g_thatches g_weatherLength g_mowers g_cows g_ricks))) 4 D 0 0 ((wF cI a lying damp told q.1 q.2.1 layerWords layerWetness q.2.2.1 hours) ++ (wL cI aL g_speeches g_speechLengths g_weather g_kindsOfCows g_thatches g_weatherLength g_mowers g_cows g_ricks)) 2 [(0, .ref (a 0)), (1, .ref (aL 0)), (2, .int q.2.2.2)] []) (ihx26 : ∀ q, kx26 q = some o → hk_W p l e jr_F_hourGoesBy s m args below meth c A (hk_Zv below args s D A ((wF cI a o.1 o.2.1 told o.2.2.1 o.2.2.2.1 layerWords layerWetness o.2.2.2.2.1 o.2.2.2.2.2) ++ (wL cI aL g_speeches g_speechLengths g_weather g_kindsOfCows g_thatches g_weatherLength g_mowers g_cows g_ricks))) 4 D 0 0 ((wF cI a lying damp told q.1 q.2.1 layerWords layerWetness q.2.2 hours) ++ (wL cI aL g_speeches g_speechLengths g_weather g_kindsOfCows g_thatches g_weatherLength g_mowers g_cows g_ricks)) 26 [(0, .ref (a 0)), (1, .ref (aL 0))] []) (_ : jf_F_hourGoesBy_2B N lying damp heights burnt layerWetness layerHeat hours g_speeches g_speechLengths g_weather g_thatches g_weatherLength g_mowers g_ricks x2 kh2 kx26 = some o), hk_W p l e jr_F_hourGoesBy s m args below meth c A (hk_Zv below args s D A ((wF cI a o.1 o.2.1 told o.2.2.1 o.2.2.2.1 layerWords layerWetness o.2.2.2.2.1 o.2.2.2.2.2) ++ (wL cI aL g_speeches g_speechLengths g_weather g_kindsOfCows g_thatches g_weatherLength g_mowers g_cows g_ricks))) 4 D 0 0 ((wF cI a lying damp told heights burnt layerWords layerWetness layerHeat hours) ++ (wL cI aL g_speeches g_speechLengths g_weather g_kindsOfCows g_thatches g_weatherLength g_mowers g_cows g_ricks)) 2 [(0, .ref (a 0)), (1, .ref (aL 0)), (2, .int x2)] [] := by
    intro lying damp heights burnt layerWetness layerHeat hours g_speeches g_speechLengths g_weather g_thatches g_weatherLength g_mowers g_ricks x2 kh2 kx26 ihh2 ihx26 h
    delta jf_F_hourGoesBy_2B at h
    refine hk_iload_n hC jd_F_hourGoesBy_2 2 rfl ?_
    refine hk_aload_n hC jd_F_hourGoesBy_3 1 rfl ?_
    refine hk_getN hC jk_L 9 rfl 8 (by decide) jq_138 rfl jd_F_hourGoesBy_4 ?_
    refine hk_icmp_ge (tgt := 26) hC jd_F_hourGoesBy_7 (by decide) (fun cc1 => ?_) (fun cc1 => ?_)
    · replace h := xi_t h cc1
      exact hk_lv [0, 1] rfl (ihx26 (heights, burnt, layerHeat) h)
    · replace h := xi_f h cc1
      refine hk_aload_n hC jd_F_hourGoesBy_10 0 rfl ?_
      refine hk_iload_n hC jd_F_hourGoesBy_11 2 rfl ?_
      refine hk_aload_n hC jd_F_hourGoesBy_12 1 rfl ?_
      refine hk_iload_n hC jd_F_hourGoesBy_13 2 rfl ?_
      obtain ⟨q1, h_q1, h⟩ := xb_go h
      refine hk_callVi hC (q0 := 9) (jc_L_thatchOf l D cI cF N aL g_speeches g_speechLengths g_weather g_kindsOfCows g_thatches g_weatherLength g_mowers g_cows g_ricks x2 h_q1) jl_L_thatchOf rfl rfl jq_433 jq_372 jq_373 rfl ⟨by decide, by decide⟩ [9, 10, 11, 12, 13, 14] rfl (by decide) rfl (ws2 := ((wF cI a lying damp told heights burnt layerWords layerWetness layerHeat hours) ++ (wL cI aL g_speeches g_speechLengths g_weather g_kindsOfCows g_thatches g_weatherLength g_mowers g_cows g_ricks))) rfl rfl (Nat.le_of_ble_eq_true rfl) ⟨Nat.zero_le _, Nat.zero_le _⟩ jd_F_hourGoesBy_14 ?_
      obtain ⟨q2, h_q2, h⟩ := xb_go h
      refine hk_callVv hC (q0 := 0) (jc_F_heatRick l D cI cF N a lying damp told heights burnt layerWords layerWetness layerHeat hours x2 q1 h_q2) jl_F_heatRick rfl rfl jq_434 jq_436 jq0_9 rfl ⟨by decide, by decide⟩ [0, 1, 2, 3, 4, 5, 6, 7, 8] rfl (by decide) rfl (ws2 := ((wF cI a lying damp told q2.1 q2.2.1 layerWords layerWetness q2.2.2 hours) ++ (wL cI aL g_speeches g_speechLengths g_weather g_kindsOfCows g_thatches g_weatherLength g_mowers g_cows g_ricks))) rfl rfl (Nat.le_of_ble_eq_true rfl) ⟨Nat.zero_le _, Nat.zero_le _⟩ jd_F_hourGoesBy_17 ?_
      obtain ⟨v1, e_v1, h⟩ := xl_go h
      refine hk_iinc hC (lv2 := [(2, .int v1), (0, .ref (a 0)), (1, .ref (aL 0))]) jd_F_hourGoesBy_20 2 rfl e_v1 (by decide) rfl ?_
      refine hk_goto (tgt := 2) hC jd_F_hourGoesBy_23 (by decide) ?_
      exact hk_lv [1, 2, 0] rfl (ihh2 (q2.1, q2.2.1, q2.2.2, v1) h)
  have L_2 : ∀ (lying : Nat → Int32) (damp : Nat → Int32) (heights : Nat → Int32) (burnt : Nat → Int32) (layerWetness : Nat → Int32) (layerHeat : Nat → Int32) (hours : Int32) (g_speeches : Nat → Int32) (g_speechLengths : Nat → Int32) (g_weather : Nat → Int32) (g_thatches : Nat → Int32) (g_weatherLength : Int32) (g_mowers : Int32) (g_ricks : Int32) (x2 : Int32) (kx26 : ((Nat → Int32) × (Nat → Int32) × (Nat → Int32)) → Option ((Nat → Int32) × (Nat → Int32) × (Nat → Int32) × (Nat → Int32) × (Nat → Int32) × Int32)) (ihx26 : ∀ q, kx26 q = some o → hk_W p l e jr_F_hourGoesBy s m args below meth c A (hk_Zv below args s D A ((wF cI a o.1 o.2.1 told o.2.2.1 o.2.2.2.1 layerWords layerWetness o.2.2.2.2.1 o.2.2.2.2.2) ++ (wL cI aL g_speeches g_speechLengths g_weather g_kindsOfCows g_thatches g_weatherLength g_mowers g_cows g_ricks))) 4 D 0 0 ((wF cI a lying damp told q.1 q.2.1 layerWords layerWetness q.2.2 hours) ++ (wL cI aL g_speeches g_speechLengths g_weather g_kindsOfCows g_thatches g_weatherLength g_mowers g_cows g_ricks)) 26 [(0, .ref (a 0)), (1, .ref (aL 0))] []) (_ : jf_F_hourGoesBy_2 N lying damp heights burnt layerWetness layerHeat hours g_speeches g_speechLengths g_weather g_thatches g_weatherLength g_mowers g_ricks x2 kx26 = some o), hk_W p l e jr_F_hourGoesBy s m args below meth c A (hk_Zv below args s D A ((wF cI a o.1 o.2.1 told o.2.2.1 o.2.2.2.1 layerWords layerWetness o.2.2.2.2.1 o.2.2.2.2.2) ++ (wL cI aL g_speeches g_speechLengths g_weather g_kindsOfCows g_thatches g_weatherLength g_mowers g_cows g_ricks))) 4 D 0 0 ((wF cI a lying damp told heights burnt layerWords layerWetness layerHeat hours) ++ (wL cI aL g_speeches g_speechLengths g_weather g_kindsOfCows g_thatches g_weatherLength g_mowers g_cows g_ricks)) 2 [(0, .ref (a 0)), (1, .ref (aL 0)), (2, .int x2)] [] := by
    intro lying damp heights burnt layerWetness layerHeat hours g_speeches g_speechLengths g_weather g_thatches g_weatherLength g_mowers g_ricks x2 kx26 ihx26 h
    exact xloopW (fun (q : (Nat → Int32) × (Nat → Int32) × (Nat → Int32) × Int32) => hk_W p l e jr_F_hourGoesBy s m args below meth c A (hk_Zv below args s D A ((wF cI a o.1 o.2.1 told o.2.2.1 o.2.2.2.1 layerWords layerWetness o.2.2.2.2.1 o.2.2.2.2.2) ++ (wL cI aL g_speeches g_speechLengths g_weather g_kindsOfCows g_thatches g_weatherLength g_mowers g_cows g_ricks))) 4 D 0 0 ((wF cI a lying damp told q.1 q.2.1 layerWords layerWetness q.2.2.1 hours) ++ (wL cI aL g_speeches g_speechLengths g_weather g_kindsOfCows g_thatches g_weatherLength g_mowers g_cows g_ricks)) 2 [(0, .ref (a 0)), (1, .ref (aL 0)), (2, .int q.2.2.2)] []) (fun kh ih q h => B_2 lying damp q.1 q.2.1 layerWetness q.2.2.1 hours g_speeches g_speechLengths g_weather g_thatches g_weatherLength g_mowers g_ricks q.2.2.2 kh kx26 ih ihx26 h) N (heights, burnt, layerHeat, x2) h
  have B_37 : ∀ (lying : Nat → Int32) (damp : Nat → Int32) (heights : Nat → Int32) (burnt : Nat → Int32) (layerWetness : Nat → Int32) (layerHeat : Nat → Int32) (hours : Int32) (g_speeches : Nat → Int32) (g_speechLengths : Nat → Int32) (g_weather : Nat → Int32) (g_thatches : Nat → Int32) (g_weatherLength : Int32) (g_mowers : Int32) (g_ricks : Int32) (x2 : Int32) (x3 : Int32) (kh37 : ((Nat → Int32) × (Nat → Int32) × Int32) → Option ((Nat → Int32) × (Nat → Int32) × (Nat → Int32) × (Nat → Int32) × (Nat → Int32) × Int32)) (kx102 : ((Nat → Int32) × (Nat → Int32)) → Option ((Nat → Int32) × (Nat → Int32) × (Nat → Int32) × (Nat → Int32) × (Nat → Int32) × Int32)) (ihh37 : ∀ q, kh37 q = some o → hk_W p l e jr_F_hourGoesBy s m args below meth c A (hk_Zv below args s D A ((wF cI a o.1 o.2.1 told o.2.2.1 o.2.2.2.1 layerWords layerWetness o.2.2.2.2.1 o.2.2.2.2.2) ++ (wL cI aL g_speeches g_speechLengths g_weather g_kindsOfCows g_thatches g_weatherLength g_mowers g_cows g_ricks))) 4 D 0 0 ((wF cI a q.1 q.2.1 told heights burnt layerWords layerWetness layerHeat hours) ++ (wL cI aL g_speeches g_speechLengths g_weather g_kindsOfCows g_thatches g_weatherLength g_mowers g_cows g_ricks)) 37 [(0, .ref (a 0)), (1, .ref (aL 0)), (2, .int x2), (3, .int q.2.2)] []) (ihx102 : ∀ q, kx102 q = some o → hk_W p l e jr_F_hourGoesBy s m args below meth c A (hk_Zv below args s D A ((wF cI a o.1 o.2.1 told o.2.2.1 o.2.2.2.1 layerWords layerWetness o.2.2.2.2.1 o.2.2.2.2.2) ++ (wL cI aL g_speeches g_speechLengths g_weather g_kindsOfCows g_thatches g_weatherLength g_mowers g_cows g_ricks))) 4 D 0 0 ((wF cI a q.1 q.2 told heights burnt layerWords layerWetness layerHeat hours) ++ (wL cI aL g_speeches g_speechLengths g_weather g_kindsOfCows g_thatches g_weatherLength g_mowers g_cows g_ricks)) 102 [(0, .ref (a 0))] []) (_ : jf_F_hourGoesBy_37B N lying damp heights burnt layerWetness layerHeat hours g_speeches g_speechLengths g_weather g_thatches g_weatherLength g_mowers g_ricks x2 x3 kh37 kx102 = some o), hk_W p l e jr_F_hourGoesBy s m args below meth c A (hk_Zv below args s D A ((wF cI a o.1 o.2.1 told o.2.2.1 o.2.2.2.1 layerWords layerWetness o.2.2.2.2.1 o.2.2.2.2.2) ++ (wL cI aL g_speeches g_speechLengths g_weather g_kindsOfCows g_thatches g_weatherLength g_mowers g_cows g_ricks))) 4 D 0 0 ((wF cI a lying damp told heights burnt layerWords layerWetness layerHeat hours) ++ (wL cI aL g_speeches g_speechLengths g_weather g_kindsOfCows g_thatches g_weatherLength g_mowers g_cows g_ricks)) 37 [(0, .ref (a 0)), (1, .ref (aL 0)), (2, .int x2), (3, .int x3)] [] := by
    intro lying damp heights burnt layerWetness layerHeat hours g_speeches g_speechLengths g_weather g_thatches g_weatherLength g_mowers g_ricks x2 x3 kh37 kx102 ihh37 ihx102 h
    delta jf_F_hourGoesBy_37B at h
    refine hk_iload_n hC jd_F_hourGoesBy_37 3 rfl ?_
    refine hk_aload_n hC jd_F_hourGoesBy_38 1 rfl ?_
    refine hk_getN hC jk_L 9 rfl 6 (by decide) jq_134 rfl jd_F_hourGoesBy_39 ?_
    refine hk_icmp_ge (tgt := 102) hC jd_F_hourGoesBy_42 (by decide) (fun cc1 => ?_) (fun cc1 => ?_)
    · replace h := xi_t h cc1
      exact hk_lv [0] rfl (ihx102 (lying, damp) h)
    · replace h := xi_f h cc1
      refine hk_aload_n hC jd_F_hourGoesBy_45 0 rfl ?_
      refine hk_get hC jk_F 0 rfl 0 (by decide) jq_46 rfl jd_F_hourGoesBy_46 ?_
      refine hk_iload_n hC jd_F_hourGoesBy_49 3 rfl ?_
      refine hk_aload_n hC jd_F_hourGoesBy_50 0 rfl ?_
      refine hk_get hC jk_F 0 rfl 0 (by decide) jq_46 rfl jd_F_hourGoesBy_51 ?_
      refine hk_iload_n hC jd_F_hourGoesBy_54 3 rfl ?_
      obtain ⟨q1, h_q1, h⟩ := xb_go h
      refine hk_callSi hC (jc_R_at l D cI cF N (fun _ => (a 1)) 5 lying x3 h_q1) jl_R_at jq_379 jq_345 rfl ⟨by decide, by decide⟩ [1] rfl (by decide) rfl (ws2 := ((wF cI a lying damp told heights burnt layerWords layerWetness layerHeat hours) ++ (wL cI aL g_speeches g_speechLengths g_weather g_kindsOfCows g_thatches g_weatherLength g_mowers g_cows g_ricks))) rfl rfl (Nat.le_of_ble_eq_true rfl) ⟨Nat.zero_le _, Nat.zero_le _⟩ jd_F_hourGoesBy_55 ?_
      refine hk_iconst (v := 1) hC jd_F_hourGoesBy_58 (by decide) ?_
      refine hk_aload_n hC jd_F_hourGoesBy_59 1 rfl ?_
      refine hk_iload_n hC jd_F_hourGoesBy_60 3 rfl ?_
      refine hk_aload_n hC jd_F_hourGoesBy_61 0 rfl ?_
      refine hk_get hC jk_F 0 rfl 8 (by decide) jq_59 rfl jd_F_hourGoesBy_62 ?_
      obtain ⟨q2, h_q2, h⟩ := xb_go h
      refine hk_callVi hC (q0 := 9) (jc_L_wordOf l D cI cF N aL g_speeches g_speechLengths g_weather g_kindsOfCows g_thatches g_weatherLength g_mowers g_cows g_ricks x3 hours h_q2) jl_L_wordOf rfl rfl jq_445 jq_341 jq_342 rfl ⟨by decide, by decide⟩ [9, 10, 11, 12, 13, 14] rfl (by decide) rfl (ws2 := ((wF cI a lying damp told heights burnt layerWords layerWetness layerHeat hours) ++ (wL cI aL g_speeches g_speechLengths g_weather g_kindsOfCows g_thatches g_weatherLength g_mowers g_cows g_ricks))) rfl rfl (Nat.le_of_ble_eq_true rfl) ⟨Nat.zero_le _, Nat.zero_le _⟩ jd_F_hourGoesBy_65 ?_
      refine hk_ishl hC jd_F_hourGoesBy_68 ?_
      refine hk_ior hC jd_F_hourGoesBy_69 ?_
      obtain ⟨q3, h_q3, h⟩ := xb_go h
      refine hk_callSv hC (jc_R_put l D cI cF N (fun _ => (a 1)) 5 lying x3 (q1 ||| ((1 : Int32) <<< (q2 &&& 31))) h_q3) jl_R_put jq_439 jq_222 rfl ⟨by decide, by decide⟩ [1] rfl (by decide) rfl (ws2 := ((wF cI a q3 damp told heights burnt layerWords layerWetness layerHeat hours) ++ (wL cI aL g_speeches g_speechLengths g_weather g_kindsOfCows g_thatches g_weatherLength g_mowers g_cows g_ricks))) rfl rfl (Nat.le_of_ble_eq_true rfl) ⟨Nat.zero_le _, Nat.zero_le _⟩ jd_F_hourGoesBy_70 ?_
      refine hk_aload_n hC jd_F_hourGoesBy_73 0 rfl ?_
      refine hk_get hC jk_F 0 rfl 1 (by decide) jq_48 rfl jd_F_hourGoesBy_74 ?_
      refine hk_iload_n hC jd_F_hourGoesBy_77 3 rfl ?_
      refine hk_bipush (v := 99) hC jd_F_hourGoesBy_78 (by decide) ?_
      refine hk_aload_n hC jd_F_hourGoesBy_80 0 rfl ?_
      refine hk_get hC jk_F 0 rfl 1 (by decide) jq_48 rfl jd_F_hourGoesBy_81 ?_
      refine hk_iload_n hC jd_F_hourGoesBy_84 3 rfl ?_
      obtain ⟨q4, h_q4, h⟩ := xb_go h
      refine hk_callSi hC (jc_R_at l D cI cF N (fun _ => (a 2)) 5 damp x3 h_q4) jl_R_at jq_379 jq_345 rfl ⟨by decide, by decide⟩ [2] rfl (by decide) rfl (ws2 := ((wF cI a q3 damp told heights burnt layerWords layerWetness layerHeat hours) ++ (wL cI aL g_speeches g_speechLengths g_weather g_kindsOfCows g_thatches g_weatherLength g_mowers g_cows g_ricks))) rfl rfl (Nat.le_of_ble_eq_true rfl) ⟨Nat.zero_le _, Nat.zero_le _⟩ jd_F_hourGoesBy_85 ?_
      refine hk_iload_n hC jd_F_hourGoesBy_88 2 rfl ?_
      refine hk_iadd hC jd_F_hourGoesBy_89 ?_
      obtain ⟨v1, e_v1, h⟩ := xl_go h
      refine hk_mmin hC jq_446 ⟨Nat.le_of_ble_eq_true rfl, Nat.le_of_ble_eq_true rfl, Nat.zero_le _, Nat.zero_le _⟩ e_v1 jd_F_hourGoesBy_90 ?_
      obtain ⟨q5, h_q5, h⟩ := xb_go h
      refine hk_callSv hC (jc_R_put l D cI cF N (fun _ => (a 2)) 5 damp x3 v1 h_q5) jl_R_put jq_439 jq_222 rfl ⟨by decide, by decide⟩ [2] rfl (by decide) rfl (ws2 := ((wF cI a q3 q5 told heights burnt layerWords layerWetness layerHeat hours) ++ (wL cI aL g_speeches g_speechLengths g_weather g_kindsOfCows g_thatches g_weatherLength g_mowers g_cows g_ricks))) rfl rfl (Nat.le_of_ble_eq_true rfl) ⟨Nat.zero_le _, Nat.zero_le _⟩ jd_F_hourGoesBy_93 ?_
      obtain ⟨v2, e_v2, h⟩ := xl_go h
      refine hk_iinc hC (lv2 := [(3, .int v2), (0, .ref (a 0)), (1, .ref (aL 0)), (2, .int x2)]) jd_F_hourGoesBy_96 3 rfl e_v2 (by decide) rfl ?_
      refine hk_goto (tgt := 37) hC jd_F_hourGoesBy_99 (by decide) ?_
      exact hk_lv [1, 2, 3, 0] rfl (ihh37 (q3, q5, v2) h)
  have L_37 : ∀ (lying : Nat → Int32) (damp : Nat → Int32) (heights : Nat → Int32) (burnt : Nat → Int32) (layerWetness : Nat → Int32) (layerHeat : Nat → Int32) (hours : Int32) (g_speeches : Nat → Int32) (g_speechLengths : Nat → Int32) (g_weather : Nat → Int32) (g_thatches : Nat → Int32) (g_weatherLength : Int32) (g_mowers : Int32) (g_ricks : Int32) (x2 : Int32) (x3 : Int32) (kx102 : ((Nat → Int32) × (Nat → Int32)) → Option ((Nat → Int32) × (Nat → Int32) × (Nat → Int32) × (Nat → Int32) × (Nat → Int32) × Int32)) (ihx102 : ∀ q, kx102 q = some o → hk_W p l e jr_F_hourGoesBy s m args below meth c A (hk_Zv below args s D A ((wF cI a o.1 o.2.1 told o.2.2.1 o.2.2.2.1 layerWords layerWetness o.2.2.2.2.1 o.2.2.2.2.2) ++ (wL cI aL g_speeches g_speechLengths g_weather g_kindsOfCows g_thatches g_weatherLength g_mowers g_cows g_ricks))) 4 D 0 0 ((wF cI a q.1 q.2 told heights burnt layerWords layerWetness layerHeat hours) ++ (wL cI aL g_speeches g_speechLengths g_weather g_kindsOfCows g_thatches g_weatherLength g_mowers g_cows g_ricks)) 102 [(0, .ref (a 0))] []) (_ : jf_F_hourGoesBy_37 N lying damp heights burnt layerWetness layerHeat hours g_speeches g_speechLengths g_weather g_thatches g_weatherLength g_mowers g_ricks x2 x3 kx102 = some o), hk_W p l e jr_F_hourGoesBy s m args below meth c A (hk_Zv below args s D A ((wF cI a o.1 o.2.1 told o.2.2.1 o.2.2.2.1 layerWords layerWetness o.2.2.2.2.1 o.2.2.2.2.2) ++ (wL cI aL g_speeches g_speechLengths g_weather g_kindsOfCows g_thatches g_weatherLength g_mowers g_cows g_ricks))) 4 D 0 0 ((wF cI a lying damp told heights burnt layerWords layerWetness layerHeat hours) ++ (wL cI aL g_speeches g_speechLengths g_weather g_kindsOfCows g_thatches g_weatherLength g_mowers g_cows g_ricks)) 37 [(0, .ref (a 0)), (1, .ref (aL 0)), (2, .int x2), (3, .int x3)] [] := by
    intro lying damp heights burnt layerWetness layerHeat hours g_speeches g_speechLengths g_weather g_thatches g_weatherLength g_mowers g_ricks x2 x3 kx102 ihx102 h
    exact xloopW (fun (q : (Nat → Int32) × (Nat → Int32) × Int32) => hk_W p l e jr_F_hourGoesBy s m args below meth c A (hk_Zv below args s D A ((wF cI a o.1 o.2.1 told o.2.2.1 o.2.2.2.1 layerWords layerWetness o.2.2.2.2.1 o.2.2.2.2.2) ++ (wL cI aL g_speeches g_speechLengths g_weather g_kindsOfCows g_thatches g_weatherLength g_mowers g_cows g_ricks))) 4 D 0 0 ((wF cI a q.1 q.2.1 told heights burnt layerWords layerWetness layerHeat hours) ++ (wL cI aL g_speeches g_speechLengths g_weather g_kindsOfCows g_thatches g_weatherLength g_mowers g_cows g_ricks)) 37 [(0, .ref (a 0)), (1, .ref (aL 0)), (2, .int x2), (3, .int q.2.2)] []) (fun kh ih q h => B_37 q.1 q.2.1 heights burnt layerWetness layerHeat hours g_speeches g_speechLengths g_weather g_thatches g_weatherLength g_mowers g_ricks x2 q.2.2 kh kx102 ih ihx102 h) N (lying, damp, x3) h
  have B_102 : ∀ (lying : Nat → Int32) (damp : Nat → Int32) (heights : Nat → Int32) (burnt : Nat → Int32) (layerWetness : Nat → Int32) (layerHeat : Nat → Int32) (hours : Int32) (g_speeches : Nat → Int32) (g_speechLengths : Nat → Int32) (g_weather : Nat → Int32) (g_thatches : Nat → Int32) (g_weatherLength : Int32) (g_mowers : Int32) (g_ricks : Int32)   (_ : jf_F_hourGoesBy_102 N lying damp heights burnt layerWetness layerHeat hours g_speeches g_speechLengths g_weather g_thatches g_weatherLength g_mowers g_ricks  = some o), hk_W p l e jr_F_hourGoesBy s m args below meth c A (hk_Zv below args s D A ((wF cI a o.1 o.2.1 told o.2.2.1 o.2.2.2.1 layerWords layerWetness o.2.2.2.2.1 o.2.2.2.2.2) ++ (wL cI aL g_speeches g_speechLengths g_weather g_kindsOfCows g_thatches g_weatherLength g_mowers g_cows g_ricks))) 4 D 0 0 ((wF cI a lying damp told heights burnt layerWords layerWetness layerHeat hours) ++ (wL cI aL g_speeches g_speechLengths g_weather g_kindsOfCows g_thatches g_weatherLength g_mowers g_cows g_ricks)) 102 [(0, .ref (a 0))] [] := by
    intro lying damp heights burnt layerWetness layerHeat hours g_speeches g_speechLengths g_weather g_thatches g_weatherLength g_mowers g_ricks   h
    delta jf_F_hourGoesBy_102 at h
    refine hk_aload_n hC jd_F_hourGoesBy_102 0 rfl ?_
    refine hk_dup hC jd_F_hourGoesBy_103 rfl ?_
    refine hk_get hC jk_F 0 rfl 8 (by decide) jq_59 rfl jd_F_hourGoesBy_104 ?_
    refine hk_iconst (v := 1) hC jd_F_hourGoesBy_107 (by decide) ?_
    refine hk_iadd hC jd_F_hourGoesBy_108 ?_
    obtain ⟨v1, e_v1, h⟩ := xl_go h
    refine hk_topi e_v1 ?_
    refine hk_put hC jk_F 0 rfl 8 (by decide) jq_59 rfl rfl rfl (Nat.le_of_ble_eq_true rfl) (ws2 := ((wF cI a lying damp told heights burnt layerWords layerWetness layerHeat v1) ++ (wL cI aL g_speeches g_speechLengths g_weather g_kindsOfCows g_thatches g_weatherLength g_mowers g_cows g_ricks))) rfl jd_F_hourGoesBy_109 ?_
    obtain rfl := Option.some.inj h
    exact hk_vret hC hr jd_F_hourGoesBy_112 rfl
  have B_26 : ∀ (lying : Nat → Int32) (damp : Nat → Int32) (heights : Nat → Int32) (burnt : Nat → Int32) (layerWetness : Nat → Int32) (layerHeat : Nat → Int32) (hours : Int32) (g_speeches : Nat → Int32) (g_speechLengths : Nat → Int32) (g_weather : Nat → Int32) (g_thatches : Nat → Int32) (g_weatherLength : Int32) (g_mowers : Int32) (g_ricks : Int32)   (_ : jf_F_hourGoesBy_26 N lying damp heights burnt layerWetness layerHeat hours g_speeches g_speechLengths g_weather g_thatches g_weatherLength g_mowers g_ricks  = some o), hk_W p l e jr_F_hourGoesBy s m args below meth c A (hk_Zv below args s D A ((wF cI a o.1 o.2.1 told o.2.2.1 o.2.2.2.1 layerWords layerWetness o.2.2.2.2.1 o.2.2.2.2.2) ++ (wL cI aL g_speeches g_speechLengths g_weather g_kindsOfCows g_thatches g_weatherLength g_mowers g_cows g_ricks))) 4 D 0 0 ((wF cI a lying damp told heights burnt layerWords layerWetness layerHeat hours) ++ (wL cI aL g_speeches g_speechLengths g_weather g_kindsOfCows g_thatches g_weatherLength g_mowers g_cows g_ricks)) 26 [(0, .ref (a 0)), (1, .ref (aL 0))] [] := by
    intro lying damp heights burnt layerWetness layerHeat hours g_speeches g_speechLengths g_weather g_thatches g_weatherLength g_mowers g_ricks   h
    delta jf_F_hourGoesBy_26 at h
    refine hk_aload_n hC jd_F_hourGoesBy_26 1 rfl ?_
    refine hk_aload_n hC jd_F_hourGoesBy_27 0 rfl ?_
    refine hk_get hC jk_F 0 rfl 8 (by decide) jq_59 rfl jd_F_hourGoesBy_28 ?_
    obtain ⟨q1, h_q1, h⟩ := xb_go h
    refine hk_callVi hC (q0 := 9) (jc_L_weatherOf l D cI cF N aL g_speeches g_speechLengths g_weather g_kindsOfCows g_thatches g_weatherLength g_mowers g_cows g_ricks hours h_q1) jl_L_weatherOf rfl rfl jq_441 jq_442 jq_443 rfl ⟨by decide, by decide⟩ [9, 10, 11, 12, 13, 14] rfl (by decide) rfl (ws2 := ((wF cI a lying damp told heights burnt layerWords layerWetness layerHeat hours) ++ (wL cI aL g_speeches g_speechLengths g_weather g_kindsOfCows g_thatches g_weatherLength g_mowers g_cows g_ricks))) rfl rfl (Nat.le_of_ble_eq_true rfl) ⟨Nat.zero_le _, Nat.zero_le _⟩ jd_F_hourGoesBy_31 ?_
    refine hk_istore_n hC (i := 2) (y := q1) (lv2 := [(2, .int q1), (0, .ref (a 0)), (1, .ref (aL 0))]) jd_F_hourGoesBy_34 rfl rfl (by decide) rfl ?_
    refine hk_iconst (v := 0) hC jd_F_hourGoesBy_35 (by decide) ?_
    refine hk_istore_n hC (i := 3) (y := (0 : Int32)) (lv2 := [(3, .int (0 : Int32)), (2, .int q1), (0, .ref (a 0)), (1, .ref (aL 0))]) jd_F_hourGoesBy_36 rfl rfl (by decide) rfl ?_
    exact hk_lv [2, 3, 1, 0] rfl (L_37 lying damp heights burnt layerWetness layerHeat hours g_speeches g_speechLengths g_weather g_thatches g_weatherLength g_mowers g_ricks q1 (0 : Int32) _ (fun q2 h => by exact (B_102 q2.1 q2.2 heights burnt layerWetness layerHeat hours g_speeches g_speechLengths g_weather g_thatches g_weatherLength g_mowers g_ricks   h)) h)
  delta jf_F_hourGoesBy at h
  refine hk_iconst (v := 0) hC jd_F_hourGoesBy_0 (by decide) ?_
  refine hk_istore_n hC (i := 2) (y := (0 : Int32)) (lv2 := [(2, .int (0 : Int32)), (0, .ref (a 0)), (1, .ref (aL 0))]) jd_F_hourGoesBy_1 rfl rfl (by decide) rfl ?_
  exact hk_lv [1, 2, 0] rfl (L_2 lying damp heights burnt layerWetness layerHeat hours g_speeches g_speechLengths g_weather g_thatches g_weatherLength g_mowers g_ricks (0 : Int32) _ (fun q1 h => by exact (B_26 lying damp q1.1 q1.2.1 layerWetness q1.2.2 hours g_speeches g_speechLengths g_weather g_thatches g_weatherLength g_mowers g_ricks   h)) h)
theorem jc_F_hourGoesBy (l : Launch) (D : va_G) (cI cF : ClassId) (N : Nat) (a : Nat → Nat) (aL : Nat → Nat)  (lying : Nat → Int32) (damp : Nat → Int32) (told : Nat → Int32) (heights : Nat → Int32) (burnt : Nat → Int32) (layerWords : Nat → Int32) (layerWetness : Nat → Int32) (layerHeat : Nat → Int32) (hours : Int32) (g_speeches : Nat → Int32) (g_speechLengths : Nat → Int32) (g_weather : Nat → Int32) (g_kindsOfCows : Nat → Int32) (g_thatches : Nat → Int32) (g_weatherLength : Int32) (g_mowers : Int32) (g_cows : Int32) (g_ricks : Int32)  {o : (Nat → Int32) × (Nat → Int32) × (Nat → Int32) × (Nat → Int32) × (Nat → Int32) × Int32} (h : jf_F_hourGoesBy N lying damp heights burnt layerWetness layerHeat hours g_speeches g_speechLengths g_weather g_thatches g_weatherLength g_mowers g_ricks = some o) : hk_Mv l jy_F_hourGoesBy jb_F_hourGoesBy 4 jr_F_hourGoesBy D cI cF ((wF cI a lying damp told heights burnt layerWords layerWetness layerHeat hours) ++ (wL cI aL g_speeches g_speechLengths g_weather g_kindsOfCows g_thatches g_weatherLength g_mowers g_cows g_ricks)) [.ref (a 0), .ref (aL 0)] ((wF cI a o.1 o.2.1 told o.2.2.1 o.2.2.2.1 layerWords layerWetness o.2.2.2.2.1 o.2.2.2.2.2) ++ (wL cI aL g_speeches g_speechLengths g_weather g_kindsOfCows g_thatches g_weatherLength g_mowers g_cows g_ricks)) :=
  hk_metV (by decide) (Nat.le_of_ble_eq_true rfl) rfl rfl (fun p e s m args below meth c A hC hr => jw_F_hourGoesBy hC hr N a aL lying damp told heights burnt layerWords layerWetness layerHeat hours g_speeches g_speechLengths g_weather g_kindsOfCows g_thatches g_weatherLength g_mowers g_cows g_ricks h)
set_option maxHeartbeats 8000000 in
set_option maxRecDepth 100000 in
theorem jw_F_hoursGoBy {p : Program} {l : Launch} {e : Env} {s : State} {m : MethodId} {args : Array Value} {below : List Frame} {meth : Method} {c : Code} {A : Nat → Prop} {D : va_G} {cI cF : ClassId} (hC : hk_ok p s m args meth c A 4 D cI cF "HayTalk$Field" jb_F_hoursGoBy) (hr : meth.sig.returnType = none) (N : Nat) (a : Nat → Nat) (aL : Nat → Nat)  (lying : Nat → Int32) (damp : Nat → Int32) (told : Nat → Int32) (heights : Nat → Int32) (burnt : Nat → Int32) (layerWords : Nat → Int32) (layerWetness : Nat → Int32) (layerHeat : Nat → Int32) (hours : Int32) (g_speeches : Nat → Int32) (g_speechLengths : Nat → Int32) (g_weather : Nat → Int32) (g_kindsOfCows : Nat → Int32) (g_thatches : Nat → Int32) (g_weatherLength : Int32) (g_mowers : Int32) (g_cows : Int32) (g_ricks : Int32) (x2 : Int32) {o : (Nat → Int32) × (Nat → Int32) × (Nat → Int32) × (Nat → Int32) × (Nat → Int32) × Int32} (h : jf_F_hoursGoBy N lying damp heights burnt layerWetness layerHeat hours g_speeches g_speechLengths g_weather g_thatches g_weatherLength g_mowers g_ricks x2 = some o) : hk_W p l e jr_F_hoursGoBy s m args below meth c A (hk_Zv below args s D A ((wF cI a o.1 o.2.1 told o.2.2.1 o.2.2.2.1 layerWords layerWetness o.2.2.2.2.1 o.2.2.2.2.2) ++ (wL cI aL g_speeches g_speechLengths g_weather g_kindsOfCows g_thatches g_weatherLength g_mowers g_cows g_ricks))) 4 D 0 0 ((wF cI a lying damp told heights burnt layerWords layerWetness layerHeat hours) ++ (wL cI aL g_speeches g_speechLengths g_weather g_kindsOfCows g_thatches g_weatherLength g_mowers g_cows g_ricks)) 0 [(0, .ref (a 0)), (1, .ref (aL 0)), (2, .int x2)] [] := by
  have B_2 : ∀ (lying : Nat → Int32) (damp : Nat → Int32) (heights : Nat → Int32) (burnt : Nat → Int32) (layerWetness : Nat → Int32) (layerHeat : Nat → Int32) (hours : Int32) (g_speeches : Nat → Int32) (g_speechLengths : Nat → Int32) (g_weather : Nat → Int32) (g_thatches : Nat → Int32) (g_weatherLength : Int32) (g_mowers : Int32) (g_ricks : Int32) (x2 : Int32) (x3 : Int32) (kh2 : ((Nat → Int32) × (Nat → Int32) × (Nat → Int32) × (Nat → Int32) × (Nat → Int32) × Int32 × Int32) → Option ((Nat → Int32) × (Nat → Int32) × (Nat → Int32) × (Nat → Int32) × (Nat → Int32) × Int32)) (ihh2 : ∀ q, kh2 q = some o → hk_W p l e jr_F_hoursGoBy s m args below meth c A (hk_Zv below args s D A ((wF cI a o.1 o.2.1 told o.2.2.1 o.2.2.2.1 layerWords layerWetness o.2.2.2.2.1 o.2.2.2.2.2) ++ (wL cI aL g_speeches g_speechLengths g_weather g_kindsOfCows g_thatches g_weatherLength g_mowers g_cows g_ricks))) 4 D 0 0 ((wF cI a q.1 q.2.1 told q.2.2.1 q.2.2.2.1 layerWords layerWetness q.2.2.2.2.1 q.2.2.2.2.2.1) ++ (wL cI aL g_speeches g_speechLengths g_weather g_kindsOfCows g_thatches g_weatherLength g_mowers g_cows g_ricks)) 2 [(0, .ref (a 0)), (1, .ref (aL 0)), (2, .int x2), (3, .int q.2.2.2.2.2.2)] []) (_ : jf_F_hoursGoBy_2B N lying damp heights burnt layerWetness layerHeat hours g_speeches g_speechLengths g_weather g_thatches g_weatherLength g_mowers g_ricks x2 x3 kh2 = some o), hk_W p l e jr_F_hoursGoBy s m args below meth c A (hk_Zv below args s D A ((wF cI a o.1 o.2.1 told o.2.2.1 o.2.2.2.1 layerWords layerWetness o.2.2.2.2.1 o.2.2.2.2.2) ++ (wL cI aL g_speeches g_speechLengths g_weather g_kindsOfCows g_thatches g_weatherLength g_mowers g_cows g_ricks))) 4 D 0 0 ((wF cI a lying damp told heights burnt layerWords layerWetness layerHeat hours) ++ (wL cI aL g_speeches g_speechLengths g_weather g_kindsOfCows g_thatches g_weatherLength g_mowers g_cows g_ricks)) 2 [(0, .ref (a 0)), (1, .ref (aL 0)), (2, .int x2), (3, .int x3)] [] := by
    intro lying damp heights burnt layerWetness layerHeat hours g_speeches g_speechLengths g_weather g_thatches g_weatherLength g_mowers g_ricks x2 x3 kh2 ihh2 h
    delta jf_F_hoursGoBy_2B at h
    refine hk_iload_n hC jd_F_hoursGoBy_2 3 rfl ?_
    refine hk_iload_n hC jd_F_hoursGoBy_3 2 rfl ?_
    refine hk_icmp_ge (tgt := 18) hC jd_F_hoursGoBy_4 (by decide) (fun cc1 => ?_) (fun cc1 => ?_)
    · replace h := xi_t h cc1
      obtain rfl := Option.some.inj h
      exact hk_vret hC hr jd_F_hoursGoBy_18 rfl
    · replace h := xi_f h cc1
      refine hk_aload_n hC jd_F_hoursGoBy_7 0 rfl ?_
      refine hk_aload_n hC jd_F_hoursGoBy_8 1 rfl ?_
      obtain ⟨q1, h_q1, h⟩ := xb_go h
      refine hk_callVWv hC (q0 := 0) (jc_F_hourGoesBy l D cI cF N a aL lying damp told heights burnt layerWords layerWetness layerHeat hours g_speeches g_speechLengths g_weather g_kindsOfCows g_thatches g_weatherLength g_mowers g_cows g_ricks h_q1) jl_F_hourGoesBy rfl rfl jq_429 jq_430 jq_431 rfl ⟨by decide, by decide⟩ rfl rfl (Nat.le_of_ble_eq_true rfl) ⟨Nat.zero_le _, Nat.zero_le _⟩ jd_F_hoursGoBy_9 ?_
      obtain ⟨v1, e_v1, h⟩ := xl_go h
      refine hk_iinc hC (lv2 := [(3, .int v1), (0, .ref (a 0)), (1, .ref (aL 0)), (2, .int x2)]) jd_F_hoursGoBy_12 3 rfl e_v1 (by decide) rfl ?_
      refine hk_goto (tgt := 2) hC jd_F_hoursGoBy_15 (by decide) ?_
      exact hk_lv [1, 2, 3, 0] rfl (ihh2 (q1.1, q1.2.1, q1.2.2.1, q1.2.2.2.1, q1.2.2.2.2.1, q1.2.2.2.2.2, v1) h)
  have L_2 : ∀ (lying : Nat → Int32) (damp : Nat → Int32) (heights : Nat → Int32) (burnt : Nat → Int32) (layerWetness : Nat → Int32) (layerHeat : Nat → Int32) (hours : Int32) (g_speeches : Nat → Int32) (g_speechLengths : Nat → Int32) (g_weather : Nat → Int32) (g_thatches : Nat → Int32) (g_weatherLength : Int32) (g_mowers : Int32) (g_ricks : Int32) (x2 : Int32) (x3 : Int32)   (_ : jf_F_hoursGoBy_2 N lying damp heights burnt layerWetness layerHeat hours g_speeches g_speechLengths g_weather g_thatches g_weatherLength g_mowers g_ricks x2 x3  = some o), hk_W p l e jr_F_hoursGoBy s m args below meth c A (hk_Zv below args s D A ((wF cI a o.1 o.2.1 told o.2.2.1 o.2.2.2.1 layerWords layerWetness o.2.2.2.2.1 o.2.2.2.2.2) ++ (wL cI aL g_speeches g_speechLengths g_weather g_kindsOfCows g_thatches g_weatherLength g_mowers g_cows g_ricks))) 4 D 0 0 ((wF cI a lying damp told heights burnt layerWords layerWetness layerHeat hours) ++ (wL cI aL g_speeches g_speechLengths g_weather g_kindsOfCows g_thatches g_weatherLength g_mowers g_cows g_ricks)) 2 [(0, .ref (a 0)), (1, .ref (aL 0)), (2, .int x2), (3, .int x3)] [] := by
    intro lying damp heights burnt layerWetness layerHeat hours g_speeches g_speechLengths g_weather g_thatches g_weatherLength g_mowers g_ricks x2 x3   h
    exact xloopW (fun (q : (Nat → Int32) × (Nat → Int32) × (Nat → Int32) × (Nat → Int32) × (Nat → Int32) × Int32 × Int32) => hk_W p l e jr_F_hoursGoBy s m args below meth c A (hk_Zv below args s D A ((wF cI a o.1 o.2.1 told o.2.2.1 o.2.2.2.1 layerWords layerWetness o.2.2.2.2.1 o.2.2.2.2.2) ++ (wL cI aL g_speeches g_speechLengths g_weather g_kindsOfCows g_thatches g_weatherLength g_mowers g_cows g_ricks))) 4 D 0 0 ((wF cI a q.1 q.2.1 told q.2.2.1 q.2.2.2.1 layerWords layerWetness q.2.2.2.2.1 q.2.2.2.2.2.1) ++ (wL cI aL g_speeches g_speechLengths g_weather g_kindsOfCows g_thatches g_weatherLength g_mowers g_cows g_ricks)) 2 [(0, .ref (a 0)), (1, .ref (aL 0)), (2, .int x2), (3, .int q.2.2.2.2.2.2)] []) (fun kh ih q h => B_2 q.1 q.2.1 q.2.2.1 q.2.2.2.1 layerWetness q.2.2.2.2.1 q.2.2.2.2.2.1 g_speeches g_speechLengths g_weather g_thatches g_weatherLength g_mowers g_ricks x2 q.2.2.2.2.2.2 kh  ih  h) N (lying, damp, heights, burnt, layerHeat, hours, x3) h
  delta jf_F_hoursGoBy at h
  refine hk_iconst (v := 0) hC jd_F_hoursGoBy_0 (by decide) ?_
  refine hk_istore_n hC (i := 3) (y := (0 : Int32)) (lv2 := [(3, .int (0 : Int32)), (0, .ref (a 0)), (1, .ref (aL 0)), (2, .int x2)]) jd_F_hoursGoBy_1 rfl rfl (by decide) rfl ?_
  exact hk_lv [1, 2, 3, 0] rfl (L_2 lying damp heights burnt layerWetness layerHeat hours g_speeches g_speechLengths g_weather g_thatches g_weatherLength g_mowers g_ricks x2 (0 : Int32)   h)
theorem jc_F_hoursGoBy (l : Launch) (D : va_G) (cI cF : ClassId) (N : Nat) (a : Nat → Nat) (aL : Nat → Nat)  (lying : Nat → Int32) (damp : Nat → Int32) (told : Nat → Int32) (heights : Nat → Int32) (burnt : Nat → Int32) (layerWords : Nat → Int32) (layerWetness : Nat → Int32) (layerHeat : Nat → Int32) (hours : Int32) (g_speeches : Nat → Int32) (g_speechLengths : Nat → Int32) (g_weather : Nat → Int32) (g_kindsOfCows : Nat → Int32) (g_thatches : Nat → Int32) (g_weatherLength : Int32) (g_mowers : Int32) (g_cows : Int32) (g_ricks : Int32) (x2 : Int32) {o : (Nat → Int32) × (Nat → Int32) × (Nat → Int32) × (Nat → Int32) × (Nat → Int32) × Int32} (h : jf_F_hoursGoBy N lying damp heights burnt layerWetness layerHeat hours g_speeches g_speechLengths g_weather g_thatches g_weatherLength g_mowers g_ricks x2 = some o) : hk_Mv l jy_F_hoursGoBy jb_F_hoursGoBy 4 jr_F_hoursGoBy D cI cF ((wF cI a lying damp told heights burnt layerWords layerWetness layerHeat hours) ++ (wL cI aL g_speeches g_speechLengths g_weather g_kindsOfCows g_thatches g_weatherLength g_mowers g_cows g_ricks)) [.ref (a 0), .ref (aL 0), .int x2] ((wF cI a o.1 o.2.1 told o.2.2.1 o.2.2.2.1 layerWords layerWetness o.2.2.2.2.1 o.2.2.2.2.2) ++ (wL cI aL g_speeches g_speechLengths g_weather g_kindsOfCows g_thatches g_weatherLength g_mowers g_cows g_ricks)) :=
  hk_metV (by decide) (Nat.le_of_ble_eq_true rfl) rfl rfl (fun p e s m args below meth c A hC hr => jw_F_hoursGoBy hC hr N a aL lying damp told heights burnt layerWords layerWetness layerHeat hours g_speeches g_speechLengths g_weather g_kindsOfCows g_thatches g_weatherLength g_mowers g_cows g_ricks x2 h)
set_option maxHeartbeats 8000000 in
set_option maxRecDepth 100000 in
theorem jw_F_lyingIn {p : Program} {l : Launch} {e : Env} {s : State} {m : MethodId} {args : Array Value} {below : List Frame} {meth : Method} {c : Code} {A : Nat → Prop} {D : va_G} {cI cF : ClassId} (hC : hk_ok p s m args meth c A 5 D cI cF "HayTalk$Field" jb_F_lyingIn) (hr : meth.sig.returnType = (some .int)) (N : Nat) (a : Nat → Nat)  (lying : Nat → Int32) (damp : Nat → Int32) (told : Nat → Int32) (heights : Nat → Int32) (burnt : Nat → Int32) (layerWords : Nat → Int32) (layerWetness : Nat → Int32) (layerHeat : Nat → Int32) (hours : Int32) (x1 : Int32) (x2 : Int32) {o : Int32} (h : jf_F_lyingIn N lying x1 x2 = some o) : hk_W p l e jr_F_lyingIn s m args below meth c A (hk_Zi below args s D A o (wF cI a lying damp told heights burnt layerWords layerWetness layerHeat hours)) 5 D 0 0 (wF cI a lying damp told heights burnt layerWords layerWetness layerHeat hours) 0 [(0, .ref (a 0)), (1, .int x1), (2, .int x2)] [] := by
  have B_5 : ∀ (lying : Nat → Int32) (x2 : Int32) (x3 : Int32) (x4 : Int32) (kh5 : (Int32 × Int32) → Option (Int32)) (ihh5 : ∀ q, kh5 q = some o → hk_W p l e jr_F_lyingIn s m args below meth c A (hk_Zi below args s D A o (wF cI a lying damp told heights burnt layerWords layerWetness layerHeat hours)) 5 D 0 0 (wF cI a lying damp told heights burnt layerWords layerWetness layerHeat hours) 5 [(0, .ref (a 0)), (2, .int x2), (3, .int q.1), (4, .int q.2)] []) (_ : jf_F_lyingIn_5B N lying x2 x3 x4 kh5 = some o), hk_W p l e jr_F_lyingIn s m args below meth c A (hk_Zi below args s D A o (wF cI a lying damp told heights burnt layerWords layerWetness layerHeat hours)) 5 D 0 0 (wF cI a lying damp told heights burnt layerWords layerWetness layerHeat hours) 5 [(0, .ref (a 0)), (2, .int x2), (3, .int x3), (4, .int x4)] [] := by
    intro lying x2 x3 x4 kh5 ihh5 h
    delta jf_F_lyingIn_5B at h
    refine hk_iload hC jd_F_lyingIn_5 3 rfl ?_
    refine hk_iload_n hC jd_F_lyingIn_7 1 rfl ?_
    refine hk_icmp_gt (tgt := 35) hC jd_F_lyingIn_8 (by decide) (fun cc1 => ?_) (fun cc1 => ?_)
    · replace h := xi_t h cc1
      refine hk_iload_n hC jd_F_lyingIn_35 2 rfl ?_
      obtain rfl := Option.some.inj h
      exact hk_iret hC hr jd_F_lyingIn_36 rfl rfl
    · replace h := xi_f h cc1
      refine hk_iload hC jd_F_lyingIn_11 3 rfl ?_
      refine hk_iconst (v := 5) hC jd_F_lyingIn_13 (by decide) ?_
      refine hk_icmp_ge (tgt := 35) hC jd_F_lyingIn_14 (by decide) (fun cc2 => ?_) (fun cc2 => ?_)
      · replace h := xi_t h cc2
        refine hk_iload_n hC jd_F_lyingIn_35 2 rfl ?_
        obtain rfl := Option.some.inj h
        exact hk_iret hC hr jd_F_lyingIn_36 rfl rfl
      · replace h := xi_f h cc2
        refine hk_iload_n hC jd_F_lyingIn_17 2 rfl ?_
        refine hk_aload_n hC jd_F_lyingIn_18 0 rfl ?_
        refine hk_get hC jk_F 0 rfl 0 (by decide) jq_46 rfl jd_F_lyingIn_19 ?_
        refine hk_iload hC jd_F_lyingIn_22 3 rfl ?_
        obtain ⟨q1, h_q1, h⟩ := xb_go h
        refine hk_callSi hC (jc_R_at l D cI cF N (fun _ => (a 1)) 5 lying x4 h_q1) jl_R_at jq_379 jq_345 rfl ⟨by decide, by decide⟩ [1] rfl (by decide) rfl (ws2 := (wF cI a lying damp told heights burnt layerWords layerWetness layerHeat hours)) rfl rfl (Nat.le_of_ble_eq_true rfl) ⟨Nat.zero_le _, Nat.zero_le _⟩ jd_F_lyingIn_24 ?_
        refine hk_ior hC jd_F_lyingIn_27 ?_
        obtain ⟨v1, e_v1, h⟩ := xl_go h
        refine hk_istore_n hC (i := 3) (y := v1) (lv2 := [(3, .int v1), (0, .ref (a 0)), (2, .int x2), (4, .int x4)]) jd_F_lyingIn_28 rfl e_v1 (by decide) rfl ?_
        obtain ⟨v2, e_v2, h⟩ := xl_go h
        refine hk_iinc hC (lv2 := [(4, .int v2), (3, .int v1), (0, .ref (a 0)), (2, .int x2)]) jd_F_lyingIn_29 3 rfl e_v2 (by decide) rfl ?_
        refine hk_goto (tgt := 5) hC jd_F_lyingIn_32 (by decide) ?_
        exact hk_lv [2, 3, 1, 0] rfl (ihh5 (v1, v2) h)
  have L_5 : ∀ (lying : Nat → Int32) (x2 : Int32) (x3 : Int32) (x4 : Int32)   (_ : jf_F_lyingIn_5 N lying x2 x3 x4  = some o), hk_W p l e jr_F_lyingIn s m args below meth c A (hk_Zi below args s D A o (wF cI a lying damp told heights burnt layerWords layerWetness layerHeat hours)) 5 D 0 0 (wF cI a lying damp told heights burnt layerWords layerWetness layerHeat hours) 5 [(0, .ref (a 0)), (2, .int x2), (3, .int x3), (4, .int x4)] [] := by
    intro lying x2 x3 x4   h
    exact xloopW (fun (q : Int32 × Int32) => hk_W p l e jr_F_lyingIn s m args below meth c A (hk_Zi below args s D A o (wF cI a lying damp told heights burnt layerWords layerWetness layerHeat hours)) 5 D 0 0 (wF cI a lying damp told heights burnt layerWords layerWetness layerHeat hours) 5 [(0, .ref (a 0)), (2, .int x2), (3, .int q.1), (4, .int q.2)] []) (fun kh ih q h => B_5 lying x2 q.1 q.2 kh  ih  h) N (x3, x4) h
  delta jf_F_lyingIn at h
  refine hk_iconst (v := 0) hC jd_F_lyingIn_0 (by decide) ?_
  refine hk_istore_n hC (i := 3) (y := (0 : Int32)) (lv2 := [(3, .int (0 : Int32)), (0, .ref (a 0)), (1, .int x1), (2, .int x2)]) jd_F_lyingIn_1 rfl rfl (by decide) rfl ?_
  refine hk_iload_n hC jd_F_lyingIn_2 2 rfl ?_
  refine hk_istore hC (i := 4) (y := x1) (lv2 := [(4, .int x1), (3, .int (0 : Int32)), (0, .ref (a 0)), (1, .int x1), (2, .int x2)]) jd_F_lyingIn_3 rfl (by decide) rfl ?_
  exact hk_lv [2, 4, 1, 0] rfl (L_5 lying x2 (0 : Int32) x1   h)
theorem jc_F_lyingIn (l : Launch) (D : va_G) (cI cF : ClassId) (N : Nat) (a : Nat → Nat)  (lying : Nat → Int32) (damp : Nat → Int32) (told : Nat → Int32) (heights : Nat → Int32) (burnt : Nat → Int32) (layerWords : Nat → Int32) (layerWetness : Nat → Int32) (layerHeat : Nat → Int32) (hours : Int32) (x1 : Int32) (x2 : Int32) {o : Int32} (h : jf_F_lyingIn N lying x1 x2 = some o) : hk_Mi l jy_F_lyingIn jb_F_lyingIn 5 (some .int) jr_F_lyingIn D cI cF (wF cI a lying damp told heights burnt layerWords layerWetness layerHeat hours) [.ref (a 0), .int x1, .int x2] o (wF cI a lying damp told heights burnt layerWords layerWetness layerHeat hours) :=
  hk_metI (by decide) (Nat.le_of_ble_eq_true rfl) rfl rfl (fun p e s m args below meth c A hC hr => jw_F_lyingIn hC hr N a lying damp told heights burnt layerWords layerWetness layerHeat hours x1 x2 h)
