set_option maxHeartbeats 8000000 in
set_option maxRecDepth 100000 in
theorem jw_H_drawOf {p : Program} {l : Launch} {e : Env} {s : State} {m : MethodId} {args : Array Value} {below : List Frame} {meth : Method} {c : Code} {A : Nat → Prop} {D : va_G} {cI cF : ClassId} (hC : hk_ok p s m args meth c A 4 D cI cF "HayTalk" jb_H_drawOf) (hr : meth.sig.returnType = (some .int)) (N : Nat)    (x0 : Int32) (x1 : Int32) {o : Int32} (h : jf_H_drawOf N x0 x1 = some o) : hk_W p l e jr_H_drawOf s m args below meth c A (hk_Zi below args s D A o ([] : va_W)) 4 D 0 0 ([] : va_W) 0 [(0, .int x0), (1, .int x1)] [] := by
  delta jf_H_drawOf at h
  refine hk_ldc2 hC jd_H_drawOf_0 jq_614 ?_
  refine hk_iload_n hC jd_H_drawOf_3 0 rfl ?_
  refine hk_i2l hC jd_H_drawOf_4 ?_
  refine hk_lmul hC jd_H_drawOf_5 ?_
  refine hk_ldc2 hC jd_H_drawOf_6 jq_615 ?_
  refine hk_iload_n hC jd_H_drawOf_9 1 rfl ?_
  refine hk_i2l hC jd_H_drawOf_10 ?_
  refine hk_lmul hC jd_H_drawOf_11 ?_
  refine hk_ladd hC jd_H_drawOf_12 ?_
  refine hk_lconst (v := 1) hC jd_H_drawOf_13 (by decide) ?_
  refine hk_ladd hC jd_H_drawOf_14 ?_
  obtain ⟨v1, e_v1, h⟩ := xl_go h
  refine hk_lstore_n hC (i := 2) (y := v1) (lv2 := [(2, .long v1), (0, .int x0), (1, .int x1)]) jd_H_drawOf_15 rfl e_v1 (by decide) rfl ?_
  refine hk_lload_n hC jd_H_drawOf_16 0 rfl ?_
  refine hk_lload_n hC jd_H_drawOf_17 0 rfl ?_
  refine hk_lmul hC jd_H_drawOf_18 ?_
  refine hk_ldc2 hC jd_H_drawOf_19 jq_616 ?_
  refine hk_lrem hC jd_H_drawOf_22 (by decide) ?_
  refine hk_l2i hC jd_H_drawOf_23 ?_
  obtain rfl := Option.some.inj h
  exact hk_iret hC hr jd_H_drawOf_24 rfl rfl
theorem jc_H_drawOf (l : Launch) (D : va_G) (cI cF : ClassId) (N : Nat)    (x0 : Int32) (x1 : Int32) {o : Int32} (h : jf_H_drawOf N x0 x1 = some o) : hk_Mi l jy_H_drawOf jb_H_drawOf 4 (some .int) jr_H_drawOf D cI cF ([] : va_W) [.int x0, .int x1] o ([] : va_W) :=
  hk_metI (by decide) (Nat.le_of_ble_eq_true rfl) rfl rfl (fun p e s m args below meth c A hC hr => jw_H_drawOf hC hr N x0 x1 h)
set_option maxHeartbeats 8000000 in
set_option maxRecDepth 100000 in
theorem jw_H_actByDraw {p : Program} {l : Launch} {e : Env} {s : State} {m : MethodId} {args : Array Value} {below : List Frame} {meth : Method} {c : Code} {A : Nat → Prop} {D : va_G} {cI cF : ClassId} (hC : hk_ok p s m args meth c A 5 D cI cF "HayTalk" jb_H_actByDraw) (hr : meth.sig.returnType = none) (N : Nat) (a : Nat → Nat) (aText : Nat → Nat) (aField : Nat → Nat) (aTrial : Nat → Nat) (aPast : Nat → Nat) (aKept : Nat → Nat) (aSeen : Nat → Nat) (aLand : Nat → Nat) (aDraft : Nat → Nat)  (r_lying : Nat → Int32) (r_damp : Nat → Int32) (r_told : Nat → Int32) (r_heights : Nat → Int32) (r_burnt : Nat → Int32) (r_layerWords : Nat → Int32) (r_layerWetness : Nat → Int32) (r_layerHeat : Nat → Int32) (r_hours : Int32) (g_speeches : Nat → Int32) (g_speechLengths : Nat → Int32) (g_weather : Nat → Int32) (g_kindsOfCows : Nat → Int32) (g_thatches : Nat → Int32) (g_weatherLength : Int32) (g_mowers : Int32) (g_cows : Int32) (g_ricks : Int32) (x1 : Int32) {o : (Nat → Int32) × (Nat → Int32) × (Nat → Int32) × (Nat → Int32) × (Nat → Int32) × (Nat → Int32) × (Nat → Int32)} (h : jf_H_actByDraw N r_lying r_damp r_told r_heights r_layerWords r_layerWetness r_layerHeat g_kindsOfCows g_mowers g_cows g_ricks x1 = some o) : hk_W p l e jr_H_actByDraw s m args below meth c A (hk_Zv below args s D A ((wH a aText aField aTrial aPast aKept aSeen aLand aDraft) ++ ((wF cI aTrial o.1 o.2.1 o.2.2.1 o.2.2.2.1 r_burnt o.2.2.2.2.1 o.2.2.2.2.2.1 o.2.2.2.2.2.2 r_hours) ++ (wL cI aLand g_speeches g_speechLengths g_weather g_kindsOfCows g_thatches g_weatherLength g_mowers g_cows g_ricks)))) 5 D 0 0 ((wH a aText aField aTrial aPast aKept aSeen aLand aDraft) ++ ((wF cI aTrial r_lying r_damp r_told r_heights r_burnt r_layerWords r_layerWetness r_layerHeat r_hours) ++ (wL cI aLand g_speeches g_speechLengths g_weather g_kindsOfCows g_thatches g_weatherLength g_mowers g_cows g_ricks))) 0 [(0, .ref (a 0)), (1, .int x1)] [] := by
  delta jf_H_actByDraw at h
  refine hk_iload_n hC jd_H_actByDraw_0 1 rfl ?_
  refine hk_bipush (v := 64) hC jd_H_actByDraw_1 (by decide) ?_
  refine hk_idiv hC jd_H_actByDraw_3 (by decide) ?_
  refine hk_aload_n hC jd_H_actByDraw_4 0 rfl ?_
  refine hk_get hC jk_H _ (at_l (k := 0) rfl) 6 (by decide) jq_278 rfl jd_H_actByDraw_5 ?_
  refine hk_getN hC jk_L _ (at_r (at_r (k := 0) rfl)) 8 (by decide) jq_139 rfl jd_H_actByDraw_8 ?_
  obtain ⟨q1, h_q1, h⟩ := xb_go h
  refine hk_callS0i hC (jc_H_remainder l D cI cF N (x1 / (64 : Int32)) g_ricks h_q1) jl_H_remainder jq_621 jq_348 rfl ⟨by decide, by decide⟩ rfl (Nat.le_of_ble_eq_true rfl) ⟨Nat.zero_le _, Nat.zero_le _⟩ jd_H_actByDraw_11 ?_
  refine hk_istore_n hC (i := 2) (y := q1) (lv2 := [(2, .int q1), (0, .ref (a 0)), (1, .int x1)]) jd_H_actByDraw_14 rfl rfl (by decide) rfl ?_
  refine hk_iload_n hC jd_H_actByDraw_15 2 rfl ?_
  refine hk_bipush (v := 8) hC jd_H_actByDraw_16 (by decide) ?_
  refine hk_idiv hC jd_H_actByDraw_18 (by decide) ?_
  refine hk_aload_n hC jd_H_actByDraw_19 1 rfl ?_
  refine hk_get hC jk_H _ (at_l (k := 0) rfl) 6 (by decide) jq_278 rfl jd_H_actByDraw_20 ?_
  refine hk_getN hC jk_L _ (at_r (at_r (k := 0) rfl)) 6 (by decide) jq_133 rfl jd_H_actByDraw_23 ?_
  obtain ⟨q2, h_q2, h⟩ := xb_go h
  refine hk_callS0i hC (jc_H_remainder l D cI cF N (x1 / (8 : Int32)) g_mowers h_q2) jl_H_remainder jq_621 jq_348 rfl ⟨by decide, by decide⟩ rfl (Nat.le_of_ble_eq_true rfl) ⟨Nat.zero_le _, Nat.zero_le _⟩ jd_H_actByDraw_26 ?_
  refine hk_istore_n hC (i := 3) (y := q2) (lv2 := [(3, .int q2), (2, .int q1), (0, .ref (a 0)), (1, .int x1)]) jd_H_actByDraw_29 rfl rfl (by decide) rfl ?_
  refine hk_iload_n hC jd_H_actByDraw_30 3 rfl ?_
  refine hk_bipush (v := 8) hC jd_H_actByDraw_31 (by decide) ?_
  refine hk_idiv hC jd_H_actByDraw_33 (by decide) ?_
  refine hk_aload_n hC jd_H_actByDraw_34 2 rfl ?_
  refine hk_get hC jk_H _ (at_l (k := 0) rfl) 6 (by decide) jq_278 rfl jd_H_actByDraw_35 ?_
  refine hk_getN hC jk_L _ (at_r (at_r (k := 0) rfl)) 7 (by decide) jq_136 rfl jd_H_actByDraw_38 ?_
  obtain ⟨q3, h_q3, h⟩ := xb_go h
  refine hk_callS0i hC (jc_H_remainder l D cI cF N (x1 / (8 : Int32)) g_cows h_q3) jl_H_remainder jq_621 jq_348 rfl ⟨by decide, by decide⟩ rfl (Nat.le_of_ble_eq_true rfl) ⟨Nat.zero_le _, Nat.zero_le _⟩ jd_H_actByDraw_41 ?_
  refine hk_istore hC (i := 4) (y := q3) (lv2 := [(4, .int q3), (3, .int q2), (2, .int q1), (0, .ref (a 0)), (1, .int x1)]) jd_H_actByDraw_44 rfl (by decide) rfl ?_
  refine hk_iload_n hC jd_H_actByDraw_46 4 rfl ?_
  refine hk_bipush (v := 8) hC jd_H_actByDraw_47 (by decide) ?_
  refine hk_irem hC jd_H_actByDraw_49 (by decide) ?_
  obtain ⟨v1, e_v1, h⟩ := xl_go h
  refine hk_topi e_v1 ?_
  by_cases cc1 : v1 = (0 : Int32)
  · replace h := xi_t h cc1
    refine hk_tabIn (tgt := 84) (off := 34) hC jd_H_actByDraw_50 (by rw [cc1]; decide) (by rw [cc1]; decide) (by rw [cc1]; rfl) (by decide) ?_
    refine hk_aload_n hC jd_H_actByDraw_84 3 rfl ?_
    refine hk_get hC jk_H _ (at_l (k := 0) rfl) 2 (by decide) jq_274 rfl jd_H_actByDraw_85 ?_
    refine hk_iconst (v := 0) hC jd_H_actByDraw_88 (by decide) ?_
    refine hk_iload_n hC jd_H_actByDraw_89 1 rfl ?_
    obtain ⟨q4, h_q4, h⟩ := xb_go h
    refine hk_callVBi hC (jc_F_lyingIn l D cI cF N aTrial r_lying r_damp r_told r_heights r_burnt r_layerWords r_layerWetness r_layerHeat r_hours (0 : Int32) q2 h_q4) jl_F_lyingIn rfl (List.mem_of_getElem? (at_r (at_l (k := 0) rfl))) jq_451 jq_452 jq_453 rfl ⟨by decide, by decide⟩ (pm_3_1 _ _ _) (pm_3_1 _ _ _) rfl (ws2 := ((wH a aText aField aTrial aPast aKept aSeen aLand aDraft) ++ ((wF cI aTrial r_lying r_damp r_told r_heights r_burnt r_layerWords r_layerWetness r_layerHeat r_hours) ++ (wL cI aLand g_speeches g_speechLengths g_weather g_kindsOfCows g_thatches g_weatherLength g_mowers g_cows g_ricks)))) rfl (Nat.le_of_ble_eq_true rfl) ⟨Nat.zero_le _, Nat.zero_le _⟩ jd_H_actByDraw_90 ?_
    refine hk_if_eq (tgt := 171) hC jd_H_actByDraw_93 (by decide) (fun cc2 => ?_) (fun cc2 => ?_)
    · replace h := xi_t h cc2
      obtain rfl := Option.some.inj h
      exact hk_vret hC hr jd_H_actByDraw_171 rfl
    · replace h := xi_f h cc2
      refine hk_aload_n hC jd_H_actByDraw_96 3 rfl ?_
      refine hk_get hC jk_H _ (at_l (k := 0) rfl) 2 (by decide) jq_274 rfl jd_H_actByDraw_97 ?_
      refine hk_iload_n hC jd_H_actByDraw_100 2 rfl ?_
      obtain ⟨q5, h_q5, h⟩ := xb_go h
      refine hk_callVBi hC (jc_F_heightOf l D cI cF N aTrial r_lying r_damp r_told r_heights r_burnt r_layerWords r_layerWetness r_layerHeat r_hours q1 h_q5) jl_F_heightOf rfl (List.mem_of_getElem? (at_r (at_l (k := 0) rfl))) jq_375 jq_376 jq_377 rfl ⟨by decide, by decide⟩ (pm_3_1 _ _ _) (pm_3_1 _ _ _) rfl (ws2 := ((wH a aText aField aTrial aPast aKept aSeen aLand aDraft) ++ ((wF cI aTrial r_lying r_damp r_told r_heights r_burnt r_layerWords r_layerWetness r_layerHeat r_hours) ++ (wL cI aLand g_speeches g_speechLengths g_weather g_kindsOfCows g_thatches g_weatherLength g_mowers g_cows g_ricks)))) rfl (Nat.le_of_ble_eq_true rfl) ⟨Nat.zero_le _, Nat.zero_le _⟩ jd_H_actByDraw_101 ?_
      refine hk_bipush (v := 8) hC jd_H_actByDraw_104 (by decide) ?_
      refine hk_icmp_ge (tgt := 171) hC jd_H_actByDraw_106 (by decide) (fun cc3 => ?_) (fun cc3 => ?_)
      · replace h := xi_t h cc3
        obtain rfl := Option.some.inj h
        exact hk_vret hC hr jd_H_actByDraw_171 rfl
      · replace h := xi_f h cc3
        refine hk_aload_n hC jd_H_actByDraw_109 3 rfl ?_
        refine hk_get hC jk_H _ (at_l (k := 0) rfl) 2 (by decide) jq_274 rfl jd_H_actByDraw_110 ?_
        refine hk_iconst (v := 0) hC jd_H_actByDraw_113 (by decide) ?_
        refine hk_iload_n hC jd_H_actByDraw_114 1 rfl ?_
        refine hk_iload_n hC jd_H_actByDraw_115 2 rfl ?_
        obtain ⟨q6, h_q6, h⟩ := xb_go h
        refine hk_callVBv hC (jc_F_gather l D cI cF N aTrial r_lying r_damp r_told r_heights r_burnt r_layerWords r_layerWetness r_layerHeat r_hours (0 : Int32) q2 q1 h_q6) jl_F_gather rfl (List.mem_of_getElem? (at_r (at_l (k := 0) rfl))) jq_455 jq_456 jq_457 rfl ⟨by decide, by decide⟩ (pm_3_1 _ _ _) (pm_3_1 _ _ _) rfl (ws2 := ((wH a aText aField aTrial aPast aKept aSeen aLand aDraft) ++ ((wF cI aTrial q6.1 q6.2.1 r_told q6.2.2.1 r_burnt q6.2.2.2.1 q6.2.2.2.2.1 q6.2.2.2.2.2 r_hours) ++ (wL cI aLand g_speeches g_speechLengths g_weather g_kindsOfCows g_thatches g_weatherLength g_mowers g_cows g_ricks)))) rfl (Nat.le_of_ble_eq_true rfl) ⟨Nat.zero_le _, Nat.zero_le _⟩ jd_H_actByDraw_116 ?_
        refine hk_goto (tgt := 171) hC jd_H_actByDraw_119 (by decide) ?_
        obtain rfl := Option.some.inj h
        exact hk_vret hC hr jd_H_actByDraw_171 rfl
  · replace h := xi_f h cc1
    by_cases cc4 : v1 = (1 : Int32)
    · replace h := xi_t h cc4
      refine hk_tabIn (tgt := 84) (off := 34) hC jd_H_actByDraw_50 (by rw [cc4]; decide) (by rw [cc4]; decide) (by rw [cc4]; rfl) (by decide) ?_
      refine hk_aload_n hC jd_H_actByDraw_84 3 rfl ?_
      refine hk_get hC jk_H _ (at_l (k := 0) rfl) 2 (by decide) jq_274 rfl jd_H_actByDraw_85 ?_
      refine hk_iconst (v := 0) hC jd_H_actByDraw_88 (by decide) ?_
      refine hk_iload_n hC jd_H_actByDraw_89 1 rfl ?_
      obtain ⟨q7, h_q7, h⟩ := xb_go h
      refine hk_callVBi hC (jc_F_lyingIn l D cI cF N aTrial r_lying r_damp r_told r_heights r_burnt r_layerWords r_layerWetness r_layerHeat r_hours (0 : Int32) q2 h_q7) jl_F_lyingIn rfl (List.mem_of_getElem? (at_r (at_l (k := 0) rfl))) jq_451 jq_452 jq_453 rfl ⟨by decide, by decide⟩ (pm_3_1 _ _ _) (pm_3_1 _ _ _) rfl (ws2 := ((wH a aText aField aTrial aPast aKept aSeen aLand aDraft) ++ ((wF cI aTrial r_lying r_damp r_told r_heights r_burnt r_layerWords r_layerWetness r_layerHeat r_hours) ++ (wL cI aLand g_speeches g_speechLengths g_weather g_kindsOfCows g_thatches g_weatherLength g_mowers g_cows g_ricks)))) rfl (Nat.le_of_ble_eq_true rfl) ⟨Nat.zero_le _, Nat.zero_le _⟩ jd_H_actByDraw_90 ?_
      refine hk_if_eq (tgt := 171) hC jd_H_actByDraw_93 (by decide) (fun cc5 => ?_) (fun cc5 => ?_)
      · replace h := xi_t h cc5
        obtain rfl := Option.some.inj h
        exact hk_vret hC hr jd_H_actByDraw_171 rfl
      · replace h := xi_f h cc5
        refine hk_aload_n hC jd_H_actByDraw_96 3 rfl ?_
        refine hk_get hC jk_H _ (at_l (k := 0) rfl) 2 (by decide) jq_274 rfl jd_H_actByDraw_97 ?_
        refine hk_iload_n hC jd_H_actByDraw_100 2 rfl ?_
        obtain ⟨q8, h_q8, h⟩ := xb_go h
        refine hk_callVBi hC (jc_F_heightOf l D cI cF N aTrial r_lying r_damp r_told r_heights r_burnt r_layerWords r_layerWetness r_layerHeat r_hours q1 h_q8) jl_F_heightOf rfl (List.mem_of_getElem? (at_r (at_l (k := 0) rfl))) jq_375 jq_376 jq_377 rfl ⟨by decide, by decide⟩ (pm_3_1 _ _ _) (pm_3_1 _ _ _) rfl (ws2 := ((wH a aText aField aTrial aPast aKept aSeen aLand aDraft) ++ ((wF cI aTrial r_lying r_damp r_told r_heights r_burnt r_layerWords r_layerWetness r_layerHeat r_hours) ++ (wL cI aLand g_speeches g_speechLengths g_weather g_kindsOfCows g_thatches g_weatherLength g_mowers g_cows g_ricks)))) rfl (Nat.le_of_ble_eq_true rfl) ⟨Nat.zero_le _, Nat.zero_le _⟩ jd_H_actByDraw_101 ?_
        refine hk_bipush (v := 8) hC jd_H_actByDraw_104 (by decide) ?_
        refine hk_icmp_ge (tgt := 171) hC jd_H_actByDraw_106 (by decide) (fun cc6 => ?_) (fun cc6 => ?_)
        · replace h := xi_t h cc6
          obtain rfl := Option.some.inj h
          exact hk_vret hC hr jd_H_actByDraw_171 rfl
        · replace h := xi_f h cc6
          refine hk_aload_n hC jd_H_actByDraw_109 3 rfl ?_
          refine hk_get hC jk_H _ (at_l (k := 0) rfl) 2 (by decide) jq_274 rfl jd_H_actByDraw_110 ?_
          refine hk_iconst (v := 0) hC jd_H_actByDraw_113 (by decide) ?_
          refine hk_iload_n hC jd_H_actByDraw_114 1 rfl ?_
          refine hk_iload_n hC jd_H_actByDraw_115 2 rfl ?_
          obtain ⟨q9, h_q9, h⟩ := xb_go h
          refine hk_callVBv hC (jc_F_gather l D cI cF N aTrial r_lying r_damp r_told r_heights r_burnt r_layerWords r_layerWetness r_layerHeat r_hours (0 : Int32) q2 q1 h_q9) jl_F_gather rfl (List.mem_of_getElem? (at_r (at_l (k := 0) rfl))) jq_455 jq_456 jq_457 rfl ⟨by decide, by decide⟩ (pm_3_1 _ _ _) (pm_3_1 _ _ _) rfl (ws2 := ((wH a aText aField aTrial aPast aKept aSeen aLand aDraft) ++ ((wF cI aTrial q9.1 q9.2.1 r_told q9.2.2.1 r_burnt q9.2.2.2.1 q9.2.2.2.2.1 q9.2.2.2.2.2 r_hours) ++ (wL cI aLand g_speeches g_speechLengths g_weather g_kindsOfCows g_thatches g_weatherLength g_mowers g_cows g_ricks)))) rfl (Nat.le_of_ble_eq_true rfl) ⟨Nat.zero_le _, Nat.zero_le _⟩ jd_H_actByDraw_116 ?_
          refine hk_goto (tgt := 171) hC jd_H_actByDraw_119 (by decide) ?_
          obtain rfl := Option.some.inj h
          exact hk_vret hC hr jd_H_actByDraw_171 rfl
    · replace h := xi_f h cc4
      by_cases cc7 : v1 = (2 : Int32)
      · replace h := xi_t h cc7
        refine hk_tabIn (tgt := 122) (off := 72) hC jd_H_actByDraw_50 (by rw [cc7]; decide) (by rw [cc7]; decide) (by rw [cc7]; rfl) (by decide) ?_
        refine hk_aload_n hC jd_H_actByDraw_122 3 rfl ?_
        refine hk_get hC jk_H _ (at_l (k := 0) rfl) 2 (by decide) jq_274 rfl jd_H_actByDraw_123 ?_
        refine hk_iload_n hC jd_H_actByDraw_126 2 rfl ?_
        obtain ⟨q10, h_q10, h⟩ := xb_go h
        refine hk_callVBi hC (jc_F_heightOf l D cI cF N aTrial r_lying r_damp r_told r_heights r_burnt r_layerWords r_layerWetness r_layerHeat r_hours q1 h_q10) jl_F_heightOf rfl (List.mem_of_getElem? (at_r (at_l (k := 0) rfl))) jq_375 jq_376 jq_377 rfl ⟨by decide, by decide⟩ (pm_3_1 _ _ _) (pm_3_1 _ _ _) rfl (ws2 := ((wH a aText aField aTrial aPast aKept aSeen aLand aDraft) ++ ((wF cI aTrial r_lying r_damp r_told r_heights r_burnt r_layerWords r_layerWetness r_layerHeat r_hours) ++ (wL cI aLand g_speeches g_speechLengths g_weather g_kindsOfCows g_thatches g_weatherLength g_mowers g_cows g_ricks)))) rfl (Nat.le_of_ble_eq_true rfl) ⟨Nat.zero_le _, Nat.zero_le _⟩ jd_H_actByDraw_127 ?_
        refine hk_if_le (tgt := 171) hC jd_H_actByDraw_130 (by decide) (fun cc8 => ?_) (fun cc8 => ?_)
        · replace h := xi_t h cc8
          obtain rfl := Option.some.inj h
          exact hk_vret hC hr jd_H_actByDraw_171 rfl
        · replace h := xi_f h cc8
          refine hk_aload_n hC jd_H_actByDraw_133 3 rfl ?_
          refine hk_get hC jk_H _ (at_l (k := 0) rfl) 2 (by decide) jq_274 rfl jd_H_actByDraw_134 ?_
          refine hk_iload_n hC jd_H_actByDraw_137 2 rfl ?_
          refine hk_iload hC jd_H_actByDraw_138 0 rfl ?_
          refine hk_aload_n hC jd_H_actByDraw_140 3 rfl ?_
          refine hk_get hC jk_H _ (at_l (k := 0) rfl) 6 (by decide) jq_278 rfl jd_H_actByDraw_141 ?_
          refine hk_iload hC jd_H_actByDraw_144 0 rfl ?_
          obtain ⟨q11, h_q11, h⟩ := xb_go h
          refine hk_callVBi hC (jc_L_kindOf l D cI cF N aLand g_speeches g_speechLengths g_weather g_kindsOfCows g_thatches g_weatherLength g_mowers g_cows g_ricks q3 h_q11) jl_L_kindOf rfl (List.mem_of_getElem? (at_r (at_r (k := 0) rfl))) jq_359 jq_360 jq_361 rfl ⟨by decide, by decide⟩ (pm_3_2 _ _ _) (pm_3_2 _ _ _) rfl (ws2 := ((wH a aText aField aTrial aPast aKept aSeen aLand aDraft) ++ ((wF cI aTrial r_lying r_damp r_told r_heights r_burnt r_layerWords r_layerWetness r_layerHeat r_hours) ++ (wL cI aLand g_speeches g_speechLengths g_weather g_kindsOfCows g_thatches g_weatherLength g_mowers g_cows g_ricks)))) rfl (Nat.le_of_ble_eq_true rfl) ⟨Nat.zero_le _, Nat.zero_le _⟩ jd_H_actByDraw_146 ?_
          obtain ⟨q12, h_q12, h⟩ := xb_go h
          refine hk_callVBi hC (jc_F_feed l D cI cF N aTrial r_lying r_damp r_told r_heights r_burnt r_layerWords r_layerWetness r_layerHeat r_hours q1 q3 q11 h_q12) jl_F_feed rfl (List.mem_of_getElem? (at_r (at_l (k := 0) rfl))) jq_468 jq_469 jq_470 rfl ⟨by decide, by decide⟩ (pm_3_1 _ _ _) (pm_3_1 _ _ _) rfl (ws2 := ((wH a aText aField aTrial aPast aKept aSeen aLand aDraft) ++ ((wF cI aTrial r_lying r_damp q12.2.1 q12.2.2 r_burnt r_layerWords r_layerWetness r_layerHeat r_hours) ++ (wL cI aLand g_speeches g_speechLengths g_weather g_kindsOfCows g_thatches g_weatherLength g_mowers g_cows g_ricks)))) rfl (Nat.le_of_ble_eq_true rfl) ⟨Nat.zero_le _, Nat.zero_le _⟩ jd_H_actByDraw_149 ?_
          refine hk_pop hC jd_H_actByDraw_152 rfl ?_
          refine hk_goto (tgt := 171) hC jd_H_actByDraw_153 (by decide) ?_
          obtain rfl := Option.some.inj h
          exact hk_vret hC hr jd_H_actByDraw_171 rfl
      · replace h := xi_f h cc7
        by_cases cc9 : v1 = (3 : Int32)
        · replace h := xi_t h cc9
          refine hk_tabIn (tgt := 122) (off := 72) hC jd_H_actByDraw_50 (by rw [cc9]; decide) (by rw [cc9]; decide) (by rw [cc9]; rfl) (by decide) ?_
          refine hk_aload_n hC jd_H_actByDraw_122 3 rfl ?_
          refine hk_get hC jk_H _ (at_l (k := 0) rfl) 2 (by decide) jq_274 rfl jd_H_actByDraw_123 ?_
          refine hk_iload_n hC jd_H_actByDraw_126 2 rfl ?_
          obtain ⟨q13, h_q13, h⟩ := xb_go h
          refine hk_callVBi hC (jc_F_heightOf l D cI cF N aTrial r_lying r_damp r_told r_heights r_burnt r_layerWords r_layerWetness r_layerHeat r_hours q1 h_q13) jl_F_heightOf rfl (List.mem_of_getElem? (at_r (at_l (k := 0) rfl))) jq_375 jq_376 jq_377 rfl ⟨by decide, by decide⟩ (pm_3_1 _ _ _) (pm_3_1 _ _ _) rfl (ws2 := ((wH a aText aField aTrial aPast aKept aSeen aLand aDraft) ++ ((wF cI aTrial r_lying r_damp r_told r_heights r_burnt r_layerWords r_layerWetness r_layerHeat r_hours) ++ (wL cI aLand g_speeches g_speechLengths g_weather g_kindsOfCows g_thatches g_weatherLength g_mowers g_cows g_ricks)))) rfl (Nat.le_of_ble_eq_true rfl) ⟨Nat.zero_le _, Nat.zero_le _⟩ jd_H_actByDraw_127 ?_
          refine hk_if_le (tgt := 171) hC jd_H_actByDraw_130 (by decide) (fun cc10 => ?_) (fun cc10 => ?_)
          · replace h := xi_t h cc10
            obtain rfl := Option.some.inj h
            exact hk_vret hC hr jd_H_actByDraw_171 rfl
          · replace h := xi_f h cc10
            refine hk_aload_n hC jd_H_actByDraw_133 3 rfl ?_
            refine hk_get hC jk_H _ (at_l (k := 0) rfl) 2 (by decide) jq_274 rfl jd_H_actByDraw_134 ?_
            refine hk_iload_n hC jd_H_actByDraw_137 2 rfl ?_
            refine hk_iload hC jd_H_actByDraw_138 0 rfl ?_
            refine hk_aload_n hC jd_H_actByDraw_140 3 rfl ?_
            refine hk_get hC jk_H _ (at_l (k := 0) rfl) 6 (by decide) jq_278 rfl jd_H_actByDraw_141 ?_
            refine hk_iload hC jd_H_actByDraw_144 0 rfl ?_
            obtain ⟨q14, h_q14, h⟩ := xb_go h
            refine hk_callVBi hC (jc_L_kindOf l D cI cF N aLand g_speeches g_speechLengths g_weather g_kindsOfCows g_thatches g_weatherLength g_mowers g_cows g_ricks q3 h_q14) jl_L_kindOf rfl (List.mem_of_getElem? (at_r (at_r (k := 0) rfl))) jq_359 jq_360 jq_361 rfl ⟨by decide, by decide⟩ (pm_3_2 _ _ _) (pm_3_2 _ _ _) rfl (ws2 := ((wH a aText aField aTrial aPast aKept aSeen aLand aDraft) ++ ((wF cI aTrial r_lying r_damp r_told r_heights r_burnt r_layerWords r_layerWetness r_layerHeat r_hours) ++ (wL cI aLand g_speeches g_speechLengths g_weather g_kindsOfCows g_thatches g_weatherLength g_mowers g_cows g_ricks)))) rfl (Nat.le_of_ble_eq_true rfl) ⟨Nat.zero_le _, Nat.zero_le _⟩ jd_H_actByDraw_146 ?_
            obtain ⟨q15, h_q15, h⟩ := xb_go h
            refine hk_callVBi hC (jc_F_feed l D cI cF N aTrial r_lying r_damp r_told r_heights r_burnt r_layerWords r_layerWetness r_layerHeat r_hours q1 q3 q14 h_q15) jl_F_feed rfl (List.mem_of_getElem? (at_r (at_l (k := 0) rfl))) jq_468 jq_469 jq_470 rfl ⟨by decide, by decide⟩ (pm_3_1 _ _ _) (pm_3_1 _ _ _) rfl (ws2 := ((wH a aText aField aTrial aPast aKept aSeen aLand aDraft) ++ ((wF cI aTrial r_lying r_damp q15.2.1 q15.2.2 r_burnt r_layerWords r_layerWetness r_layerHeat r_hours) ++ (wL cI aLand g_speeches g_speechLengths g_weather g_kindsOfCows g_thatches g_weatherLength g_mowers g_cows g_ricks)))) rfl (Nat.le_of_ble_eq_true rfl) ⟨Nat.zero_le _, Nat.zero_le _⟩ jd_H_actByDraw_149 ?_
            refine hk_pop hC jd_H_actByDraw_152 rfl ?_
            refine hk_goto (tgt := 171) hC jd_H_actByDraw_153 (by decide) ?_
            obtain rfl := Option.some.inj h
            exact hk_vret hC hr jd_H_actByDraw_171 rfl
        · replace h := xi_f h cc9
          by_cases cc11 : v1 = (4 : Int32)
          · replace h := xi_t h cc11
            refine hk_tabIn (tgt := 156) (off := 106) hC jd_H_actByDraw_50 (by rw [cc11]; decide) (by rw [cc11]; decide) (by rw [cc11]; rfl) (by decide) ?_
            refine hk_aload_n hC jd_H_actByDraw_156 3 rfl ?_
            refine hk_get hC jk_H _ (at_l (k := 0) rfl) 2 (by decide) jq_274 rfl jd_H_actByDraw_157 ?_
            refine hk_getN hC jk_F _ (at_r (at_l (k := 0) rfl)) 1 (by decide) jq_49 rfl jd_H_actByDraw_160 ?_
            refine hk_iload_n hC jd_H_actByDraw_163 1 rfl ?_
            refine hk_iconst (v := 0) hC jd_H_actByDraw_164 (by decide) ?_
            obtain ⟨q16, h_q16, h⟩ := xb_go h
            refine hk_callSv hC (jc_R_put l D cI cF N (fun _ => (aTrial 2)) 5 r_damp q2 (0 : Int32) h_q16) jl_R_put jq_491 jq_222 rfl ⟨by decide, by decide⟩ [_] (congrArg (fun z => [z]) (at_r (at_l (k := 2) rfl))) rfl rfl (ws2 := ((wH a aText aField aTrial aPast aKept aSeen aLand aDraft) ++ ((wF cI aTrial r_lying q16 r_told r_heights r_burnt r_layerWords r_layerWetness r_layerHeat r_hours) ++ (wL cI aLand g_speeches g_speechLengths g_weather g_kindsOfCows g_thatches g_weatherLength g_mowers g_cows g_ricks)))) (set_r (set_l (Nat.le_of_ble_eq_true rfl) rfl)) rfl (Nat.le_of_ble_eq_true rfl) ⟨Nat.zero_le _, Nat.zero_le _⟩ jd_H_actByDraw_165 ?_
            refine hk_goto (tgt := 171) hC jd_H_actByDraw_168 (by decide) ?_
            obtain rfl := Option.some.inj h
            exact hk_vret hC hr jd_H_actByDraw_171 rfl
          · replace h := xi_f h cc11
            refine hk_tabOut (tgt := 171) hC jd_H_actByDraw_50 (hk_tabX 5 (by decide) rfl (lt_s (lt_s (lt_s (lt_s (lt_s lt_0 cc1) cc4) cc7) cc9) cc11)) (by decide) ?_
            obtain rfl := Option.some.inj h
            exact hk_vret hC hr jd_H_actByDraw_171 rfl
theorem jc_H_actByDraw (l : Launch) (D : va_G) (cI cF : ClassId) (N : Nat) (a : Nat → Nat) (aText : Nat → Nat) (aField : Nat → Nat) (aTrial : Nat → Nat) (aPast : Nat → Nat) (aKept : Nat → Nat) (aSeen : Nat → Nat) (aLand : Nat → Nat) (aDraft : Nat → Nat)  (r_lying : Nat → Int32) (r_damp : Nat → Int32) (r_told : Nat → Int32) (r_heights : Nat → Int32) (r_burnt : Nat → Int32) (r_layerWords : Nat → Int32) (r_layerWetness : Nat → Int32) (r_layerHeat : Nat → Int32) (r_hours : Int32) (g_speeches : Nat → Int32) (g_speechLengths : Nat → Int32) (g_weather : Nat → Int32) (g_kindsOfCows : Nat → Int32) (g_thatches : Nat → Int32) (g_weatherLength : Int32) (g_mowers : Int32) (g_cows : Int32) (g_ricks : Int32) (x1 : Int32) {o : (Nat → Int32) × (Nat → Int32) × (Nat → Int32) × (Nat → Int32) × (Nat → Int32) × (Nat → Int32) × (Nat → Int32)} (h : jf_H_actByDraw N r_lying r_damp r_told r_heights r_layerWords r_layerWetness r_layerHeat g_kindsOfCows g_mowers g_cows g_ricks x1 = some o) : hk_Mv l jy_H_actByDraw jb_H_actByDraw 5 jr_H_actByDraw D cI cF ((wH a aText aField aTrial aPast aKept aSeen aLand aDraft) ++ ((wF cI aTrial r_lying r_damp r_told r_heights r_burnt r_layerWords r_layerWetness r_layerHeat r_hours) ++ (wL cI aLand g_speeches g_speechLengths g_weather g_kindsOfCows g_thatches g_weatherLength g_mowers g_cows g_ricks))) [.ref (a 0), .int x1] ((wH a aText aField aTrial aPast aKept aSeen aLand aDraft) ++ ((wF cI aTrial o.1 o.2.1 o.2.2.1 o.2.2.2.1 r_burnt o.2.2.2.2.1 o.2.2.2.2.2.1 o.2.2.2.2.2.2 r_hours) ++ (wL cI aLand g_speeches g_speechLengths g_weather g_kindsOfCows g_thatches g_weatherLength g_mowers g_cows g_ricks))) :=
  hk_metV (by decide) (Nat.le_of_ble_eq_true rfl) rfl rfl (fun p e s m args below meth c A hC hr => jw_H_actByDraw hC hr N a aText aField aTrial aPast aKept aSeen aLand aDraft r_lying r_damp r_told r_heights r_burnt r_layerWords r_layerWetness r_layerHeat r_hours g_speeches g_speechLengths g_weather g_kindsOfCows g_thatches g_weatherLength g_mowers g_cows g_ricks x1 h)
set_option maxHeartbeats 8000000 in
set_option maxRecDepth 100000 in
theorem jw_H_february {p : Program} {l : Launch} {e : Env} {s : State} {m : MethodId} {args : Array Value} {below : List Frame} {meth : Method} {c : Code} {A : Nat → Prop} {D : va_G} {cI cF : ClassId} (hC : hk_ok p s m args meth c A 5 D cI cF "HayTalk" jb_H_february) (hr : meth.sig.returnType = (some .int)) (N : Nat) (a : Nat → Nat) (aText : Nat → Nat) (aField : Nat → Nat) (aTrial : Nat → Nat) (aPast : Nat → Nat) (aKept : Nat → Nat) (aSeen : Nat → Nat) (aLand : Nat → Nat) (aDraft : Nat → Nat)  (f_lying : Nat → Int32) (f_damp : Nat → Int32) (f_told : Nat → Int32) (f_heights : Nat → Int32) (f_burnt : Nat → Int32) (f_layerWords : Nat → Int32) (f_layerWetness : Nat → Int32) (f_layerHeat : Nat → Int32) (f_hours : Int32) (r_lying : Nat → Int32) (r_damp : Nat → Int32) (r_told : Nat → Int32) (r_heights : Nat → Int32) (r_burnt : Nat → Int32) (r_layerWords : Nat → Int32) (r_layerWetness : Nat → Int32) (r_layerHeat : Nat → Int32) (r_hours : Int32) (g_speeches : Nat → Int32) (g_speechLengths : Nat → Int32) (g_weather : Nat → Int32) (g_kindsOfCows : Nat → Int32) (g_thatches : Nat → Int32) (g_weatherLength : Int32) (g_mowers : Int32) (g_cows : Int32) (g_ricks : Int32) (x1 : Int32) (x2 : Int32) (x3 : Int32) {o : Int32 × (Nat → Int32) × (Nat → Int32) × (Nat → Int32) × (Nat → Int32) × (Nat → Int32) × (Nat → Int32) × (Nat → Int32) × (Nat → Int32) × Int32} (h : jf_H_february N f_lying f_damp f_told f_heights f_burnt f_layerWords f_layerWetness f_layerHeat f_hours r_lying r_damp r_told r_heights r_burnt r_layerWords r_layerWetness r_layerHeat r_hours g_speeches g_speechLengths g_weather g_kindsOfCows g_thatches g_weatherLength g_mowers g_cows g_ricks x1 x2 x3 = some o) : hk_W p l e jr_H_february s m args below meth c A (hk_Zi below args s D A o.1 ((wH a aText aField aTrial aPast aKept aSeen aLand aDraft) ++ ((wF cI aField f_lying f_damp f_told f_heights f_burnt f_layerWords f_layerWetness f_layerHeat f_hours) ++ ((wF cI aTrial o.2.1 o.2.2.1 o.2.2.2.1 o.2.2.2.2.1 o.2.2.2.2.2.1 o.2.2.2.2.2.2.1 o.2.2.2.2.2.2.2.1 o.2.2.2.2.2.2.2.2.1 o.2.2.2.2.2.2.2.2.2) ++ (wL cI aLand g_speeches g_speechLengths g_weather g_kindsOfCows g_thatches g_weatherLength g_mowers g_cows g_ricks))))) 5 D 0 0 ((wH a aText aField aTrial aPast aKept aSeen aLand aDraft) ++ ((wF cI aField f_lying f_damp f_told f_heights f_burnt f_layerWords f_layerWetness f_layerHeat f_hours) ++ ((wF cI aTrial r_lying r_damp r_told r_heights r_burnt r_layerWords r_layerWetness r_layerHeat r_hours) ++ (wL cI aLand g_speeches g_speechLengths g_weather g_kindsOfCows g_thatches g_weatherLength g_mowers g_cows g_ricks)))) 0 [(0, .ref (a 0)), (1, .int x1), (2, .int x2), (3, .int x3)] [] := by
  have B_46 : ∀ (f_lying : Nat → Int32) (f_damp : Nat → Int32) (f_told : Nat → Int32) (f_heights : Nat → Int32) (f_burnt : Nat → Int32) (f_layerWords : Nat → Int32) (f_layerWetness : Nat → Int32) (f_layerHeat : Nat → Int32) (f_hours : Int32) (r_lying : Nat → Int32) (r_damp : Nat → Int32) (r_told : Nat → Int32) (r_heights : Nat → Int32) (r_burnt : Nat → Int32) (r_layerWords : Nat → Int32) (r_layerWetness : Nat → Int32) (r_layerHeat : Nat → Int32) (r_hours : Int32) (g_speeches : Nat → Int32) (g_speechLengths : Nat → Int32) (g_weather : Nat → Int32) (g_kindsOfCows : Nat → Int32) (g_thatches : Nat → Int32) (g_weatherLength : Int32) (g_mowers : Int32) (g_cows : Int32) (g_ricks : Int32) (x1 : Int32) (x2 : Int32) (x3 : Int32) (x4 : Int32) (kh46 : ((Nat → Int32) × (Nat → Int32) × (Nat → Int32) × (Nat → Int32) × (Nat → Int32) × (Nat → Int32) × (Nat → Int32) × (Nat → Int32) × Int32 × Int32) → Option (Int32 × (Nat → Int32) × (Nat → Int32) × (Nat → Int32) × (Nat → Int32) × (Nat → Int32) × (Nat → Int32) × (Nat → Int32) × (Nat → Int32) × Int32)) (kx79 : ((Nat → Int32) × (Nat → Int32) × (Nat → Int32) × (Nat → Int32) × (Nat → Int32) × (Nat → Int32) × (Nat → Int32) × (Nat → Int32) × Int32) → Option (Int32 × (Nat → Int32) × (Nat → Int32) × (Nat → Int32) × (Nat → Int32) × (Nat → Int32) × (Nat → Int32) × (Nat → Int32) × (Nat → Int32) × Int32)) (ihh46 : ∀ q, kh46 q = some o → hk_W p l e jr_H_february s m args below meth c A (hk_Zi below args s D A o.1 ((wH a aText aField aTrial aPast aKept aSeen aLand aDraft) ++ ((wF cI aField f_lying f_damp f_told f_heights f_burnt f_layerWords f_layerWetness f_layerHeat f_hours) ++ ((wF cI aTrial o.2.1 o.2.2.1 o.2.2.2.1 o.2.2.2.2.1 o.2.2.2.2.2.1 o.2.2.2.2.2.2.1 o.2.2.2.2.2.2.2.1 o.2.2.2.2.2.2.2.2.1 o.2.2.2.2.2.2.2.2.2) ++ (wL cI aLand g_speeches g_speechLengths g_weather g_kindsOfCows g_thatches g_weatherLength g_mowers g_cows g_ricks))))) 5 D 0 0 ((wH a aText aField aTrial aPast aKept aSeen aLand aDraft) ++ ((wF cI aField f_lying f_damp f_told f_heights f_burnt f_layerWords f_layerWetness f_layerHeat f_hours) ++ ((wF cI aTrial q.1 q.2.1 q.2.2.1 q.2.2.2.1 q.2.2.2.2.1 q.2.2.2.2.2.1 q.2.2.2.2.2.2.1 q.2.2.2.2.2.2.2.1 q.2.2.2.2.2.2.2.2.1) ++ (wL cI aLand g_speeches g_speechLengths g_weather g_kindsOfCows g_thatches g_weatherLength g_mowers g_cows g_ricks)))) 46 [(0, .ref (a 0)), (1, .int x1), (2, .int x2), (3, .int x3), (4, .int q.2.2.2.2.2.2.2.2.2)] []) (ihx79 : ∀ q, kx79 q = some o → hk_W p l e jr_H_february s m args below meth c A (hk_Zi below args s D A o.1 ((wH a aText aField aTrial aPast aKept aSeen aLand aDraft) ++ ((wF cI aField f_lying f_damp f_told f_heights f_burnt f_layerWords f_layerWetness f_layerHeat f_hours) ++ ((wF cI aTrial o.2.1 o.2.2.1 o.2.2.2.1 o.2.2.2.2.1 o.2.2.2.2.2.1 o.2.2.2.2.2.2.1 o.2.2.2.2.2.2.2.1 o.2.2.2.2.2.2.2.2.1 o.2.2.2.2.2.2.2.2.2) ++ (wL cI aLand g_speeches g_speechLengths g_weather g_kindsOfCows g_thatches g_weatherLength g_mowers g_cows g_ricks))))) 5 D 0 0 ((wH a aText aField aTrial aPast aKept aSeen aLand aDraft) ++ ((wF cI aField f_lying f_damp f_told f_heights f_burnt f_layerWords f_layerWetness f_layerHeat f_hours) ++ ((wF cI aTrial q.1 q.2.1 q.2.2.1 q.2.2.2.1 q.2.2.2.2.1 q.2.2.2.2.2.1 q.2.2.2.2.2.2.1 q.2.2.2.2.2.2.2.1 q.2.2.2.2.2.2.2.2) ++ (wL cI aLand g_speeches g_speechLengths g_weather g_kindsOfCows g_thatches g_weatherLength g_mowers g_cows g_ricks)))) 79 [(0, .ref (a 0)), (3, .int x3)] []) (_ : jf_H_february_46B N f_lying f_damp f_told f_heights f_burnt f_layerWords f_layerWetness f_layerHeat f_hours r_lying r_damp r_told r_heights r_burnt r_layerWords r_layerWetness r_layerHeat r_hours g_speeches g_speechLengths g_weather g_kindsOfCows g_thatches g_weatherLength g_mowers g_cows g_ricks x1 x2 x3 x4 kh46 kx79 = some o), hk_W p l e jr_H_february s m args below meth c A (hk_Zi below args s D A o.1 ((wH a aText aField aTrial aPast aKept aSeen aLand aDraft) ++ ((wF cI aField f_lying f_damp f_told f_heights f_burnt f_layerWords f_layerWetness f_layerHeat f_hours) ++ ((wF cI aTrial o.2.1 o.2.2.1 o.2.2.2.1 o.2.2.2.2.1 o.2.2.2.2.2.1 o.2.2.2.2.2.2.1 o.2.2.2.2.2.2.2.1 o.2.2.2.2.2.2.2.2.1 o.2.2.2.2.2.2.2.2.2) ++ (wL cI aLand g_speeches g_speechLengths g_weather g_kindsOfCows g_thatches g_weatherLength g_mowers g_cows g_ricks))))) 5 D 0 0 ((wH a aText aField aTrial aPast aKept aSeen aLand aDraft) ++ ((wF cI aField f_lying f_damp f_told f_heights f_burnt f_layerWords f_layerWetness f_layerHeat f_hours) ++ ((wF cI aTrial r_lying r_damp r_told r_heights r_burnt r_layerWords r_layerWetness r_layerHeat r_hours) ++ (wL cI aLand g_speeches g_speechLengths g_weather g_kindsOfCows g_thatches g_weatherLength g_mowers g_cows g_ricks)))) 46 [(0, .ref (a 0)), (1, .int x1), (2, .int x2), (3, .int x3), (4, .int x4)] [] := by
    intro f_lying f_damp f_told f_heights f_burnt f_layerWords f_layerWetness f_layerHeat f_hours r_lying r_damp r_told r_heights r_burnt r_layerWords r_layerWetness r_layerHeat r_hours g_speeches g_speechLengths g_weather g_kindsOfCows g_thatches g_weatherLength g_mowers g_cows g_ricks x1 x2 x3 x4 kh46 kx79 ihh46 ihx79 h
    delta jf_H_february_46B at h
    refine hk_iload hC jd_H_february_46 4 rfl ?_
    refine hk_iload_n hC jd_H_february_48 2 rfl ?_
    refine hk_icmp_ge (tgt := 79) hC jd_H_february_49 (by decide) (fun cc1 => ?_) (fun cc1 => ?_)
    · replace h := xi_t h cc1
      exact hk_lv [0, 3] rfl (ihx79 (r_lying, r_damp, r_told, r_heights, r_burnt, r_layerWords, r_layerWetness, r_layerHeat, r_hours) h)
    · replace h := xi_f h cc1
      refine hk_aload_n hC jd_H_february_52 0 rfl ?_
      refine hk_iload_n hC jd_H_february_53 1 rfl ?_
      refine hk_iload hC jd_H_february_54 4 rfl ?_
      obtain ⟨q1, h_q1, h⟩ := xb_go h
      refine hk_callS0i hC (jc_H_drawOf l D cI cF N x1 x4 h_q1) jl_H_drawOf jq_611 jq_612 rfl ⟨by decide, by decide⟩ rfl (Nat.le_of_ble_eq_true rfl) ⟨Nat.zero_le _, Nat.zero_le _⟩ jd_H_february_56 ?_
      obtain ⟨q2, h_q2, h⟩ := xb_go h
      refine hk_callVBv hC (jc_H_actByDraw l D cI cF N a aText aField aTrial aPast aKept aSeen aLand aDraft r_lying r_damp r_told r_heights r_burnt r_layerWords r_layerWetness r_layerHeat r_hours g_speeches g_speechLengths g_weather g_kindsOfCows g_thatches g_weatherLength g_mowers g_cows g_ricks q1 h_q2) jl_H_actByDraw rfl (List.mem_of_getElem? (at_l (k := 0) rfl)) jq_617 jq_619 jq0_13 rfl ⟨by decide, by decide⟩ (pm_4_0_2_3 _ _ _ _) (pm_4_0_2_3 _ _ _ _) rfl (ws2 := ((wH a aText aField aTrial aPast aKept aSeen aLand aDraft) ++ ((wF cI aField f_lying f_damp f_told f_heights f_burnt f_layerWords f_layerWetness f_layerHeat f_hours) ++ ((wF cI aTrial q2.1 q2.2.1 q2.2.2.1 q2.2.2.2.1 r_burnt q2.2.2.2.2.1 q2.2.2.2.2.2.1 q2.2.2.2.2.2.2 r_hours) ++ (wL cI aLand g_speeches g_speechLengths g_weather g_kindsOfCows g_thatches g_weatherLength g_mowers g_cows g_ricks))))) rfl (Nat.le_of_ble_eq_true rfl) ⟨Nat.zero_le _, Nat.zero_le _⟩ jd_H_february_59 ?_
      refine hk_aload_n hC jd_H_february_62 0 rfl ?_
      refine hk_get hC jk_H _ (at_l (k := 0) rfl) 2 (by decide) jq_274 rfl jd_H_february_63 ?_
      refine hk_aload_n hC jd_H_february_66 0 rfl ?_
      refine hk_get hC jk_H _ (at_l (k := 0) rfl) 6 (by decide) jq_278 rfl jd_H_february_67 ?_
      obtain ⟨q3, h_q3, h⟩ := xb_go h
      refine hk_callVBv hC (jc_F_hourGoesBy l D cI cF N aTrial aLand q2.1 q2.2.1 q2.2.2.1 q2.2.2.2.1 r_burnt q2.2.2.2.2.1 q2.2.2.2.2.2.1 q2.2.2.2.2.2.2 r_hours g_speeches g_speechLengths g_weather g_kindsOfCows g_thatches g_weatherLength g_mowers g_cows g_ricks h_q3) jl_F_hourGoesBy rfl (List.mem_of_getElem? (at_r (at_r (at_l (k := 0) rfl)))) jq_517 jq_430 jq_431 rfl ⟨by decide, by decide⟩ (pm_4_2_3 _ _ _ _) (pm_4_2_3 _ _ _ _) rfl (ws2 := ((wH a aText aField aTrial aPast aKept aSeen aLand aDraft) ++ ((wF cI aField f_lying f_damp f_told f_heights f_burnt f_layerWords f_layerWetness f_layerHeat f_hours) ++ ((wF cI aTrial q3.1 q3.2.1 q2.2.2.1 q3.2.2.1 q3.2.2.2.1 q2.2.2.2.2.1 q2.2.2.2.2.2.1 q3.2.2.2.2.1 q3.2.2.2.2.2) ++ (wL cI aLand g_speeches g_speechLengths g_weather g_kindsOfCows g_thatches g_weatherLength g_mowers g_cows g_ricks))))) rfl (Nat.le_of_ble_eq_true rfl) ⟨Nat.zero_le _, Nat.zero_le _⟩ jd_H_february_70 ?_
      obtain ⟨v1, e_v1, h⟩ := xl_go h
      refine hk_iinc hC (lv2 := [(4, .int v1), (0, .ref (a 0)), (1, .int x1), (2, .int x2), (3, .int x3)]) jd_H_february_73 4 rfl e_v1 (by decide) rfl ?_
      refine hk_goto (tgt := 46) hC jd_H_february_76 (by decide) ?_
      exact hk_lv [1, 2, 3, 4, 0] rfl (ihh46 (q3.1, q3.2.1, q2.2.2.1, q3.2.2.1, q3.2.2.2.1, q2.2.2.2.2.1, q2.2.2.2.2.2.1, q3.2.2.2.2.1, q3.2.2.2.2.2, v1) h)
  have L_46 : ∀ (f_lying : Nat → Int32) (f_damp : Nat → Int32) (f_told : Nat → Int32) (f_heights : Nat → Int32) (f_burnt : Nat → Int32) (f_layerWords : Nat → Int32) (f_layerWetness : Nat → Int32) (f_layerHeat : Nat → Int32) (f_hours : Int32) (r_lying : Nat → Int32) (r_damp : Nat → Int32) (r_told : Nat → Int32) (r_heights : Nat → Int32) (r_burnt : Nat → Int32) (r_layerWords : Nat → Int32) (r_layerWetness : Nat → Int32) (r_layerHeat : Nat → Int32) (r_hours : Int32) (g_speeches : Nat → Int32) (g_speechLengths : Nat → Int32) (g_weather : Nat → Int32) (g_kindsOfCows : Nat → Int32) (g_thatches : Nat → Int32) (g_weatherLength : Int32) (g_mowers : Int32) (g_cows : Int32) (g_ricks : Int32) (x1 : Int32) (x2 : Int32) (x3 : Int32) (x4 : Int32) (kx79 : ((Nat → Int32) × (Nat → Int32) × (Nat → Int32) × (Nat → Int32) × (Nat → Int32) × (Nat → Int32) × (Nat → Int32) × (Nat → Int32) × Int32) → Option (Int32 × (Nat → Int32) × (Nat → Int32) × (Nat → Int32) × (Nat → Int32) × (Nat → Int32) × (Nat → Int32) × (Nat → Int32) × (Nat → Int32) × Int32)) (ihx79 : ∀ q, kx79 q = some o → hk_W p l e jr_H_february s m args below meth c A (hk_Zi below args s D A o.1 ((wH a aText aField aTrial aPast aKept aSeen aLand aDraft) ++ ((wF cI aField f_lying f_damp f_told f_heights f_burnt f_layerWords f_layerWetness f_layerHeat f_hours) ++ ((wF cI aTrial o.2.1 o.2.2.1 o.2.2.2.1 o.2.2.2.2.1 o.2.2.2.2.2.1 o.2.2.2.2.2.2.1 o.2.2.2.2.2.2.2.1 o.2.2.2.2.2.2.2.2.1 o.2.2.2.2.2.2.2.2.2) ++ (wL cI aLand g_speeches g_speechLengths g_weather g_kindsOfCows g_thatches g_weatherLength g_mowers g_cows g_ricks))))) 5 D 0 0 ((wH a aText aField aTrial aPast aKept aSeen aLand aDraft) ++ ((wF cI aField f_lying f_damp f_told f_heights f_burnt f_layerWords f_layerWetness f_layerHeat f_hours) ++ ((wF cI aTrial q.1 q.2.1 q.2.2.1 q.2.2.2.1 q.2.2.2.2.1 q.2.2.2.2.2.1 q.2.2.2.2.2.2.1 q.2.2.2.2.2.2.2.1 q.2.2.2.2.2.2.2.2) ++ (wL cI aLand g_speeches g_speechLengths g_weather g_kindsOfCows g_thatches g_weatherLength g_mowers g_cows g_ricks)))) 79 [(0, .ref (a 0)), (3, .int x3)] []) (_ : jf_H_february_46 N f_lying f_damp f_told f_heights f_burnt f_layerWords f_layerWetness f_layerHeat f_hours r_lying r_damp r_told r_heights r_burnt r_layerWords r_layerWetness r_layerHeat r_hours g_speeches g_speechLengths g_weather g_kindsOfCows g_thatches g_weatherLength g_mowers g_cows g_ricks x1 x2 x3 x4 kx79 = some o), hk_W p l e jr_H_february s m args below meth c A (hk_Zi below args s D A o.1 ((wH a aText aField aTrial aPast aKept aSeen aLand aDraft) ++ ((wF cI aField f_lying f_damp f_told f_heights f_burnt f_layerWords f_layerWetness f_layerHeat f_hours) ++ ((wF cI aTrial o.2.1 o.2.2.1 o.2.2.2.1 o.2.2.2.2.1 o.2.2.2.2.2.1 o.2.2.2.2.2.2.1 o.2.2.2.2.2.2.2.1 o.2.2.2.2.2.2.2.2.1 o.2.2.2.2.2.2.2.2.2) ++ (wL cI aLand g_speeches g_speechLengths g_weather g_kindsOfCows g_thatches g_weatherLength g_mowers g_cows g_ricks))))) 5 D 0 0 ((wH a aText aField aTrial aPast aKept aSeen aLand aDraft) ++ ((wF cI aField f_lying f_damp f_told f_heights f_burnt f_layerWords f_layerWetness f_layerHeat f_hours) ++ ((wF cI aTrial r_lying r_damp r_told r_heights r_burnt r_layerWords r_layerWetness r_layerHeat r_hours) ++ (wL cI aLand g_speeches g_speechLengths g_weather g_kindsOfCows g_thatches g_weatherLength g_mowers g_cows g_ricks)))) 46 [(0, .ref (a 0)), (1, .int x1), (2, .int x2), (3, .int x3), (4, .int x4)] [] := by
    intro f_lying f_damp f_told f_heights f_burnt f_layerWords f_layerWetness f_layerHeat f_hours r_lying r_damp r_told r_heights r_burnt r_layerWords r_layerWetness r_layerHeat r_hours g_speeches g_speechLengths g_weather g_kindsOfCows g_thatches g_weatherLength g_mowers g_cows g_ricks x1 x2 x3 x4 kx79 ihx79 h
    exact xloopW (fun (q : (Nat → Int32) × (Nat → Int32) × (Nat → Int32) × (Nat → Int32) × (Nat → Int32) × (Nat → Int32) × (Nat → Int32) × (Nat → Int32) × Int32 × Int32) => hk_W p l e jr_H_february s m args below meth c A (hk_Zi below args s D A o.1 ((wH a aText aField aTrial aPast aKept aSeen aLand aDraft) ++ ((wF cI aField f_lying f_damp f_told f_heights f_burnt f_layerWords f_layerWetness f_layerHeat f_hours) ++ ((wF cI aTrial o.2.1 o.2.2.1 o.2.2.2.1 o.2.2.2.2.1 o.2.2.2.2.2.1 o.2.2.2.2.2.2.1 o.2.2.2.2.2.2.2.1 o.2.2.2.2.2.2.2.2.1 o.2.2.2.2.2.2.2.2.2) ++ (wL cI aLand g_speeches g_speechLengths g_weather g_kindsOfCows g_thatches g_weatherLength g_mowers g_cows g_ricks))))) 5 D 0 0 ((wH a aText aField aTrial aPast aKept aSeen aLand aDraft) ++ ((wF cI aField f_lying f_damp f_told f_heights f_burnt f_layerWords f_layerWetness f_layerHeat f_hours) ++ ((wF cI aTrial q.1 q.2.1 q.2.2.1 q.2.2.2.1 q.2.2.2.2.1 q.2.2.2.2.2.1 q.2.2.2.2.2.2.1 q.2.2.2.2.2.2.2.1 q.2.2.2.2.2.2.2.2.1) ++ (wL cI aLand g_speeches g_speechLengths g_weather g_kindsOfCows g_thatches g_weatherLength g_mowers g_cows g_ricks)))) 46 [(0, .ref (a 0)), (1, .int x1), (2, .int x2), (3, .int x3), (4, .int q.2.2.2.2.2.2.2.2.2)] []) (fun kh ih q h => B_46 f_lying f_damp f_told f_heights f_burnt f_layerWords f_layerWetness f_layerHeat f_hours q.1 q.2.1 q.2.2.1 q.2.2.2.1 q.2.2.2.2.1 q.2.2.2.2.2.1 q.2.2.2.2.2.2.1 q.2.2.2.2.2.2.2.1 q.2.2.2.2.2.2.2.2.1 g_speeches g_speechLengths g_weather g_kindsOfCows g_thatches g_weatherLength g_mowers g_cows g_ricks x1 x2 x3 q.2.2.2.2.2.2.2.2.2 kh kx79 ih ihx79 h) N (r_lying, r_damp, r_told, r_heights, r_burnt, r_layerWords, r_layerWetness, r_layerHeat, r_hours, x4) h
  have B_79 : ∀ (f_lying : Nat → Int32) (f_damp : Nat → Int32) (f_told : Nat → Int32) (f_heights : Nat → Int32) (f_burnt : Nat → Int32) (f_layerWords : Nat → Int32) (f_layerWetness : Nat → Int32) (f_layerHeat : Nat → Int32) (f_hours : Int32) (r_lying : Nat → Int32) (r_damp : Nat → Int32) (r_told : Nat → Int32) (r_heights : Nat → Int32) (r_burnt : Nat → Int32) (r_layerWords : Nat → Int32) (r_layerWetness : Nat → Int32) (r_layerHeat : Nat → Int32) (r_hours : Int32) (g_speeches : Nat → Int32) (g_speechLengths : Nat → Int32) (g_weather : Nat → Int32) (g_kindsOfCows : Nat → Int32) (g_thatches : Nat → Int32) (g_weatherLength : Int32) (g_mowers : Int32) (g_cows : Int32) (g_ricks : Int32) (x3 : Int32)   (_ : jf_H_february_79 N f_lying f_damp f_told f_heights f_burnt f_layerWords f_layerWetness f_layerHeat f_hours r_lying r_damp r_told r_heights r_burnt r_layerWords r_layerWetness r_layerHeat r_hours g_speeches g_speechLengths g_weather g_kindsOfCows g_thatches g_weatherLength g_mowers g_cows g_ricks x3  = some o), hk_W p l e jr_H_february s m args below meth c A (hk_Zi below args s D A o.1 ((wH a aText aField aTrial aPast aKept aSeen aLand aDraft) ++ ((wF cI aField f_lying f_damp f_told f_heights f_burnt f_layerWords f_layerWetness f_layerHeat f_hours) ++ ((wF cI aTrial o.2.1 o.2.2.1 o.2.2.2.1 o.2.2.2.2.1 o.2.2.2.2.2.1 o.2.2.2.2.2.2.1 o.2.2.2.2.2.2.2.1 o.2.2.2.2.2.2.2.2.1 o.2.2.2.2.2.2.2.2.2) ++ (wL cI aLand g_speeches g_speechLengths g_weather g_kindsOfCows g_thatches g_weatherLength g_mowers g_cows g_ricks))))) 5 D 0 0 ((wH a aText aField aTrial aPast aKept aSeen aLand aDraft) ++ ((wF cI aField f_lying f_damp f_told f_heights f_burnt f_layerWords f_layerWetness f_layerHeat f_hours) ++ ((wF cI aTrial r_lying r_damp r_told r_heights r_burnt r_layerWords r_layerWetness r_layerHeat r_hours) ++ (wL cI aLand g_speeches g_speechLengths g_weather g_kindsOfCows g_thatches g_weatherLength g_mowers g_cows g_ricks)))) 79 [(0, .ref (a 0)), (3, .int x3)] [] := by
    intro f_lying f_damp f_told f_heights f_burnt f_layerWords f_layerWetness f_layerHeat f_hours r_lying r_damp r_told r_heights r_burnt r_layerWords r_layerWetness r_layerHeat r_hours g_speeches g_speechLengths g_weather g_kindsOfCows g_thatches g_weatherLength g_mowers g_cows g_ricks x3   h
    delta jf_H_february_79 at h
    refine hk_iload_n hC jd_H_february_79 1 rfl ?_
    by_cases cc1 : x3 = (0 : Int32)
    · replace h := xi_t h cc1
      refine hk_lookup (tgt := 108) (off := 28) hC jd_H_february_80 (by decide) (by rw [cc1]; rfl) (by decide) ?_
      refine hk_aload_n hC jd_H_february_108 0 rfl ?_
      refine hk_get hC jk_H _ (at_l (k := 0) rfl) 2 (by decide) jq_274 rfl jd_H_february_109 ?_
      obtain ⟨q1, h_q1, h⟩ := xb_go h
      refine hk_callVBi hC (jc_F_wordsTold l D cI cF N aTrial r_lying r_damp r_told r_heights r_burnt r_layerWords r_layerWetness r_layerHeat r_hours h_q1) jl_F_wordsTold rfl (List.mem_of_getElem? (at_r (at_r (at_l (k := 0) rfl)))) jq_622 jq_623 jq_624 rfl ⟨by decide, by decide⟩ (pm_4_2 _ _ _ _) (pm_4_2 _ _ _ _) rfl (ws2 := ((wH a aText aField aTrial aPast aKept aSeen aLand aDraft) ++ ((wF cI aField f_lying f_damp f_told f_heights f_burnt f_layerWords f_layerWetness f_layerHeat f_hours) ++ ((wF cI aTrial r_lying r_damp r_told r_heights r_burnt r_layerWords r_layerWetness r_layerHeat r_hours) ++ (wL cI aLand g_speeches g_speechLengths g_weather g_kindsOfCows g_thatches g_weatherLength g_mowers g_cows g_ricks))))) rfl (Nat.le_of_ble_eq_true rfl) ⟨Nat.zero_le _, Nat.zero_le _⟩ jd_H_february_112 ?_
      obtain rfl := Option.some.inj h
      exact hk_iret hC hr jd_H_february_115 rfl rfl
    · replace h := xi_f h cc1
      by_cases cc2 : x3 = (1 : Int32)
      · replace h := xi_t h cc2
        refine hk_lookup (tgt := 116) (off := 36) hC jd_H_february_80 (by decide) (by rw [cc2]; rfl) (by decide) ?_
        refine hk_aload_n hC jd_H_february_116 0 rfl ?_
        refine hk_get hC jk_H _ (at_l (k := 0) rfl) 2 (by decide) jq_274 rfl jd_H_february_117 ?_
        refine hk_getN hC jk_F _ (at_r (at_r (at_l (k := 0) rfl))) 3 (by decide) jq_53 rfl jd_H_february_120 ?_
        obtain ⟨q2, h_q2, h⟩ := xb_go h
        refine hk_callSi hC (jc_R_sum l D cI cF N (fun _ => (aTrial 4)) 3 r_heights h_q2) jl_R_sum jq_627 jq_628 rfl ⟨by decide, by decide⟩ [_] (congrArg (fun z => [z]) (at_r (at_r (at_l (k := 4) rfl)))) rfl rfl (ws2 := ((wH a aText aField aTrial aPast aKept aSeen aLand aDraft) ++ ((wF cI aField f_lying f_damp f_told f_heights f_burnt f_layerWords f_layerWetness f_layerHeat f_hours) ++ ((wF cI aTrial r_lying r_damp r_told r_heights r_burnt r_layerWords r_layerWetness r_layerHeat r_hours) ++ (wL cI aLand g_speeches g_speechLengths g_weather g_kindsOfCows g_thatches g_weatherLength g_mowers g_cows g_ricks))))) (set_r (set_r (set_l (Nat.le_of_ble_eq_true rfl) rfl))) rfl (Nat.le_of_ble_eq_true rfl) ⟨Nat.zero_le _, Nat.zero_le _⟩ jd_H_february_123 ?_
        obtain rfl := Option.some.inj h
        exact hk_iret hC hr jd_H_february_126 rfl rfl
      · replace h := xi_f h cc2
        refine hk_lookup (tgt := 127) (off := 47) hC jd_H_february_80 (by decide) ((lv_osw cc1 (by decide)).trans ((lv_osw cc2 (by decide)).trans rfl)) (by decide) ?_
        refine hk_aload_n hC jd_H_february_127 0 rfl ?_
        refine hk_get hC jk_H _ (at_l (k := 0) rfl) 2 (by decide) jq_274 rfl jd_H_february_128 ?_
        refine hk_getN hC jk_F _ (at_r (at_r (at_l (k := 0) rfl))) 4 (by decide) jq_55 rfl jd_H_february_131 ?_
        obtain ⟨q3, h_q3, h⟩ := xb_go h
        refine hk_callSi hC (jc_R_sum l D cI cF N (fun _ => (aTrial 5)) 3 r_burnt h_q3) jl_R_sum jq_627 jq_628 rfl ⟨by decide, by decide⟩ [_] (congrArg (fun z => [z]) (at_r (at_r (at_l (k := 5) rfl)))) rfl rfl (ws2 := ((wH a aText aField aTrial aPast aKept aSeen aLand aDraft) ++ ((wF cI aField f_lying f_damp f_told f_heights f_burnt f_layerWords f_layerWetness f_layerHeat f_hours) ++ ((wF cI aTrial r_lying r_damp r_told r_heights r_burnt r_layerWords r_layerWetness r_layerHeat r_hours) ++ (wL cI aLand g_speeches g_speechLengths g_weather g_kindsOfCows g_thatches g_weatherLength g_mowers g_cows g_ricks))))) (set_r (set_r (set_l (Nat.le_of_ble_eq_true rfl) rfl))) rfl (Nat.le_of_ble_eq_true rfl) ⟨Nat.zero_le _, Nat.zero_le _⟩ jd_H_february_134 ?_
        refine hk_aload_n hC jd_H_february_137 0 rfl ?_
        refine hk_get hC jk_H _ (at_l (k := 0) rfl) 1 (by decide) jq_273 rfl jd_H_february_138 ?_
        refine hk_getN hC jk_F _ (at_r (at_l (k := 0) rfl)) 4 (by decide) jq_55 rfl jd_H_february_141 ?_
        obtain ⟨q4, h_q4, h⟩ := xb_go h
        refine hk_callSi hC (jc_R_sum l D cI cF N (fun _ => (aField 5)) 3 f_burnt h_q4) jl_R_sum jq_627 jq_628 rfl ⟨by decide, by decide⟩ [_] (congrArg (fun z => [z]) (at_r (at_l (k := 5) rfl))) rfl rfl (ws2 := ((wH a aText aField aTrial aPast aKept aSeen aLand aDraft) ++ ((wF cI aField f_lying f_damp f_told f_heights f_burnt f_layerWords f_layerWetness f_layerHeat f_hours) ++ ((wF cI aTrial r_lying r_damp r_told r_heights r_burnt r_layerWords r_layerWetness r_layerHeat r_hours) ++ (wL cI aLand g_speeches g_speechLengths g_weather g_kindsOfCows g_thatches g_weatherLength g_mowers g_cows g_ricks))))) (set_r (set_l (Nat.le_of_ble_eq_true rfl) rfl)) rfl (Nat.le_of_ble_eq_true rfl) ⟨Nat.zero_le _, Nat.zero_le _⟩ jd_H_february_144 ?_
        refine hk_isub hC jd_H_february_147 ?_
        obtain rfl := Option.some.inj h
        exact hk_iret hC hr jd_H_february_148 rfl rfl
  delta jf_H_february at h
  refine hk_iload_n hC jd_H_february_0 1 rfl ?_
  refine hk_iconst (v := 0) hC jd_H_february_1 (by decide) ?_
  refine hk_sipush (v := 9999) hC jd_H_february_2 (by decide) ?_
  obtain ⟨q1, h_q1, h⟩ := xb_go h
  refine hk_callS0i hC (jc_H_isWithin l D cI cF N x1 (0 : Int32) (9999 : Int32) h_q1) jl_H_isWithin jq_302 jq_249 rfl ⟨by decide, by decide⟩ rfl (Nat.le_of_ble_eq_true rfl) ⟨Nat.zero_le _, Nat.zero_le _⟩ jd_H_february_5 ?_
  refine hk_if_eq (tgt := 30) hC jd_H_february_8 (by decide) (fun cc1 => ?_) (fun cc1 => ?_)
  · replace h := xi_t h cc1
    refine hk_iconst (v := -1) hC jd_H_february_30 (by decide) ?_
    obtain rfl := Option.some.inj h
    exact hk_iret hC hr jd_H_february_31 rfl rfl
  · replace h := xi_f h cc1
    refine hk_iload_n hC jd_H_february_11 2 rfl ?_
    refine hk_iconst (v := 1) hC jd_H_february_12 (by decide) ?_
    refine hk_bipush (v := 60) hC jd_H_february_13 (by decide) ?_
    obtain ⟨q2, h_q2, h⟩ := xb_go h
    refine hk_callS0i hC (jc_H_isWithin l D cI cF N x2 (1 : Int32) (60 : Int32) h_q2) jl_H_isWithin jq_302 jq_249 rfl ⟨by decide, by decide⟩ rfl (Nat.le_of_ble_eq_true rfl) ⟨Nat.zero_le _, Nat.zero_le _⟩ jd_H_february_15 ?_
    refine hk_if_eq (tgt := 30) hC jd_H_february_18 (by decide) (fun cc2 => ?_) (fun cc2 => ?_)
    · replace h := xi_t h cc2
      refine hk_iconst (v := -1) hC jd_H_february_30 (by decide) ?_
      obtain rfl := Option.some.inj h
      exact hk_iret hC hr jd_H_february_31 rfl rfl
    · replace h := xi_f h cc2
      refine hk_iload_n hC jd_H_february_21 3 rfl ?_
      refine hk_iconst (v := 0) hC jd_H_february_22 (by decide) ?_
      refine hk_iconst (v := 2) hC jd_H_february_23 (by decide) ?_
      obtain ⟨q3, h_q3, h⟩ := xb_go h
      refine hk_callS0i hC (jc_H_isWithin l D cI cF N x3 (0 : Int32) (2 : Int32) h_q3) jl_H_isWithin jq_302 jq_249 rfl ⟨by decide, by decide⟩ rfl (Nat.le_of_ble_eq_true rfl) ⟨Nat.zero_le _, Nat.zero_le _⟩ jd_H_february_24 ?_
      refine hk_if_ne (tgt := 32) hC jd_H_february_27 (by decide) (fun cc3 => ?_) (fun cc3 => ?_)
      · replace h := xi_f h cc3
        refine hk_aload_n hC jd_H_february_32 0 rfl ?_
        refine hk_get hC jk_H _ (at_l (k := 0) rfl) 2 (by decide) jq_274 rfl jd_H_february_33 ?_
        refine hk_aload_n hC jd_H_february_36 0 rfl ?_
        refine hk_get hC jk_H _ (at_l (k := 0) rfl) 1 (by decide) jq_273 rfl jd_H_february_37 ?_
        obtain ⟨q4, h_q4, h⟩ := xb_go h
        refine hk_callVBv hC (jc_F_copyFrom l D cI cF N aTrial aField r_lying r_damp r_told r_heights r_burnt r_layerWords r_layerWetness r_layerHeat r_hours f_lying f_damp f_told f_heights f_burnt f_layerWords f_layerWetness f_layerHeat f_hours h_q4) jl_F_copyFrom rfl (List.mem_of_getElem? (at_r (at_r (at_l (k := 0) rfl)))) jq_512 jq_416 jq_417 rfl ⟨by decide, by decide⟩ (pm_4_2_1 _ _ _ _) (pm_4_2_1 _ _ _ _) rfl (ws2 := ((wH a aText aField aTrial aPast aKept aSeen aLand aDraft) ++ ((wF cI aField f_lying f_damp f_told f_heights f_burnt f_layerWords f_layerWetness f_layerHeat f_hours) ++ ((wF cI aTrial q4.1 q4.2.1 q4.2.2.1 q4.2.2.2.1 q4.2.2.2.2.1 q4.2.2.2.2.2.1 q4.2.2.2.2.2.2.1 q4.2.2.2.2.2.2.2.1 q4.2.2.2.2.2.2.2.2) ++ (wL cI aLand g_speeches g_speechLengths g_weather g_kindsOfCows g_thatches g_weatherLength g_mowers g_cows g_ricks))))) rfl (Nat.le_of_ble_eq_true rfl) ⟨Nat.zero_le _, Nat.zero_le _⟩ jd_H_february_40 ?_
        refine hk_iconst (v := 0) hC jd_H_february_43 (by decide) ?_
        refine hk_istore hC (i := 4) (y := (0 : Int32)) (lv2 := [(4, .int (0 : Int32)), (0, .ref (a 0)), (1, .int x1), (2, .int x2), (3, .int x3)]) jd_H_february_44 rfl (by decide) rfl ?_
        exact hk_lv [1, 2, 3, 4, 0] rfl (L_46 f_lying f_damp f_told f_heights f_burnt f_layerWords f_layerWetness f_layerHeat f_hours q4.1 q4.2.1 q4.2.2.1 q4.2.2.2.1 q4.2.2.2.2.1 q4.2.2.2.2.2.1 q4.2.2.2.2.2.2.1 q4.2.2.2.2.2.2.2.1 q4.2.2.2.2.2.2.2.2 g_speeches g_speechLengths g_weather g_kindsOfCows g_thatches g_weatherLength g_mowers g_cows g_ricks x1 x2 x3 (0 : Int32) _ (fun q5 h => by exact (B_79 f_lying f_damp f_told f_heights f_burnt f_layerWords f_layerWetness f_layerHeat f_hours q5.1 q5.2.1 q5.2.2.1 q5.2.2.2.1 q5.2.2.2.2.1 q5.2.2.2.2.2.1 q5.2.2.2.2.2.2.1 q5.2.2.2.2.2.2.2.1 q5.2.2.2.2.2.2.2.2 g_speeches g_speechLengths g_weather g_kindsOfCows g_thatches g_weatherLength g_mowers g_cows g_ricks x3   h)) h)
      · replace h := xi_t h cc3
        refine hk_iconst (v := -1) hC jd_H_february_30 (by decide) ?_
        obtain rfl := Option.some.inj h
        exact hk_iret hC hr jd_H_february_31 rfl rfl
theorem jc_H_february (l : Launch) (D : va_G) (cI cF : ClassId) (N : Nat) (a : Nat → Nat) (aText : Nat → Nat) (aField : Nat → Nat) (aTrial : Nat → Nat) (aPast : Nat → Nat) (aKept : Nat → Nat) (aSeen : Nat → Nat) (aLand : Nat → Nat) (aDraft : Nat → Nat)  (f_lying : Nat → Int32) (f_damp : Nat → Int32) (f_told : Nat → Int32) (f_heights : Nat → Int32) (f_burnt : Nat → Int32) (f_layerWords : Nat → Int32) (f_layerWetness : Nat → Int32) (f_layerHeat : Nat → Int32) (f_hours : Int32) (r_lying : Nat → Int32) (r_damp : Nat → Int32) (r_told : Nat → Int32) (r_heights : Nat → Int32) (r_burnt : Nat → Int32) (r_layerWords : Nat → Int32) (r_layerWetness : Nat → Int32) (r_layerHeat : Nat → Int32) (r_hours : Int32) (g_speeches : Nat → Int32) (g_speechLengths : Nat → Int32) (g_weather : Nat → Int32) (g_kindsOfCows : Nat → Int32) (g_thatches : Nat → Int32) (g_weatherLength : Int32) (g_mowers : Int32) (g_cows : Int32) (g_ricks : Int32) (x1 : Int32) (x2 : Int32) (x3 : Int32) {o : Int32 × (Nat → Int32) × (Nat → Int32) × (Nat → Int32) × (Nat → Int32) × (Nat → Int32) × (Nat → Int32) × (Nat → Int32) × (Nat → Int32) × Int32} (h : jf_H_february N f_lying f_damp f_told f_heights f_burnt f_layerWords f_layerWetness f_layerHeat f_hours r_lying r_damp r_told r_heights r_burnt r_layerWords r_layerWetness r_layerHeat r_hours g_speeches g_speechLengths g_weather g_kindsOfCows g_thatches g_weatherLength g_mowers g_cows g_ricks x1 x2 x3 = some o) : hk_Mi l jy_H_february jb_H_february 5 (some .int) jr_H_february D cI cF ((wH a aText aField aTrial aPast aKept aSeen aLand aDraft) ++ ((wF cI aField f_lying f_damp f_told f_heights f_burnt f_layerWords f_layerWetness f_layerHeat f_hours) ++ ((wF cI aTrial r_lying r_damp r_told r_heights r_burnt r_layerWords r_layerWetness r_layerHeat r_hours) ++ (wL cI aLand g_speeches g_speechLengths g_weather g_kindsOfCows g_thatches g_weatherLength g_mowers g_cows g_ricks)))) [.ref (a 0), .int x1, .int x2, .int x3] o.1 ((wH a aText aField aTrial aPast aKept aSeen aLand aDraft) ++ ((wF cI aField f_lying f_damp f_told f_heights f_burnt f_layerWords f_layerWetness f_layerHeat f_hours) ++ ((wF cI aTrial o.2.1 o.2.2.1 o.2.2.2.1 o.2.2.2.2.1 o.2.2.2.2.2.1 o.2.2.2.2.2.2.1 o.2.2.2.2.2.2.2.1 o.2.2.2.2.2.2.2.2.1 o.2.2.2.2.2.2.2.2.2) ++ (wL cI aLand g_speeches g_speechLengths g_weather g_kindsOfCows g_thatches g_weatherLength g_mowers g_cows g_ricks)))) :=
  hk_metI (by decide) (Nat.le_of_ble_eq_true rfl) rfl rfl (fun p e s m args below meth c A hC hr => jw_H_february hC hr N a aText aField aTrial aPast aKept aSeen aLand aDraft f_lying f_damp f_told f_heights f_burnt f_layerWords f_layerWetness f_layerHeat f_hours r_lying r_damp r_told r_heights r_burnt r_layerWords r_layerWetness r_layerHeat r_hours g_speeches g_speechLengths g_weather g_kindsOfCows g_thatches g_weatherLength g_mowers g_cows g_ricks x1 x2 x3 h)
set_option maxHeartbeats 8000000 in
set_option maxRecDepth 100000 in
theorem jw_H_keep {p : Program} {l : Launch} {e : Env} {s : State} {m : MethodId} {args : Array Value} {below : List Frame} {meth : Method} {c : Code} {A : Nat → Prop} {D : va_G} {cI cF : ClassId} (hC : hk_ok p s m args meth c A 1 D cI cF "HayTalk" jb_H_keep) (hr : meth.sig.returnType = (some .int)) (N : Nat) (a : Nat → Nat) (aText : Nat → Nat) (aField : Nat → Nat) (aTrial : Nat → Nat) (aPast : Nat → Nat) (aKept : Nat → Nat) (aSeen : Nat → Nat) (aLand : Nat → Nat) (aDraft : Nat → Nat)  (f_lying : Nat → Int32) (f_damp : Nat → Int32) (f_told : Nat → Int32) (f_heights : Nat → Int32) (f_burnt : Nat → Int32) (f_layerWords : Nat → Int32) (f_layerWetness : Nat → Int32) (f_layerHeat : Nat → Int32) (f_hours : Int32) (k_newest : Int32) (k_size : Int32) (k_v : Nat → jFV)  {o : Int32 × Int32 × Int32 × (Nat → jFV)} (h : jf_H_keep N f_lying f_damp f_told f_heights f_burnt f_layerWords f_layerWetness f_layerHeat f_hours k_newest k_size k_v = some o) : hk_W p l e jr_H_keep s m args below meth c A (hk_Zi below args s D A o.1 ((wH a aText aField aTrial aPast aKept aSeen aLand aDraft) ++ ((wF cI aField f_lying f_damp f_told f_heights f_burnt f_layerWords f_layerWetness f_layerHeat f_hours) ++ (wP cI cF 2 aKept o.2.1 o.2.2.1 o.2.2.2)))) 1 D 0 0 ((wH a aText aField aTrial aPast aKept aSeen aLand aDraft) ++ ((wF cI aField f_lying f_damp f_told f_heights f_burnt f_layerWords f_layerWetness f_layerHeat f_hours) ++ (wP cI cF 2 aKept k_newest k_size k_v))) 0 [(0, .ref (a 0))] [] := by
  delta jf_H_keep at h
  refine hk_aload_n hC jd_H_keep_0 0 rfl ?_
  refine hk_get hC jk_H _ (at_l (k := 0) rfl) 4 (by decide) jq_276 rfl jd_H_keep_1 ?_
  obtain ⟨q1, h_q1, h⟩ := xb_go h
  refine hk_callVBi hC (jc_P_isFull l D cI cF N aKept 2 k_newest k_size k_v h_q1) jl_P_isFull rfl (List.mem_of_getElem? (at_r (at_r (k := 0) rfl))) jq_634 jq_635 jq_636 rfl ⟨by decide, by decide⟩ (pm_3_2 _ _ _) (pm_3_2 _ _ _) (fst_P _ _ _ _) (ws2 := ((wH a aText aField aTrial aPast aKept aSeen aLand aDraft) ++ ((wF cI aField f_lying f_damp f_told f_heights f_burnt f_layerWords f_layerWetness f_layerHeat f_hours) ++ (wP cI cF 2 aKept k_newest k_size k_v)))) rfl (Nat.le_of_ble_eq_true rfl) ⟨Nat.zero_le _, Nat.zero_le _⟩ jd_H_keep_4 ?_
  refine hk_if_eq (tgt := 13) hC jd_H_keep_7 (by decide) (fun cc1 => ?_) (fun cc1 => ?_)
  · replace h := xi_t h cc1
    refine hk_aload_n hC jd_H_keep_13 0 rfl ?_
    refine hk_get hC jk_H _ (at_l (k := 0) rfl) 4 (by decide) jq_276 rfl jd_H_keep_14 ?_
    refine hk_aload_n hC jd_H_keep_17 0 rfl ?_
    refine hk_get hC jk_H _ (at_l (k := 0) rfl) 1 (by decide) jq_273 rfl jd_H_keep_18 ?_
    obtain ⟨q2, h_q2, h⟩ := xb_go h
    refine hk_callVBv hC (jc_P_push l D cI cF N aKept aField 2 k_newest k_size k_v f_lying f_damp f_told f_heights f_burnt f_layerWords f_layerWetness f_layerHeat f_hours h_q2) jl_P_push rfl (List.mem_of_getElem? (at_r (at_r (k := 0) rfl))) jq_407 jq_408 jq_409 rfl ⟨by decide, by decide⟩ (pm_3_2_1 _ _ _) (pm_3_2_1 _ _ _) (fst_app (fst_P _ _ _ _) rfl) (ws2 := ((wH a aText aField aTrial aPast aKept aSeen aLand aDraft) ++ ((wF cI aField f_lying f_damp f_told f_heights f_burnt f_layerWords f_layerWetness f_layerHeat f_hours) ++ (wP cI cF 2 aKept q2.1 q2.2.1 q2.2.2)))) rfl (Nat.le_of_ble_eq_true rfl) ⟨Nat.zero_le _, Nat.zero_le _⟩ jd_H_keep_21 ?_
    refine hk_aload_n hC jd_H_keep_24 0 rfl ?_
    refine hk_get hC jk_H _ (at_l (k := 0) rfl) 4 (by decide) jq_276 rfl jd_H_keep_25 ?_
    refine hk_getN hC jk_P _ (at_r (at_r (k := 0) rfl)) 2 (by decide) jq_95 rfl jd_H_keep_28 ?_
    obtain rfl := Option.some.inj h
    exact hk_iret hC hr jd_H_keep_31 rfl rfl
  · replace h := xi_f h cc1
    refine hk_bipush (v := -3) hC jd_H_keep_10 (by decide) ?_
    obtain rfl := Option.some.inj h
    exact hk_iret hC hr jd_H_keep_12 rfl rfl
theorem jc_H_keep (l : Launch) (D : va_G) (cI cF : ClassId) (N : Nat) (a : Nat → Nat) (aText : Nat → Nat) (aField : Nat → Nat) (aTrial : Nat → Nat) (aPast : Nat → Nat) (aKept : Nat → Nat) (aSeen : Nat → Nat) (aLand : Nat → Nat) (aDraft : Nat → Nat)  (f_lying : Nat → Int32) (f_damp : Nat → Int32) (f_told : Nat → Int32) (f_heights : Nat → Int32) (f_burnt : Nat → Int32) (f_layerWords : Nat → Int32) (f_layerWetness : Nat → Int32) (f_layerHeat : Nat → Int32) (f_hours : Int32) (k_newest : Int32) (k_size : Int32) (k_v : Nat → jFV)  {o : Int32 × Int32 × Int32 × (Nat → jFV)} (h : jf_H_keep N f_lying f_damp f_told f_heights f_burnt f_layerWords f_layerWetness f_layerHeat f_hours k_newest k_size k_v = some o) : hk_Mi l jy_H_keep jb_H_keep 1 (some .int) jr_H_keep D cI cF ((wH a aText aField aTrial aPast aKept aSeen aLand aDraft) ++ ((wF cI aField f_lying f_damp f_told f_heights f_burnt f_layerWords f_layerWetness f_layerHeat f_hours) ++ (wP cI cF 2 aKept k_newest k_size k_v))) [.ref (a 0)] o.1 ((wH a aText aField aTrial aPast aKept aSeen aLand aDraft) ++ ((wF cI aField f_lying f_damp f_told f_heights f_burnt f_layerWords f_layerWetness f_layerHeat f_hours) ++ (wP cI cF 2 aKept o.2.1 o.2.2.1 o.2.2.2))) :=
  hk_metI (by decide) (Nat.le_of_ble_eq_true rfl) rfl rfl (fun p e s m args below meth c A hC hr => jw_H_keep hC hr N a aText aField aTrial aPast aKept aSeen aLand aDraft f_lying f_damp f_told f_heights f_burnt f_layerWords f_layerWetness f_layerHeat f_hours k_newest k_size k_v h)
