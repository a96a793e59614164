set_option maxHeartbeats 8000000 in
set_option maxRecDepth 100000 in
theorem jw_H_cow {p : Program} {l : Launch} {e : Env} {s : State} {m : MethodId} {args : Array Value} {below : List Frame} {meth : Method} {c : Code} {A : Nat → Prop} {D : va_G} {cI cF : ClassId} (hC : hk_ok p s m args meth c A 3 D cI cF "HayTalk" jb_H_cow) (hr : meth.sig.returnType = (some .int)) (N : Nat) (a : Nat → Nat) (aText : Nat → Nat) (aField : Nat → Nat) (aTrial : Nat → Nat) (aPast : Nat → Nat) (aKept : Nat → Nat) (aSeen : Nat → Nat) (aLand : Nat → Nat) (aDraft : Nat → Nat)  (f_lying : Nat → Int32) (f_damp : Nat → Int32) (f_told : Nat → Int32) (f_heights : Nat → Int32) (f_burnt : Nat → Int32) (f_layerWords : Nat → Int32) (f_layerWetness : Nat → Int32) (f_layerHeat : Nat → Int32) (f_hours : Int32) (g_speeches : Nat → Int32) (g_speechLengths : Nat → Int32) (g_weather : Nat → Int32) (g_kindsOfCows : Nat → Int32) (g_thatches : Nat → Int32) (g_weatherLength : Int32) (g_mowers : Int32) (g_cows : Int32) (g_ricks : Int32) (x1 : Int32) (x2 : Int32) {o : Int32} (h : jf_H_cow N f_told g_kindsOfCows g_cows x1 x2 = some o) : hk_W p l e jr_H_cow s m args below meth c A (hk_Zi below args s D A o ((wH a aText aField aTrial aPast aKept aSeen aLand aDraft) ++ ((wF cI aField f_lying f_damp f_told f_heights f_burnt f_layerWords f_layerWetness f_layerHeat f_hours) ++ (wL cI aLand g_speeches g_speechLengths g_weather g_kindsOfCows g_thatches g_weatherLength g_mowers g_cows g_ricks)))) 3 D 0 0 ((wH a aText aField aTrial aPast aKept aSeen aLand aDraft) ++ ((wF cI aField f_lying f_damp f_told f_heights f_burnt f_layerWords f_layerWetness f_layerHeat f_hours) ++ (wL cI aLand g_speeches g_speechLengths g_weather g_kindsOfCows g_thatches g_weatherLength g_mowers g_cows g_ricks))) 0 [(0, .ref (a 0)), (1, .int x1), (2, .int x2)] [] := by
  delta jf_H_cow at h
  refine hk_aload_n hC jd_H_cow_0 0 rfl ?_
  refine hk_iload_n hC jd_H_cow_1 1 rfl ?_
  obtain ⟨q1, h_q1, h⟩ := xb_go h
  refine hk_callVBi hC (jc_H_isCow l D cI cF N a aText aField aTrial aPast aKept aSeen aLand aDraft g_speeches g_speechLengths g_weather g_kindsOfCows g_thatches g_weatherLength g_mowers g_cows g_ricks x1 h_q1) jl_H_isCow rfl (List.mem_of_getElem? (at_l (k := 0) rfl)) jq_355 jq_357 jq0_6 rfl ⟨by decide, by decide⟩ (pm_3_0_2 _ _ _) (pm_3_0_2 _ _ _) rfl (ws2 := ((wH a aText aField aTrial aPast aKept aSeen aLand aDraft) ++ ((wF cI aField f_lying f_damp f_told f_heights f_burnt f_layerWords f_layerWetness f_layerHeat f_hours) ++ (wL cI aLand g_speeches g_speechLengths g_weather g_kindsOfCows g_thatches g_weatherLength g_mowers g_cows g_ricks)))) rfl (Nat.le_of_ble_eq_true rfl) ⟨Nat.zero_le _, Nat.zero_le _⟩ jd_H_cow_2 ?_
  refine hk_if_ne (tgt := 10) hC jd_H_cow_5 (by decide) (fun cc1 => ?_) (fun cc1 => ?_)
  · replace h := xi_f h cc1
    refine hk_iload_n hC jd_H_cow_10 2 rfl ?_
    by_cases cc2 : x2 = (0 : Int32)
    · replace h := xi_t h cc2
      refine hk_lookup (tgt := 36) (off := 25) hC jd_H_cow_11 (by decide) (by rw [cc2]; rfl) (by decide) ?_
      refine hk_aload_n hC jd_H_cow_36 0 rfl ?_
      refine hk_get hC jk_H _ (at_l (k := 0) rfl) 6 (by decide) jq_278 rfl jd_H_cow_37 ?_
      refine hk_iload_n hC jd_H_cow_40 1 rfl ?_
      obtain ⟨q2, h_q2, h⟩ := xb_go h
      refine hk_callVBi hC (jc_L_kindOf l D cI cF N aLand g_speeches g_speechLengths g_weather g_kindsOfCows g_thatches g_weatherLength g_mowers g_cows g_ricks x1 h_q2) jl_L_kindOf rfl (List.mem_of_getElem? (at_r (at_r (k := 0) rfl))) jq_359 jq_360 jq_361 rfl ⟨by decide, by decide⟩ (pm_3_2 _ _ _) (pm_3_2 _ _ _) rfl (ws2 := ((wH a aText aField aTrial aPast aKept aSeen aLand aDraft) ++ ((wF cI aField f_lying f_damp f_told f_heights f_burnt f_layerWords f_layerWetness f_layerHeat f_hours) ++ (wL cI aLand g_speeches g_speechLengths g_weather g_kindsOfCows g_thatches g_weatherLength g_mowers g_cows g_ricks)))) rfl (Nat.le_of_ble_eq_true rfl) ⟨Nat.zero_le _, Nat.zero_le _⟩ jd_H_cow_41 ?_
      obtain rfl := Option.some.inj h
      exact hk_iret hC hr jd_H_cow_44 rfl rfl
    · replace h := xi_f h cc2
      by_cases cc3 : x2 = (1 : Int32)
      · replace h := xi_t h cc3
        refine hk_lookup (tgt := 45) (off := 34) hC jd_H_cow_11 (by decide) (by rw [cc3]; rfl) (by decide) ?_
        refine hk_aload_n hC jd_H_cow_45 0 rfl ?_
        refine hk_get hC jk_H _ (at_l (k := 0) rfl) 1 (by decide) jq_273 rfl jd_H_cow_46 ?_
        refine hk_getN hC jk_F _ (at_r (at_l (k := 0) rfl)) 2 (by decide) jq_51 rfl jd_H_cow_49 ?_
        refine hk_iload_n hC jd_H_cow_52 1 rfl ?_
        obtain ⟨q3, h_q3, h⟩ := xb_go h
        refine hk_callSi hC (jc_R_at l D cI cF N (fun _ => (aField 3)) 4 f_told x1 h_q3) jl_R_at jq_350 jq_345 rfl ⟨by decide, by decide⟩ [_] (congrArg (fun z => [z]) (at_r (at_l (k := 3) rfl))) rfl rfl (ws2 := ((wH a aText aField aTrial aPast aKept aSeen aLand aDraft) ++ ((wF cI aField f_lying f_damp f_told f_heights f_burnt f_layerWords f_layerWetness f_layerHeat f_hours) ++ (wL cI aLand g_speeches g_speechLengths g_weather g_kindsOfCows g_thatches g_weatherLength g_mowers g_cows g_ricks)))) (set_r (set_l (Nat.le_of_ble_eq_true rfl) rfl)) rfl (Nat.le_of_ble_eq_true rfl) ⟨Nat.zero_le _, Nat.zero_le _⟩ jd_H_cow_53 ?_
        obtain rfl := Option.some.inj h
        exact hk_iret hC hr jd_H_cow_56 rfl rfl
      · replace h := xi_f h cc3
        refine hk_lookup (tgt := 57) (off := 46) hC jd_H_cow_11 (by decide) ((lv_osw cc2 (by decide)).trans ((lv_osw cc3 (by decide)).trans rfl)) (by decide) ?_
        refine hk_iconst (v := -1) hC jd_H_cow_57 (by decide) ?_
        obtain rfl := Option.some.inj h
        exact hk_iret hC hr jd_H_cow_58 rfl rfl
  · replace h := xi_t h cc1
    refine hk_iconst (v := -1) hC jd_H_cow_8 (by decide) ?_
    obtain rfl := Option.some.inj h
    exact hk_iret hC hr jd_H_cow_9 rfl rfl
theorem jc_H_cow (l : Launch) (D : va_G) (cI cF : ClassId) (N : Nat) (a : Nat → Nat) (aText : Nat → Nat) (aField : Nat → Nat) (aTrial : Nat → Nat) (aPast : Nat → Nat) (aKept : Nat → Nat) (aSeen : Nat → Nat) (aLand : Nat → Nat) (aDraft : Nat → Nat)  (f_lying : Nat → Int32) (f_damp : Nat → Int32) (f_told : Nat → Int32) (f_heights : Nat → Int32) (f_burnt : Nat → Int32) (f_layerWords : Nat → Int32) (f_layerWetness : Nat → Int32) (f_layerHeat : Nat → Int32) (f_hours : Int32) (g_speeches : Nat → Int32) (g_speechLengths : Nat → Int32) (g_weather : Nat → Int32) (g_kindsOfCows : Nat → Int32) (g_thatches : Nat → Int32) (g_weatherLength : Int32) (g_mowers : Int32) (g_cows : Int32) (g_ricks : Int32) (x1 : Int32) (x2 : Int32) {o : Int32} (h : jf_H_cow N f_told g_kindsOfCows g_cows x1 x2 = some o) : hk_Mi l jy_H_cow jb_H_cow 3 (some .int) jr_H_cow D cI cF ((wH a aText aField aTrial aPast aKept aSeen aLand aDraft) ++ ((wF cI aField f_lying f_damp f_told f_heights f_burnt f_layerWords f_layerWetness f_layerHeat f_hours) ++ (wL cI aLand g_speeches g_speechLengths g_weather g_kindsOfCows g_thatches g_weatherLength g_mowers g_cows g_ricks))) [.ref (a 0), .int x1, .int x2] o ((wH a aText aField aTrial aPast aKept aSeen aLand aDraft) ++ ((wF cI aField f_lying f_damp f_told f_heights f_burnt f_layerWords f_layerWetness f_layerHeat f_hours) ++ (wL cI aLand g_speeches g_speechLengths g_weather g_kindsOfCows g_thatches g_weatherLength g_mowers g_cows g_ricks))) :=
  hk_metI (by decide) (Nat.le_of_ble_eq_true rfl) rfl rfl (fun p e s m args below meth c A hC hr => jw_H_cow hC hr N a aText aField aTrial aPast aKept aSeen aLand aDraft f_lying f_damp f_told f_heights f_burnt f_layerWords f_layerWetness f_layerHeat f_hours g_speeches g_speechLengths g_weather g_kindsOfCows g_thatches g_weatherLength g_mowers g_cows g_ricks x1 x2 h)
set_option maxHeartbeats 8000000 in
set_option maxRecDepth 100000 in
theorem jw_H_isRick {p : Program} {l : Launch} {e : Env} {s : State} {m : MethodId} {args : Array Value} {below : List Frame} {meth : Method} {c : Code} {A : Nat → Prop} {D : va_G} {cI cF : ClassId} (hC : hk_ok p s m args meth c A 2 D cI cF "HayTalk" jb_H_isRick) (hr : meth.sig.returnType = (some .boolean)) (N : Nat) (a : Nat → Nat) (aText : Nat → Nat) (aField : Nat → Nat) (aTrial : Nat → Nat) (aPast : Nat → Nat) (aKept : Nat → Nat) (aSeen : Nat → Nat) (aLand : Nat → Nat) (aDraft : Nat → Nat)  (g_speeches : Nat → Int32) (g_speechLengths : Nat → Int32) (g_weather : Nat → Int32) (g_kindsOfCows : Nat → Int32) (g_thatches : Nat → Int32) (g_weatherLength : Int32) (g_mowers : Int32) (g_cows : Int32) (g_ricks : Int32) (x1 : Int32) {o : Int32} (h : jf_H_isRick N g_ricks x1 = some o) : hk_W p l e jr_H_isRick s m args below meth c A (hk_Zi below args s D A o ((wH a aText aField aTrial aPast aKept aSeen aLand aDraft) ++ (wL cI aLand g_speeches g_speechLengths g_weather g_kindsOfCows g_thatches g_weatherLength g_mowers g_cows g_ricks))) 2 D 0 0 ((wH a aText aField aTrial aPast aKept aSeen aLand aDraft) ++ (wL cI aLand g_speeches g_speechLengths g_weather g_kindsOfCows g_thatches g_weatherLength g_mowers g_cows g_ricks)) 0 [(0, .ref (a 0)), (1, .int x1)] [] := by
  delta jf_H_isRick at h
  refine hk_iload_n hC jd_H_isRick_0 1 rfl ?_
  refine hk_if_lt (tgt := 19) hC jd_H_isRick_1 (by decide) (fun cc1 => ?_) (fun cc1 => ?_)
  · replace h := xi_t h cc1
    refine hk_iconst (v := 0) hC jd_H_isRick_19 (by decide) ?_
    obtain rfl := Option.some.inj h
    exact hk_zret hC hr rfl jd_H_isRick_20 rfl rfl
  · replace h := xi_f h cc1
    refine hk_iload_n hC jd_H_isRick_4 1 rfl ?_
    refine hk_aload_n hC jd_H_isRick_5 0 rfl ?_
    refine hk_get hC jk_H _ (at_l (k := 0) rfl) 6 (by decide) jq_278 rfl jd_H_isRick_6 ?_
    refine hk_getN hC jk_L _ (at_r (k := 0) rfl) 8 (by decide) jq_139 rfl jd_H_isRick_9 ?_
    refine hk_icmp_ge (tgt := 19) hC jd_H_isRick_12 (by decide) (fun cc2 => ?_) (fun cc2 => ?_)
    · replace h := xi_t h cc2
      refine hk_iconst (v := 0) hC jd_H_isRick_19 (by decide) ?_
      obtain rfl := Option.some.inj h
      exact hk_zret hC hr rfl jd_H_isRick_20 rfl rfl
    · replace h := xi_f h cc2
      refine hk_iconst (v := 1) hC jd_H_isRick_15 (by decide) ?_
      refine hk_goto (tgt := 20) hC jd_H_isRick_16 (by decide) ?_
      obtain rfl := Option.some.inj h
      exact hk_zret hC hr rfl jd_H_isRick_20 rfl rfl
theorem jc_H_isRick (l : Launch) (D : va_G) (cI cF : ClassId) (N : Nat) (a : Nat → Nat) (aText : Nat → Nat) (aField : Nat → Nat) (aTrial : Nat → Nat) (aPast : Nat → Nat) (aKept : Nat → Nat) (aSeen : Nat → Nat) (aLand : Nat → Nat) (aDraft : Nat → Nat)  (g_speeches : Nat → Int32) (g_speechLengths : Nat → Int32) (g_weather : Nat → Int32) (g_kindsOfCows : Nat → Int32) (g_thatches : Nat → Int32) (g_weatherLength : Int32) (g_mowers : Int32) (g_cows : Int32) (g_ricks : Int32) (x1 : Int32) {o : Int32} (h : jf_H_isRick N g_ricks x1 = some o) : hk_Mi l jy_H_isRick jb_H_isRick 2 (some .boolean) jr_H_isRick D cI cF ((wH a aText aField aTrial aPast aKept aSeen aLand aDraft) ++ (wL cI aLand g_speeches g_speechLengths g_weather g_kindsOfCows g_thatches g_weatherLength g_mowers g_cows g_ricks)) [.ref (a 0), .int x1] o ((wH a aText aField aTrial aPast aKept aSeen aLand aDraft) ++ (wL cI aLand g_speeches g_speechLengths g_weather g_kindsOfCows g_thatches g_weatherLength g_mowers g_cows g_ricks)) :=
  hk_metI (by decide) (Nat.le_of_ble_eq_true rfl) rfl rfl (fun p e s m args below meth c A hC hr => jw_H_isRick hC hr N a aText aField aTrial aPast aKept aSeen aLand aDraft g_speeches g_speechLengths g_weather g_kindsOfCows g_thatches g_weatherLength g_mowers g_cows g_ricks x1 h)
set_option maxHeartbeats 8000000 in
set_option maxRecDepth 100000 in
theorem jw_H_rick {p : Program} {l : Launch} {e : Env} {s : State} {m : MethodId} {args : Array Value} {below : List Frame} {meth : Method} {c : Code} {A : Nat → Prop} {D : va_G} {cI cF : ClassId} (hC : hk_ok p s m args meth c A 3 D cI cF "HayTalk" jb_H_rick) (hr : meth.sig.returnType = (some .int)) (N : Nat) (a : Nat → Nat) (aText : Nat → Nat) (aField : Nat → Nat) (aTrial : Nat → Nat) (aPast : Nat → Nat) (aKept : Nat → Nat) (aSeen : Nat → Nat) (aLand : Nat → Nat) (aDraft : Nat → Nat)  (f_lying : Nat → Int32) (f_damp : Nat → Int32) (f_told : Nat → Int32) (f_heights : Nat → Int32) (f_burnt : Nat → Int32) (f_layerWords : Nat → Int32) (f_layerWetness : Nat → Int32) (f_layerHeat : Nat → Int32) (f_hours : Int32) (g_speeches : Nat → Int32) (g_speechLengths : Nat → Int32) (g_weather : Nat → Int32) (g_kindsOfCows : Nat → Int32) (g_thatches : Nat → Int32) (g_weatherLength : Int32) (g_mowers : Int32) (g_cows : Int32) (g_ricks : Int32) (x1 : Int32) (x2 : Int32) {o : Int32} (h : jf_H_rick N f_heights f_burnt f_layerHeat g_thatches g_ricks x1 x2 = some o) : hk_W p l e jr_H_rick s m args below meth c A (hk_Zi below args s D A o ((wH a aText aField aTrial aPast aKept aSeen aLand aDraft) ++ ((wF cI aField f_lying f_damp f_told f_heights f_burnt f_layerWords f_layerWetness f_layerHeat f_hours) ++ (wL cI aLand g_speeches g_speechLengths g_weather g_kindsOfCows g_thatches g_weatherLength g_mowers g_cows g_ricks)))) 3 D 0 0 ((wH a aText aField aTrial aPast aKept aSeen aLand aDraft) ++ ((wF cI aField f_lying f_damp f_told f_heights f_burnt f_layerWords f_layerWetness f_layerHeat f_hours) ++ (wL cI aLand g_speeches g_speechLengths g_weather g_kindsOfCows g_thatches g_weatherLength g_mowers g_cows g_ricks))) 0 [(0, .ref (a 0)), (1, .int x1), (2, .int x2)] [] := by
  delta jf_H_rick at h
  refine hk_aload_n hC jd_H_rick_0 0 rfl ?_
  refine hk_iload_n hC jd_H_rick_1 1 rfl ?_
  obtain ⟨q1, h_q1, h⟩ := xb_go h
  refine hk_callVBi hC (jc_H_isRick l D cI cF N a aText aField aTrial aPast aKept aSeen aLand aDraft g_speeches g_speechLengths g_weather g_kindsOfCows g_thatches g_weatherLength g_mowers g_cows g_ricks x1 h_q1) jl_H_isRick rfl (List.mem_of_getElem? (at_l (k := 0) rfl)) jq_367 jq_369 jq0_7 rfl ⟨by decide, by decide⟩ (pm_3_0_2 _ _ _) (pm_3_0_2 _ _ _) rfl (ws2 := ((wH a aText aField aTrial aPast aKept aSeen aLand aDraft) ++ ((wF cI aField f_lying f_damp f_told f_heights f_burnt f_layerWords f_layerWetness f_layerHeat f_hours) ++ (wL cI aLand g_speeches g_speechLengths g_weather g_kindsOfCows g_thatches g_weatherLength g_mowers g_cows g_ricks)))) rfl (Nat.le_of_ble_eq_true rfl) ⟨Nat.zero_le _, Nat.zero_le _⟩ jd_H_rick_2 ?_
  refine hk_if_ne (tgt := 10) hC jd_H_rick_5 (by decide) (fun cc1 => ?_) (fun cc1 => ?_)
  · replace h := xi_f h cc1
    refine hk_iload_n hC jd_H_rick_10 2 rfl ?_
    by_cases cc2 : x2 = (0 : Int32)
    · replace h := xi_t h cc2
      refine hk_tabIn (tgt := 40) (off := 29) hC jd_H_rick_11 (by rw [cc2]; decide) (by rw [cc2]; decide) (by rw [cc2]; rfl) (by decide) ?_
      refine hk_aload_n hC jd_H_rick_40 0 rfl ?_
      refine hk_get hC jk_H _ (at_l (k := 0) rfl) 6 (by decide) jq_278 rfl jd_H_rick_41 ?_
      refine hk_iload_n hC jd_H_rick_44 1 rfl ?_
      obtain ⟨q2, h_q2, h⟩ := xb_go h
      refine hk_callVBi hC (jc_L_thatchOf l D cI cF N aLand g_speeches g_speechLengths g_weather g_kindsOfCows g_thatches g_weatherLength g_mowers g_cows g_ricks x1 h_q2) jl_L_thatchOf rfl (List.mem_of_getElem? (at_r (at_r (k := 0) rfl))) jq_371 jq_372 jq_373 rfl ⟨by decide, by decide⟩ (pm_3_2 _ _ _) (pm_3_2 _ _ _) rfl (ws2 := ((wH a aText aField aTrial aPast aKept aSeen aLand aDraft) ++ ((wF cI aField f_lying f_damp f_told f_heights f_burnt f_layerWords f_layerWetness f_layerHeat f_hours) ++ (wL cI aLand g_speeches g_speechLengths g_weather g_kindsOfCows g_thatches g_weatherLength g_mowers g_cows g_ricks)))) rfl (Nat.le_of_ble_eq_true rfl) ⟨Nat.zero_le _, Nat.zero_le _⟩ jd_H_rick_45 ?_
      obtain rfl := Option.some.inj h
      exact hk_iret hC hr jd_H_rick_48 rfl rfl
    · replace h := xi_f h cc2
      by_cases cc3 : x2 = (1 : Int32)
      · replace h := xi_t h cc3
        refine hk_tabIn (tgt := 49) (off := 38) hC jd_H_rick_11 (by rw [cc3]; decide) (by rw [cc3]; decide) (by rw [cc3]; rfl) (by decide) ?_
        refine hk_aload_n hC jd_H_rick_49 0 rfl ?_
        refine hk_get hC jk_H _ (at_l (k := 0) rfl) 1 (by decide) jq_273 rfl jd_H_rick_50 ?_
        refine hk_iload_n hC jd_H_rick_53 1 rfl ?_
        obtain ⟨q3, h_q3, h⟩ := xb_go h
        refine hk_callVBi hC (jc_F_heightOf l D cI cF N aField f_lying f_damp f_told f_heights f_burnt f_layerWords f_layerWetness f_layerHeat f_hours x1 h_q3) jl_F_heightOf rfl (List.mem_of_getElem? (at_r (at_l (k := 0) rfl))) jq_375 jq_376 jq_377 rfl ⟨by decide, by decide⟩ (pm_3_1 _ _ _) (pm_3_1 _ _ _) rfl (ws2 := ((wH a aText aField aTrial aPast aKept aSeen aLand aDraft) ++ ((wF cI aField f_lying f_damp f_told f_heights f_burnt f_layerWords f_layerWetness f_layerHeat f_hours) ++ (wL cI aLand g_speeches g_speechLengths g_weather g_kindsOfCows g_thatches g_weatherLength g_mowers g_cows g_ricks)))) rfl (Nat.le_of_ble_eq_true rfl) ⟨Nat.zero_le _, Nat.zero_le _⟩ jd_H_rick_54 ?_
        obtain rfl := Option.some.inj h
        exact hk_iret hC hr jd_H_rick_57 rfl rfl
      · replace h := xi_f h cc3
        by_cases cc4 : x2 = (2 : Int32)
        · replace h := xi_t h cc4
          refine hk_tabIn (tgt := 58) (off := 47) hC jd_H_rick_11 (by rw [cc4]; decide) (by rw [cc4]; decide) (by rw [cc4]; rfl) (by decide) ?_
          refine hk_aload_n hC jd_H_rick_58 0 rfl ?_
          refine hk_get hC jk_H _ (at_l (k := 0) rfl) 1 (by decide) jq_273 rfl jd_H_rick_59 ?_
          refine hk_iload_n hC jd_H_rick_62 1 rfl ?_
          obtain ⟨q4, h_q4, h⟩ := xb_go h
          refine hk_callVBi hC (jc_F_hottestOf l D cI cF N aField f_lying f_damp f_told f_heights f_burnt f_layerWords f_layerWetness f_layerHeat f_hours x1 h_q4) jl_F_hottestOf rfl (List.mem_of_getElem? (at_r (at_l (k := 0) rfl))) jq_380 jq_381 jq_382 rfl ⟨by decide, by decide⟩ (pm_3_1 _ _ _) (pm_3_1 _ _ _) rfl (ws2 := ((wH a aText aField aTrial aPast aKept aSeen aLand aDraft) ++ ((wF cI aField f_lying f_damp f_told f_heights f_burnt f_layerWords f_layerWetness f_layerHeat f_hours) ++ (wL cI aLand g_speeches g_speechLengths g_weather g_kindsOfCows g_thatches g_weatherLength g_mowers g_cows g_ricks)))) rfl (Nat.le_of_ble_eq_true rfl) ⟨Nat.zero_le _, Nat.zero_le _⟩ jd_H_rick_63 ?_
          obtain rfl := Option.some.inj h
          exact hk_iret hC hr jd_H_rick_66 rfl rfl
        · replace h := xi_f h cc4
          by_cases cc5 : x2 = (3 : Int32)
          · replace h := xi_t h cc5
            refine hk_tabIn (tgt := 67) (off := 56) hC jd_H_rick_11 (by rw [cc5]; decide) (by rw [cc5]; decide) (by rw [cc5]; rfl) (by decide) ?_
            refine hk_aload_n hC jd_H_rick_67 0 rfl ?_
            refine hk_get hC jk_H _ (at_l (k := 0) rfl) 1 (by decide) jq_273 rfl jd_H_rick_68 ?_
            refine hk_getN hC jk_F _ (at_r (at_l (k := 0) rfl)) 4 (by decide) jq_55 rfl jd_H_rick_71 ?_
            refine hk_iload_n hC jd_H_rick_74 1 rfl ?_
            obtain ⟨q5, h_q5, h⟩ := xb_go h
            refine hk_callSi hC (jc_R_at l D cI cF N (fun _ => (aField 5)) 3 f_burnt x1 h_q5) jl_R_at jq_350 jq_345 rfl ⟨by decide, by decide⟩ [_] (congrArg (fun z => [z]) (at_r (at_l (k := 5) rfl))) rfl rfl (ws2 := ((wH a aText aField aTrial aPast aKept aSeen aLand aDraft) ++ ((wF cI aField f_lying f_damp f_told f_heights f_burnt f_layerWords f_layerWetness f_layerHeat f_hours) ++ (wL cI aLand g_speeches g_speechLengths g_weather g_kindsOfCows g_thatches g_weatherLength g_mowers g_cows g_ricks)))) (set_r (set_l (Nat.le_of_ble_eq_true rfl) rfl)) rfl (Nat.le_of_ble_eq_true rfl) ⟨Nat.zero_le _, Nat.zero_le _⟩ jd_H_rick_75 ?_
            obtain rfl := Option.some.inj h
            exact hk_iret hC hr jd_H_rick_78 rfl rfl
          · replace h := xi_f h cc5
            refine hk_tabOut (tgt := 79) hC jd_H_rick_11 (hk_tabX 4 (by decide) rfl (lt_s (lt_s (lt_s (lt_s lt_0 cc2) cc3) cc4) cc5)) (by decide) ?_
            refine hk_iconst (v := -1) hC jd_H_rick_79 (by decide) ?_
            obtain rfl := Option.some.inj h
            exact hk_iret hC hr jd_H_rick_80 rfl rfl
  · replace h := xi_t h cc1
    refine hk_iconst (v := -1) hC jd_H_rick_8 (by decide) ?_
    obtain rfl := Option.some.inj h
    exact hk_iret hC hr jd_H_rick_9 rfl rfl
theorem jc_H_rick (l : Launch) (D : va_G) (cI cF : ClassId) (N : Nat) (a : Nat → Nat) (aText : Nat → Nat) (aField : Nat → Nat) (aTrial : Nat → Nat) (aPast : Nat → Nat) (aKept : Nat → Nat) (aSeen : Nat → Nat) (aLand : Nat → Nat) (aDraft : Nat → Nat)  (f_lying : Nat → Int32) (f_damp : Nat → Int32) (f_told : Nat → Int32) (f_heights : Nat → Int32) (f_burnt : Nat → Int32) (f_layerWords : Nat → Int32) (f_layerWetness : Nat → Int32) (f_layerHeat : Nat → Int32) (f_hours : Int32) (g_speeches : Nat → Int32) (g_speechLengths : Nat → Int32) (g_weather : Nat → Int32) (g_kindsOfCows : Nat → Int32) (g_thatches : Nat → Int32) (g_weatherLength : Int32) (g_mowers : Int32) (g_cows : Int32) (g_ricks : Int32) (x1 : Int32) (x2 : Int32) {o : Int32} (h : jf_H_rick N f_heights f_burnt f_layerHeat g_thatches g_ricks x1 x2 = some o) : hk_Mi l jy_H_rick jb_H_rick 3 (some .int) jr_H_rick D cI cF ((wH a aText aField aTrial aPast aKept aSeen aLand aDraft) ++ ((wF cI aField f_lying f_damp f_told f_heights f_burnt f_layerWords f_layerWetness f_layerHeat f_hours) ++ (wL cI aLand g_speeches g_speechLengths g_weather g_kindsOfCows g_thatches g_weatherLength g_mowers g_cows g_ricks))) [.ref (a 0), .int x1, .int x2] o ((wH a aText aField aTrial aPast aKept aSeen aLand aDraft) ++ ((wF cI aField f_lying f_damp f_told f_heights f_burnt f_layerWords f_layerWetness f_layerHeat f_hours) ++ (wL cI aLand g_speeches g_speechLengths g_weather g_kindsOfCows g_thatches g_weatherLength g_mowers g_cows g_ricks))) :=
  hk_metI (by decide) (Nat.le_of_ble_eq_true rfl) rfl rfl (fun p e s m args below meth c A hC hr => jw_H_rick hC hr N a aText aField aTrial aPast aKept aSeen aLand aDraft f_lying f_damp f_told f_heights f_burnt f_layerWords f_layerWetness f_layerHeat f_hours g_speeches g_speechLengths g_weather g_kindsOfCows g_thatches g_weatherLength g_mowers g_cows g_ricks x1 x2 h)
set_option maxHeartbeats 8000000 in
set_option maxRecDepth 100000 in
theorem jw_H_layer {p : Program} {l : Launch} {e : Env} {s : State} {m : MethodId} {args : Array Value} {below : List Frame} {meth : Method} {c : Code} {A : Nat → Prop} {D : va_G} {cI cF : ClassId} (hC : hk_ok p s m args meth c A 4 D cI cF "HayTalk" jb_H_layer) (hr : meth.sig.returnType = (some .int)) (N : Nat) (a : Nat → Nat) (aText : Nat → Nat) (aField : Nat → Nat) (aTrial : Nat → Nat) (aPast : Nat → Nat) (aKept : Nat → Nat) (aSeen : Nat → Nat) (aLand : Nat → Nat) (aDraft : Nat → Nat)  (f_lying : Nat → Int32) (f_damp : Nat → Int32) (f_told : Nat → Int32) (f_heights : Nat → Int32) (f_burnt : Nat → Int32) (f_layerWords : Nat → Int32) (f_layerWetness : Nat → Int32) (f_layerHeat : Nat → Int32) (f_hours : Int32) (g_speeches : Nat → Int32) (g_speechLengths : Nat → Int32) (g_weather : Nat → Int32) (g_kindsOfCows : Nat → Int32) (g_thatches : Nat → Int32) (g_weatherLength : Int32) (g_mowers : Int32) (g_cows : Int32) (g_ricks : Int32) (x1 : Int32) (x2 : Int32) (x3 : Int32) {o : Int32} (h : jf_H_layer N f_heights f_layerWords f_layerWetness f_layerHeat g_ricks x1 x2 x3 = some o) : hk_W p l e jr_H_layer s m args below meth c A (hk_Zi below args s D A o ((wH a aText aField aTrial aPast aKept aSeen aLand aDraft) ++ ((wF cI aField f_lying f_damp f_told f_heights f_burnt f_layerWords f_layerWetness f_layerHeat f_hours) ++ (wL cI aLand g_speeches g_speechLengths g_weather g_kindsOfCows g_thatches g_weatherLength g_mowers g_cows g_ricks)))) 4 D 0 0 ((wH a aText aField aTrial aPast aKept aSeen aLand aDraft) ++ ((wF cI aField f_lying f_damp f_told f_heights f_burnt f_layerWords f_layerWetness f_layerHeat f_hours) ++ (wL cI aLand g_speeches g_speechLengths g_weather g_kindsOfCows g_thatches g_weatherLength g_mowers g_cows g_ricks))) 0 [(0, .ref (a 0)), (1, .int x1), (2, .int x2), (3, .int x3)] [] := by
  delta jf_H_layer at h
  refine hk_aload_n hC jd_H_layer_0 0 rfl ?_
  refine hk_iload_n hC jd_H_layer_1 1 rfl ?_
  obtain ⟨q1, h_q1, h⟩ := xb_go h
  refine hk_callVBi hC (jc_H_isRick l D cI cF N a aText aField aTrial aPast aKept aSeen aLand aDraft g_speeches g_speechLengths g_weather g_kindsOfCows g_thatches g_weatherLength g_mowers g_cows g_ricks x1 h_q1) jl_H_isRick rfl (List.mem_of_getElem? (at_l (k := 0) rfl)) jq_367 jq_369 jq0_7 rfl ⟨by decide, by decide⟩ (pm_3_0_2 _ _ _) (pm_3_0_2 _ _ _) rfl (ws2 := ((wH a aText aField aTrial aPast aKept aSeen aLand aDraft) ++ ((wF cI aField f_lying f_damp f_told f_heights f_burnt f_layerWords f_layerWetness f_layerHeat f_hours) ++ (wL cI aLand g_speeches g_speechLengths g_weather g_kindsOfCows g_thatches g_weatherLength g_mowers g_cows g_ricks)))) rfl (Nat.le_of_ble_eq_true rfl) ⟨Nat.zero_le _, Nat.zero_le _⟩ jd_H_layer_2 ?_
  refine hk_if_eq (tgt := 24) hC jd_H_layer_5 (by decide) (fun cc1 => ?_) (fun cc1 => ?_)
  · replace h := xi_t h cc1
    refine hk_iconst (v := -1) hC jd_H_layer_24 (by decide) ?_
    obtain rfl := Option.some.inj h
    exact hk_iret hC hr jd_H_layer_25 rfl rfl
  · replace h := xi_f h cc1
    refine hk_iload_n hC jd_H_layer_8 2 rfl ?_
    refine hk_if_lt (tgt := 24) hC jd_H_layer_9 (by decide) (fun cc2 => ?_) (fun cc2 => ?_)
    · replace h := xi_t h cc2
      refine hk_iconst (v := -1) hC jd_H_layer_24 (by decide) ?_
      obtain rfl := Option.some.inj h
      exact hk_iret hC hr jd_H_layer_25 rfl rfl
    · replace h := xi_f h cc2
      refine hk_iload_n hC jd_H_layer_12 2 rfl ?_
      refine hk_aload_n hC jd_H_layer_13 0 rfl ?_
      refine hk_get hC jk_H _ (at_l (k := 0) rfl) 1 (by decide) jq_273 rfl jd_H_layer_14 ?_
      refine hk_iload_n hC jd_H_layer_17 1 rfl ?_
      obtain ⟨q2, h_q2, h⟩ := xb_go h
      refine hk_callVBi hC (jc_F_heightOf l D cI cF N aField f_lying f_damp f_told f_heights f_burnt f_layerWords f_layerWetness f_layerHeat f_hours x1 h_q2) jl_F_heightOf rfl (List.mem_of_getElem? (at_r (at_l (k := 0) rfl))) jq_375 jq_376 jq_377 rfl ⟨by decide, by decide⟩ (pm_3_1 _ _ _) (pm_3_1 _ _ _) rfl (ws2 := ((wH a aText aField aTrial aPast aKept aSeen aLand aDraft) ++ ((wF cI aField f_lying f_damp f_told f_heights f_burnt f_layerWords f_layerWetness f_layerHeat f_hours) ++ (wL cI aLand g_speeches g_speechLengths g_weather g_kindsOfCows g_thatches g_weatherLength g_mowers g_cows g_ricks)))) rfl (Nat.le_of_ble_eq_true rfl) ⟨Nat.zero_le _, Nat.zero_le _⟩ jd_H_layer_18 ?_
      refine hk_icmp_lt (tgt := 26) hC jd_H_layer_21 (by decide) (fun cc3 => ?_) (fun cc3 => ?_)
      · replace h := xi_t h cc3
        refine hk_iload_n hC jd_H_layer_26 3 rfl ?_
        by_cases cc4 : x3 = (0 : Int32)
        · replace h := xi_t h cc4
          refine hk_tabIn (tgt := 52) (off := 25) hC jd_H_layer_27 (by rw [cc4]; decide) (by rw [cc4]; decide) (by rw [cc4]; rfl) (by decide) ?_
          refine hk_aload_n hC jd_H_layer_52 0 rfl ?_
          refine hk_get hC jk_H _ (at_l (k := 0) rfl) 1 (by decide) jq_273 rfl jd_H_layer_53 ?_
          refine hk_iload_n hC jd_H_layer_56 1 rfl ?_
          refine hk_iload_n hC jd_H_layer_57 2 rfl ?_
          obtain ⟨q3, h_q3, h⟩ := xb_go h
          refine hk_callVBi hC (jc_F_wordsOf l D cI cF N aField f_lying f_damp f_told f_heights f_burnt f_layerWords f_layerWetness f_layerHeat f_hours x1 x2 h_q3) jl_F_wordsOf rfl (List.mem_of_getElem? (at_r (at_l (k := 0) rfl))) jq_394 jq_395 jq_396 rfl ⟨by decide, by decide⟩ (pm_3_1 _ _ _) (pm_3_1 _ _ _) rfl (ws2 := ((wH a aText aField aTrial aPast aKept aSeen aLand aDraft) ++ ((wF cI aField f_lying f_damp f_told f_heights f_burnt f_layerWords f_layerWetness f_layerHeat f_hours) ++ (wL cI aLand g_speeches g_speechLengths g_weather g_kindsOfCows g_thatches g_weatherLength g_mowers g_cows g_ricks)))) rfl (Nat.le_of_ble_eq_true rfl) ⟨Nat.zero_le _, Nat.zero_le _⟩ jd_H_layer_58 ?_
          obtain rfl := Option.some.inj h
          exact hk_iret hC hr jd_H_layer_61 rfl rfl
        · replace h := xi_f h cc4
          by_cases cc5 : x3 = (1 : Int32)
          · replace h := xi_t h cc5
            refine hk_tabIn (tgt := 62) (off := 35) hC jd_H_layer_27 (by rw [cc5]; decide) (by rw [cc5]; decide) (by rw [cc5]; rfl) (by decide) ?_
            refine hk_aload_n hC jd_H_layer_62 0 rfl ?_
            refine hk_get hC jk_H _ (at_l (k := 0) rfl) 1 (by decide) jq_273 rfl jd_H_layer_63 ?_
            refine hk_iload_n hC jd_H_layer_66 1 rfl ?_
            refine hk_iload_n hC jd_H_layer_67 2 rfl ?_
            obtain ⟨q4, h_q4, h⟩ := xb_go h
            refine hk_callVBi hC (jc_F_wetnessOf l D cI cF N aField f_lying f_damp f_told f_heights f_burnt f_layerWords f_layerWetness f_layerHeat f_hours x1 x2 h_q4) jl_F_wetnessOf rfl (List.mem_of_getElem? (at_r (at_l (k := 0) rfl))) jq_398 jq_399 jq_400 rfl ⟨by decide, by decide⟩ (pm_3_1 _ _ _) (pm_3_1 _ _ _) rfl (ws2 := ((wH a aText aField aTrial aPast aKept aSeen aLand aDraft) ++ ((wF cI aField f_lying f_damp f_told f_heights f_burnt f_layerWords f_layerWetness f_layerHeat f_hours) ++ (wL cI aLand g_speeches g_speechLengths g_weather g_kindsOfCows g_thatches g_weatherLength g_mowers g_cows g_ricks)))) rfl (Nat.le_of_ble_eq_true rfl) ⟨Nat.zero_le _, Nat.zero_le _⟩ jd_H_layer_68 ?_
            obtain rfl := Option.some.inj h
            exact hk_iret hC hr jd_H_layer_71 rfl rfl
          · replace h := xi_f h cc5
            by_cases cc6 : x3 = (2 : Int32)
            · replace h := xi_t h cc6
              refine hk_tabIn (tgt := 72) (off := 45) hC jd_H_layer_27 (by rw [cc6]; decide) (by rw [cc6]; decide) (by rw [cc6]; rfl) (by decide) ?_
              refine hk_aload_n hC jd_H_layer_72 0 rfl ?_
              refine hk_get hC jk_H _ (at_l (k := 0) rfl) 1 (by decide) jq_273 rfl jd_H_layer_73 ?_
              refine hk_iload_n hC jd_H_layer_76 1 rfl ?_
              refine hk_iload_n hC jd_H_layer_77 2 rfl ?_
              obtain ⟨q5, h_q5, h⟩ := xb_go h
              refine hk_callVBi hC (jc_F_heatOf l D cI cF N aField f_lying f_damp f_told f_heights f_burnt f_layerWords f_layerWetness f_layerHeat f_hours x1 x2 h_q5) jl_F_heatOf rfl (List.mem_of_getElem? (at_r (at_l (k := 0) rfl))) jq_402 jq_386 jq_387 rfl ⟨by decide, by decide⟩ (pm_3_1 _ _ _) (pm_3_1 _ _ _) rfl (ws2 := ((wH a aText aField aTrial aPast aKept aSeen aLand aDraft) ++ ((wF cI aField f_lying f_damp f_told f_heights f_burnt f_layerWords f_layerWetness f_layerHeat f_hours) ++ (wL cI aLand g_speeches g_speechLengths g_weather g_kindsOfCows g_thatches g_weatherLength g_mowers g_cows g_ricks)))) rfl (Nat.le_of_ble_eq_true rfl) ⟨Nat.zero_le _, Nat.zero_le _⟩ jd_H_layer_78 ?_
              obtain rfl := Option.some.inj h
              exact hk_iret hC hr jd_H_layer_81 rfl rfl
            · replace h := xi_f h cc6
              refine hk_tabOut (tgt := 82) hC jd_H_layer_27 (hk_tabX 3 (by decide) rfl (lt_s (lt_s (lt_s lt_0 cc4) cc5) cc6)) (by decide) ?_
              refine hk_iconst (v := -1) hC jd_H_layer_82 (by decide) ?_
              obtain rfl := Option.some.inj h
              exact hk_iret hC hr jd_H_layer_83 rfl rfl
      · replace h := xi_f h cc3
        refine hk_iconst (v := -1) hC jd_H_layer_24 (by decide) ?_
        obtain rfl := Option.some.inj h
        exact hk_iret hC hr jd_H_layer_25 rfl rfl
theorem jc_H_layer (l : Launch) (D : va_G) (cI cF : ClassId) (N : Nat) (a : Nat → Nat) (aText : Nat → Nat) (aField : Nat → Nat) (aTrial : Nat → Nat) (aPast : Nat → Nat) (aKept : Nat → Nat) (aSeen : Nat → Nat) (aLand : Nat → Nat) (aDraft : Nat → Nat)  (f_lying : Nat → Int32) (f_damp : Nat → Int32) (f_told : Nat → Int32) (f_heights : Nat → Int32) (f_burnt : Nat → Int32) (f_layerWords : Nat → Int32) (f_layerWetness : Nat → Int32) (f_layerHeat : Nat → Int32) (f_hours : Int32) (g_speeches : Nat → Int32) (g_speechLengths : Nat → Int32) (g_weather : Nat → Int32) (g_kindsOfCows : Nat → Int32) (g_thatches : Nat → Int32) (g_weatherLength : Int32) (g_mowers : Int32) (g_cows : Int32) (g_ricks : Int32) (x1 : Int32) (x2 : Int32) (x3 : Int32) {o : Int32} (h : jf_H_layer N f_heights f_layerWords f_layerWetness f_layerHeat g_ricks x1 x2 x3 = some o) : hk_Mi l jy_H_layer jb_H_layer 4 (some .int) jr_H_layer D cI cF ((wH a aText aField aTrial aPast aKept aSeen aLand aDraft) ++ ((wF cI aField f_lying f_damp f_told f_heights f_burnt f_layerWords f_layerWetness f_layerHeat f_hours) ++ (wL cI aLand g_speeches g_speechLengths g_weather g_kindsOfCows g_thatches g_weatherLength g_mowers g_cows g_ricks))) [.ref (a 0), .int x1, .int x2, .int x3] o ((wH a aText aField aTrial aPast aKept aSeen aLand aDraft) ++ ((wF cI aField f_lying f_damp f_told f_heights f_burnt f_layerWords f_layerWetness f_layerHeat f_hours) ++ (wL cI aLand g_speeches g_speechLengths g_weather g_kindsOfCows g_thatches g_weatherLength g_mowers g_cows g_ricks))) :=
  hk_metI (by decide) (Nat.le_of_ble_eq_true rfl) rfl rfl (fun p e s m args below meth c A hC hr => jw_H_layer hC hr N a aText aField aTrial aPast aKept aSeen aLand aDraft f_lying f_damp f_told f_heights f_burnt f_layerWords f_layerWetness f_layerHeat f_hours g_speeches g_speechLengths g_weather g_kindsOfCows g_thatches g_weatherLength g_mowers g_cows g_ricks x1 x2 x3 h)
