set_option maxHeartbeats 8000000 in
set_option maxRecDepth 100000 in
theorem jw_H_pass {p : Program} {l : Launch} {e : Env} {s : State} {m : MethodId} {args : Array Value} {below : List Frame} {meth : Method} {c : Code} {A : Nat → Prop} {D : va_G} {cI cF : ClassId} (hC : hk_ok p s m args meth c A 2 D cI cF "HayTalk" jb_H_pass) (hr : meth.sig.returnType = (some .int)) (N : Nat) (a : Nat → Nat) (aText : Nat → Nat) (aField : Nat → Nat) (aTrial : Nat → Nat) (aPast : Nat → Nat) (aKept : Nat → Nat) (aSeen : Nat → Nat) (aLand : Nat → Nat) (aDraft : Nat → Nat)  (f_lying : Nat → Int32) (f_damp : Nat → Int32) (f_told : Nat → Int32) (f_heights : Nat → Int32) (f_burnt : Nat → Int32) (f_layerWords : Nat → Int32) (f_layerWetness : Nat → Int32) (f_layerHeat : Nat → Int32) (f_hours : Int32) (g_speeches : Nat → Int32) (g_speechLengths : Nat → Int32) (g_weather : Nat → Int32) (g_kindsOfCows : Nat → Int32) (g_thatches : Nat → Int32) (g_weatherLength : Int32) (g_mowers : Int32) (g_cows : Int32) (g_ricks : Int32) (p_newest : Int32) (p_size : Int32) (p_v : Nat → jFV) (x1 : Int32) {o : Int32 × (Nat → Int32) × (Nat → Int32) × (Nat → Int32) × (Nat → Int32) × (Nat → Int32) × Int32 × Int32 × Int32 × (Nat → jFV)} (h : jf_H_pass N f_lying f_damp f_told f_heights f_burnt f_layerWords f_layerWetness f_layerHeat f_hours g_speeches g_speechLengths g_weather g_thatches g_weatherLength g_mowers g_ricks p_newest p_size p_v x1 = some o) : hk_W p l e jr_H_pass s m args below meth c A (hk_Zi below args s D A o.1 ((wH a aText aField aTrial aPast aKept aSeen aLand aDraft) ++ ((wF cI aField o.2.1 o.2.2.1 f_told o.2.2.2.1 o.2.2.2.2.1 f_layerWords f_layerWetness o.2.2.2.2.2.1 o.2.2.2.2.2.2.1) ++ ((wL cI aLand g_speeches g_speechLengths g_weather g_kindsOfCows g_thatches g_weatherLength g_mowers g_cows g_ricks) ++ (wP cI cF 8 aPast o.2.2.2.2.2.2.2.1 o.2.2.2.2.2.2.2.2.1 o.2.2.2.2.2.2.2.2.2))))) 2 D 0 0 ((wH a aText aField aTrial aPast aKept aSeen aLand aDraft) ++ ((wF cI aField f_lying f_damp f_told f_heights f_burnt f_layerWords f_layerWetness f_layerHeat f_hours) ++ ((wL cI aLand g_speeches g_speechLengths g_weather g_kindsOfCows g_thatches g_weatherLength g_mowers g_cows g_ricks) ++ (wP cI cF 8 aPast p_newest p_size p_v)))) 0 [(0, .ref (a 0)), (1, .int x1)] [] := by
  delta jf_H_pass at h
  refine hk_iload_n hC jd_H_pass_0 1 rfl ?_
  refine hk_iconst (v := 1) hC jd_H_pass_1 (by decide) ?_
  refine hk_bipush (v := 24) hC jd_H_pass_2 (by decide) ?_
  obtain ⟨q1, h_q1, h⟩ := xb_go h
  refine hk_callS0i hC (jc_H_isWithin l D cI cF N x1 (1 : Int32) (24 : Int32) h_q1) jl_H_isWithin jq_302 jq_249 rfl ⟨by decide, by decide⟩ rfl (Nat.le_of_ble_eq_true rfl) ⟨Nat.zero_le _, Nat.zero_le _⟩ jd_H_pass_4 ?_
  refine hk_if_ne (tgt := 12) hC jd_H_pass_7 (by decide) (fun cc1 => ?_) (fun cc1 => ?_)
  · replace h := xi_f h cc1
    refine hk_aload_n hC jd_H_pass_12 0 rfl ?_
    refine hk_get hC jk_H _ (at_l (k := 0) rfl) 1 (by decide) jq_273 rfl jd_H_pass_13 ?_
    refine hk_getN hC jk_F _ (at_r (at_l (k := 0) rfl)) 8 (by decide) jq_60 rfl jd_H_pass_16 ?_
    refine hk_iload_n hC jd_H_pass_19 1 rfl ?_
    refine hk_iadd hC jd_H_pass_20 ?_
    refine hk_sipush (v := 999) hC jd_H_pass_21 (by decide) ?_
    refine hk_icmp_le (tgt := 30) hC jd_H_pass_24 (by decide) (fun cc2 => ?_) (fun cc2 => ?_)
    · replace h := xi_t h cc2
      refine hk_aload_n hC jd_H_pass_30 0 rfl ?_
      refine hk_get hC jk_H _ (at_l (k := 0) rfl) 3 (by decide) jq_275 rfl jd_H_pass_31 ?_
      refine hk_aload_n hC jd_H_pass_34 0 rfl ?_
      refine hk_get hC jk_H _ (at_l (k := 0) rfl) 1 (by decide) jq_273 rfl jd_H_pass_35 ?_
      obtain ⟨q2, h_q2, h⟩ := xb_go h
      refine hk_callVBv hC (jc_P_push l D cI cF N aPast aField 8 p_newest p_size p_v f_lying f_damp f_told f_heights f_burnt f_layerWords f_layerWetness f_layerHeat f_hours h_q2) jl_P_push rfl (List.mem_of_getElem? (at_r (at_r (at_r (k := 0) rfl)))) jq_407 jq_408 jq_409 rfl ⟨by decide, by decide⟩ (pm_4_3_1 _ _ _ _) (pm_4_3_1 _ _ _ _) (fst_app (fst_P _ _ _ _) rfl) (ws2 := ((wH a aText aField aTrial aPast aKept aSeen aLand aDraft) ++ ((wF cI aField f_lying f_damp f_told f_heights f_burnt f_layerWords f_layerWetness f_layerHeat f_hours) ++ ((wL cI aLand g_speeches g_speechLengths g_weather g_kindsOfCows g_thatches g_weatherLength g_mowers g_cows g_ricks) ++ (wP cI cF 8 aPast q2.1 q2.2.1 q2.2.2))))) rfl (Nat.le_of_ble_eq_true rfl) ⟨Nat.zero_le _, Nat.zero_le _⟩ jd_H_pass_38 ?_
      refine hk_aload_n hC jd_H_pass_41 0 rfl ?_
      refine hk_get hC jk_H _ (at_l (k := 0) rfl) 1 (by decide) jq_273 rfl jd_H_pass_42 ?_
      refine hk_aload_n hC jd_H_pass_45 0 rfl ?_
      refine hk_get hC jk_H _ (at_l (k := 0) rfl) 6 (by decide) jq_278 rfl jd_H_pass_46 ?_
      refine hk_iload_n hC jd_H_pass_49 1 rfl ?_
      obtain ⟨q3, h_q3, h⟩ := xb_go h
      refine hk_callVBv hC (jc_F_hoursGoBy l D cI cF N aField aLand f_lying f_damp f_told f_heights f_burnt f_layerWords f_layerWetness f_layerHeat f_hours g_speeches g_speechLengths g_weather g_kindsOfCows g_thatches g_weatherLength g_mowers g_cows g_ricks x1 h_q3) jl_F_hoursGoBy rfl (List.mem_of_getElem? (at_r (at_l (k := 0) rfl))) jq_425 jq_426 jq_427 rfl ⟨by decide, by decide⟩ (pm_4_1_2 _ _ _ _) (pm_4_1_2 _ _ _ _) rfl (ws2 := ((wH a aText aField aTrial aPast aKept aSeen aLand aDraft) ++ ((wF cI aField q3.1 q3.2.1 f_told q3.2.2.1 q3.2.2.2.1 f_layerWords f_layerWetness q3.2.2.2.2.1 q3.2.2.2.2.2) ++ ((wL cI aLand g_speeches g_speechLengths g_weather g_kindsOfCows g_thatches g_weatherLength g_mowers g_cows g_ricks) ++ (wP cI cF 8 aPast q2.1 q2.2.1 q2.2.2))))) rfl (Nat.le_of_ble_eq_true rfl) ⟨Nat.zero_le _, Nat.zero_le _⟩ jd_H_pass_50 ?_
      refine hk_aload_n hC jd_H_pass_53 0 rfl ?_
      refine hk_get hC jk_H _ (at_l (k := 0) rfl) 1 (by decide) jq_273 rfl jd_H_pass_54 ?_
      refine hk_getN hC jk_F _ (at_r (at_l (k := 0) rfl)) 8 (by decide) jq_60 rfl jd_H_pass_57 ?_
      obtain rfl := Option.some.inj h
      exact hk_iret hC hr jd_H_pass_60 rfl rfl
    · replace h := xi_f h cc2
      refine hk_bipush (v := -2) hC jd_H_pass_27 (by decide) ?_
      obtain rfl := Option.some.inj h
      exact hk_iret hC hr jd_H_pass_29 rfl rfl
  · replace h := xi_t h cc1
    refine hk_iconst (v := -1) hC jd_H_pass_10 (by decide) ?_
    obtain rfl := Option.some.inj h
    exact hk_iret hC hr jd_H_pass_11 rfl rfl
theorem jc_H_pass (l : Launch) (D : va_G) (cI cF : ClassId) (N : Nat) (a : Nat → Nat) (aText : Nat → Nat) (aField : Nat → Nat) (aTrial : Nat → Nat) (aPast : Nat → Nat) (aKept : Nat → Nat) (aSeen : Nat → Nat) (aLand : Nat → Nat) (aDraft : Nat → Nat)  (f_lying : Nat → Int32) (f_damp : Nat → Int32) (f_told : Nat → Int32) (f_heights : Nat → Int32) (f_burnt : Nat → Int32) (f_layerWords : Nat → Int32) (f_layerWetness : Nat → Int32) (f_layerHeat : Nat → Int32) (f_hours : Int32) (g_speeches : Nat → Int32) (g_speechLengths : Nat → Int32) (g_weather : Nat → Int32) (g_kindsOfCows : Nat → Int32) (g_thatches : Nat → Int32) (g_weatherLength : Int32) (g_mowers : Int32) (g_cows : Int32) (g_ricks : Int32) (p_newest : Int32) (p_size : Int32) (p_v : Nat → jFV) (x1 : Int32) {o : Int32 × (Nat → Int32) × (Nat → Int32) × (Nat → Int32) × (Nat → Int32) × (Nat → Int32) × Int32 × Int32 × Int32 × (Nat → jFV)} (h : jf_H_pass N f_lying f_damp f_told f_heights f_burnt f_layerWords f_layerWetness f_layerHeat f_hours g_speeches g_speechLengths g_weather g_thatches g_weatherLength g_mowers g_ricks p_newest p_size p_v x1 = some o) : hk_Mi l jy_H_pass jb_H_pass 2 (some .int) jr_H_pass D cI cF ((wH a aText aField aTrial aPast aKept aSeen aLand aDraft) ++ ((wF cI aField f_lying f_damp f_told f_heights f_burnt f_layerWords f_layerWetness f_layerHeat f_hours) ++ ((wL cI aLand g_speeches g_speechLengths g_weather g_kindsOfCows g_thatches g_weatherLength g_mowers g_cows g_ricks) ++ (wP cI cF 8 aPast p_newest p_size p_v)))) [.ref (a 0), .int x1] o.1 ((wH a aText aField aTrial aPast aKept aSeen aLand aDraft) ++ ((wF cI aField o.2.1 o.2.2.1 f_told o.2.2.2.1 o.2.2.2.2.1 f_layerWords f_layerWetness o.2.2.2.2.2.1 o.2.2.2.2.2.2.1) ++ ((wL cI aLand g_speeches g_speechLengths g_weather g_kindsOfCows g_thatches g_weatherLength g_mowers g_cows g_ricks) ++ (wP cI cF 8 aPast o.2.2.2.2.2.2.2.1 o.2.2.2.2.2.2.2.2.1 o.2.2.2.2.2.2.2.2.2)))) :=
  hk_metI (by decide) (Nat.le_of_ble_eq_true rfl) rfl rfl (fun p e s m args below meth c A hC hr => jw_H_pass hC hr N a aText aField aTrial aPast aKept aSeen aLand aDraft f_lying f_damp f_told f_heights f_burnt f_layerWords f_layerWetness f_layerHeat f_hours g_speeches g_speechLengths g_weather g_kindsOfCows g_thatches g_weatherLength g_mowers g_cows g_ricks p_newest p_size p_v x1 h)
set_option maxHeartbeats 8000000 in
set_option maxRecDepth 100000 in
theorem jw_H_rake {p : Program} {l : Launch} {e : Env} {s : State} {m : MethodId} {args : Array Value} {below : List Frame} {meth : Method} {c : Code} {A : Nat → Prop} {D : va_G} {cI cF : ClassId} (hC : hk_ok p s m args meth c A 4 D cI cF "HayTalk" jb_H_rake) (hr : meth.sig.returnType = (some .int)) (N : Nat) (a : Nat → Nat) (aText : Nat → Nat) (aField : Nat → Nat) (aTrial : Nat → Nat) (aPast : Nat → Nat) (aKept : Nat → Nat) (aSeen : Nat → Nat) (aLand : Nat → Nat) (aDraft : Nat → Nat)  (f_lying : Nat → Int32) (f_damp : Nat → Int32) (f_told : Nat → Int32) (f_heights : Nat → Int32) (f_burnt : Nat → Int32) (f_layerWords : Nat → Int32) (f_layerWetness : Nat → Int32) (f_layerHeat : Nat → Int32) (f_hours : Int32) (g_speeches : Nat → Int32) (g_speechLengths : Nat → Int32) (g_weather : Nat → Int32) (g_kindsOfCows : Nat → Int32) (g_thatches : Nat → Int32) (g_weatherLength : Int32) (g_mowers : Int32) (g_cows : Int32) (g_ricks : Int32) (p_newest : Int32) (p_size : Int32) (p_v : Nat → jFV) (x1 : Int32) (x2 : Int32) (x3 : Int32) {o : Int32 × (Nat → Int32) × (Nat → Int32) × (Nat → Int32) × (Nat → Int32) × (Nat → Int32) × (Nat → Int32) × Int32 × Int32 × (Nat → jFV)} (h : jf_H_rake N f_lying f_damp f_told f_heights f_burnt f_layerWords f_layerWetness f_layerHeat f_hours g_mowers g_ricks p_newest p_size p_v x1 x2 x3 = some o) : hk_W p l e jr_H_rake s m args below meth c A (hk_Zi below args s D A o.1 ((wH a aText aField aTrial aPast aKept aSeen aLand aDraft) ++ ((wF cI aField o.2.1 o.2.2.1 f_told o.2.2.2.1 f_burnt o.2.2.2.2.1 o.2.2.2.2.2.1 o.2.2.2.2.2.2.1 f_hours) ++ ((wL cI aLand g_speeches g_speechLengths g_weather g_kindsOfCows g_thatches g_weatherLength g_mowers g_cows g_ricks) ++ (wP cI cF 8 aPast o.2.2.2.2.2.2.2.1 o.2.2.2.2.2.2.2.2.1 o.2.2.2.2.2.2.2.2.2))))) 4 D 0 0 ((wH a aText aField aTrial aPast aKept aSeen aLand aDraft) ++ ((wF cI aField f_lying f_damp f_told f_heights f_burnt f_layerWords f_layerWetness f_layerHeat f_hours) ++ ((wL cI aLand g_speeches g_speechLengths g_weather g_kindsOfCows g_thatches g_weatherLength g_mowers g_cows g_ricks) ++ (wP cI cF 8 aPast p_newest p_size p_v)))) 0 [(0, .ref (a 0)), (1, .int x1), (2, .int x2), (3, .int x3)] [] := by
  delta jf_H_rake at h
  refine hk_aload_n hC jd_H_rake_0 0 rfl ?_
  refine hk_iload_n hC jd_H_rake_1 1 rfl ?_
  obtain ⟨q1, h_q1, h⟩ := xb_go h
  refine hk_callVBi hC (jc_H_isMower l D cI cF N a aText aField aTrial aPast aKept aSeen aLand aDraft g_speeches g_speechLengths g_weather g_kindsOfCows g_thatches g_weatherLength g_mowers g_cows g_ricks x1 h_q1) jl_H_isMower rfl (List.mem_of_getElem? (at_l (k := 0) rfl)) jq_336 jq_338 jq0_5 rfl ⟨by decide, by decide⟩ (pm_4_0_2 _ _ _ _) (pm_4_0_2 _ _ _ _) rfl (ws2 := ((wH a aText aField aTrial aPast aKept aSeen aLand aDraft) ++ ((wF cI aField f_lying f_damp f_told f_heights f_burnt f_layerWords f_layerWetness f_layerHeat f_hours) ++ ((wL cI aLand g_speeches g_speechLengths g_weather g_kindsOfCows g_thatches g_weatherLength g_mowers g_cows g_ricks) ++ (wP cI cF 8 aPast p_newest p_size p_v))))) rfl (Nat.le_of_ble_eq_true rfl) ⟨Nat.zero_le _, Nat.zero_le _⟩ jd_H_rake_2 ?_
  refine hk_if_eq (tgt := 29) hC jd_H_rake_5 (by decide) (fun cc1 => ?_) (fun cc1 => ?_)
  · replace h := xi_t h cc1
    refine hk_iconst (v := -1) hC jd_H_rake_29 (by decide) ?_
    obtain rfl := Option.some.inj h
    exact hk_iret hC hr jd_H_rake_30 rfl rfl
  · replace h := xi_f h cc1
    refine hk_aload_n hC jd_H_rake_8 0 rfl ?_
    refine hk_iload_n hC jd_H_rake_9 2 rfl ?_
    obtain ⟨q2, h_q2, h⟩ := xb_go h
    refine hk_callVBi hC (jc_H_isMower l D cI cF N a aText aField aTrial aPast aKept aSeen aLand aDraft g_speeches g_speechLengths g_weather g_kindsOfCows g_thatches g_weatherLength g_mowers g_cows g_ricks x2 h_q2) jl_H_isMower rfl (List.mem_of_getElem? (at_l (k := 0) rfl)) jq_336 jq_338 jq0_5 rfl ⟨by decide, by decide⟩ (pm_4_0_2 _ _ _ _) (pm_4_0_2 _ _ _ _) rfl (ws2 := ((wH a aText aField aTrial aPast aKept aSeen aLand aDraft) ++ ((wF cI aField f_lying f_damp f_told f_heights f_burnt f_layerWords f_layerWetness f_layerHeat f_hours) ++ ((wL cI aLand g_speeches g_speechLengths g_weather g_kindsOfCows g_thatches g_weatherLength g_mowers g_cows g_ricks) ++ (wP cI cF 8 aPast p_newest p_size p_v))))) rfl (Nat.le_of_ble_eq_true rfl) ⟨Nat.zero_le _, Nat.zero_le _⟩ jd_H_rake_10 ?_
    refine hk_if_eq (tgt := 29) hC jd_H_rake_13 (by decide) (fun cc2 => ?_) (fun cc2 => ?_)
    · replace h := xi_t h cc2
      refine hk_iconst (v := -1) hC jd_H_rake_29 (by decide) ?_
      obtain rfl := Option.some.inj h
      exact hk_iret hC hr jd_H_rake_30 rfl rfl
    · replace h := xi_f h cc2
      refine hk_iload_n hC jd_H_rake_16 2 rfl ?_
      refine hk_iload_n hC jd_H_rake_17 1 rfl ?_
      refine hk_icmp_lt (tgt := 29) hC jd_H_rake_18 (by decide) (fun cc3 => ?_) (fun cc3 => ?_)
      · replace h := xi_t h cc3
        refine hk_iconst (v := -1) hC jd_H_rake_29 (by decide) ?_
        obtain rfl := Option.some.inj h
        exact hk_iret hC hr jd_H_rake_30 rfl rfl
      · replace h := xi_f h cc3
        refine hk_aload_n hC jd_H_rake_21 0 rfl ?_
        refine hk_iload_n hC jd_H_rake_22 3 rfl ?_
        obtain ⟨q3, h_q3, h⟩ := xb_go h
        refine hk_callVBi hC (jc_H_isRick l D cI cF N a aText aField aTrial aPast aKept aSeen aLand aDraft g_speeches g_speechLengths g_weather g_kindsOfCows g_thatches g_weatherLength g_mowers g_cows g_ricks x3 h_q3) jl_H_isRick rfl (List.mem_of_getElem? (at_l (k := 0) rfl)) jq_367 jq_369 jq0_7 rfl ⟨by decide, by decide⟩ (pm_4_0_2 _ _ _ _) (pm_4_0_2 _ _ _ _) rfl (ws2 := ((wH a aText aField aTrial aPast aKept aSeen aLand aDraft) ++ ((wF cI aField f_lying f_damp f_told f_heights f_burnt f_layerWords f_layerWetness f_layerHeat f_hours) ++ ((wL cI aLand g_speeches g_speechLengths g_weather g_kindsOfCows g_thatches g_weatherLength g_mowers g_cows g_ricks) ++ (wP cI cF 8 aPast p_newest p_size p_v))))) rfl (Nat.le_of_ble_eq_true rfl) ⟨Nat.zero_le _, Nat.zero_le _⟩ jd_H_rake_23 ?_
        refine hk_if_ne (tgt := 31) hC jd_H_rake_26 (by decide) (fun cc4 => ?_) (fun cc4 => ?_)
        · replace h := xi_f h cc4
          refine hk_aload_n hC jd_H_rake_31 0 rfl ?_
          refine hk_get hC jk_H _ (at_l (k := 0) rfl) 1 (by decide) jq_273 rfl jd_H_rake_32 ?_
          refine hk_iload_n hC jd_H_rake_35 1 rfl ?_
          refine hk_iload_n hC jd_H_rake_36 2 rfl ?_
          obtain ⟨q4, h_q4, h⟩ := xb_go h
          refine hk_callVBi hC (jc_F_lyingIn l D cI cF N aField f_lying f_damp f_told f_heights f_burnt f_layerWords f_layerWetness f_layerHeat f_hours x1 x2 h_q4) jl_F_lyingIn rfl (List.mem_of_getElem? (at_r (at_l (k := 0) rfl))) jq_451 jq_452 jq_453 rfl ⟨by decide, by decide⟩ (pm_4_1 _ _ _ _) (pm_4_1 _ _ _ _) rfl (ws2 := ((wH a aText aField aTrial aPast aKept aSeen aLand aDraft) ++ ((wF cI aField f_lying f_damp f_told f_heights f_burnt f_layerWords f_layerWetness f_layerHeat f_hours) ++ ((wL cI aLand g_speeches g_speechLengths g_weather g_kindsOfCows g_thatches g_weatherLength g_mowers g_cows g_ricks) ++ (wP cI cF 8 aPast p_newest p_size p_v))))) rfl (Nat.le_of_ble_eq_true rfl) ⟨Nat.zero_le _, Nat.zero_le _⟩ jd_H_rake_37 ?_
          refine hk_if_ne (tgt := 46) hC jd_H_rake_40 (by decide) (fun cc5 => ?_) (fun cc5 => ?_)
          · replace h := xi_f h cc5
            refine hk_aload_n hC jd_H_rake_46 0 rfl ?_
            refine hk_get hC jk_H _ (at_l (k := 0) rfl) 1 (by decide) jq_273 rfl jd_H_rake_47 ?_
            refine hk_iload_n hC jd_H_rake_50 3 rfl ?_
            obtain ⟨q5, h_q5, h⟩ := xb_go h
            refine hk_callVBi hC (jc_F_heightOf l D cI cF N aField f_lying f_damp f_told f_heights f_burnt f_layerWords f_layerWetness f_layerHeat f_hours x3 h_q5) jl_F_heightOf rfl (List.mem_of_getElem? (at_r (at_l (k := 0) rfl))) jq_375 jq_376 jq_377 rfl ⟨by decide, by decide⟩ (pm_4_1 _ _ _ _) (pm_4_1 _ _ _ _) rfl (ws2 := ((wH a aText aField aTrial aPast aKept aSeen aLand aDraft) ++ ((wF cI aField f_lying f_damp f_told f_heights f_burnt f_layerWords f_layerWetness f_layerHeat f_hours) ++ ((wL cI aLand g_speeches g_speechLengths g_weather g_kindsOfCows g_thatches g_weatherLength g_mowers g_cows g_ricks) ++ (wP cI cF 8 aPast p_newest p_size p_v))))) rfl (Nat.le_of_ble_eq_true rfl) ⟨Nat.zero_le _, Nat.zero_le _⟩ jd_H_rake_51 ?_
            refine hk_bipush (v := 8) hC jd_H_rake_54 (by decide) ?_
            refine hk_icmp_lt (tgt := 62) hC jd_H_rake_56 (by decide) (fun cc6 => ?_) (fun cc6 => ?_)
            · replace h := xi_t h cc6
              refine hk_aload_n hC jd_H_rake_62 0 rfl ?_
              refine hk_get hC jk_H _ (at_l (k := 0) rfl) 3 (by decide) jq_275 rfl jd_H_rake_63 ?_
              refine hk_aload_n hC jd_H_rake_66 0 rfl ?_
              refine hk_get hC jk_H _ (at_l (k := 0) rfl) 1 (by decide) jq_273 rfl jd_H_rake_67 ?_
              obtain ⟨q6, h_q6, h⟩ := xb_go h
              refine hk_callVBv hC (jc_P_push l D cI cF N aPast aField 8 p_newest p_size p_v f_lying f_damp f_told f_heights f_burnt f_layerWords f_layerWetness f_layerHeat f_hours h_q6) jl_P_push rfl (List.mem_of_getElem? (at_r (at_r (at_r (k := 0) rfl)))) jq_407 jq_408 jq_409 rfl ⟨by decide, by decide⟩ (pm_4_3_1 _ _ _ _) (pm_4_3_1 _ _ _ _) (fst_app (fst_P _ _ _ _) rfl) (ws2 := ((wH a aText aField aTrial aPast aKept aSeen aLand aDraft) ++ ((wF cI aField f_lying f_damp f_told f_heights f_burnt f_layerWords f_layerWetness f_layerHeat f_hours) ++ ((wL cI aLand g_speeches g_speechLengths g_weather g_kindsOfCows g_thatches g_weatherLength g_mowers g_cows g_ricks) ++ (wP cI cF 8 aPast q6.1 q6.2.1 q6.2.2))))) rfl (Nat.le_of_ble_eq_true rfl) ⟨Nat.zero_le _, Nat.zero_le _⟩ jd_H_rake_70 ?_
              refine hk_aload_n hC jd_H_rake_73 0 rfl ?_
              refine hk_get hC jk_H _ (at_l (k := 0) rfl) 1 (by decide) jq_273 rfl jd_H_rake_74 ?_
              refine hk_iload_n hC jd_H_rake_77 1 rfl ?_
              refine hk_iload_n hC jd_H_rake_78 2 rfl ?_
              refine hk_iload_n hC jd_H_rake_79 3 rfl ?_
              obtain ⟨q7, h_q7, h⟩ := xb_go h
              refine hk_callVBv hC (jc_F_gather l D cI cF N aField f_lying f_damp f_told f_heights f_burnt f_layerWords f_layerWetness f_layerHeat f_hours x1 x2 x3 h_q7) jl_F_gather rfl (List.mem_of_getElem? (at_r (at_l (k := 0) rfl))) jq_455 jq_456 jq_457 rfl ⟨by decide, by decide⟩ (pm_4_1 _ _ _ _) (pm_4_1 _ _ _ _) rfl (ws2 := ((wH a aText aField aTrial aPast aKept aSeen aLand aDraft) ++ ((wF cI aField q7.1 q7.2.1 f_told q7.2.2.1 f_burnt q7.2.2.2.1 q7.2.2.2.2.1 q7.2.2.2.2.2 f_hours) ++ ((wL cI aLand g_speeches g_speechLengths g_weather g_kindsOfCows g_thatches g_weatherLength g_mowers g_cows g_ricks) ++ (wP cI cF 8 aPast q6.1 q6.2.1 q6.2.2))))) rfl (Nat.le_of_ble_eq_true rfl) ⟨Nat.zero_le _, Nat.zero_le _⟩ jd_H_rake_80 ?_
              refine hk_aload_n hC jd_H_rake_83 0 rfl ?_
              refine hk_get hC jk_H _ (at_l (k := 0) rfl) 1 (by decide) jq_273 rfl jd_H_rake_84 ?_
              refine hk_iload_n hC jd_H_rake_87 3 rfl ?_
              obtain ⟨q8, h_q8, h⟩ := xb_go h
              refine hk_callVBi hC (jc_F_heightOf l D cI cF N aField q7.1 q7.2.1 f_told q7.2.2.1 f_burnt q7.2.2.2.1 q7.2.2.2.2.1 q7.2.2.2.2.2 f_hours x3 h_q8) jl_F_heightOf rfl (List.mem_of_getElem? (at_r (at_l (k := 0) rfl))) jq_375 jq_376 jq_377 rfl ⟨by decide, by decide⟩ (pm_4_1 _ _ _ _) (pm_4_1 _ _ _ _) rfl (ws2 := ((wH a aText aField aTrial aPast aKept aSeen aLand aDraft) ++ ((wF cI aField q7.1 q7.2.1 f_told q7.2.2.1 f_burnt q7.2.2.2.1 q7.2.2.2.2.1 q7.2.2.2.2.2 f_hours) ++ ((wL cI aLand g_speeches g_speechLengths g_weather g_kindsOfCows g_thatches g_weatherLength g_mowers g_cows g_ricks) ++ (wP cI cF 8 aPast q6.1 q6.2.1 q6.2.2))))) rfl (Nat.le_of_ble_eq_true rfl) ⟨Nat.zero_le _, Nat.zero_le _⟩ jd_H_rake_88 ?_
              obtain rfl := Option.some.inj h
              exact hk_iret hC hr jd_H_rake_91 rfl rfl
            · replace h := xi_f h cc6
              refine hk_bipush (v := -3) hC jd_H_rake_59 (by decide) ?_
              obtain rfl := Option.some.inj h
              exact hk_iret hC hr jd_H_rake_61 rfl rfl
          · replace h := xi_t h cc5
            refine hk_bipush (v := -2) hC jd_H_rake_43 (by decide) ?_
            obtain rfl := Option.some.inj h
            exact hk_iret hC hr jd_H_rake_45 rfl rfl
        · replace h := xi_t h cc4
          refine hk_iconst (v := -1) hC jd_H_rake_29 (by decide) ?_
          obtain rfl := Option.some.inj h
          exact hk_iret hC hr jd_H_rake_30 rfl rfl
theorem jc_H_rake (l : Launch) (D : va_G) (cI cF : ClassId) (N : Nat) (a : Nat → Nat) (aText : Nat → Nat) (aField : Nat → Nat) (aTrial : Nat → Nat) (aPast : Nat → Nat) (aKept : Nat → Nat) (aSeen : Nat → Nat) (aLand : Nat → Nat) (aDraft : Nat → Nat)  (f_lying : Nat → Int32) (f_damp : Nat → Int32) (f_told : Nat → Int32) (f_heights : Nat → Int32) (f_burnt : Nat → Int32) (f_layerWords : Nat → Int32) (f_layerWetness : Nat → Int32) (f_layerHeat : Nat → Int32) (f_hours : Int32) (g_speeches : Nat → Int32) (g_speechLengths : Nat → Int32) (g_weather : Nat → Int32) (g_kindsOfCows : Nat → Int32) (g_thatches : Nat → Int32) (g_weatherLength : Int32) (g_mowers : Int32) (g_cows : Int32) (g_ricks : Int32) (p_newest : Int32) (p_size : Int32) (p_v : Nat → jFV) (x1 : Int32) (x2 : Int32) (x3 : Int32) {o : Int32 × (Nat → Int32) × (Nat → Int32) × (Nat → Int32) × (Nat → Int32) × (Nat → Int32) × (Nat → Int32) × Int32 × Int32 × (Nat → jFV)} (h : jf_H_rake N f_lying f_damp f_told f_heights f_burnt f_layerWords f_layerWetness f_layerHeat f_hours g_mowers g_ricks p_newest p_size p_v x1 x2 x3 = some o) : hk_Mi l jy_H_rake jb_H_rake 4 (some .int) jr_H_rake D cI cF ((wH a aText aField aTrial aPast aKept aSeen aLand aDraft) ++ ((wF cI aField f_lying f_damp f_told f_heights f_burnt f_layerWords f_layerWetness f_layerHeat f_hours) ++ ((wL cI aLand g_speeches g_speechLengths g_weather g_kindsOfCows g_thatches g_weatherLength g_mowers g_cows g_ricks) ++ (wP cI cF 8 aPast p_newest p_size p_v)))) [.ref (a 0), .int x1, .int x2, .int x3] o.1 ((wH a aText aField aTrial aPast aKept aSeen aLand aDraft) ++ ((wF cI aField o.2.1 o.2.2.1 f_told o.2.2.2.1 f_burnt o.2.2.2.2.1 o.2.2.2.2.2.1 o.2.2.2.2.2.2.1 f_hours) ++ ((wL cI aLand g_speeches g_speechLengths g_weather g_kindsOfCows g_thatches g_weatherLength g_mowers g_cows g_ricks) ++ (wP cI cF 8 aPast o.2.2.2.2.2.2.2.1 o.2.2.2.2.2.2.2.2.1 o.2.2.2.2.2.2.2.2.2)))) :=
  hk_metI (by decide) (Nat.le_of_ble_eq_true rfl) rfl rfl (fun p e s m args below meth c A hC hr => jw_H_rake hC hr N a aText aField aTrial aPast aKept aSeen aLand aDraft f_lying f_damp f_told f_heights f_burnt f_layerWords f_layerWetness f_layerHeat f_hours g_speeches g_speechLengths g_weather g_kindsOfCows g_thatches g_weatherLength g_mowers g_cows g_ricks p_newest p_size p_v x1 x2 x3 h)
set_option maxHeartbeats 8000000 in
set_option maxRecDepth 100000 in
theorem jw_H_cut {p : Program} {l : Launch} {e : Env} {s : State} {m : MethodId} {args : Array Value} {below : List Frame} {meth : Method} {c : Code} {A : Nat → Prop} {D : va_G} {cI cF : ClassId} (hC : hk_ok p s m args meth c A 3 D cI cF "HayTalk" jb_H_cut) (hr : meth.sig.returnType = (some .int)) (N : Nat) (a : Nat → Nat) (aText : Nat → Nat) (aField : Nat → Nat) (aTrial : Nat → Nat) (aPast : Nat → Nat) (aKept : Nat → Nat) (aSeen : Nat → Nat) (aLand : Nat → Nat) (aDraft : Nat → Nat)  (f_lying : Nat → Int32) (f_damp : Nat → Int32) (f_told : Nat → Int32) (f_heights : Nat → Int32) (f_burnt : Nat → Int32) (f_layerWords : Nat → Int32) (f_layerWetness : Nat → Int32) (f_layerHeat : Nat → Int32) (f_hours : Int32) (g_speeches : Nat → Int32) (g_speechLengths : Nat → Int32) (g_weather : Nat → Int32) (g_kindsOfCows : Nat → Int32) (g_thatches : Nat → Int32) (g_weatherLength : Int32) (g_mowers : Int32) (g_cows : Int32) (g_ricks : Int32) (p_newest : Int32) (p_size : Int32) (p_v : Nat → jFV) (x1 : Int32) (x2 : Int32) {o : Int32 × (Nat → Int32) × (Nat → Int32) × Int32 × Int32 × (Nat → jFV)} (h : jf_H_cut N f_lying f_damp f_told f_heights f_burnt f_layerWords f_layerWetness f_layerHeat f_hours g_kindsOfCows g_cows g_ricks p_newest p_size p_v x1 x2 = some o) : hk_W p l e jr_H_cut s m args below meth c A (hk_Zi below args s D A o.1 ((wH a aText aField aTrial aPast aKept aSeen aLand aDraft) ++ ((wF cI aField f_lying f_damp o.2.1 o.2.2.1 f_burnt f_layerWords f_layerWetness f_layerHeat f_hours) ++ ((wL cI aLand g_speeches g_speechLengths g_weather g_kindsOfCows g_thatches g_weatherLength g_mowers g_cows g_ricks) ++ (wP cI cF 8 aPast o.2.2.2.1 o.2.2.2.2.1 o.2.2.2.2.2))))) 3 D 0 0 ((wH a aText aField aTrial aPast aKept aSeen aLand aDraft) ++ ((wF cI aField f_lying f_damp f_told f_heights f_burnt f_layerWords f_layerWetness f_layerHeat f_hours) ++ ((wL cI aLand g_speeches g_speechLengths g_weather g_kindsOfCows g_thatches g_weatherLength g_mowers g_cows g_ricks) ++ (wP cI cF 8 aPast p_newest p_size p_v)))) 0 [(0, .ref (a 0)), (1, .int x1), (2, .int x2)] [] := by
  delta jf_H_cut at h
  refine hk_aload_n hC jd_H_cut_0 0 rfl ?_
  refine hk_iload_n hC jd_H_cut_1 1 rfl ?_
  obtain ⟨q1, h_q1, h⟩ := xb_go h
  refine hk_callVBi hC (jc_H_isRick l D cI cF N a aText aField aTrial aPast aKept aSeen aLand aDraft g_speeches g_speechLengths g_weather g_kindsOfCows g_thatches g_weatherLength g_mowers g_cows g_ricks x1 h_q1) jl_H_isRick rfl (List.mem_of_getElem? (at_l (k := 0) rfl)) jq_367 jq_369 jq0_7 rfl ⟨by decide, by decide⟩ (pm_4_0_2 _ _ _ _) (pm_4_0_2 _ _ _ _) rfl (ws2 := ((wH a aText aField aTrial aPast aKept aSeen aLand aDraft) ++ ((wF cI aField f_lying f_damp f_told f_heights f_burnt f_layerWords f_layerWetness f_layerHeat f_hours) ++ ((wL cI aLand g_speeches g_speechLengths g_weather g_kindsOfCows g_thatches g_weatherLength g_mowers g_cows g_ricks) ++ (wP cI cF 8 aPast p_newest p_size p_v))))) rfl (Nat.le_of_ble_eq_true rfl) ⟨Nat.zero_le _, Nat.zero_le _⟩ jd_H_cut_2 ?_
  refine hk_if_eq (tgt := 16) hC jd_H_cut_5 (by decide) (fun cc1 => ?_) (fun cc1 => ?_)
  · replace h := xi_t h cc1
    refine hk_iconst (v := -1) hC jd_H_cut_16 (by decide) ?_
    obtain rfl := Option.some.inj h
    exact hk_iret hC hr jd_H_cut_17 rfl rfl
  · replace h := xi_f h cc1
    refine hk_aload_n hC jd_H_cut_8 0 rfl ?_
    refine hk_iload_n hC jd_H_cut_9 2 rfl ?_
    obtain ⟨q2, h_q2, h⟩ := xb_go h
    refine hk_callVBi hC (jc_H_isCow l D cI cF N a aText aField aTrial aPast aKept aSeen aLand aDraft g_speeches g_speechLengths g_weather g_kindsOfCows g_thatches g_weatherLength g_mowers g_cows g_ricks x2 h_q2) jl_H_isCow rfl (List.mem_of_getElem? (at_l (k := 0) rfl)) jq_355 jq_357 jq0_6 rfl ⟨by decide, by decide⟩ (pm_4_0_2 _ _ _ _) (pm_4_0_2 _ _ _ _) rfl (ws2 := ((wH a aText aField aTrial aPast aKept aSeen aLand aDraft) ++ ((wF cI aField f_lying f_damp f_told f_heights f_burnt f_layerWords f_layerWetness f_layerHeat f_hours) ++ ((wL cI aLand g_speeches g_speechLengths g_weather g_kindsOfCows g_thatches g_weatherLength g_mowers g_cows g_ricks) ++ (wP cI cF 8 aPast p_newest p_size p_v))))) rfl (Nat.le_of_ble_eq_true rfl) ⟨Nat.zero_le _, Nat.zero_le _⟩ jd_H_cut_10 ?_
    refine hk_if_ne (tgt := 18) hC jd_H_cut_13 (by decide) (fun cc2 => ?_) (fun cc2 => ?_)
    · replace h := xi_f h cc2
      refine hk_aload_n hC jd_H_cut_18 0 rfl ?_
      refine hk_get hC jk_H _ (at_l (k := 0) rfl) 1 (by decide) jq_273 rfl jd_H_cut_19 ?_
      refine hk_iload_n hC jd_H_cut_22 1 rfl ?_
      obtain ⟨q3, h_q3, h⟩ := xb_go h
      refine hk_callVBi hC (jc_F_heightOf l D cI cF N aField f_lying f_damp f_told f_heights f_burnt f_layerWords f_layerWetness f_layerHeat f_hours x1 h_q3) jl_F_heightOf rfl (List.mem_of_getElem? (at_r (at_l (k := 0) rfl))) jq_375 jq_376 jq_377 rfl ⟨by decide, by decide⟩ (pm_4_1 _ _ _ _) (pm_4_1 _ _ _ _) rfl (ws2 := ((wH a aText aField aTrial aPast aKept aSeen aLand aDraft) ++ ((wF cI aField f_lying f_damp f_told f_heights f_burnt f_layerWords f_layerWetness f_layerHeat f_hours) ++ ((wL cI aLand g_speeches g_speechLengths g_weather g_kindsOfCows g_thatches g_weatherLength g_mowers g_cows g_ricks) ++ (wP cI cF 8 aPast p_newest p_size p_v))))) rfl (Nat.le_of_ble_eq_true rfl) ⟨Nat.zero_le _, Nat.zero_le _⟩ jd_H_cut_23 ?_
      refine hk_if_ne (tgt := 32) hC jd_H_cut_26 (by decide) (fun cc3 => ?_) (fun cc3 => ?_)
      · replace h := xi_f h cc3
        refine hk_aload_n hC jd_H_cut_32 0 rfl ?_
        refine hk_get hC jk_H _ (at_l (k := 0) rfl) 3 (by decide) jq_275 rfl jd_H_cut_33 ?_
        refine hk_aload_n hC jd_H_cut_36 0 rfl ?_
        refine hk_get hC jk_H _ (at_l (k := 0) rfl) 1 (by decide) jq_273 rfl jd_H_cut_37 ?_
        obtain ⟨q4, h_q4, h⟩ := xb_go h
        refine hk_callVBv hC (jc_P_push l D cI cF N aPast aField 8 p_newest p_size p_v f_lying f_damp f_told f_heights f_burnt f_layerWords f_layerWetness f_layerHeat f_hours h_q4) jl_P_push rfl (List.mem_of_getElem? (at_r (at_r (at_r (k := 0) rfl)))) jq_407 jq_408 jq_409 rfl ⟨by decide, by decide⟩ (pm_4_3_1 _ _ _ _) (pm_4_3_1 _ _ _ _) (fst_app (fst_P _ _ _ _) rfl) (ws2 := ((wH a aText aField aTrial aPast aKept aSeen aLand aDraft) ++ ((wF cI aField f_lying f_damp f_told f_heights f_burnt f_layerWords f_layerWetness f_layerHeat f_hours) ++ ((wL cI aLand g_speeches g_speechLengths g_weather g_kindsOfCows g_thatches g_weatherLength g_mowers g_cows g_ricks) ++ (wP cI cF 8 aPast q4.1 q4.2.1 q4.2.2))))) rfl (Nat.le_of_ble_eq_true rfl) ⟨Nat.zero_le _, Nat.zero_le _⟩ jd_H_cut_40 ?_
        refine hk_aload_n hC jd_H_cut_43 0 rfl ?_
        refine hk_get hC jk_H _ (at_l (k := 0) rfl) 1 (by decide) jq_273 rfl jd_H_cut_44 ?_
        refine hk_iload_n hC jd_H_cut_47 1 rfl ?_
        refine hk_iload_n hC jd_H_cut_48 2 rfl ?_
        refine hk_aload_n hC jd_H_cut_49 0 rfl ?_
        refine hk_get hC jk_H _ (at_l (k := 0) rfl) 6 (by decide) jq_278 rfl jd_H_cut_50 ?_
        refine hk_iload_n hC jd_H_cut_53 2 rfl ?_
        obtain ⟨q5, h_q5, h⟩ := xb_go h
        refine hk_callVBi hC (jc_L_kindOf l D cI cF N aLand g_speeches g_speechLengths g_weather g_kindsOfCows g_thatches g_weatherLength g_mowers g_cows g_ricks x2 h_q5) jl_L_kindOf rfl (List.mem_of_getElem? (at_r (at_r (at_l (k := 0) rfl)))) jq_359 jq_360 jq_361 rfl ⟨by decide, by decide⟩ (pm_4_2 _ _ _ _) (pm_4_2 _ _ _ _) rfl (ws2 := ((wH a aText aField aTrial aPast aKept aSeen aLand aDraft) ++ ((wF cI aField f_lying f_damp f_told f_heights f_burnt f_layerWords f_layerWetness f_layerHeat f_hours) ++ ((wL cI aLand g_speeches g_speechLengths g_weather g_kindsOfCows g_thatches g_weatherLength g_mowers g_cows g_ricks) ++ (wP cI cF 8 aPast q4.1 q4.2.1 q4.2.2))))) rfl (Nat.le_of_ble_eq_true rfl) ⟨Nat.zero_le _, Nat.zero_le _⟩ jd_H_cut_54 ?_
        obtain ⟨q6, h_q6, h⟩ := xb_go h
        refine hk_callVBi hC (jc_F_feed l D cI cF N aField f_lying f_damp f_told f_heights f_burnt f_layerWords f_layerWetness f_layerHeat f_hours x1 x2 q5 h_q6) jl_F_feed rfl (List.mem_of_getElem? (at_r (at_l (k := 0) rfl))) jq_468 jq_469 jq_470 rfl ⟨by decide, by decide⟩ (pm_4_1 _ _ _ _) (pm_4_1 _ _ _ _) rfl (ws2 := ((wH a aText aField aTrial aPast aKept aSeen aLand aDraft) ++ ((wF cI aField f_lying f_damp q6.2.1 q6.2.2 f_burnt f_layerWords f_layerWetness f_layerHeat f_hours) ++ ((wL cI aLand g_speeches g_speechLengths g_weather g_kindsOfCows g_thatches g_weatherLength g_mowers g_cows g_ricks) ++ (wP cI cF 8 aPast q4.1 q4.2.1 q4.2.2))))) rfl (Nat.le_of_ble_eq_true rfl) ⟨Nat.zero_le _, Nat.zero_le _⟩ jd_H_cut_57 ?_
        obtain rfl := Option.some.inj h
        exact hk_iret hC hr jd_H_cut_60 rfl rfl
      · replace h := xi_t h cc3
        refine hk_bipush (v := -2) hC jd_H_cut_29 (by decide) ?_
        obtain rfl := Option.some.inj h
        exact hk_iret hC hr jd_H_cut_31 rfl rfl
    · replace h := xi_t h cc2
      refine hk_iconst (v := -1) hC jd_H_cut_16 (by decide) ?_
      obtain rfl := Option.some.inj h
      exact hk_iret hC hr jd_H_cut_17 rfl rfl
theorem jc_H_cut (l : Launch) (D : va_G) (cI cF : ClassId) (N : Nat) (a : Nat → Nat) (aText : Nat → Nat) (aField : Nat → Nat) (aTrial : Nat → Nat) (aPast : Nat → Nat) (aKept : Nat → Nat) (aSeen : Nat → Nat) (aLand : Nat → Nat) (aDraft : Nat → Nat)  (f_lying : Nat → Int32) (f_damp : Nat → Int32) (f_told : Nat → Int32) (f_heights : Nat → Int32) (f_burnt : Nat → Int32) (f_layerWords : Nat → Int32) (f_layerWetness : Nat → Int32) (f_layerHeat : Nat → Int32) (f_hours : Int32) (g_speeches : Nat → Int32) (g_speechLengths : Nat → Int32) (g_weather : Nat → Int32) (g_kindsOfCows : Nat → Int32) (g_thatches : Nat → Int32) (g_weatherLength : Int32) (g_mowers : Int32) (g_cows : Int32) (g_ricks : Int32) (p_newest : Int32) (p_size : Int32) (p_v : Nat → jFV) (x1 : Int32) (x2 : Int32) {o : Int32 × (Nat → Int32) × (Nat → Int32) × Int32 × Int32 × (Nat → jFV)} (h : jf_H_cut N f_lying f_damp f_told f_heights f_burnt f_layerWords f_layerWetness f_layerHeat f_hours g_kindsOfCows g_cows g_ricks p_newest p_size p_v x1 x2 = some o) : hk_Mi l jy_H_cut jb_H_cut 3 (some .int) jr_H_cut D cI cF ((wH a aText aField aTrial aPast aKept aSeen aLand aDraft) ++ ((wF cI aField f_lying f_damp f_told f_heights f_burnt f_layerWords f_layerWetness f_layerHeat f_hours) ++ ((wL cI aLand g_speeches g_speechLengths g_weather g_kindsOfCows g_thatches g_weatherLength g_mowers g_cows g_ricks) ++ (wP cI cF 8 aPast p_newest p_size p_v)))) [.ref (a 0), .int x1, .int x2] o.1 ((wH a aText aField aTrial aPast aKept aSeen aLand aDraft) ++ ((wF cI aField f_lying f_damp o.2.1 o.2.2.1 f_burnt f_layerWords f_layerWetness f_layerHeat f_hours) ++ ((wL cI aLand g_speeches g_speechLengths g_weather g_kindsOfCows g_thatches g_weatherLength g_mowers g_cows g_ricks) ++ (wP cI cF 8 aPast o.2.2.2.1 o.2.2.2.2.1 o.2.2.2.2.2)))) :=
  hk_metI (by decide) (Nat.le_of_ble_eq_true rfl) rfl rfl (fun p e s m args below meth c A hC hr => jw_H_cut hC hr N a aText aField aTrial aPast aKept aSeen aLand aDraft f_lying f_damp f_told f_heights f_burnt f_layerWords f_layerWetness f_layerHeat f_hours g_speeches g_speechLengths g_weather g_kindsOfCows g_thatches g_weatherLength g_mowers g_cows g_ricks p_newest p_size p_v x1 x2 h)
set_option maxHeartbeats 8000000 in
set_option maxRecDepth 100000 in
theorem jw_H_turn {p : Program} {l : Launch} {e : Env} {s : State} {m : MethodId} {args : Array Value} {below : List Frame} {meth : Method} {c : Code} {A : Nat → Prop} {D : va_G} {cI cF : ClassId} (hC : hk_ok p s m args meth c A 3 D cI cF "HayTalk" jb_H_turn) (hr : meth.sig.returnType = (some .int)) (N : Nat) (a : Nat → Nat) (aText : Nat → Nat) (aField : Nat → Nat) (aTrial : Nat → Nat) (aPast : Nat → Nat) (aKept : Nat → Nat) (aSeen : Nat → Nat) (aLand : Nat → Nat) (aDraft : Nat → Nat)  (f_lying : Nat → Int32) (f_damp : Nat → Int32) (f_told : Nat → Int32) (f_heights : Nat → Int32) (f_burnt : Nat → Int32) (f_layerWords : Nat → Int32) (f_layerWetness : Nat → Int32) (f_layerHeat : Nat → Int32) (f_hours : Int32) (g_speeches : Nat → Int32) (g_speechLengths : Nat → Int32) (g_weather : Nat → Int32) (g_kindsOfCows : Nat → Int32) (g_thatches : Nat → Int32) (g_weatherLength : Int32) (g_mowers : Int32) (g_cows : Int32) (g_ricks : Int32) (p_newest : Int32) (p_size : Int32) (p_v : Nat → jFV) (x1 : Int32) {o : Int32 × (Nat → Int32) × Int32 × Int32 × (Nat → jFV)} (h : jf_H_turn N f_lying f_damp f_told f_heights f_burnt f_layerWords f_layerWetness f_layerHeat f_hours g_mowers p_newest p_size p_v x1 = some o) : hk_W p l e jr_H_turn s m args below meth c A (hk_Zi below args s D A o.1 ((wH a aText aField aTrial aPast aKept aSeen aLand aDraft) ++ ((wF cI aField f_lying o.2.1 f_told f_heights f_burnt f_layerWords f_layerWetness f_layerHeat f_hours) ++ ((wL cI aLand g_speeches g_speechLengths g_weather g_kindsOfCows g_thatches g_weatherLength g_mowers g_cows g_ricks) ++ (wP cI cF 8 aPast o.2.2.1 o.2.2.2.1 o.2.2.2.2))))) 3 D 0 0 ((wH a aText aField aTrial aPast aKept aSeen aLand aDraft) ++ ((wF cI aField f_lying f_damp f_told f_heights f_burnt f_layerWords f_layerWetness f_layerHeat f_hours) ++ ((wL cI aLand g_speeches g_speechLengths g_weather g_kindsOfCows g_thatches g_weatherLength g_mowers g_cows g_ricks) ++ (wP cI cF 8 aPast p_newest p_size p_v)))) 0 [(0, .ref (a 0)), (1, .int x1)] [] := by
  delta jf_H_turn at h
  refine hk_aload_n hC jd_H_turn_0 0 rfl ?_
  refine hk_iload_n hC jd_H_turn_1 1 rfl ?_
  obtain ⟨q1, h_q1, h⟩ := xb_go h
  refine hk_callVBi hC (jc_H_isMower l D cI cF N a aText aField aTrial aPast aKept aSeen aLand aDraft g_speeches g_speechLengths g_weather g_kindsOfCows g_thatches g_weatherLength g_mowers g_cows g_ricks x1 h_q1) jl_H_isMower rfl (List.mem_of_getElem? (at_l (k := 0) rfl)) jq_336 jq_338 jq0_5 rfl ⟨by decide, by decide⟩ (pm_4_0_2 _ _ _ _) (pm_4_0_2 _ _ _ _) rfl (ws2 := ((wH a aText aField aTrial aPast aKept aSeen aLand aDraft) ++ ((wF cI aField f_lying f_damp f_told f_heights f_burnt f_layerWords f_layerWetness f_layerHeat f_hours) ++ ((wL cI aLand g_speeches g_speechLengths g_weather g_kindsOfCows g_thatches g_weatherLength g_mowers g_cows g_ricks) ++ (wP cI cF 8 aPast p_newest p_size p_v))))) rfl (Nat.le_of_ble_eq_true rfl) ⟨Nat.zero_le _, Nat.zero_le _⟩ jd_H_turn_2 ?_
  refine hk_if_ne (tgt := 10) hC jd_H_turn_5 (by decide) (fun cc1 => ?_) (fun cc1 => ?_)
  · replace h := xi_f h cc1
    refine hk_aload_n hC jd_H_turn_10 0 rfl ?_
    refine hk_get hC jk_H _ (at_l (k := 0) rfl) 1 (by decide) jq_273 rfl jd_H_turn_11 ?_
    refine hk_getN hC jk_F _ (at_r (at_l (k := 0) rfl)) 1 (by decide) jq_49 rfl jd_H_turn_14 ?_
    refine hk_iload_n hC jd_H_turn_17 1 rfl ?_
    obtain ⟨q2, h_q2, h⟩ := xb_go h
    refine hk_callSi hC (jc_R_at l D cI cF N (fun _ => (aField 2)) 5 f_damp x1 h_q2) jl_R_at jq_350 jq_345 rfl ⟨by decide, by decide⟩ [_] (congrArg (fun z => [z]) (at_r (at_l (k := 2) rfl))) rfl rfl (ws2 := ((wH a aText aField aTrial aPast aKept aSeen aLand aDraft) ++ ((wF cI aField f_lying f_damp f_told f_heights f_burnt f_layerWords f_layerWetness f_layerHeat f_hours) ++ ((wL cI aLand g_speeches g_speechLengths g_weather g_kindsOfCows g_thatches g_weatherLength g_mowers g_cows g_ricks) ++ (wP cI cF 8 aPast p_newest p_size p_v))))) (set_r (set_l (Nat.le_of_ble_eq_true rfl) rfl)) rfl (Nat.le_of_ble_eq_true rfl) ⟨Nat.zero_le _, Nat.zero_le _⟩ jd_H_turn_18 ?_
    refine hk_istore_n hC (i := 2) (y := q2) (lv2 := [(2, .int q2), (0, .ref (a 0)), (1, .int x1)]) jd_H_turn_21 rfl rfl (by decide) rfl ?_
    refine hk_iload_n hC jd_H_turn_22 0 rfl ?_
    refine hk_if_ne (tgt := 29) hC jd_H_turn_23 (by decide) (fun cc2 => ?_) (fun cc2 => ?_)
    · replace h := xi_f h cc2
      refine hk_aload_n hC jd_H_turn_29 1 rfl ?_
      refine hk_get hC jk_H _ (at_l (k := 0) rfl) 3 (by decide) jq_275 rfl jd_H_turn_30 ?_
      refine hk_aload_n hC jd_H_turn_33 1 rfl ?_
      refine hk_get hC jk_H _ (at_l (k := 0) rfl) 1 (by decide) jq_273 rfl jd_H_turn_34 ?_
      obtain ⟨q3, h_q3, h⟩ := xb_go h
      refine hk_callVBv hC (jc_P_push l D cI cF N aPast aField 8 p_newest p_size p_v f_lying f_damp f_told f_heights f_burnt f_layerWords f_layerWetness f_layerHeat f_hours h_q3) jl_P_push rfl (List.mem_of_getElem? (at_r (at_r (at_r (k := 0) rfl)))) jq_407 jq_408 jq_409 rfl ⟨by decide, by decide⟩ (pm_4_3_1 _ _ _ _) (pm_4_3_1 _ _ _ _) (fst_app (fst_P _ _ _ _) rfl) (ws2 := ((wH a aText aField aTrial aPast aKept aSeen aLand aDraft) ++ ((wF cI aField f_lying f_damp f_told f_heights f_burnt f_layerWords f_layerWetness f_layerHeat f_hours) ++ ((wL cI aLand g_speeches g_speechLengths g_weather g_kindsOfCows g_thatches g_weatherLength g_mowers g_cows g_ricks) ++ (wP cI cF 8 aPast q3.1 q3.2.1 q3.2.2))))) rfl (Nat.le_of_ble_eq_true rfl) ⟨Nat.zero_le _, Nat.zero_le _⟩ jd_H_turn_37 ?_
      refine hk_aload_n hC jd_H_turn_40 1 rfl ?_
      refine hk_get hC jk_H _ (at_l (k := 0) rfl) 1 (by decide) jq_273 rfl jd_H_turn_41 ?_
      refine hk_getN hC jk_F _ (at_r (at_l (k := 0) rfl)) 1 (by decide) jq_49 rfl jd_H_turn_44 ?_
      refine hk_iload_n hC jd_H_turn_47 2 rfl ?_
      refine hk_iconst (v := 0) hC jd_H_turn_48 (by decide) ?_
      obtain ⟨q4, h_q4, h⟩ := xb_go h
      refine hk_callSv hC (jc_R_put l D cI cF N (fun _ => (aField 2)) 5 f_damp x1 (0 : Int32) h_q4) jl_R_put jq_491 jq_222 rfl ⟨by decide, by decide⟩ [_] (congrArg (fun z => [z]) (at_r (at_l (k := 2) rfl))) rfl rfl (ws2 := ((wH a aText aField aTrial aPast aKept aSeen aLand aDraft) ++ ((wF cI aField f_lying q4 f_told f_heights f_burnt f_layerWords f_layerWetness f_layerHeat f_hours) ++ ((wL cI aLand g_speeches g_speechLengths g_weather g_kindsOfCows g_thatches g_weatherLength g_mowers g_cows g_ricks) ++ (wP cI cF 8 aPast q3.1 q3.2.1 q3.2.2))))) (set_r (set_l (Nat.le_of_ble_eq_true rfl) rfl)) rfl (Nat.le_of_ble_eq_true rfl) ⟨Nat.zero_le _, Nat.zero_le _⟩ jd_H_turn_49 ?_
      refine hk_iload_n hC jd_H_turn_52 0 rfl ?_
      obtain rfl := Option.some.inj h
      exact hk_iret hC hr jd_H_turn_53 rfl rfl
    · replace h := xi_t h cc2
      refine hk_bipush (v := -2) hC jd_H_turn_26 (by decide) ?_
      obtain rfl := Option.some.inj h
      exact hk_iret hC hr jd_H_turn_28 rfl rfl
  · replace h := xi_t h cc1
    refine hk_iconst (v := -1) hC jd_H_turn_8 (by decide) ?_
    obtain rfl := Option.some.inj h
    exact hk_iret hC hr jd_H_turn_9 rfl rfl
theorem jc_H_turn (l : Launch) (D : va_G) (cI cF : ClassId) (N : Nat) (a : Nat → Nat) (aText : Nat → Nat) (aField : Nat → Nat) (aTrial : Nat → Nat) (aPast : Nat → Nat) (aKept : Nat → Nat) (aSeen : Nat → Nat) (aLand : Nat → Nat) (aDraft : Nat → Nat)  (f_lying : Nat → Int32) (f_damp : Nat → Int32) (f_told : Nat → Int32) (f_heights : Nat → Int32) (f_burnt : Nat → Int32) (f_layerWords : Nat → Int32) (f_layerWetness : Nat → Int32) (f_layerHeat : Nat → Int32) (f_hours : Int32) (g_speeches : Nat → Int32) (g_speechLengths : Nat → Int32) (g_weather : Nat → Int32) (g_kindsOfCows : Nat → Int32) (g_thatches : Nat → Int32) (g_weatherLength : Int32) (g_mowers : Int32) (g_cows : Int32) (g_ricks : Int32) (p_newest : Int32) (p_size : Int32) (p_v : Nat → jFV) (x1 : Int32) {o : Int32 × (Nat → Int32) × Int32 × Int32 × (Nat → jFV)} (h : jf_H_turn N f_lying f_damp f_told f_heights f_burnt f_layerWords f_layerWetness f_layerHeat f_hours g_mowers p_newest p_size p_v x1 = some o) : hk_Mi l jy_H_turn jb_H_turn 3 (some .int) jr_H_turn D cI cF ((wH a aText aField aTrial aPast aKept aSeen aLand aDraft) ++ ((wF cI aField f_lying f_damp f_told f_heights f_burnt f_layerWords f_layerWetness f_layerHeat f_hours) ++ ((wL cI aLand g_speeches g_speechLengths g_weather g_kindsOfCows g_thatches g_weatherLength g_mowers g_cows g_ricks) ++ (wP cI cF 8 aPast p_newest p_size p_v)))) [.ref (a 0), .int x1] o.1 ((wH a aText aField aTrial aPast aKept aSeen aLand aDraft) ++ ((wF cI aField f_lying o.2.1 f_told f_heights f_burnt f_layerWords f_layerWetness f_layerHeat f_hours) ++ ((wL cI aLand g_speeches g_speechLengths g_weather g_kindsOfCows g_thatches g_weatherLength g_mowers g_cows g_ricks) ++ (wP cI cF 8 aPast o.2.2.1 o.2.2.2.1 o.2.2.2.2)))) :=
  hk_metI (by decide) (Nat.le_of_ble_eq_true rfl) rfl rfl (fun p e s m args below meth c A hC hr => jw_H_turn hC hr N a aText aField aTrial aPast aKept aSeen aLand aDraft f_lying f_damp f_told f_heights f_burnt f_layerWords f_layerWetness f_layerHeat f_hours g_speeches g_speechLengths g_weather g_kindsOfCows g_thatches g_weatherLength g_mowers g_cows g_ricks p_newest p_size p_v x1 h)
