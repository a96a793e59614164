set_option maxHeartbeats 8000000 in
set_option maxRecDepth 100000 in
theorem jw_H_lay {p : Program} {l : Launch} {e : Env} {s : State} {m : MethodId} {args : Array Value} {below : List Frame} {meth : Method} {c : Code} {A : Nat → Prop} {D : va_G} {cI cF : ClassId} (hC : hk_ok p s m args meth c A 2 D cI cF "HayTalk" jb_H_lay) (hr : meth.sig.returnType = (some .int)) (N : Nat) (a : Nat → Nat) (aText : Nat → Nat) (aField : Nat → Nat) (aTrial : Nat → Nat) (aPast : Nat → Nat) (aKept : Nat → Nat) (aSeen : Nat → Nat) (aLand : Nat → Nat) (aDraft : Nat → Nat)  (t_letters : Nat → Int32) (t_length : Int32) (f_lying : Nat → Int32) (f_damp : Nat → Int32) (f_told : Nat → Int32) (f_heights : Nat → Int32) (f_burnt : Nat → Int32) (f_layerWords : Nat → Int32) (f_layerWetness : Nat → Int32) (f_layerHeat : Nat → Int32) (f_hours : Int32) (s_words : Nat → Int32) (s_hours : Nat → Int32) (s_size : Int32) (g_speeches : Nat → Int32) (g_speechLengths : Nat → Int32) (g_weather : Nat → Int32) (g_kindsOfCows : Nat → Int32) (g_thatches : Nat → Int32) (g_weatherLength : Int32) (g_mowers : Int32) (g_cows : Int32) (g_ricks : Int32) (d_speeches : Nat → Int32) (d_speechLengths : Nat → Int32) (d_weather : Nat → Int32) (d_kindsOfCows : Nat → Int32) (d_thatches : Nat → Int32) (d_weatherLength : Int32) (d_mowers : Int32) (d_cows : Int32) (d_ricks : Int32) (p_newest : Int32) (p_size : Int32) (p_v : Nat → jFV) (k_newest : Int32) (k_size : Int32) (k_v : Nat → jFV)  {o : Int32 × (Nat → Int32) × (Nat → Int32) × (Nat → Int32) × (Nat → Int32) × (Nat → Int32) × Int32 × Int32 × (Nat → Int32) × (Nat → Int32) × (Nat → Int32) × (Nat → Int32) × (Nat → Int32) × Int32 × Int32 × Int32 × Int32 × Int32 × Int32 × Bool} (h : jf_H_lay N t_letters t_length f_lying f_damp f_told f_heights f_burnt f_hours s_size g_mowers d_speeches d_speechLengths d_weather d_kindsOfCows d_thatches d_weatherLength d_mowers d_cows d_ricks p_size k_size = some o) : hk_W p l e jr_H_lay s m args below meth c A (hk_Zi below args s D A o.1 ((wH a aText aField aTrial aPast aKept aSeen (cond o.2.2.2.2.2.2.2.2.2.2.2.2.2.2.2.2.2.2.2 aDraft aLand) (cond o.2.2.2.2.2.2.2.2.2.2.2.2.2.2.2.2.2.2.2 aLand aDraft)) ++ ((wT cI aText t_letters t_length) ++ ((wF cI aField o.2.1 o.2.2.1 o.2.2.2.1 o.2.2.2.2.1 o.2.2.2.2.2.1 f_layerWords f_layerWetness f_layerHeat o.2.2.2.2.2.2.1) ++ ((wS cI aSeen s_words s_hours o.2.2.2.2.2.2.2.1) ++ ((wL cI aLand g_speeches g_speechLengths g_weather g_kindsOfCows g_thatches g_weatherLength g_mowers g_cows g_ricks) ++ ((wL cI aDraft o.2.2.2.2.2.2.2.2.1 o.2.2.2.2.2.2.2.2.2.1 o.2.2.2.2.2.2.2.2.2.2.1 o.2.2.2.2.2.2.2.2.2.2.2.1 o.2.2.2.2.2.2.2.2.2.2.2.2.1 o.2.2.2.2.2.2.2.2.2.2.2.2.2.1 o.2.2.2.2.2.2.2.2.2.2.2.2.2.2.1 o.2.2.2.2.2.2.2.2.2.2.2.2.2.2.2.1 o.2.2.2.2.2.2.2.2.2.2.2.2.2.2.2.2.1) ++ ((wP cI cF 8 aPast p_newest o.2.2.2.2.2.2.2.2.2.2.2.2.2.2.2.2.2.1 p_v) ++ (wP cI cF 2 aKept k_newest o.2.2.2.2.2.2.2.2.2.2.2.2.2.2.2.2.2.2.1 k_v))))))))) 2 D 0 0 ((wH a aText aField aTrial aPast aKept aSeen aLand aDraft) ++ ((wT cI aText t_letters t_length) ++ ((wF cI aField f_lying f_damp f_told f_heights f_burnt f_layerWords f_layerWetness f_layerHeat f_hours) ++ ((wS cI aSeen s_words s_hours s_size) ++ ((wL cI aLand g_speeches g_speechLengths g_weather g_kindsOfCows g_thatches g_weatherLength g_mowers g_cows g_ricks) ++ ((wL cI aDraft d_speeches d_speechLengths d_weather d_kindsOfCows d_thatches d_weatherLength d_mowers d_cows d_ricks) ++ ((wP cI cF 8 aPast p_newest p_size p_v) ++ (wP cI cF 2 aKept k_newest k_size k_v)))))))) 0 [(0, .ref (a 0))] [] := by
  delta jf_H_lay at h
  refine hk_aload_n hC jd_H_lay_0 0 rfl ?_
  refine hk_get hC jk_H _ (at_l (k := 0) rfl) 7 (by decide) jq_279 rfl jd_H_lay_1 ?_
  refine hk_aload_n hC jd_H_lay_4 0 rfl ?_
  refine hk_get hC jk_H _ (at_l (k := 0) rfl) 0 (by decide) jq_272 rfl jd_H_lay_5 ?_
  obtain ⟨q1, h_q1, h⟩ := xb_go h
  refine hk_callVBi hC (jc_L_readText l D cI cF N aDraft aText d_speeches d_speechLengths d_weather d_kindsOfCows d_thatches d_weatherLength d_mowers d_cows d_ricks t_letters t_length h_q1) jl_L_readText rfl (List.mem_of_getElem? (at_r (at_r (at_r (at_r (at_r (at_l (k := 0) rfl))))))) jq_224 jq_225 jq_226 rfl ⟨by decide, by decide⟩ (pm_8_5_1 _ _ _ _ _ _ _ _) (pm_8_5_1 _ _ _ _ _ _ _ _) rfl (ws2 := ((wH a aText aField aTrial aPast aKept aSeen aLand aDraft) ++ ((wT cI aText t_letters t_length) ++ ((wF cI aField f_lying f_damp f_told f_heights f_burnt f_layerWords f_layerWetness f_layerHeat f_hours) ++ ((wS cI aSeen s_words s_hours s_size) ++ ((wL cI aLand g_speeches g_speechLengths g_weather g_kindsOfCows g_thatches g_weatherLength g_mowers g_cows g_ricks) ++ ((wL cI aDraft q1.2.1 q1.2.2.1 q1.2.2.2.1 q1.2.2.2.2.1 q1.2.2.2.2.2.1 q1.2.2.2.2.2.2.1 q1.2.2.2.2.2.2.2.1 q1.2.2.2.2.2.2.2.2.1 q1.2.2.2.2.2.2.2.2.2) ++ ((wP cI cF 8 aPast p_newest p_size p_v) ++ (wP cI cF 2 aKept k_newest k_size k_v))))))))) rfl (Nat.le_of_ble_eq_true rfl) ⟨Nat.zero_le _, Nat.zero_le _⟩ jd_H_lay_8 ?_
  refine hk_bipush (v := -4) hC jd_H_lay_11 (by decide) ?_
  refine hk_icmp_ne (tgt := 26) hC jd_H_lay_13 (by decide) (fun cc1 => ?_) (fun cc1 => ?_)
  · replace h := xi_f h cc1
    refine hk_bipush (v := -2) hC jd_H_lay_26 (by decide) ?_
    obtain rfl := Option.some.inj h
    exact hk_iret hC hr jd_H_lay_28 rfl rfl
  · replace h := xi_t h cc1
    refine hk_aload_n hC jd_H_lay_16 0 rfl ?_
    refine hk_get hC jk_H _ (at_l (k := 0) rfl) 7 (by decide) jq_279 rfl jd_H_lay_17 ?_
    obtain ⟨q2, h_q2, h⟩ := xb_go h
    refine hk_callVBi hC (jc_L_isWhole l D cI cF N aDraft q1.2.1 q1.2.2.1 q1.2.2.2.1 q1.2.2.2.2.1 q1.2.2.2.2.2.1 q1.2.2.2.2.2.2.1 q1.2.2.2.2.2.2.2.1 q1.2.2.2.2.2.2.2.2.1 q1.2.2.2.2.2.2.2.2.2 h_q2) jl_L_isWhole rfl (List.mem_of_getElem? (at_r (at_r (at_r (at_r (at_r (at_l (k := 0) rfl))))))) jq_317 jq_318 jq_319 rfl ⟨by decide, by decide⟩ (pm_8_5 _ _ _ _ _ _ _ _) (pm_8_5 _ _ _ _ _ _ _ _) rfl (ws2 := ((wH a aText aField aTrial aPast aKept aSeen aLand aDraft) ++ ((wT cI aText t_letters t_length) ++ ((wF cI aField f_lying f_damp f_told f_heights f_burnt f_layerWords f_layerWetness f_layerHeat f_hours) ++ ((wS cI aSeen s_words s_hours s_size) ++ ((wL cI aLand g_speeches g_speechLengths g_weather g_kindsOfCows g_thatches g_weatherLength g_mowers g_cows g_ricks) ++ ((wL cI aDraft q1.2.1 q1.2.2.1 q1.2.2.2.1 q1.2.2.2.2.1 q1.2.2.2.2.2.1 q1.2.2.2.2.2.2.1 q1.2.2.2.2.2.2.2.1 q1.2.2.2.2.2.2.2.2.1 q1.2.2.2.2.2.2.2.2.2) ++ ((wP cI cF 8 aPast p_newest p_size p_v) ++ (wP cI cF 2 aKept k_newest k_size k_v))))))))) rfl (Nat.le_of_ble_eq_true rfl) ⟨Nat.zero_le _, Nat.zero_le _⟩ jd_H_lay_20 ?_
    refine hk_if_ne (tgt := 29) hC jd_H_lay_23 (by decide) (fun cc2 => ?_) (fun cc2 => ?_)
    · replace h := xi_f h cc2
      refine hk_aload_n hC jd_H_lay_29 0 rfl ?_
      refine hk_get hC jk_H _ (at_l (k := 0) rfl) 7 (by decide) jq_279 rfl jd_H_lay_30 ?_
      refine hk_astore_n hC (i := 1) (lv2 := [(1, .ref (aDraft 0)), (0, .ref (a 0))]) jd_H_lay_33 rfl rfl (by decide) rfl ?_
      refine hk_aload_n hC jd_H_lay_34 1 rfl ?_
      refine hk_aload_n hC jd_H_lay_35 1 rfl ?_
      refine hk_get hC jk_H _ (at_l (k := 0) rfl) 6 (by decide) jq_278 rfl jd_H_lay_36 ?_
      refine hk_put hC jk_H _ (at_l (k := 0) rfl) 7 (by decide) jq_279 rfl rfl rfl (Nat.le_of_ble_eq_true rfl) (ws2 := ((wH a aText aField aTrial aPast aKept aSeen aLand aLand) ++ ((wT cI aText t_letters t_length) ++ ((wF cI aField f_lying f_damp f_told f_heights f_burnt f_layerWords f_layerWetness f_layerHeat f_hours) ++ ((wS cI aSeen s_words s_hours s_size) ++ ((wL cI aLand g_speeches g_speechLengths g_weather g_kindsOfCows g_thatches g_weatherLength g_mowers g_cows g_ricks) ++ ((wL cI aDraft q1.2.1 q1.2.2.1 q1.2.2.2.1 q1.2.2.2.2.1 q1.2.2.2.2.2.1 q1.2.2.2.2.2.2.1 q1.2.2.2.2.2.2.2.1 q1.2.2.2.2.2.2.2.2.1 q1.2.2.2.2.2.2.2.2.2) ++ ((wP cI cF 8 aPast p_newest p_size p_v) ++ (wP cI cF 2 aKept k_newest k_size k_v))))))))) (set_l (Nat.le_of_ble_eq_true rfl) rfl) jd_H_lay_39 ?_
      refine hk_aload_n hC jd_H_lay_42 1 rfl ?_
      refine hk_aload_n hC jd_H_lay_43 0 rfl ?_
      refine hk_put hC jk_H _ (at_l (k := 0) rfl) 6 (by decide) jq_278 rfl rfl rfl (Nat.le_of_ble_eq_true rfl) (ws2 := ((wH a aText aField aTrial aPast aKept aSeen aDraft aLand) ++ ((wT cI aText t_letters t_length) ++ ((wF cI aField f_lying f_damp f_told f_heights f_burnt f_layerWords f_layerWetness f_layerHeat f_hours) ++ ((wS cI aSeen s_words s_hours s_size) ++ ((wL cI aLand g_speeches g_speechLengths g_weather g_kindsOfCows g_thatches g_weatherLength g_mowers g_cows g_ricks) ++ ((wL cI aDraft q1.2.1 q1.2.2.1 q1.2.2.2.1 q1.2.2.2.2.1 q1.2.2.2.2.2.1 q1.2.2.2.2.2.2.1 q1.2.2.2.2.2.2.2.1 q1.2.2.2.2.2.2.2.2.1 q1.2.2.2.2.2.2.2.2.2) ++ ((wP cI cF 8 aPast p_newest p_size p_v) ++ (wP cI cF 2 aKept k_newest k_size k_v))))))))) (set_l (Nat.le_of_ble_eq_true rfl) rfl) jd_H_lay_44 ?_
      refine hk_aload_n hC jd_H_lay_47 1 rfl ?_
      refine hk_get hC jk_H _ (at_l (k := 0) rfl) 1 (by decide) jq_273 rfl jd_H_lay_48 ?_
      obtain ⟨q3, h_q3, h⟩ := xb_go h
      refine hk_callVBv hC (jc_F_clear l D cI cF N aField f_lying f_damp f_told f_heights f_burnt f_layerWords f_layerWetness f_layerHeat f_hours h_q3) jl_F_clear rfl (List.mem_of_getElem? (at_r (at_r (at_l (k := 0) rfl)))) jq_321 jq_322 jq_323 rfl ⟨by decide, by decide⟩ (pm_8_2 _ _ _ _ _ _ _ _) (pm_8_2 _ _ _ _ _ _ _ _) rfl (ws2 := ((wH a aText aField aTrial aPast aKept aSeen aDraft aLand) ++ ((wT cI aText t_letters t_length) ++ ((wF cI aField q3.1 q3.2.1 q3.2.2.1 q3.2.2.2.1 q3.2.2.2.2.1 f_layerWords f_layerWetness f_layerHeat q3.2.2.2.2.2) ++ ((wS cI aSeen s_words s_hours s_size) ++ ((wL cI aLand g_speeches g_speechLengths g_weather g_kindsOfCows g_thatches g_weatherLength g_mowers g_cows g_ricks) ++ ((wL cI aDraft q1.2.1 q1.2.2.1 q1.2.2.2.1 q1.2.2.2.2.1 q1.2.2.2.2.2.1 q1.2.2.2.2.2.2.1 q1.2.2.2.2.2.2.2.1 q1.2.2.2.2.2.2.2.2.1 q1.2.2.2.2.2.2.2.2.2) ++ ((wP cI cF 8 aPast p_newest p_size p_v) ++ (wP cI cF 2 aKept k_newest k_size k_v))))))))) rfl (Nat.le_of_ble_eq_true rfl) ⟨Nat.zero_le _, Nat.zero_le _⟩ jd_H_lay_51 ?_
      refine hk_aload_n hC jd_H_lay_54 1 rfl ?_
      refine hk_get hC jk_H _ (at_l (k := 0) rfl) 3 (by decide) jq_275 rfl jd_H_lay_55 ?_
      obtain ⟨q4, h_q4, h⟩ := xb_go h
      refine hk_callVBv hC (jc_P_clear l D cI cF N aPast 8 p_newest p_size p_v h_q4) jl_P_clear rfl (List.mem_of_getElem? (at_r (at_r (at_r (at_r (at_r (at_r (at_l (k := 0) rfl)))))))) jq_328 jq_329 jq_330 rfl ⟨by decide, by decide⟩ (pm_8_6 _ _ _ _ _ _ _ _) (pm_8_6 _ _ _ _ _ _ _ _) (fst_P _ _ _ _) (ws2 := ((wH a aText aField aTrial aPast aKept aSeen aDraft aLand) ++ ((wT cI aText t_letters t_length) ++ ((wF cI aField q3.1 q3.2.1 q3.2.2.1 q3.2.2.2.1 q3.2.2.2.2.1 f_layerWords f_layerWetness f_layerHeat q3.2.2.2.2.2) ++ ((wS cI aSeen s_words s_hours s_size) ++ ((wL cI aLand g_speeches g_speechLengths g_weather g_kindsOfCows g_thatches g_weatherLength g_mowers g_cows g_ricks) ++ ((wL cI aDraft q1.2.1 q1.2.2.1 q1.2.2.2.1 q1.2.2.2.2.1 q1.2.2.2.2.2.1 q1.2.2.2.2.2.2.1 q1.2.2.2.2.2.2.2.1 q1.2.2.2.2.2.2.2.2.1 q1.2.2.2.2.2.2.2.2.2) ++ ((wP cI cF 8 aPast p_newest q4 p_v) ++ (wP cI cF 2 aKept k_newest k_size k_v))))))))) rfl (Nat.le_of_ble_eq_true rfl) ⟨Nat.zero_le _, Nat.zero_le _⟩ jd_H_lay_58 ?_
      refine hk_aload_n hC jd_H_lay_61 1 rfl ?_
      refine hk_get hC jk_H _ (at_l (k := 0) rfl) 4 (by decide) jq_276 rfl jd_H_lay_62 ?_
      obtain ⟨q5, h_q5, h⟩ := xb_go h
      refine hk_callVBv hC (jc_P_clear l D cI cF N aKept 2 k_newest k_size k_v h_q5) jl_P_clear rfl (List.mem_of_getElem? (at_r (at_r (at_r (at_r (at_r (at_r (at_r (k := 0) rfl)))))))) jq_328 jq_329 jq_330 rfl ⟨by decide, by decide⟩ (pm_8_7 _ _ _ _ _ _ _ _) (pm_8_7 _ _ _ _ _ _ _ _) (fst_P _ _ _ _) (ws2 := ((wH a aText aField aTrial aPast aKept aSeen aDraft aLand) ++ ((wT cI aText t_letters t_length) ++ ((wF cI aField q3.1 q3.2.1 q3.2.2.1 q3.2.2.2.1 q3.2.2.2.2.1 f_layerWords f_layerWetness f_layerHeat q3.2.2.2.2.2) ++ ((wS cI aSeen s_words s_hours s_size) ++ ((wL cI aLand g_speeches g_speechLengths g_weather g_kindsOfCows g_thatches g_weatherLength g_mowers g_cows g_ricks) ++ ((wL cI aDraft q1.2.1 q1.2.2.1 q1.2.2.2.1 q1.2.2.2.2.1 q1.2.2.2.2.2.1 q1.2.2.2.2.2.2.1 q1.2.2.2.2.2.2.2.1 q1.2.2.2.2.2.2.2.2.1 q1.2.2.2.2.2.2.2.2.2) ++ ((wP cI cF 8 aPast p_newest q4 p_v) ++ (wP cI cF 2 aKept k_newest q5 k_v))))))))) rfl (Nat.le_of_ble_eq_true rfl) ⟨Nat.zero_le _, Nat.zero_le _⟩ jd_H_lay_65 ?_
      refine hk_aload_n hC jd_H_lay_68 1 rfl ?_
      refine hk_get hC jk_H _ (at_l (k := 0) rfl) 5 (by decide) jq_277 rfl jd_H_lay_69 ?_
      refine hk_iconst (v := 0) hC jd_H_lay_72 (by decide) ?_
      refine hk_putN hC jk_S _ (at_r (at_r (at_r (at_l (k := 0) rfl)))) 2 (by decide) jq_112 rfl rfl rfl (Nat.le_of_ble_eq_true rfl) (ws2 := ((wH a aText aField aTrial aPast aKept aSeen aDraft aLand) ++ ((wT cI aText t_letters t_length) ++ ((wF cI aField q3.1 q3.2.1 q3.2.2.1 q3.2.2.2.1 q3.2.2.2.2.1 f_layerWords f_layerWetness f_layerHeat q3.2.2.2.2.2) ++ ((wS cI aSeen s_words s_hours (0 : Int32)) ++ ((wL cI aLand g_speeches g_speechLengths g_weather g_kindsOfCows g_thatches g_weatherLength g_mowers g_cows g_ricks) ++ ((wL cI aDraft q1.2.1 q1.2.2.1 q1.2.2.2.1 q1.2.2.2.2.1 q1.2.2.2.2.2.1 q1.2.2.2.2.2.2.1 q1.2.2.2.2.2.2.2.1 q1.2.2.2.2.2.2.2.2.1 q1.2.2.2.2.2.2.2.2.2) ++ ((wP cI cF 8 aPast p_newest q4 p_v) ++ (wP cI cF 2 aKept k_newest q5 k_v))))))))) (set_r (set_r (set_r (set_l (Nat.le_of_ble_eq_true rfl) rfl)))) jd_H_lay_73 ?_
      refine hk_aload_n hC jd_H_lay_76 1 rfl ?_
      refine hk_get hC jk_H _ (at_l (k := 0) rfl) 6 (by decide) jq_278 rfl jd_H_lay_77 ?_
      refine hk_getN hC jk_L _ (at_r (at_r (at_r (at_r (at_r (at_l (k := 0) rfl)))))) 6 (by decide) jq_133 rfl jd_H_lay_80 ?_
      obtain rfl := Option.some.inj h
      exact hk_iret hC hr jd_H_lay_83 rfl rfl
    · replace h := xi_t h cc2
      refine hk_bipush (v := -2) hC jd_H_lay_26 (by decide) ?_
      obtain rfl := Option.some.inj h
      exact hk_iret hC hr jd_H_lay_28 rfl rfl
theorem jc_H_lay (l : Launch) (D : va_G) (cI cF : ClassId) (N : Nat) (a : Nat → Nat) (aText : Nat → Nat) (aField : Nat → Nat) (aTrial : Nat → Nat) (aPast : Nat → Nat) (aKept : Nat → Nat) (aSeen : Nat → Nat) (aLand : Nat → Nat) (aDraft : Nat → Nat)  (t_letters : Nat → Int32) (t_length : Int32) (f_lying : Nat → Int32) (f_damp : Nat → Int32) (f_told : Nat → Int32) (f_heights : Nat → Int32) (f_burnt : Nat → Int32) (f_layerWords : Nat → Int32) (f_layerWetness : Nat → Int32) (f_layerHeat : Nat → Int32) (f_hours : Int32) (s_words : Nat → Int32) (s_hours : Nat → Int32) (s_size : Int32) (g_speeches : Nat → Int32) (g_speechLengths : Nat → Int32) (g_weather : Nat → Int32) (g_kindsOfCows : Nat → Int32) (g_thatches : Nat → Int32) (g_weatherLength : Int32) (g_mowers : Int32) (g_cows : Int32) (g_ricks : Int32) (d_speeches : Nat → Int32) (d_speechLengths : Nat → Int32) (d_weather : Nat → Int32) (d_kindsOfCows : Nat → Int32) (d_thatches : Nat → Int32) (d_weatherLength : Int32) (d_mowers : Int32) (d_cows : Int32) (d_ricks : Int32) (p_newest : Int32) (p_size : Int32) (p_v : Nat → jFV) (k_newest : Int32) (k_size : Int32) (k_v : Nat → jFV)  {o : Int32 × (Nat → Int32) × (Nat → Int32) × (Nat → Int32) × (Nat → Int32) × (Nat → Int32) × Int32 × Int32 × (Nat → Int32) × (Nat → Int32) × (Nat → Int32) × (Nat → Int32) × (Nat → Int32) × Int32 × Int32 × Int32 × Int32 × Int32 × Int32 × Bool} (h : jf_H_lay N t_letters t_length f_lying f_damp f_told f_heights f_burnt f_hours s_size g_mowers d_speeches d_speechLengths d_weather d_kindsOfCows d_thatches d_weatherLength d_mowers d_cows d_ricks p_size k_size = some o) : hk_Mi l jy_H_lay jb_H_lay 2 (some .int) jr_H_lay D cI cF ((wH a aText aField aTrial aPast aKept aSeen aLand aDraft) ++ ((wT cI aText t_letters t_length) ++ ((wF cI aField f_lying f_damp f_told f_heights f_burnt f_layerWords f_layerWetness f_layerHeat f_hours) ++ ((wS cI aSeen s_words s_hours s_size) ++ ((wL cI aLand g_speeches g_speechLengths g_weather g_kindsOfCows g_thatches g_weatherLength g_mowers g_cows g_ricks) ++ ((wL cI aDraft d_speeches d_speechLengths d_weather d_kindsOfCows d_thatches d_weatherLength d_mowers d_cows d_ricks) ++ ((wP cI cF 8 aPast p_newest p_size p_v) ++ (wP cI cF 2 aKept k_newest k_size k_v)))))))) [.ref (a 0)] o.1 ((wH a aText aField aTrial aPast aKept aSeen (cond o.2.2.2.2.2.2.2.2.2.2.2.2.2.2.2.2.2.2.2 aDraft aLand) (cond o.2.2.2.2.2.2.2.2.2.2.2.2.2.2.2.2.2.2.2 aLand aDraft)) ++ ((wT cI aText t_letters t_length) ++ ((wF cI aField o.2.1 o.2.2.1 o.2.2.2.1 o.2.2.2.2.1 o.2.2.2.2.2.1 f_layerWords f_layerWetness f_layerHeat o.2.2.2.2.2.2.1) ++ ((wS cI aSeen s_words s_hours o.2.2.2.2.2.2.2.1) ++ ((wL cI aLand g_speeches g_speechLengths g_weather g_kindsOfCows g_thatches g_weatherLength g_mowers g_cows g_ricks) ++ ((wL cI aDraft o.2.2.2.2.2.2.2.2.1 o.2.2.2.2.2.2.2.2.2.1 o.2.2.2.2.2.2.2.2.2.2.1 o.2.2.2.2.2.2.2.2.2.2.2.1 o.2.2.2.2.2.2.2.2.2.2.2.2.1 o.2.2.2.2.2.2.2.2.2.2.2.2.2.1 o.2.2.2.2.2.2.2.2.2.2.2.2.2.2.1 o.2.2.2.2.2.2.2.2.2.2.2.2.2.2.2.1 o.2.2.2.2.2.2.2.2.2.2.2.2.2.2.2.2.1) ++ ((wP cI cF 8 aPast p_newest o.2.2.2.2.2.2.2.2.2.2.2.2.2.2.2.2.2.1 p_v) ++ (wP cI cF 2 aKept k_newest o.2.2.2.2.2.2.2.2.2.2.2.2.2.2.2.2.2.2.1 k_v)))))))) :=
  hk_metI (by decide) (Nat.le_of_ble_eq_true rfl) rfl rfl (fun p e s m args below meth c A hC hr => jw_H_lay hC hr N a aText aField aTrial aPast aKept aSeen aLand aDraft t_letters t_length f_lying f_damp f_told f_heights f_burnt f_layerWords f_layerWetness f_layerHeat f_hours s_words s_hours s_size g_speeches g_speechLengths g_weather g_kindsOfCows g_thatches g_weatherLength g_mowers g_cows g_ricks d_speeches d_speechLengths d_weather d_kindsOfCows d_thatches d_weatherLength d_mowers d_cows d_ricks p_newest p_size p_v k_newest k_size k_v h)
set_option maxHeartbeats 8000000 in
set_option maxRecDepth 100000 in
theorem jw_H_isMower {p : Program} {l : Launch} {e : Env} {s : State} {m : MethodId} {args : Array Value} {below : List Frame} {meth : Method} {c : Code} {A : Nat → Prop} {D : va_G} {cI cF : ClassId} (hC : hk_ok p s m args meth c A 2 D cI cF "HayTalk" jb_H_isMower) (hr : meth.sig.returnType = (some .boolean)) (N : Nat) (a : Nat → Nat) (aText : Nat → Nat) (aField : Nat → Nat) (aTrial : Nat → Nat) (aPast : Nat → Nat) (aKept : Nat → Nat) (aSeen : Nat → Nat) (aLand : Nat → Nat) (aDraft : Nat → Nat)  (g_speeches : Nat → Int32) (g_speechLengths : Nat → Int32) (g_weather : Nat → Int32) (g_kindsOfCows : Nat → Int32) (g_thatches : Nat → Int32) (g_weatherLength : Int32) (g_mowers : Int32) (g_cows : Int32) (g_ricks : Int32) (x1 : Int32) {o : Int32} (h : jf_H_isMower N g_mowers x1 = some o) : hk_W p l e jr_H_isMower s m args below meth c A (hk_Zi below args s D A o ((wH a aText aField aTrial aPast aKept aSeen aLand aDraft) ++ (wL cI aLand g_speeches g_speechLengths g_weather g_kindsOfCows g_thatches g_weatherLength g_mowers g_cows g_ricks))) 2 D 0 0 ((wH a aText aField aTrial aPast aKept aSeen aLand aDraft) ++ (wL cI aLand g_speeches g_speechLengths g_weather g_kindsOfCows g_thatches g_weatherLength g_mowers g_cows g_ricks)) 0 [(0, .ref (a 0)), (1, .int x1)] [] := by
  delta jf_H_isMower at h
  refine hk_iload_n hC jd_H_isMower_0 1 rfl ?_
  refine hk_if_lt (tgt := 19) hC jd_H_isMower_1 (by decide) (fun cc1 => ?_) (fun cc1 => ?_)
  · replace h := xi_t h cc1
    refine hk_iconst (v := 0) hC jd_H_isMower_19 (by decide) ?_
    obtain rfl := Option.some.inj h
    exact hk_zret hC hr rfl jd_H_isMower_20 rfl rfl
  · replace h := xi_f h cc1
    refine hk_iload_n hC jd_H_isMower_4 1 rfl ?_
    refine hk_aload_n hC jd_H_isMower_5 0 rfl ?_
    refine hk_get hC jk_H _ (at_l (k := 0) rfl) 6 (by decide) jq_278 rfl jd_H_isMower_6 ?_
    refine hk_getN hC jk_L _ (at_r (k := 0) rfl) 6 (by decide) jq_133 rfl jd_H_isMower_9 ?_
    refine hk_icmp_ge (tgt := 19) hC jd_H_isMower_12 (by decide) (fun cc2 => ?_) (fun cc2 => ?_)
    · replace h := xi_t h cc2
      refine hk_iconst (v := 0) hC jd_H_isMower_19 (by decide) ?_
      obtain rfl := Option.some.inj h
      exact hk_zret hC hr rfl jd_H_isMower_20 rfl rfl
    · replace h := xi_f h cc2
      refine hk_iconst (v := 1) hC jd_H_isMower_15 (by decide) ?_
      refine hk_goto (tgt := 20) hC jd_H_isMower_16 (by decide) ?_
      obtain rfl := Option.some.inj h
      exact hk_zret hC hr rfl jd_H_isMower_20 rfl rfl
theorem jc_H_isMower (l : Launch) (D : va_G) (cI cF : ClassId) (N : Nat) (a : Nat → Nat) (aText : Nat → Nat) (aField : Nat → Nat) (aTrial : Nat → Nat) (aPast : Nat → Nat) (aKept : Nat → Nat) (aSeen : Nat → Nat) (aLand : Nat → Nat) (aDraft : Nat → Nat)  (g_speeches : Nat → Int32) (g_speechLengths : Nat → Int32) (g_weather : Nat → Int32) (g_kindsOfCows : Nat → Int32) (g_thatches : Nat → Int32) (g_weatherLength : Int32) (g_mowers : Int32) (g_cows : Int32) (g_ricks : Int32) (x1 : Int32) {o : Int32} (h : jf_H_isMower N g_mowers x1 = some o) : hk_Mi l jy_H_isMower jb_H_isMower 2 (some .boolean) jr_H_isMower D cI cF ((wH a aText aField aTrial aPast aKept aSeen aLand aDraft) ++ (wL cI aLand g_speeches g_speechLengths g_weather g_kindsOfCows g_thatches g_weatherLength g_mowers g_cows g_ricks)) [.ref (a 0), .int x1] o ((wH a aText aField aTrial aPast aKept aSeen aLand aDraft) ++ (wL cI aLand g_speeches g_speechLengths g_weather g_kindsOfCows g_thatches g_weatherLength g_mowers g_cows g_ricks)) :=
  hk_metI (by decide) (Nat.le_of_ble_eq_true rfl) rfl rfl (fun p e s m args below meth c A hC hr => jw_H_isMower hC hr N a aText aField aTrial aPast aKept aSeen aLand aDraft g_speeches g_speechLengths g_weather g_kindsOfCows g_thatches g_weatherLength g_mowers g_cows g_ricks x1 h)
set_option maxHeartbeats 8000000 in
set_option maxRecDepth 100000 in
theorem jw_H_mower {p : Program} {l : Launch} {e : Env} {s : State} {m : MethodId} {args : Array Value} {below : List Frame} {meth : Method} {c : Code} {A : Nat → Prop} {D : va_G} {cI cF : ClassId} (hC : hk_ok p s m args meth c A 3 D cI cF "HayTalk" jb_H_mower) (hr : meth.sig.returnType = (some .int)) (N : Nat) (a : Nat → Nat) (aText : Nat → Nat) (aField : Nat → Nat) (aTrial : Nat → Nat) (aPast : Nat → Nat) (aKept : Nat → Nat) (aSeen : Nat → Nat) (aLand : Nat → Nat) (aDraft : Nat → Nat)  (f_lying : Nat → Int32) (f_damp : Nat → Int32) (f_told : Nat → Int32) (f_heights : Nat → Int32) (f_burnt : Nat → Int32) (f_layerWords : Nat → Int32) (f_layerWetness : Nat → Int32) (f_layerHeat : Nat → Int32) (f_hours : Int32) (g_speeches : Nat → Int32) (g_speechLengths : Nat → Int32) (g_weather : Nat → Int32) (g_kindsOfCows : Nat → Int32) (g_thatches : Nat → Int32) (g_weatherLength : Int32) (g_mowers : Int32) (g_cows : Int32) (g_ricks : Int32) (x1 : Int32) (x2 : Int32) {o : Int32} (h : jf_H_mower N f_lying f_damp f_hours g_speeches g_speechLengths g_mowers x1 x2 = some o) : hk_W p l e jr_H_mower s m args below meth c A (hk_Zi below args s D A o ((wH a aText aField aTrial aPast aKept aSeen aLand aDraft) ++ ((wF cI aField f_lying f_damp f_told f_heights f_burnt f_layerWords f_layerWetness f_layerHeat f_hours) ++ (wL cI aLand g_speeches g_speechLengths g_weather g_kindsOfCows g_thatches g_weatherLength g_mowers g_cows g_ricks)))) 3 D 0 0 ((wH a aText aField aTrial aPast aKept aSeen aLand aDraft) ++ ((wF cI aField f_lying f_damp f_told f_heights f_burnt f_layerWords f_layerWetness f_layerHeat f_hours) ++ (wL cI aLand g_speeches g_speechLengths g_weather g_kindsOfCows g_thatches g_weatherLength g_mowers g_cows g_ricks))) 0 [(0, .ref (a 0)), (1, .int x1), (2, .int x2)] [] := by
  delta jf_H_mower at h
  refine hk_aload_n hC jd_H_mower_0 0 rfl ?_
  refine hk_iload_n hC jd_H_mower_1 1 rfl ?_
  obtain ⟨q1, h_q1, h⟩ := xb_go h
  refine hk_callVBi hC (jc_H_isMower l D cI cF N a aText aField aTrial aPast aKept aSeen aLand aDraft g_speeches g_speechLengths g_weather g_kindsOfCows g_thatches g_weatherLength g_mowers g_cows g_ricks x1 h_q1) jl_H_isMower rfl (List.mem_of_getElem? (at_l (k := 0) rfl)) jq_336 jq_338 jq0_5 rfl ⟨by decide, by decide⟩ (pm_3_0_2 _ _ _) (pm_3_0_2 _ _ _) rfl (ws2 := ((wH a aText aField aTrial aPast aKept aSeen aLand aDraft) ++ ((wF cI aField f_lying f_damp f_told f_heights f_burnt f_layerWords f_layerWetness f_layerHeat f_hours) ++ (wL cI aLand g_speeches g_speechLengths g_weather g_kindsOfCows g_thatches g_weatherLength g_mowers g_cows g_ricks)))) rfl (Nat.le_of_ble_eq_true rfl) ⟨Nat.zero_le _, Nat.zero_le _⟩ jd_H_mower_2 ?_
  refine hk_if_ne (tgt := 10) hC jd_H_mower_5 (by decide) (fun cc1 => ?_) (fun cc1 => ?_)
  · replace h := xi_f h cc1
    refine hk_iload_n hC jd_H_mower_10 2 rfl ?_
    by_cases cc2 : x2 = (0 : Int32)
    · replace h := xi_t h cc2
      refine hk_tabIn (tgt := 36) (off := 25) hC jd_H_mower_11 (by rw [cc2]; decide) (by rw [cc2]; decide) (by rw [cc2]; rfl) (by decide) ?_
      refine hk_aload_n hC jd_H_mower_36 0 rfl ?_
      refine hk_get hC jk_H _ (at_l (k := 0) rfl) 6 (by decide) jq_278 rfl jd_H_mower_37 ?_
      refine hk_iload_n hC jd_H_mower_40 1 rfl ?_
      refine hk_aload_n hC jd_H_mower_41 0 rfl ?_
      refine hk_get hC jk_H _ (at_l (k := 0) rfl) 1 (by decide) jq_273 rfl jd_H_mower_42 ?_
      refine hk_getN hC jk_F _ (at_r (at_l (k := 0) rfl)) 8 (by decide) jq_60 rfl jd_H_mower_45 ?_
      obtain ⟨q2, h_q2, h⟩ := xb_go h
      refine hk_callVBi hC (jc_L_wordOf l D cI cF N aLand g_speeches g_speechLengths g_weather g_kindsOfCows g_thatches g_weatherLength g_mowers g_cows g_ricks x1 f_hours h_q2) jl_L_wordOf rfl (List.mem_of_getElem? (at_r (at_r (k := 0) rfl))) jq_340 jq_341 jq_342 rfl ⟨by decide, by decide⟩ (pm_3_2 _ _ _) (pm_3_2 _ _ _) rfl (ws2 := ((wH a aText aField aTrial aPast aKept aSeen aLand aDraft) ++ ((wF cI aField f_lying f_damp f_told f_heights f_burnt f_layerWords f_layerWetness f_layerHeat f_hours) ++ (wL cI aLand g_speeches g_speechLengths g_weather g_kindsOfCows g_thatches g_weatherLength g_mowers g_cows g_ricks)))) rfl (Nat.le_of_ble_eq_true rfl) ⟨Nat.zero_le _, Nat.zero_le _⟩ jd_H_mower_48 ?_
      obtain rfl := Option.some.inj h
      exact hk_iret hC hr jd_H_mower_51 rfl rfl
    · replace h := xi_f h cc2
      by_cases cc3 : x2 = (1 : Int32)
      · replace h := xi_t h cc3
        refine hk_tabIn (tgt := 52) (off := 41) hC jd_H_mower_11 (by rw [cc3]; decide) (by rw [cc3]; decide) (by rw [cc3]; rfl) (by decide) ?_
        refine hk_aload_n hC jd_H_mower_52 0 rfl ?_
        refine hk_get hC jk_H _ (at_l (k := 0) rfl) 1 (by decide) jq_273 rfl jd_H_mower_53 ?_
        refine hk_getN hC jk_F _ (at_r (at_l (k := 0) rfl)) 0 (by decide) jq_47 rfl jd_H_mower_56 ?_
        refine hk_iload_n hC jd_H_mower_59 1 rfl ?_
        obtain ⟨q3, h_q3, h⟩ := xb_go h
        refine hk_callSi hC (jc_R_at l D cI cF N (fun _ => (aField 1)) 5 f_lying x1 h_q3) jl_R_at jq_350 jq_345 rfl ⟨by decide, by decide⟩ [_] (congrArg (fun z => [z]) (at_r (at_l (k := 1) rfl))) rfl rfl (ws2 := ((wH a aText aField aTrial aPast aKept aSeen aLand aDraft) ++ ((wF cI aField f_lying f_damp f_told f_heights f_burnt f_layerWords f_layerWetness f_layerHeat f_hours) ++ (wL cI aLand g_speeches g_speechLengths g_weather g_kindsOfCows g_thatches g_weatherLength g_mowers g_cows g_ricks)))) (set_r (set_l (Nat.le_of_ble_eq_true rfl) rfl)) rfl (Nat.le_of_ble_eq_true rfl) ⟨Nat.zero_le _, Nat.zero_le _⟩ jd_H_mower_60 ?_
        obtain rfl := Option.some.inj h
        exact hk_iret hC hr jd_H_mower_63 rfl rfl
      · replace h := xi_f h cc3
        by_cases cc4 : x2 = (2 : Int32)
        · replace h := xi_t h cc4
          refine hk_tabIn (tgt := 64) (off := 53) hC jd_H_mower_11 (by rw [cc4]; decide) (by rw [cc4]; decide) (by rw [cc4]; rfl) (by decide) ?_
          refine hk_aload_n hC jd_H_mower_64 0 rfl ?_
          refine hk_get hC jk_H _ (at_l (k := 0) rfl) 1 (by decide) jq_273 rfl jd_H_mower_65 ?_
          refine hk_getN hC jk_F _ (at_r (at_l (k := 0) rfl)) 1 (by decide) jq_49 rfl jd_H_mower_68 ?_
          refine hk_iload_n hC jd_H_mower_71 1 rfl ?_
          obtain ⟨q4, h_q4, h⟩ := xb_go h
          refine hk_callSi hC (jc_R_at l D cI cF N (fun _ => (aField 2)) 5 f_damp x1 h_q4) jl_R_at jq_350 jq_345 rfl ⟨by decide, by decide⟩ [_] (congrArg (fun z => [z]) (at_r (at_l (k := 2) rfl))) rfl rfl (ws2 := ((wH a aText aField aTrial aPast aKept aSeen aLand aDraft) ++ ((wF cI aField f_lying f_damp f_told f_heights f_burnt f_layerWords f_layerWetness f_layerHeat f_hours) ++ (wL cI aLand g_speeches g_speechLengths g_weather g_kindsOfCows g_thatches g_weatherLength g_mowers g_cows g_ricks)))) (set_r (set_l (Nat.le_of_ble_eq_true rfl) rfl)) rfl (Nat.le_of_ble_eq_true rfl) ⟨Nat.zero_le _, Nat.zero_le _⟩ jd_H_mower_72 ?_
          obtain rfl := Option.some.inj h
          exact hk_iret hC hr jd_H_mower_75 rfl rfl
        · replace h := xi_f h cc4
          refine hk_tabOut (tgt := 76) hC jd_H_mower_11 (hk_tabX 3 (by decide) rfl (lt_s (lt_s (lt_s lt_0 cc2) cc3) cc4)) (by decide) ?_
          refine hk_iconst (v := -1) hC jd_H_mower_76 (by decide) ?_
          obtain rfl := Option.some.inj h
          exact hk_iret hC hr jd_H_mower_77 rfl rfl
  · replace h := xi_t h cc1
    refine hk_iconst (v := -1) hC jd_H_mower_8 (by decide) ?_
    obtain rfl := Option.some.inj h
    exact hk_iret hC hr jd_H_mower_9 rfl rfl
theorem jc_H_mower (l : Launch) (D : va_G) (cI cF : ClassId) (N : Nat) (a : Nat → Nat) (aText : Nat → Nat) (aField : Nat → Nat) (aTrial : Nat → Nat) (aPast : Nat → Nat) (aKept : Nat → Nat) (aSeen : Nat → Nat) (aLand : Nat → Nat) (aDraft : Nat → Nat)  (f_lying : Nat → Int32) (f_damp : Nat → Int32) (f_told : Nat → Int32) (f_heights : Nat → Int32) (f_burnt : Nat → Int32) (f_layerWords : Nat → Int32) (f_layerWetness : Nat → Int32) (f_layerHeat : Nat → Int32) (f_hours : Int32) (g_speeches : Nat → Int32) (g_speechLengths : Nat → Int32) (g_weather : Nat → Int32) (g_kindsOfCows : Nat → Int32) (g_thatches : Nat → Int32) (g_weatherLength : Int32) (g_mowers : Int32) (g_cows : Int32) (g_ricks : Int32) (x1 : Int32) (x2 : Int32) {o : Int32} (h : jf_H_mower N f_lying f_damp f_hours g_speeches g_speechLengths g_mowers x1 x2 = some o) : hk_Mi l jy_H_mower jb_H_mower 3 (some .int) jr_H_mower D cI cF ((wH a aText aField aTrial aPast aKept aSeen aLand aDraft) ++ ((wF cI aField f_lying f_damp f_told f_heights f_burnt f_layerWords f_layerWetness f_layerHeat f_hours) ++ (wL cI aLand g_speeches g_speechLengths g_weather g_kindsOfCows g_thatches g_weatherLength g_mowers g_cows g_ricks))) [.ref (a 0), .int x1, .int x2] o ((wH a aText aField aTrial aPast aKept aSeen aLand aDraft) ++ ((wF cI aField f_lying f_damp f_told f_heights f_burnt f_layerWords f_layerWetness f_layerHeat f_hours) ++ (wL cI aLand g_speeches g_speechLengths g_weather g_kindsOfCows g_thatches g_weatherLength g_mowers g_cows g_ricks))) :=
  hk_metI (by decide) (Nat.le_of_ble_eq_true rfl) rfl rfl (fun p e s m args below meth c A hC hr => jw_H_mower hC hr N a aText aField aTrial aPast aKept aSeen aLand aDraft f_lying f_damp f_told f_heights f_burnt f_layerWords f_layerWetness f_layerHeat f_hours g_speeches g_speechLengths g_weather g_kindsOfCows g_thatches g_weatherLength g_mowers g_cows g_ricks x1 x2 h)
set_option maxHeartbeats 8000000 in
set_option maxRecDepth 100000 in
theorem jw_H_isCow {p : Program} {l : Launch} {e : Env} {s : State} {m : MethodId} {args : Array Value} {below : List Frame} {meth : Method} {c : Code} {A : Nat → Prop} {D : va_G} {cI cF : ClassId} (hC : hk_ok p s m args meth c A 2 D cI cF "HayTalk" jb_H_isCow) (hr : meth.sig.returnType = (some .boolean)) (N : Nat) (a : Nat → Nat) (aText : Nat → Nat) (aField : Nat → Nat) (aTrial : Nat → Nat) (aPast : Nat → Nat) (aKept : Nat → Nat) (aSeen : Nat → Nat) (aLand : Nat → Nat) (aDraft : Nat → Nat)  (g_speeches : Nat → Int32) (g_speechLengths : Nat → Int32) (g_weather : Nat → Int32) (g_kindsOfCows : Nat → Int32) (g_thatches : Nat → Int32) (g_weatherLength : Int32) (g_mowers : Int32) (g_cows : Int32) (g_ricks : Int32) (x1 : Int32) {o : Int32} (h : jf_H_isCow N g_cows x1 = some o) : hk_W p l e jr_H_isCow s m args below meth c A (hk_Zi below args s D A o ((wH a aText aField aTrial aPast aKept aSeen aLand aDraft) ++ (wL cI aLand g_speeches g_speechLengths g_weather g_kindsOfCows g_thatches g_weatherLength g_mowers g_cows g_ricks))) 2 D 0 0 ((wH a aText aField aTrial aPast aKept aSeen aLand aDraft) ++ (wL cI aLand g_speeches g_speechLengths g_weather g_kindsOfCows g_thatches g_weatherLength g_mowers g_cows g_ricks)) 0 [(0, .ref (a 0)), (1, .int x1)] [] := by
  delta jf_H_isCow at h
  refine hk_iload_n hC jd_H_isCow_0 1 rfl ?_
  refine hk_if_lt (tgt := 19) hC jd_H_isCow_1 (by decide) (fun cc1 => ?_) (fun cc1 => ?_)
  · replace h := xi_t h cc1
    refine hk_iconst (v := 0) hC jd_H_isCow_19 (by decide) ?_
    obtain rfl := Option.some.inj h
    exact hk_zret hC hr rfl jd_H_isCow_20 rfl rfl
  · replace h := xi_f h cc1
    refine hk_iload_n hC jd_H_isCow_4 1 rfl ?_
    refine hk_aload_n hC jd_H_isCow_5 0 rfl ?_
    refine hk_get hC jk_H _ (at_l (k := 0) rfl) 6 (by decide) jq_278 rfl jd_H_isCow_6 ?_
    refine hk_getN hC jk_L _ (at_r (k := 0) rfl) 7 (by decide) jq_136 rfl jd_H_isCow_9 ?_
    refine hk_icmp_ge (tgt := 19) hC jd_H_isCow_12 (by decide) (fun cc2 => ?_) (fun cc2 => ?_)
    · replace h := xi_t h cc2
      refine hk_iconst (v := 0) hC jd_H_isCow_19 (by decide) ?_
      obtain rfl := Option.some.inj h
      exact hk_zret hC hr rfl jd_H_isCow_20 rfl rfl
    · replace h := xi_f h cc2
      refine hk_iconst (v := 1) hC jd_H_isCow_15 (by decide) ?_
      refine hk_goto (tgt := 20) hC jd_H_isCow_16 (by decide) ?_
      obtain rfl := Option.some.inj h
      exact hk_zret hC hr rfl jd_H_isCow_20 rfl rfl
theorem jc_H_isCow (l : Launch) (D : va_G) (cI cF : ClassId) (N : Nat) (a : Nat → Nat) (aText : Nat → Nat) (aField : Nat → Nat) (aTrial : Nat → Nat) (aPast : Nat → Nat) (aKept : Nat → Nat) (aSeen : Nat → Nat) (aLand : Nat → Nat) (aDraft : Nat → Nat)  (g_speeches : Nat → Int32) (g_speechLengths : Nat → Int32) (g_weather : Nat → Int32) (g_kindsOfCows : Nat → Int32) (g_thatches : Nat → Int32) (g_weatherLength : Int32) (g_mowers : Int32) (g_cows : Int32) (g_ricks : Int32) (x1 : Int32) {o : Int32} (h : jf_H_isCow N g_cows x1 = some o) : hk_Mi l jy_H_isCow jb_H_isCow 2 (some .boolean) jr_H_isCow D cI cF ((wH a aText aField aTrial aPast aKept aSeen aLand aDraft) ++ (wL cI aLand g_speeches g_speechLengths g_weather g_kindsOfCows g_thatches g_weatherLength g_mowers g_cows g_ricks)) [.ref (a 0), .int x1] o ((wH a aText aField aTrial aPast aKept aSeen aLand aDraft) ++ (wL cI aLand g_speeches g_speechLengths g_weather g_kindsOfCows g_thatches g_weatherLength g_mowers g_cows g_ricks)) :=
  hk_metI (by decide) (Nat.le_of_ble_eq_true rfl) rfl rfl (fun p e s m args below meth c A hC hr => jw_H_isCow hC hr N a aText aField aTrial aPast aKept aSeen aLand aDraft g_speeches g_speechLengths g_weather g_kindsOfCows g_thatches g_weatherLength g_mowers g_cows g_ricks x1 h)
