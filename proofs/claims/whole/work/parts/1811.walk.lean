set_option maxHeartbeats 8000000 in
set_option maxRecDepth 100000 in
theorem jw_H_back {p : Program} {l : Launch} {e : Env} {s : State} {m : MethodId} {args : Array Value} {below : List Frame} {meth : Method} {c : Code} {A : Nat → Prop} {D : va_G} {cI cF : ClassId} (hC : hk_ok p s m args meth c A 1 D cI cF "HayTalk" jb_H_back) (hr : meth.sig.returnType = (some .int)) (N : Nat) (a : Nat → Nat) (aText : Nat → Nat) (aField : Nat → Nat) (aTrial : Nat → Nat) (aPast : Nat → Nat) (aKept : Nat → Nat) (aSeen : Nat → Nat) (aLand : Nat → Nat) (aDraft : Nat → Nat)  (f_lying : Nat → Int32) (f_damp : Nat → Int32) (f_told : Nat → Int32) (f_heights : Nat → Int32) (f_burnt : Nat → Int32) (f_layerWords : Nat → Int32) (f_layerWetness : Nat → Int32) (f_layerHeat : Nat → Int32) (f_hours : Int32) (p_newest : Int32) (p_size : Int32) (p_v : Nat → jFV) (k_newest : Int32) (k_size : Int32) (k_v : Nat → jFV)  {o : Int32 × (Nat → Int32) × (Nat → Int32) × (Nat → Int32) × (Nat → Int32) × (Nat → Int32) × (Nat → Int32) × (Nat → Int32) × (Nat → Int32) × Int32 × Int32 × Int32 × Int32} (h : jf_H_back N f_lying f_damp f_told f_heights f_burnt f_layerWords f_layerWetness f_layerHeat f_hours p_size k_newest k_size k_v = some o) : hk_W p l e jr_H_back s m args below meth c A (hk_Zi below args s D A o.1 ((wH a aText aField aTrial aPast aKept aSeen aLand aDraft) ++ ((wF cI aField o.2.1 o.2.2.1 o.2.2.2.1 o.2.2.2.2.1 o.2.2.2.2.2.1 o.2.2.2.2.2.2.1 o.2.2.2.2.2.2.2.1 o.2.2.2.2.2.2.2.2.1 o.2.2.2.2.2.2.2.2.2.1) ++ ((wP cI cF 8 aPast p_newest o.2.2.2.2.2.2.2.2.2.2.1 p_v) ++ (wP cI cF 2 aKept o.2.2.2.2.2.2.2.2.2.2.2.1 o.2.2.2.2.2.2.2.2.2.2.2.2 k_v))))) 1 D 0 0 ((wH a aText aField aTrial aPast aKept aSeen aLand aDraft) ++ ((wF cI aField f_lying f_damp f_told f_heights f_burnt f_layerWords f_layerWetness f_layerHeat f_hours) ++ ((wP cI cF 8 aPast p_newest p_size p_v) ++ (wP cI cF 2 aKept k_newest k_size k_v)))) 0 [(0, .ref (a 0))] [] := by
  delta jf_H_back at h
  refine hk_aload_n hC jd_H_back_0 0 rfl ?_
  refine hk_get hC jk_H _ (at_l (k := 0) rfl) 4 (by decide) jq_276 rfl jd_H_back_1 ?_
  refine hk_getN hC jk_P _ (at_r (at_r (at_r (k := 0) rfl))) 2 (by decide) jq_95 rfl jd_H_back_4 ?_
  refine hk_if_ne (tgt := 13) hC jd_H_back_7 (by decide) (fun cc1 => ?_) (fun cc1 => ?_)
  · replace h := xi_f h cc1
    refine hk_aload_n hC jd_H_back_13 0 rfl ?_
    refine hk_get hC jk_H _ (at_l (k := 0) rfl) 4 (by decide) jq_276 rfl jd_H_back_14 ?_
    refine hk_aload_n hC jd_H_back_17 0 rfl ?_
    refine hk_get hC jk_H _ (at_l (k := 0) rfl) 1 (by decide) jq_273 rfl jd_H_back_18 ?_
    obtain ⟨q1, h_q1, h⟩ := xb_go h
    refine hk_callVBv hC (jc_P_popInto l D cI cF N aKept aField 2 k_newest k_size k_v f_lying f_damp f_told f_heights f_burnt f_layerWords f_layerWetness f_layerHeat f_hours h_q1) jl_P_popInto rfl (List.mem_of_getElem? (at_r (at_r (at_r (k := 0) rfl)))) jq_504 jq_505 jq_506 rfl ⟨by decide, by decide⟩ (pm_4_3_1 _ _ _ _) (pm_4_3_1 _ _ _ _) (fst_app (fst_P _ _ _ _) rfl) (ws2 := ((wH a aText aField aTrial aPast aKept aSeen aLand aDraft) ++ ((wF cI aField q1.2.2.1 q1.2.2.2.1 q1.2.2.2.2.1 q1.2.2.2.2.2.1 q1.2.2.2.2.2.2.1 q1.2.2.2.2.2.2.2.1 q1.2.2.2.2.2.2.2.2.1 q1.2.2.2.2.2.2.2.2.2.1 q1.2.2.2.2.2.2.2.2.2.2) ++ ((wP cI cF 8 aPast p_newest p_size p_v) ++ (wP cI cF 2 aKept q1.1 q1.2.1 k_v))))) rfl (Nat.le_of_ble_eq_true rfl) ⟨Nat.zero_le _, Nat.zero_le _⟩ jd_H_back_21 ?_
    refine hk_aload_n hC jd_H_back_24 0 rfl ?_
    refine hk_get hC jk_H _ (at_l (k := 0) rfl) 3 (by decide) jq_275 rfl jd_H_back_25 ?_
    obtain ⟨q2, h_q2, h⟩ := xb_go h
    refine hk_callVBv hC (jc_P_clear l D cI cF N aPast 8 p_newest p_size p_v h_q2) jl_P_clear rfl (List.mem_of_getElem? (at_r (at_r (at_l (k := 0) rfl)))) jq_328 jq_329 jq_330 rfl ⟨by decide, by decide⟩ (pm_4_2 _ _ _ _) (pm_4_2 _ _ _ _) (fst_P _ _ _ _) (ws2 := ((wH a aText aField aTrial aPast aKept aSeen aLand aDraft) ++ ((wF cI aField q1.2.2.1 q1.2.2.2.1 q1.2.2.2.2.1 q1.2.2.2.2.2.1 q1.2.2.2.2.2.2.1 q1.2.2.2.2.2.2.2.1 q1.2.2.2.2.2.2.2.2.1 q1.2.2.2.2.2.2.2.2.2.1 q1.2.2.2.2.2.2.2.2.2.2) ++ ((wP cI cF 8 aPast p_newest q2 p_v) ++ (wP cI cF 2 aKept q1.1 q1.2.1 k_v))))) rfl (Nat.le_of_ble_eq_true rfl) ⟨Nat.zero_le _, Nat.zero_le _⟩ jd_H_back_28 ?_
    refine hk_aload_n hC jd_H_back_31 0 rfl ?_
    refine hk_get hC jk_H _ (at_l (k := 0) rfl) 4 (by decide) jq_276 rfl jd_H_back_32 ?_
    refine hk_getN hC jk_P _ (at_r (at_r (at_r (k := 0) rfl))) 2 (by decide) jq_95 rfl jd_H_back_35 ?_
    obtain rfl := Option.some.inj h
    exact hk_iret hC hr jd_H_back_38 rfl rfl
  · replace h := xi_t h cc1
    refine hk_bipush (v := -2) hC jd_H_back_10 (by decide) ?_
    obtain rfl := Option.some.inj h
    exact hk_iret hC hr jd_H_back_12 rfl rfl
theorem jc_H_back (l : Launch) (D : va_G) (cI cF : ClassId) (N : Nat) (a : Nat → Nat) (aText : Nat → Nat) (aField : Nat → Nat) (aTrial : Nat → Nat) (aPast : Nat → Nat) (aKept : Nat → Nat) (aSeen : Nat → Nat) (aLand : Nat → Nat) (aDraft : Nat → Nat)  (f_lying : Nat → Int32) (f_damp : Nat → Int32) (f_told : Nat → Int32) (f_heights : Nat → Int32) (f_burnt : Nat → Int32) (f_layerWords : Nat → Int32) (f_layerWetness : Nat → Int32) (f_layerHeat : Nat → Int32) (f_hours : Int32) (p_newest : Int32) (p_size : Int32) (p_v : Nat → jFV) (k_newest : Int32) (k_size : Int32) (k_v : Nat → jFV)  {o : Int32 × (Nat → Int32) × (Nat → Int32) × (Nat → Int32) × (Nat → Int32) × (Nat → Int32) × (Nat → Int32) × (Nat → Int32) × (Nat → Int32) × Int32 × Int32 × Int32 × Int32} (h : jf_H_back N f_lying f_damp f_told f_heights f_burnt f_layerWords f_layerWetness f_layerHeat f_hours p_size k_newest k_size k_v = some o) : hk_Mi l jy_H_back jb_H_back 1 (some .int) jr_H_back D cI cF ((wH a aText aField aTrial aPast aKept aSeen aLand aDraft) ++ ((wF cI aField f_lying f_damp f_told f_heights f_burnt f_layerWords f_layerWetness f_layerHeat f_hours) ++ ((wP cI cF 8 aPast p_newest p_size p_v) ++ (wP cI cF 2 aKept k_newest k_size k_v)))) [.ref (a 0)] o.1 ((wH a aText aField aTrial aPast aKept aSeen aLand aDraft) ++ ((wF cI aField o.2.1 o.2.2.1 o.2.2.2.1 o.2.2.2.2.1 o.2.2.2.2.2.1 o.2.2.2.2.2.2.1 o.2.2.2.2.2.2.2.1 o.2.2.2.2.2.2.2.2.1 o.2.2.2.2.2.2.2.2.2.1) ++ ((wP cI cF 8 aPast p_newest o.2.2.2.2.2.2.2.2.2.2.1 p_v) ++ (wP cI cF 2 aKept o.2.2.2.2.2.2.2.2.2.2.2.1 o.2.2.2.2.2.2.2.2.2.2.2.2 k_v)))) :=
  hk_metI (by decide) (Nat.le_of_ble_eq_true rfl) rfl rfl (fun p e s m args below meth c A hC hr => jw_H_back hC hr N a aText aField aTrial aPast aKept aSeen aLand aDraft f_lying f_damp f_told f_heights f_burnt f_layerWords f_layerWetness f_layerHeat f_hours p_newest p_size p_v k_newest k_size k_v h)
set_option maxHeartbeats 8000000 in
set_option maxRecDepth 100000 in
theorem jw_H_count {p : Program} {l : Launch} {e : Env} {s : State} {m : MethodId} {args : Array Value} {below : List Frame} {meth : Method} {c : Code} {A : Nat → Prop} {D : va_G} {cI cF : ClassId} (hC : hk_ok p s m args meth c A 2 D cI cF "HayTalk" jb_H_count) (hr : meth.sig.returnType = (some .int)) (N : Nat) (a : Nat → Nat) (aText : Nat → Nat) (aField : Nat → Nat) (aTrial : Nat → Nat) (aPast : Nat → Nat) (aKept : Nat → Nat) (aSeen : Nat → Nat) (aLand : Nat → Nat) (aDraft : Nat → Nat)  (t_letters : Nat → Int32) (t_length : Int32) (f_lying : Nat → Int32) (f_damp : Nat → Int32) (f_told : Nat → Int32) (f_heights : Nat → Int32) (f_burnt : Nat → Int32) (f_layerWords : Nat → Int32) (f_layerWetness : Nat → Int32) (f_layerHeat : Nat → Int32) (f_hours : Int32) (s_words : Nat → Int32) (s_hours : Nat → Int32) (s_size : Int32) (g_speeches : Nat → Int32) (g_speechLengths : Nat → Int32) (g_weather : Nat → Int32) (g_kindsOfCows : Nat → Int32) (g_thatches : Nat → Int32) (g_weatherLength : Int32) (g_mowers : Int32) (g_cows : Int32) (g_ricks : Int32) (p_newest : Int32) (p_size : Int32) (p_v : Nat → jFV) (k_newest : Int32) (k_size : Int32) (k_v : Nat → jFV) (x1 : Int32) {o : Int32} (h : jf_H_count N t_length f_told f_heights f_burnt f_hours s_size g_mowers g_cows g_ricks p_size k_size x1 = some o) : hk_W p l e jr_H_count s m args below meth c A (hk_Zi below args s D A o ((wH a aText aField aTrial aPast aKept aSeen aLand aDraft) ++ ((wT cI aText t_letters t_length) ++ ((wF cI aField f_lying f_damp f_told f_heights f_burnt f_layerWords f_layerWetness f_layerHeat f_hours) ++ ((wS cI aSeen s_words s_hours s_size) ++ ((wL cI aLand g_speeches g_speechLengths g_weather g_kindsOfCows g_thatches g_weatherLength g_mowers g_cows g_ricks) ++ ((wP cI cF 8 aPast p_newest p_size p_v) ++ (wP cI cF 2 aKept k_newest k_size k_v)))))))) 2 D 0 0 ((wH a aText aField aTrial aPast aKept aSeen aLand aDraft) ++ ((wT cI aText t_letters t_length) ++ ((wF cI aField f_lying f_damp f_told f_heights f_burnt f_layerWords f_layerWetness f_layerHeat f_hours) ++ ((wS cI aSeen s_words s_hours s_size) ++ ((wL cI aLand g_speeches g_speechLengths g_weather g_kindsOfCows g_thatches g_weatherLength g_mowers g_cows g_ricks) ++ ((wP cI cF 8 aPast p_newest p_size p_v) ++ (wP cI cF 2 aKept k_newest k_size k_v))))))) 0 [(0, .ref (a 0)), (1, .int x1)] [] := by
  delta jf_H_count at h
  refine hk_iload_n hC jd_H_count_0 1 rfl ?_
  by_cases cc1 : x1 = (0 : Int32)
  · replace h := xi_t h cc1
    refine hk_tabIn (tgt := 60) (off := 59) hC jd_H_count_1 (by rw [cc1]; decide) (by rw [cc1]; decide) (by rw [cc1]; rfl) (by decide) ?_
    refine hk_aload_n hC jd_H_count_60 0 rfl ?_
    refine hk_get hC jk_H _ (at_l (k := 0) rfl) 6 (by decide) jq_278 rfl jd_H_count_61 ?_
    refine hk_getN hC jk_L _ (at_r (at_r (at_r (at_r (at_l (k := 0) rfl))))) 6 (by decide) jq_133 rfl jd_H_count_64 ?_
    obtain rfl := Option.some.inj h
    exact hk_iret hC hr jd_H_count_67 rfl rfl
  · replace h := xi_f h cc1
    by_cases cc2 : x1 = (1 : Int32)
    · replace h := xi_t h cc2
      refine hk_tabIn (tgt := 68) (off := 67) hC jd_H_count_1 (by rw [cc2]; decide) (by rw [cc2]; decide) (by rw [cc2]; rfl) (by decide) ?_
      refine hk_aload_n hC jd_H_count_68 0 rfl ?_
      refine hk_get hC jk_H _ (at_l (k := 0) rfl) 6 (by decide) jq_278 rfl jd_H_count_69 ?_
      refine hk_getN hC jk_L _ (at_r (at_r (at_r (at_r (at_l (k := 0) rfl))))) 7 (by decide) jq_136 rfl jd_H_count_72 ?_
      obtain rfl := Option.some.inj h
      exact hk_iret hC hr jd_H_count_75 rfl rfl
    · replace h := xi_f h cc2
      by_cases cc3 : x1 = (2 : Int32)
      · replace h := xi_t h cc3
        refine hk_tabIn (tgt := 76) (off := 75) hC jd_H_count_1 (by rw [cc3]; decide) (by rw [cc3]; decide) (by rw [cc3]; rfl) (by decide) ?_
        refine hk_aload_n hC jd_H_count_76 0 rfl ?_
        refine hk_get hC jk_H _ (at_l (k := 0) rfl) 6 (by decide) jq_278 rfl jd_H_count_77 ?_
        refine hk_getN hC jk_L _ (at_r (at_r (at_r (at_r (at_l (k := 0) rfl))))) 8 (by decide) jq_139 rfl jd_H_count_80 ?_
        obtain rfl := Option.some.inj h
        exact hk_iret hC hr jd_H_count_83 rfl rfl
      · replace h := xi_f h cc3
        by_cases cc4 : x1 = (3 : Int32)
        · replace h := xi_t h cc4
          refine hk_tabIn (tgt := 84) (off := 83) hC jd_H_count_1 (by rw [cc4]; decide) (by rw [cc4]; decide) (by rw [cc4]; rfl) (by decide) ?_
          refine hk_aload_n hC jd_H_count_84 0 rfl ?_
          refine hk_get hC jk_H _ (at_l (k := 0) rfl) 1 (by decide) jq_273 rfl jd_H_count_85 ?_
          refine hk_getN hC jk_F _ (at_r (at_r (at_l (k := 0) rfl))) 8 (by decide) jq_60 rfl jd_H_count_88 ?_
          obtain rfl := Option.some.inj h
          exact hk_iret hC hr jd_H_count_91 rfl rfl
        · replace h := xi_f h cc4
          by_cases cc5 : x1 = (4 : Int32)
          · replace h := xi_t h cc5
            refine hk_tabIn (tgt := 92) (off := 91) hC jd_H_count_1 (by rw [cc5]; decide) (by rw [cc5]; decide) (by rw [cc5]; rfl) (by decide) ?_
            refine hk_aload_n hC jd_H_count_92 0 rfl ?_
            refine hk_get hC jk_H _ (at_l (k := 0) rfl) 1 (by decide) jq_273 rfl jd_H_count_93 ?_
            refine hk_getN hC jk_F _ (at_r (at_r (at_l (k := 0) rfl))) 3 (by decide) jq_53 rfl jd_H_count_96 ?_
            obtain ⟨q1, h_q1, h⟩ := xb_go h
            refine hk_callSi hC (jc_R_sum l D cI cF N (fun _ => (aField 4)) 3 f_heights h_q1) jl_R_sum jq_627 jq_628 rfl ⟨by decide, by decide⟩ [_] (congrArg (fun z => [z]) (at_r (at_r (at_l (k := 4) rfl)))) rfl rfl (ws2 := ((wH a aText aField aTrial aPast aKept aSeen aLand aDraft) ++ ((wT cI aText t_letters t_length) ++ ((wF cI aField f_lying f_damp f_told f_heights f_burnt f_layerWords f_layerWetness f_layerHeat f_hours) ++ ((wS cI aSeen s_words s_hours s_size) ++ ((wL cI aLand g_speeches g_speechLengths g_weather g_kindsOfCows g_thatches g_weatherLength g_mowers g_cows g_ricks) ++ ((wP cI cF 8 aPast p_newest p_size p_v) ++ (wP cI cF 2 aKept k_newest k_size k_v)))))))) (set_r (set_r (set_l (Nat.le_of_ble_eq_true rfl) rfl))) rfl (Nat.le_of_ble_eq_true rfl) ⟨Nat.zero_le _, Nat.zero_le _⟩ jd_H_count_99 ?_
            obtain rfl := Option.some.inj h
            exact hk_iret hC hr jd_H_count_102 rfl rfl
          · replace h := xi_f h cc5
            by_cases cc6 : x1 = (5 : Int32)
            · replace h := xi_t h cc6
              refine hk_tabIn (tgt := 103) (off := 102) hC jd_H_count_1 (by rw [cc6]; decide) (by rw [cc6]; decide) (by rw [cc6]; rfl) (by decide) ?_
              refine hk_aload_n hC jd_H_count_103 0 rfl ?_
              refine hk_get hC jk_H _ (at_l (k := 0) rfl) 1 (by decide) jq_273 rfl jd_H_count_104 ?_
              refine hk_getN hC jk_F _ (at_r (at_r (at_l (k := 0) rfl))) 4 (by decide) jq_55 rfl jd_H_count_107 ?_
              obtain ⟨q2, h_q2, h⟩ := xb_go h
              refine hk_callSi hC (jc_R_sum l D cI cF N (fun _ => (aField 5)) 3 f_burnt h_q2) jl_R_sum jq_627 jq_628 rfl ⟨by decide, by decide⟩ [_] (congrArg (fun z => [z]) (at_r (at_r (at_l (k := 5) rfl)))) rfl rfl (ws2 := ((wH a aText aField aTrial aPast aKept aSeen aLand aDraft) ++ ((wT cI aText t_letters t_length) ++ ((wF cI aField f_lying f_damp f_told f_heights f_burnt f_layerWords f_layerWetness f_layerHeat f_hours) ++ ((wS cI aSeen s_words s_hours s_size) ++ ((wL cI aLand g_speeches g_speechLengths g_weather g_kindsOfCows g_thatches g_weatherLength g_mowers g_cows g_ricks) ++ ((wP cI cF 8 aPast p_newest p_size p_v) ++ (wP cI cF 2 aKept k_newest k_size k_v)))))))) (set_r (set_r (set_l (Nat.le_of_ble_eq_true rfl) rfl))) rfl (Nat.le_of_ble_eq_true rfl) ⟨Nat.zero_le _, Nat.zero_le _⟩ jd_H_count_110 ?_
              obtain rfl := Option.some.inj h
              exact hk_iret hC hr jd_H_count_113 rfl rfl
            · replace h := xi_f h cc6
              by_cases cc7 : x1 = (6 : Int32)
              · replace h := xi_t h cc7
                refine hk_tabIn (tgt := 114) (off := 113) hC jd_H_count_1 (by rw [cc7]; decide) (by rw [cc7]; decide) (by rw [cc7]; rfl) (by decide) ?_
                refine hk_aload_n hC jd_H_count_114 0 rfl ?_
                refine hk_get hC jk_H _ (at_l (k := 0) rfl) 1 (by decide) jq_273 rfl jd_H_count_115 ?_
                obtain ⟨q3, h_q3, h⟩ := xb_go h
                refine hk_callVBi hC (jc_F_wordsTold l D cI cF N aField f_lying f_damp f_told f_heights f_burnt f_layerWords f_layerWetness f_layerHeat f_hours h_q3) jl_F_wordsTold rfl (List.mem_of_getElem? (at_r (at_r (at_l (k := 0) rfl)))) jq_622 jq_623 jq_624 rfl ⟨by decide, by decide⟩ (pm_7_2 _ _ _ _ _ _ _) (pm_7_2 _ _ _ _ _ _ _) rfl (ws2 := ((wH a aText aField aTrial aPast aKept aSeen aLand aDraft) ++ ((wT cI aText t_letters t_length) ++ ((wF cI aField f_lying f_damp f_told f_heights f_burnt f_layerWords f_layerWetness f_layerHeat f_hours) ++ ((wS cI aSeen s_words s_hours s_size) ++ ((wL cI aLand g_speeches g_speechLengths g_weather g_kindsOfCows g_thatches g_weatherLength g_mowers g_cows g_ricks) ++ ((wP cI cF 8 aPast p_newest p_size p_v) ++ (wP cI cF 2 aKept k_newest k_size k_v)))))))) rfl (Nat.le_of_ble_eq_true rfl) ⟨Nat.zero_le _, Nat.zero_le _⟩ jd_H_count_118 ?_
                obtain rfl := Option.some.inj h
                exact hk_iret hC hr jd_H_count_121 rfl rfl
              · replace h := xi_f h cc7
                by_cases cc8 : x1 = (7 : Int32)
                · replace h := xi_t h cc8
                  refine hk_tabIn (tgt := 122) (off := 121) hC jd_H_count_1 (by rw [cc8]; decide) (by rw [cc8]; decide) (by rw [cc8]; rfl) (by decide) ?_
                  refine hk_aload_n hC jd_H_count_122 0 rfl ?_
                  refine hk_get hC jk_H _ (at_l (k := 0) rfl) 5 (by decide) jq_277 rfl jd_H_count_123 ?_
                  refine hk_getN hC jk_S _ (at_r (at_r (at_r (at_l (k := 0) rfl)))) 2 (by decide) jq_112 rfl jd_H_count_126 ?_
                  obtain rfl := Option.some.inj h
                  exact hk_iret hC hr jd_H_count_129 rfl rfl
                · replace h := xi_f h cc8
                  by_cases cc9 : x1 = (8 : Int32)
                  · replace h := xi_t h cc9
                    refine hk_tabIn (tgt := 130) (off := 129) hC jd_H_count_1 (by rw [cc9]; decide) (by rw [cc9]; decide) (by rw [cc9]; rfl) (by decide) ?_
                    refine hk_aload_n hC jd_H_count_130 0 rfl ?_
                    refine hk_get hC jk_H _ (at_l (k := 0) rfl) 3 (by decide) jq_275 rfl jd_H_count_131 ?_
                    refine hk_getN hC jk_P _ (at_r (at_r (at_r (at_r (at_r (at_l (k := 0) rfl)))))) 2 (by decide) jq_95 rfl jd_H_count_134 ?_
                    obtain rfl := Option.some.inj h
                    exact hk_iret hC hr jd_H_count_137 rfl rfl
                  · replace h := xi_f h cc9
                    by_cases cc10 : x1 = (9 : Int32)
                    · replace h := xi_t h cc10
                      refine hk_tabIn (tgt := 138) (off := 137) hC jd_H_count_1 (by rw [cc10]; decide) (by rw [cc10]; decide) (by rw [cc10]; rfl) (by decide) ?_
                      refine hk_aload_n hC jd_H_count_138 0 rfl ?_
                      refine hk_get hC jk_H _ (at_l (k := 0) rfl) 4 (by decide) jq_276 rfl jd_H_count_139 ?_
                      refine hk_getN hC jk_P _ (at_r (at_r (at_r (at_r (at_r (at_r (k := 0) rfl)))))) 2 (by decide) jq_95 rfl jd_H_count_142 ?_
                      obtain rfl := Option.some.inj h
                      exact hk_iret hC hr jd_H_count_145 rfl rfl
                    · replace h := xi_f h cc10
                      by_cases cc11 : x1 = (10 : Int32)
                      · replace h := xi_t h cc11
                        refine hk_tabIn (tgt := 146) (off := 145) hC jd_H_count_1 (by rw [cc11]; decide) (by rw [cc11]; decide) (by rw [cc11]; rfl) (by decide) ?_
                        refine hk_aload_n hC jd_H_count_146 0 rfl ?_
                        refine hk_get hC jk_H _ (at_l (k := 0) rfl) 0 (by decide) jq_272 rfl jd_H_count_147 ?_
                        refine hk_getN hC jk_T _ (at_r (at_l (k := 0) rfl)) 1 (by decide) jq_31 rfl jd_H_count_150 ?_
                        obtain rfl := Option.some.inj h
                        exact hk_iret hC hr jd_H_count_153 rfl rfl
                      · replace h := xi_f h cc11
                        refine hk_tabOut (tgt := 154) hC jd_H_count_1 (hk_tabX 11 (by decide) rfl (lt_s (lt_s (lt_s (lt_s (lt_s (lt_s (lt_s (lt_s (lt_s (lt_s (lt_s lt_0 cc1) cc2) cc3) cc4) cc5) cc6) cc7) cc8) cc9) cc10) cc11)) (by decide) ?_
                        refine hk_iconst (v := -1) hC jd_H_count_154 (by decide) ?_
                        obtain rfl := Option.some.inj h
                        exact hk_iret hC hr jd_H_count_155 rfl rfl
theorem jc_H_count (l : Launch) (D : va_G) (cI cF : ClassId) (N : Nat) (a : Nat → Nat) (aText : Nat → Nat) (aField : Nat → Nat) (aTrial : Nat → Nat) (aPast : Nat → Nat) (aKept : Nat → Nat) (aSeen : Nat → Nat) (aLand : Nat → Nat) (aDraft : Nat → Nat)  (t_letters : Nat → Int32) (t_length : Int32) (f_lying : Nat → Int32) (f_damp : Nat → Int32) (f_told : Nat → Int32) (f_heights : Nat → Int32) (f_burnt : Nat → Int32) (f_layerWords : Nat → Int32) (f_layerWetness : Nat → Int32) (f_layerHeat : Nat → Int32) (f_hours : Int32) (s_words : Nat → Int32) (s_hours : Nat → Int32) (s_size : Int32) (g_speeches : Nat → Int32) (g_speechLengths : Nat → Int32) (g_weather : Nat → Int32) (g_kindsOfCows : Nat → Int32) (g_thatches : Nat → Int32) (g_weatherLength : Int32) (g_mowers : Int32) (g_cows : Int32) (g_ricks : Int32) (p_newest : Int32) (p_size : Int32) (p_v : Nat → jFV) (k_newest : Int32) (k_size : Int32) (k_v : Nat → jFV) (x1 : Int32) {o : Int32} (h : jf_H_count N t_length f_told f_heights f_burnt f_hours s_size g_mowers g_cows g_ricks p_size k_size x1 = some o) : hk_Mi l jy_H_count jb_H_count 2 (some .int) jr_H_count D cI cF ((wH a aText aField aTrial aPast aKept aSeen aLand aDraft) ++ ((wT cI aText t_letters t_length) ++ ((wF cI aField f_lying f_damp f_told f_heights f_burnt f_layerWords f_layerWetness f_layerHeat f_hours) ++ ((wS cI aSeen s_words s_hours s_size) ++ ((wL cI aLand g_speeches g_speechLengths g_weather g_kindsOfCows g_thatches g_weatherLength g_mowers g_cows g_ricks) ++ ((wP cI cF 8 aPast p_newest p_size p_v) ++ (wP cI cF 2 aKept k_newest k_size k_v))))))) [.ref (a 0), .int x1] o ((wH a aText aField aTrial aPast aKept aSeen aLand aDraft) ++ ((wT cI aText t_letters t_length) ++ ((wF cI aField f_lying f_damp f_told f_heights f_burnt f_layerWords f_layerWetness f_layerHeat f_hours) ++ ((wS cI aSeen s_words s_hours s_size) ++ ((wL cI aLand g_speeches g_speechLengths g_weather g_kindsOfCows g_thatches g_weatherLength g_mowers g_cows g_ricks) ++ ((wP cI cF 8 aPast p_newest p_size p_v) ++ (wP cI cF 2 aKept k_newest k_size k_v))))))) :=
  hk_metI (by decide) (Nat.le_of_ble_eq_true rfl) rfl rfl (fun p e s m args below meth c A hC hr => jw_H_count hC hr N a aText aField aTrial aPast aKept aSeen aLand aDraft t_letters t_length f_lying f_damp f_told f_heights f_burnt f_layerWords f_layerWetness f_layerHeat f_hours s_words s_hours s_size g_speeches g_speechLengths g_weather g_kindsOfCows g_thatches g_weatherLength g_mowers g_cows g_ricks p_newest p_size p_v k_newest k_size k_v x1 h)
