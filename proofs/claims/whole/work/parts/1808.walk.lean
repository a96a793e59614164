set_option maxHeartbeats 8000000 in
set_option maxRecDepth 100000 in
theorem jw_H_needle {p : Program} {l : Launch} {e : Env} {s : State} {m : MethodId} {args : Array Value} {below : List Frame} {meth : Method} {c : Code} {A : Nat → Prop} {D : va_G} {cI cF : ClassId} (hC : hk_ok p s m args meth c A 6 D cI cF "HayTalk" jb_H_needle) (hr : meth.sig.returnType = (some .int)) (N : Nat) (a : Nat → Nat) (aText : Nat → Nat) (aField : Nat → Nat) (aTrial : Nat → Nat) (aPast : Nat → Nat) (aKept : Nat → Nat) (aSeen : Nat → Nat) (aLand : Nat → Nat) (aDraft : Nat → Nat)  (f_lying : Nat → Int32) (f_damp : Nat → Int32) (f_told : Nat → Int32) (f_heights : Nat → Int32) (f_burnt : Nat → Int32) (f_layerWords : Nat → Int32) (f_layerWetness : Nat → Int32) (f_layerHeat : Nat → Int32) (f_hours : Int32) (g_speeches : Nat → Int32) (g_speechLengths : Nat → Int32) (g_weather : Nat → Int32) (g_kindsOfCows : Nat → Int32) (g_thatches : Nat → Int32) (g_weatherLength : Int32) (g_mowers : Int32) (g_cows : Int32) (g_ricks : Int32) (x1 : Int32) (x2 : Int32) (x3 : Int32) {o : Int32} (h : jf_H_needle N f_heights f_layerWords g_ricks x1 x2 x3 = some o) : hk_W p l e jr_H_needle s m args below meth c A (hk_Zi below args s D A o ((wH a aText aField aTrial aPast aKept aSeen aLand aDraft) ++ ((wF cI aField f_lying f_damp f_told f_heights f_burnt f_layerWords f_layerWetness f_layerHeat f_hours) ++ (wL cI aLand g_speeches g_speechLengths g_weather g_kindsOfCows g_thatches g_weatherLength g_mowers g_cows g_ricks)))) 6 D 0 0 ((wH a aText aField aTrial aPast aKept aSeen aLand aDraft) ++ ((wF cI aField f_lying f_damp f_told f_heights f_burnt f_layerWords f_layerWetness f_layerHeat f_hours) ++ (wL cI aLand g_speeches g_speechLengths g_weather g_kindsOfCows g_thatches g_weatherLength g_mowers g_cows g_ricks))) 0 [(0, .ref (a 0)), (1, .int x1), (2, .int x2), (3, .int x3)] [] := by
  have B_32 : ∀ (f_heights : Nat → Int32) (f_layerWords : Nat → Int32) (g_ricks : Int32) (x1 : Int32) (x2 : Int32) (x3 : Int32) (x4 : Int32) (x5 : Int32) (kh32 : (Int32 × Int32) → Option (Int32)) (kx65 : (Int32) → Option (Int32)) (ihh32 : ∀ q, kh32 q = some o → hk_W p l e jr_H_needle s m args below meth c A (hk_Zi below args s D A o ((wH a aText aField aTrial aPast aKept aSeen aLand aDraft) ++ ((wF cI aField f_lying f_damp f_told f_heights f_burnt f_layerWords f_layerWetness f_layerHeat f_hours) ++ (wL cI aLand g_speeches g_speechLengths g_weather g_kindsOfCows g_thatches g_weatherLength g_mowers g_cows g_ricks)))) 6 D 0 0 ((wH a aText aField aTrial aPast aKept aSeen aLand aDraft) ++ ((wF cI aField f_lying f_damp f_told f_heights f_burnt f_layerWords f_layerWetness f_layerHeat f_hours) ++ (wL cI aLand g_speeches g_speechLengths g_weather g_kindsOfCows g_thatches g_weatherLength g_mowers g_cows g_ricks))) 32 [(0, .ref (a 0)), (1, .int x1), (2, .int x2), (3, .int x3), (4, .int q.1), (5, .int q.2)] []) (ihx65 : ∀ q, kx65 q = some o → hk_W p l e jr_H_needle s m args below meth c A (hk_Zi below args s D A o ((wH a aText aField aTrial aPast aKept aSeen aLand aDraft) ++ ((wF cI aField f_lying f_damp f_told f_heights f_burnt f_layerWords f_layerWetness f_layerHeat f_hours) ++ (wL cI aLand g_speeches g_speechLengths g_weather g_kindsOfCows g_thatches g_weatherLength g_mowers g_cows g_ricks)))) 6 D 0 0 ((wH a aText aField aTrial aPast aKept aSeen aLand aDraft) ++ ((wF cI aField f_lying f_damp f_told f_heights f_burnt f_layerWords f_layerWetness f_layerHeat f_hours) ++ (wL cI aLand g_speeches g_speechLengths g_weather g_kindsOfCows g_thatches g_weatherLength g_mowers g_cows g_ricks))) 65 [(0, .ref (a 0)), (1, .int x1), (2, .int x2), (3, .int x3), (4, .int q)] []) (_ : jf_H_needle_32B N f_heights f_layerWords g_ricks x1 x2 x3 x4 x5 kh32 kx65 = some o), hk_W p l e jr_H_needle s m args below meth c A (hk_Zi below args s D A o ((wH a aText aField aTrial aPast aKept aSeen aLand aDraft) ++ ((wF cI aField f_lying f_damp f_told f_heights f_burnt f_layerWords f_layerWetness f_layerHeat f_hours) ++ (wL cI aLand g_speeches g_speechLengths g_weather g_kindsOfCows g_thatches g_weatherLength g_mowers g_cows g_ricks)))) 6 D 0 0 ((wH a aText aField aTrial aPast aKept aSeen aLand aDraft) ++ ((wF cI aField f_lying f_damp f_told f_heights f_burnt f_layerWords f_layerWetness f_layerHeat f_hours) ++ (wL cI aLand g_speeches g_speechLengths g_weather g_kindsOfCows g_thatches g_weatherLength g_mowers g_cows g_ricks))) 32 [(0, .ref (a 0)), (1, .int x1), (2, .int x2), (3, .int x3), (4, .int x4), (5, .int x5)] [] := by
    intro f_heights f_layerWords g_ricks x1 x2 x3 x4 x5 kh32 kx65 ihh32 ihx65 h
    delta jf_H_needle_32B at h
    refine hk_iload hC jd_H_needle_32 5 rfl ?_
    refine hk_aload_n hC jd_H_needle_34 0 rfl ?_
    refine hk_get hC jk_H _ (at_l (k := 0) rfl) 6 (by decide) jq_278 rfl jd_H_needle_35 ?_
    refine hk_getN hC jk_L _ (at_r (at_r (k := 0) rfl)) 8 (by decide) jq_139 rfl jd_H_needle_38 ?_
    refine hk_icmp_ge (tgt := 65) hC jd_H_needle_41 (by decide) (fun cc1 => ?_) (fun cc1 => ?_)
    · replace h := xi_t h cc1
      exact hk_lv [0, 1, 2, 3, 4] rfl (ihx65 x4 h)
    · replace h := xi_f h cc1
      refine hk_iload hC jd_H_needle_44 4 rfl ?_
      refine hk_aload_n hC jd_H_needle_46 0 rfl ?_
      refine hk_get hC jk_H _ (at_l (k := 0) rfl) 1 (by decide) jq_273 rfl jd_H_needle_47 ?_
      refine hk_iload hC jd_H_needle_50 5 rfl ?_
      refine hk_iload_n hC jd_H_needle_52 1 rfl ?_
      obtain ⟨q1, h_q1, h⟩ := xb_go h
      refine hk_callVBi hC (jc_F_placesOf l D cI cF N aField f_lying f_damp f_told f_heights f_burnt f_layerWords f_layerWetness f_layerHeat f_hours x5 x1 h_q1) jl_F_placesOf rfl (List.mem_of_getElem? (at_r (at_l (k := 0) rfl))) jq_558 jq_559 jq_560 rfl ⟨by decide, by decide⟩ (pm_3_1 _ _ _) (pm_3_1 _ _ _) rfl (ws2 := ((wH a aText aField aTrial aPast aKept aSeen aLand aDraft) ++ ((wF cI aField f_lying f_damp f_told f_heights f_burnt f_layerWords f_layerWetness f_layerHeat f_hours) ++ (wL cI aLand g_speeches g_speechLengths g_weather g_kindsOfCows g_thatches g_weatherLength g_mowers g_cows g_ricks)))) rfl (Nat.le_of_ble_eq_true rfl) ⟨Nat.zero_le _, Nat.zero_le _⟩ jd_H_needle_53 ?_
      refine hk_iadd hC jd_H_needle_56 ?_
      obtain ⟨v1, e_v1, h⟩ := xl_go h
      refine hk_istore hC (i := 4) (y := v1) (lv2 := [(4, .int v1), (0, .ref (a 0)), (1, .int x1), (2, .int x2), (3, .int x3), (5, .int x5)]) jd_H_needle_57 e_v1 (by decide) rfl ?_
      obtain ⟨v2, e_v2, h⟩ := xl_go h
      refine hk_iinc hC (lv2 := [(5, .int v2), (4, .int v1), (0, .ref (a 0)), (1, .int x1), (2, .int x2), (3, .int x3)]) jd_H_needle_59 5 rfl e_v2 (by decide) rfl ?_
      refine hk_goto (tgt := 32) hC jd_H_needle_62 (by decide) ?_
      exact hk_lv [2, 3, 4, 5, 1, 0] rfl (ihh32 (v1, v2) h)
  have L_32 : ∀ (f_heights : Nat → Int32) (f_layerWords : Nat → Int32) (g_ricks : Int32) (x1 : Int32) (x2 : Int32) (x3 : Int32) (x4 : Int32) (x5 : Int32) (kx65 : (Int32) → Option (Int32)) (ihx65 : ∀ q, kx65 q = some o → hk_W p l e jr_H_needle s m args below meth c A (hk_Zi below args s D A o ((wH a aText aField aTrial aPast aKept aSeen aLand aDraft) ++ ((wF cI aField f_lying f_damp f_told f_heights f_burnt f_layerWords f_layerWetness f_layerHeat f_hours) ++ (wL cI aLand g_speeches g_speechLengths g_weather g_kindsOfCows g_thatches g_weatherLength g_mowers g_cows g_ricks)))) 6 D 0 0 ((wH a aText aField aTrial aPast aKept aSeen aLand aDraft) ++ ((wF cI aField f_lying f_damp f_told f_heights f_burnt f_layerWords f_layerWetness f_layerHeat f_hours) ++ (wL cI aLand g_speeches g_speechLengths g_weather g_kindsOfCows g_thatches g_weatherLength g_mowers g_cows g_ricks))) 65 [(0, .ref (a 0)), (1, .int x1), (2, .int x2), (3, .int x3), (4, .int q)] []) (_ : jf_H_needle_32 N f_heights f_layerWords g_ricks x1 x2 x3 x4 x5 kx65 = some o), hk_W p l e jr_H_needle s m args below meth c A (hk_Zi below args s D A o ((wH a aText aField aTrial aPast aKept aSeen aLand aDraft) ++ ((wF cI aField f_lying f_damp f_told f_heights f_burnt f_layerWords f_layerWetness f_layerHeat f_hours) ++ (wL cI aLand g_speeches g_speechLengths g_weather g_kindsOfCows g_thatches g_weatherLength g_mowers g_cows g_ricks)))) 6 D 0 0 ((wH a aText aField aTrial aPast aKept aSeen aLand aDraft) ++ ((wF cI aField f_lying f_damp f_told f_heights f_burnt f_layerWords f_layerWetness f_layerHeat f_hours) ++ (wL cI aLand g_speeches g_speechLengths g_weather g_kindsOfCows g_thatches g_weatherLength g_mowers g_cows g_ricks))) 32 [(0, .ref (a 0)), (1, .int x1), (2, .int x2), (3, .int x3), (4, .int x4), (5, .int x5)] [] := by
    intro f_heights f_layerWords g_ricks x1 x2 x3 x4 x5 kx65 ihx65 h
    exact xloopW (fun (q : Int32 × Int32) => hk_W p l e jr_H_needle s m args below meth c A (hk_Zi below args s D A o ((wH a aText aField aTrial aPast aKept aSeen aLand aDraft) ++ ((wF cI aField f_lying f_damp f_told f_heights f_burnt f_layerWords f_layerWetness f_layerHeat f_hours) ++ (wL cI aLand g_speeches g_speechLengths g_weather g_kindsOfCows g_thatches g_weatherLength g_mowers g_cows g_ricks)))) 6 D 0 0 ((wH a aText aField aTrial aPast aKept aSeen aLand aDraft) ++ ((wF cI aField f_lying f_damp f_told f_heights f_burnt f_layerWords f_layerWetness f_layerHeat f_hours) ++ (wL cI aLand g_speeches g_speechLengths g_weather g_kindsOfCows g_thatches g_weatherLength g_mowers g_cows g_ricks))) 32 [(0, .ref (a 0)), (1, .int x1), (2, .int x2), (3, .int x3), (4, .int q.1), (5, .int q.2)] []) (fun kh ih q h => B_32 f_heights f_layerWords g_ricks x1 x2 x3 q.1 q.2 kh kx65 ih ihx65 h) N (x4, x5) h
  have B_65 : ∀ (f_heights : Nat → Int32) (f_layerWords : Nat → Int32) (g_ricks : Int32) (x1 : Int32) (x2 : Int32) (x3 : Int32) (x4 : Int32)   (_ : jf_H_needle_65 N f_heights f_layerWords g_ricks x1 x2 x3 x4  = some o), hk_W p l e jr_H_needle s m args below meth c A (hk_Zi below args s D A o ((wH a aText aField aTrial aPast aKept aSeen aLand aDraft) ++ ((wF cI aField f_lying f_damp f_told f_heights f_burnt f_layerWords f_layerWetness f_layerHeat f_hours) ++ (wL cI aLand g_speeches g_speechLengths g_weather g_kindsOfCows g_thatches g_weatherLength g_mowers g_cows g_ricks)))) 6 D 0 0 ((wH a aText aField aTrial aPast aKept aSeen aLand aDraft) ++ ((wF cI aField f_lying f_damp f_told f_heights f_burnt f_layerWords f_layerWetness f_layerHeat f_hours) ++ (wL cI aLand g_speeches g_speechLengths g_weather g_kindsOfCows g_thatches g_weatherLength g_mowers g_cows g_ricks))) 65 [(0, .ref (a 0)), (1, .int x1), (2, .int x2), (3, .int x3), (4, .int x4)] [] := by
    intro f_heights f_layerWords g_ricks x1 x2 x3 x4   h
    delta jf_H_needle_65 at h
    refine hk_iload hC jd_H_needle_65 4 rfl ?_
    refine hk_if_ne (tgt := 73) hC jd_H_needle_67 (by decide) (fun cc1 => ?_) (fun cc1 => ?_)
    · replace h := xi_f h cc1
      refine hk_aload_n hC jd_H_needle_73 0 rfl ?_
      refine hk_get hC jk_H _ (at_l (k := 0) rfl) 1 (by decide) jq_273 rfl jd_H_needle_74 ?_
      refine hk_iload_n hC jd_H_needle_77 2 rfl ?_
      refine hk_iload_n hC jd_H_needle_78 1 rfl ?_
      obtain ⟨q1, h_q1, h⟩ := xb_go h
      refine hk_callVBi hC (jc_F_placesOf l D cI cF N aField f_lying f_damp f_told f_heights f_burnt f_layerWords f_layerWetness f_layerHeat f_hours x2 x1 h_q1) jl_F_placesOf rfl (List.mem_of_getElem? (at_r (at_l (k := 0) rfl))) jq_558 jq_559 jq_560 rfl ⟨by decide, by decide⟩ (pm_3_1 _ _ _) (pm_3_1 _ _ _) rfl (ws2 := ((wH a aText aField aTrial aPast aKept aSeen aLand aDraft) ++ ((wF cI aField f_lying f_damp f_told f_heights f_burnt f_layerWords f_layerWetness f_layerHeat f_hours) ++ (wL cI aLand g_speeches g_speechLengths g_weather g_kindsOfCows g_thatches g_weatherLength g_mowers g_cows g_ricks)))) rfl (Nat.le_of_ble_eq_true rfl) ⟨Nat.zero_le _, Nat.zero_le _⟩ jd_H_needle_79 ?_
      refine hk_iload hC jd_H_needle_82 4 rfl ?_
      refine hk_iload_n hC jd_H_needle_84 3 rfl ?_
      obtain ⟨q2, h_q2, h⟩ := xb_go h
      refine hk_callS0i hC (jc_H_inLowestTerms l D cI cF N q1 x4 x3 h_q2) jl_H_inLowestTerms jq_562 jq_563 rfl ⟨by decide, by decide⟩ rfl (Nat.le_of_ble_eq_true rfl) ⟨Nat.zero_le _, Nat.zero_le _⟩ jd_H_needle_85 ?_
      obtain rfl := Option.some.inj h
      exact hk_iret hC hr jd_H_needle_88 rfl rfl
    · replace h := xi_t h cc1
      refine hk_bipush (v := -4) hC jd_H_needle_70 (by decide) ?_
      obtain rfl := Option.some.inj h
      exact hk_iret hC hr jd_H_needle_72 rfl rfl
  delta jf_H_needle at h
  refine hk_iload_n hC jd_H_needle_0 1 rfl ?_
  obtain ⟨q1, h_q1, h⟩ := xb_go h
  refine hk_callS0i hC (jc_H_isWord l D cI cF N x1 h_q1) jl_H_isWord jq_551 jq_552 rfl ⟨by decide, by decide⟩ rfl (Nat.le_of_ble_eq_true rfl) ⟨Nat.zero_le _, Nat.zero_le _⟩ jd_H_needle_1 ?_
  refine hk_if_eq (tgt := 24) hC jd_H_needle_4 (by decide) (fun cc1 => ?_) (fun cc1 => ?_)
  · replace h := xi_t h cc1
    refine hk_iconst (v := -1) hC jd_H_needle_24 (by decide) ?_
    obtain rfl := Option.some.inj h
    exact hk_iret hC hr jd_H_needle_25 rfl rfl
  · replace h := xi_f h cc1
    refine hk_aload_n hC jd_H_needle_7 0 rfl ?_
    refine hk_iload_n hC jd_H_needle_8 2 rfl ?_
    obtain ⟨q2, h_q2, h⟩ := xb_go h
    refine hk_callVBi hC (jc_H_isRick l D cI cF N a aText aField aTrial aPast aKept aSeen aLand aDraft g_speeches g_speechLengths g_weather g_kindsOfCows g_thatches g_weatherLength g_mowers g_cows g_ricks x2 h_q2) jl_H_isRick rfl (List.mem_of_getElem? (at_l (k := 0) rfl)) jq_367 jq_369 jq0_7 rfl ⟨by decide, by decide⟩ (pm_3_0_2 _ _ _) (pm_3_0_2 _ _ _) rfl (ws2 := ((wH a aText aField aTrial aPast aKept aSeen aLand aDraft) ++ ((wF cI aField f_lying f_damp f_told f_heights f_burnt f_layerWords f_layerWetness f_layerHeat f_hours) ++ (wL cI aLand g_speeches g_speechLengths g_weather g_kindsOfCows g_thatches g_weatherLength g_mowers g_cows g_ricks)))) rfl (Nat.le_of_ble_eq_true rfl) ⟨Nat.zero_le _, Nat.zero_le _⟩ jd_H_needle_9 ?_
    refine hk_if_eq (tgt := 24) hC jd_H_needle_12 (by decide) (fun cc2 => ?_) (fun cc2 => ?_)
    · replace h := xi_t h cc2
      refine hk_iconst (v := -1) hC jd_H_needle_24 (by decide) ?_
      obtain rfl := Option.some.inj h
      exact hk_iret hC hr jd_H_needle_25 rfl rfl
    · replace h := xi_f h cc2
      refine hk_iload_n hC jd_H_needle_15 3 rfl ?_
      refine hk_iconst (v := 0) hC jd_H_needle_16 (by decide) ?_
      refine hk_iconst (v := 1) hC jd_H_needle_17 (by decide) ?_
      obtain ⟨q3, h_q3, h⟩ := xb_go h
      refine hk_callS0i hC (jc_H_isWithin l D cI cF N x3 (0 : Int32) (1 : Int32) h_q3) jl_H_isWithin jq_302 jq_249 rfl ⟨by decide, by decide⟩ rfl (Nat.le_of_ble_eq_true rfl) ⟨Nat.zero_le _, Nat.zero_le _⟩ jd_H_needle_18 ?_
      refine hk_if_ne (tgt := 26) hC jd_H_needle_21 (by decide) (fun cc3 => ?_) (fun cc3 => ?_)
      · replace h := xi_f h cc3
        refine hk_iconst (v := 0) hC jd_H_needle_26 (by decide) ?_
        refine hk_istore hC (i := 4) (y := (0 : Int32)) (lv2 := [(4, .int (0 : Int32)), (0, .ref (a 0)), (1, .int x1), (2, .int x2), (3, .int x3)]) jd_H_needle_27 rfl (by decide) rfl ?_
        refine hk_iconst (v := 0) hC jd_H_needle_29 (by decide) ?_
        refine hk_istore hC (i := 5) (y := (0 : Int32)) (lv2 := [(5, .int (0 : Int32)), (4, .int (0 : Int32)), (0, .ref (a 0)), (1, .int x1), (2, .int x2), (3, .int x3)]) jd_H_needle_30 rfl (by decide) rfl ?_
        exact hk_lv [2, 3, 4, 5, 1, 0] rfl (L_32 f_heights f_layerWords g_ricks x1 x2 x3 (0 : Int32) (0 : Int32) _ (fun q4 h => by exact (B_65 f_heights f_layerWords g_ricks x1 x2 x3 q4   h)) h)
      · replace h := xi_t h cc3
        refine hk_iconst (v := -1) hC jd_H_needle_24 (by decide) ?_
        obtain rfl := Option.some.inj h
        exact hk_iret hC hr jd_H_needle_25 rfl rfl
theorem jc_H_needle (l : Launch) (D : va_G) (cI cF : ClassId) (N : Nat) (a : Nat → Nat) (aText : Nat → Nat) (aField : Nat → Nat) (aTrial : Nat → Nat) (aPast : Nat → Nat) (aKept : Nat → Nat) (aSeen : Nat → Nat) (aLand : Nat → Nat) (aDraft : Nat → Nat)  (f_lying : Nat → Int32) (f_damp : Nat → Int32) (f_told : Nat → Int32) (f_heights : Nat → Int32) (f_burnt : Nat → Int32) (f_layerWords : Nat → Int32) (f_layerWetness : Nat → Int32) (f_layerHeat : Nat → Int32) (f_hours : Int32) (g_speeches : Nat → Int32) (g_speechLengths : Nat → Int32) (g_weather : Nat → Int32) (g_kindsOfCows : Nat → Int32) (g_thatches : Nat → Int32) (g_weatherLength : Int32) (g_mowers : Int32) (g_cows : Int32) (g_ricks : Int32) (x1 : Int32) (x2 : Int32) (x3 : Int32) {o : Int32} (h : jf_H_needle N f_heights f_layerWords g_ricks x1 x2 x3 = some o) : hk_Mi l jy_H_needle jb_H_needle 6 (some .int) jr_H_needle D cI cF ((wH a aText aField aTrial aPast aKept aSeen aLand aDraft) ++ ((wF cI aField f_lying f_damp f_told f_heights f_burnt f_layerWords f_layerWetness f_layerHeat f_hours) ++ (wL cI aLand g_speeches g_speechLengths g_weather g_kindsOfCows g_thatches g_weatherLength g_mowers g_cows g_ricks))) [.ref (a 0), .int x1, .int x2, .int x3] o ((wH a aText aField aTrial aPast aKept aSeen aLand aDraft) ++ ((wF cI aField f_lying f_damp f_told f_heights f_burnt f_layerWords f_layerWetness f_layerHeat f_hours) ++ (wL cI aLand g_speeches g_speechLengths g_weather g_kindsOfCows g_thatches g_weatherLength g_mowers g_cows g_ricks))) :=
  hk_metI (by decide) (Nat.le_of_ble_eq_true rfl) rfl rfl (fun p e s m args below meth c A hC hr => jw_H_needle hC hr N a aText aField aTrial aPast aKept aSeen aLand aDraft f_lying f_damp f_told f_heights f_burnt f_layerWords f_layerWetness f_layerHeat f_hours g_speeches g_speechLengths g_weather g_kindsOfCows g_thatches g_weatherLength g_mowers g_cows g_ricks x1 x2 x3 h)
set_option maxHeartbeats 8000000 in
set_option maxRecDepth 100000 in
theorem jw_H_see {p : Program} {l : Launch} {e : Env} {s : State} {m : MethodId} {args : Array Value} {below : List Frame} {meth : Method} {c : Code} {A : Nat → Prop} {D : va_G} {cI cF : ClassId} (hC : hk_ok p s m args meth c A 3 D cI cF "HayTalk" jb_H_see) (hr : meth.sig.returnType = (some .int)) (N : Nat) (a : Nat → Nat) (aText : Nat → Nat) (aField : Nat → Nat) (aTrial : Nat → Nat) (aPast : Nat → Nat) (aKept : Nat → Nat) (aSeen : Nat → Nat) (aLand : Nat → Nat) (aDraft : Nat → Nat)  (s_words : Nat → Int32) (s_hours : Nat → Int32) (s_size : Int32) (x1 : Int32) (x2 : Int32) {o : Int32 × (Nat → Int32) × (Nat → Int32) × Int32} (h : jf_H_see N s_words s_hours s_size x1 x2 = some o) : hk_W p l e jr_H_see s m args below meth c A (hk_Zi below args s D A o.1 ((wH a aText aField aTrial aPast aKept aSeen aLand aDraft) ++ (wS cI aSeen o.2.1 o.2.2.1 o.2.2.2))) 3 D 0 0 ((wH a aText aField aTrial aPast aKept aSeen aLand aDraft) ++ (wS cI aSeen s_words s_hours s_size)) 0 [(0, .ref (a 0)), (1, .int x1), (2, .int x2)] [] := by
  delta jf_H_see at h
  refine hk_iload_n hC jd_H_see_0 1 rfl ?_
  obtain ⟨q1, h_q1, h⟩ := xb_go h
  refine hk_callS0i hC (jc_H_isWord l D cI cF N x1 h_q1) jl_H_isWord jq_551 jq_552 rfl ⟨by decide, by decide⟩ rfl (Nat.le_of_ble_eq_true rfl) ⟨Nat.zero_le _, Nat.zero_le _⟩ jd_H_see_1 ?_
  refine hk_if_eq (tgt := 17) hC jd_H_see_4 (by decide) (fun cc1 => ?_) (fun cc1 => ?_)
  · replace h := xi_t h cc1
    refine hk_iconst (v := -1) hC jd_H_see_17 (by decide) ?_
    obtain rfl := Option.some.inj h
    exact hk_iret hC hr jd_H_see_18 rfl rfl
  · replace h := xi_f h cc1
    refine hk_iload_n hC jd_H_see_7 2 rfl ?_
    refine hk_iconst (v := 0) hC jd_H_see_8 (by decide) ?_
    refine hk_bipush (v := 99) hC jd_H_see_9 (by decide) ?_
    obtain ⟨q2, h_q2, h⟩ := xb_go h
    refine hk_callS0i hC (jc_H_isWithin l D cI cF N x2 (0 : Int32) (99 : Int32) h_q2) jl_H_isWithin jq_302 jq_249 rfl ⟨by decide, by decide⟩ rfl (Nat.le_of_ble_eq_true rfl) ⟨Nat.zero_le _, Nat.zero_le _⟩ jd_H_see_11 ?_
    refine hk_if_ne (tgt := 19) hC jd_H_see_14 (by decide) (fun cc2 => ?_) (fun cc2 => ?_)
    · replace h := xi_f h cc2
      refine hk_aload_n hC jd_H_see_19 0 rfl ?_
      refine hk_get hC jk_H _ (at_l (k := 0) rfl) 5 (by decide) jq_277 rfl jd_H_see_20 ?_
      obtain ⟨q3, h_q3, h⟩ := xb_go h
      refine hk_callVBi hC (jc_S_isFull l D cI cF N aSeen s_words s_hours s_size h_q3) jl_S_isFull rfl (List.mem_of_getElem? (at_r (k := 0) rfl)) jq_569 jq_570 jq_571 rfl ⟨by decide, by decide⟩ (pm_2_1 _ _) (pm_2_1 _ _) rfl (ws2 := ((wH a aText aField aTrial aPast aKept aSeen aLand aDraft) ++ (wS cI aSeen s_words s_hours s_size))) rfl (Nat.le_of_ble_eq_true rfl) ⟨Nat.zero_le _, Nat.zero_le _⟩ jd_H_see_23 ?_
      refine hk_if_eq (tgt := 32) hC jd_H_see_26 (by decide) (fun cc3 => ?_) (fun cc3 => ?_)
      · replace h := xi_t h cc3
        refine hk_aload_n hC jd_H_see_32 0 rfl ?_
        refine hk_get hC jk_H _ (at_l (k := 0) rfl) 5 (by decide) jq_277 rfl jd_H_see_33 ?_
        refine hk_iload_n hC jd_H_see_36 1 rfl ?_
        refine hk_iload_n hC jd_H_see_37 2 rfl ?_
        obtain ⟨q4, h_q4, h⟩ := xb_go h
        refine hk_callVBv hC (jc_S_add l D cI cF N aSeen s_words s_hours s_size x1 x2 h_q4) jl_S_add rfl (List.mem_of_getElem? (at_r (k := 0) rfl)) jq_573 jq_574 jq_575 rfl ⟨by decide, by decide⟩ (pm_2_1 _ _) (pm_2_1 _ _) rfl (ws2 := ((wH a aText aField aTrial aPast aKept aSeen aLand aDraft) ++ (wS cI aSeen q4.1 q4.2.1 q4.2.2))) rfl (Nat.le_of_ble_eq_true rfl) ⟨Nat.zero_le _, Nat.zero_le _⟩ jd_H_see_38 ?_
        refine hk_aload_n hC jd_H_see_41 0 rfl ?_
        refine hk_get hC jk_H _ (at_l (k := 0) rfl) 5 (by decide) jq_277 rfl jd_H_see_42 ?_
        refine hk_getN hC jk_S _ (at_r (k := 0) rfl) 2 (by decide) jq_112 rfl jd_H_see_45 ?_
        obtain rfl := Option.some.inj h
        exact hk_iret hC hr jd_H_see_48 rfl rfl
      · replace h := xi_f h cc3
        refine hk_bipush (v := -3) hC jd_H_see_29 (by decide) ?_
        obtain rfl := Option.some.inj h
        exact hk_iret hC hr jd_H_see_31 rfl rfl
    · replace h := xi_t h cc2
      refine hk_iconst (v := -1) hC jd_H_see_17 (by decide) ?_
      obtain rfl := Option.some.inj h
      exact hk_iret hC hr jd_H_see_18 rfl rfl
theorem jc_H_see (l : Launch) (D : va_G) (cI cF : ClassId) (N : Nat) (a : Nat → Nat) (aText : Nat → Nat) (aField : Nat → Nat) (aTrial : Nat → Nat) (aPast : Nat → Nat) (aKept : Nat → Nat) (aSeen : Nat → Nat) (aLand : Nat → Nat) (aDraft : Nat → Nat)  (s_words : Nat → Int32) (s_hours : Nat → Int32) (s_size : Int32) (x1 : Int32) (x2 : Int32) {o : Int32 × (Nat → Int32) × (Nat → Int32) × Int32} (h : jf_H_see N s_words s_hours s_size x1 x2 = some o) : hk_Mi l jy_H_see jb_H_see 3 (some .int) jr_H_see D cI cF ((wH a aText aField aTrial aPast aKept aSeen aLand aDraft) ++ (wS cI aSeen s_words s_hours s_size)) [.ref (a 0), .int x1, .int x2] o.1 ((wH a aText aField aTrial aPast aKept aSeen aLand aDraft) ++ (wS cI aSeen o.2.1 o.2.2.1 o.2.2.2)) :=
  hk_metI (by decide) (Nat.le_of_ble_eq_true rfl) rfl rfl (fun p e s m args below meth c A hC hr => jw_H_see hC hr N a aText aField aTrial aPast aKept aSeen aLand aDraft s_words s_hours s_size x1 x2 h)
set_option maxHeartbeats 8000000 in
set_option maxRecDepth 100000 in
theorem jw_H_forget {p : Program} {l : Launch} {e : Env} {s : State} {m : MethodId} {args : Array Value} {below : List Frame} {meth : Method} {c : Code} {A : Nat → Prop} {D : va_G} {cI cF : ClassId} (hC : hk_ok p s m args meth c A 2 D cI cF "HayTalk" jb_H_forget) (hr : meth.sig.returnType = (some .int)) (N : Nat) (a : Nat → Nat) (aText : Nat → Nat) (aField : Nat → Nat) (aTrial : Nat → Nat) (aPast : Nat → Nat) (aKept : Nat → Nat) (aSeen : Nat → Nat) (aLand : Nat → Nat) (aDraft : Nat → Nat)  (s_words : Nat → Int32) (s_hours : Nat → Int32) (s_size : Int32)  {o : Int32 × Int32} (h : jf_H_forget N s_size = some o) : hk_W p l e jr_H_forget s m args below meth c A (hk_Zi below args s D A o.1 ((wH a aText aField aTrial aPast aKept aSeen aLand aDraft) ++ (wS cI aSeen s_words s_hours o.2))) 2 D 0 0 ((wH a aText aField aTrial aPast aKept aSeen aLand aDraft) ++ (wS cI aSeen s_words s_hours s_size)) 0 [(0, .ref (a 0))] [] := by
  delta jf_H_forget at h
  refine hk_aload_n hC jd_H_forget_0 0 rfl ?_
  refine hk_get hC jk_H _ (at_l (k := 0) rfl) 5 (by decide) jq_277 rfl jd_H_forget_1 ?_
  refine hk_getN hC jk_S _ (at_r (k := 0) rfl) 2 (by decide) jq_112 rfl jd_H_forget_4 ?_
  refine hk_istore_n hC (i := 1) (y := s_size) (lv2 := [(1, .int s_size), (0, .ref (a 0))]) jd_H_forget_7 rfl rfl (by decide) rfl ?_
  refine hk_aload_n hC jd_H_forget_8 1 rfl ?_
  refine hk_get hC jk_H _ (at_l (k := 0) rfl) 5 (by decide) jq_277 rfl jd_H_forget_9 ?_
  refine hk_iconst (v := 0) hC jd_H_forget_12 (by decide) ?_
  refine hk_putN hC jk_S _ (at_r (k := 0) rfl) 2 (by decide) jq_112 rfl rfl rfl (Nat.le_of_ble_eq_true rfl) (ws2 := ((wH a aText aField aTrial aPast aKept aSeen aLand aDraft) ++ (wS cI aSeen s_words s_hours (0 : Int32)))) (set_r rfl) jd_H_forget_13 ?_
  refine hk_iload_n hC jd_H_forget_16 0 rfl ?_
  obtain rfl := Option.some.inj h
  exact hk_iret hC hr jd_H_forget_17 rfl rfl
theorem jc_H_forget (l : Launch) (D : va_G) (cI cF : ClassId) (N : Nat) (a : Nat → Nat) (aText : Nat → Nat) (aField : Nat → Nat) (aTrial : Nat → Nat) (aPast : Nat → Nat) (aKept : Nat → Nat) (aSeen : Nat → Nat) (aLand : Nat → Nat) (aDraft : Nat → Nat)  (s_words : Nat → Int32) (s_hours : Nat → Int32) (s_size : Int32)  {o : Int32 × Int32} (h : jf_H_forget N s_size = some o) : hk_Mi l jy_H_forget jb_H_forget 2 (some .int) jr_H_forget D cI cF ((wH a aText aField aTrial aPast aKept aSeen aLand aDraft) ++ (wS cI aSeen s_words s_hours s_size)) [.ref (a 0)] o.1 ((wH a aText aField aTrial aPast aKept aSeen aLand aDraft) ++ (wS cI aSeen s_words s_hours o.2)) :=
  hk_metI (by decide) (Nat.le_of_ble_eq_true rfl) rfl rfl (fun p e s m args below meth c A hC hr => jw_H_forget hC hr N a aText aField aTrial aPast aKept aSeen aLand aDraft s_words s_hours s_size h)
set_option maxHeartbeats 8000000 in
set_option maxRecDepth 100000 in
theorem jw_H_which {p : Program} {l : Launch} {e : Env} {s : State} {m : MethodId} {args : Array Value} {below : List Frame} {meth : Method} {c : Code} {A : Nat → Prop} {D : va_G} {cI cF : ClassId} (hC : hk_ok p s m args meth c A 3 D cI cF "HayTalk" jb_H_which) (hr : meth.sig.returnType = (some .int)) (N : Nat) (a : Nat → Nat) (aText : Nat → Nat) (aField : Nat → Nat) (aTrial : Nat → Nat) (aPast : Nat → Nat) (aKept : Nat → Nat) (aSeen : Nat → Nat) (aLand : Nat → Nat) (aDraft : Nat → Nat)  (s_words : Nat → Int32) (s_hours : Nat → Int32) (s_size : Int32) (g_speeches : Nat → Int32) (g_speechLengths : Nat → Int32) (g_weather : Nat → Int32) (g_kindsOfCows : Nat → Int32) (g_thatches : Nat → Int32) (g_weatherLength : Int32) (g_mowers : Int32) (g_cows : Int32) (g_ricks : Int32)  {o : Int32} (h : jf_H_which N s_words s_hours s_size g_speeches g_speechLengths g_mowers = some o) : hk_W p l e jr_H_which s m args below meth c A (hk_Zi below args s D A o ((wH a aText aField aTrial aPast aKept aSeen aLand aDraft) ++ ((wS cI aSeen s_words s_hours s_size) ++ (wL cI aLand g_speeches g_speechLengths g_weather g_kindsOfCows g_thatches g_weatherLength g_mowers g_cows g_ricks)))) 3 D 0 0 ((wH a aText aField aTrial aPast aKept aSeen aLand aDraft) ++ ((wS cI aSeen s_words s_hours s_size) ++ (wL cI aLand g_speeches g_speechLengths g_weather g_kindsOfCows g_thatches g_weatherLength g_mowers g_cows g_ricks))) 0 [(0, .ref (a 0))] [] := by
  have B_36 : ∀ (s_words : Nat → Int32) (s_hours : Nat → Int32) (s_size : Int32) (g_speeches : Nat → Int32) (g_speechLengths : Nat → Int32) (g_mowers : Int32) (x1 : Int32) (x2 : Int32) (kh4 : (Int32 × Int32) → Option (Int32)) (ihh4 : ∀ q, kh4 q = some o → hk_W p l e jr_H_which s m args below meth c A (hk_Zi below args s D A o ((wH a aText aField aTrial aPast aKept aSeen aLand aDraft) ++ ((wS cI aSeen s_words s_hours s_size) ++ (wL cI aLand g_speeches g_speechLengths g_weather g_kindsOfCows g_thatches g_weatherLength g_mowers g_cows g_ricks)))) 3 D 0 0 ((wH a aText aField aTrial aPast aKept aSeen aLand aDraft) ++ ((wS cI aSeen s_words s_hours s_size) ++ (wL cI aLand g_speeches g_speechLengths g_weather g_kindsOfCows g_thatches g_weatherLength g_mowers g_cows g_ricks))) 4 [(0, .ref (a 0)), (1, .int q.1), (2, .int q.2)] []) (_ : jf_H_which_36 N s_words s_hours s_size g_speeches g_speechLengths g_mowers x1 x2 kh4 = some o), hk_W p l e jr_H_which s m args below meth c A (hk_Zi below args s D A o ((wH a aText aField aTrial aPast aKept aSeen aLand aDraft) ++ ((wS cI aSeen s_words s_hours s_size) ++ (wL cI aLand g_speeches g_speechLengths g_weather g_kindsOfCows g_thatches g_weatherLength g_mowers g_cows g_ricks)))) 3 D 0 0 ((wH a aText aField aTrial aPast aKept aSeen aLand aDraft) ++ ((wS cI aSeen s_words s_hours s_size) ++ (wL cI aLand g_speeches g_speechLengths g_weather g_kindsOfCows g_thatches g_weatherLength g_mowers g_cows g_ricks))) 36 [(0, .ref (a 0)), (1, .int x1), (2, .int x2)] [] := by
    intro s_words s_hours s_size g_speeches g_speechLengths g_mowers x1 x2 kh4 ihh4 h
    delta jf_H_which_36 at h
    obtain ⟨v1, e_v1, h⟩ := xl_go h
    refine hk_iinc hC (lv2 := [(2, .int v1), (0, .ref (a 0)), (1, .int x1)]) jd_H_which_36 2 rfl e_v1 (by decide) rfl ?_
    refine hk_goto (tgt := 4) hC jd_H_which_39 (by decide) ?_
    exact hk_lv [1, 2, 0] rfl (ihh4 (x1, v1) h)
  have B_4 : ∀ (s_words : Nat → Int32) (s_hours : Nat → Int32) (s_size : Int32) (g_speeches : Nat → Int32) (g_speechLengths : Nat → Int32) (g_mowers : Int32) (x1 : Int32) (x2 : Int32) (kh4 : (Int32 × Int32) → Option (Int32)) (ihh4 : ∀ q, kh4 q = some o → hk_W p l e jr_H_which s m args below meth c A (hk_Zi below args s D A o ((wH a aText aField aTrial aPast aKept aSeen aLand aDraft) ++ ((wS cI aSeen s_words s_hours s_size) ++ (wL cI aLand g_speeches g_speechLengths g_weather g_kindsOfCows g_thatches g_weatherLength g_mowers g_cows g_ricks)))) 3 D 0 0 ((wH a aText aField aTrial aPast aKept aSeen aLand aDraft) ++ ((wS cI aSeen s_words s_hours s_size) ++ (wL cI aLand g_speeches g_speechLengths g_weather g_kindsOfCows g_thatches g_weatherLength g_mowers g_cows g_ricks))) 4 [(0, .ref (a 0)), (1, .int q.1), (2, .int q.2)] []) (_ : jf_H_which_4B N s_words s_hours s_size g_speeches g_speechLengths g_mowers x1 x2 kh4 = some o), hk_W p l e jr_H_which s m args below meth c A (hk_Zi below args s D A o ((wH a aText aField aTrial aPast aKept aSeen aLand aDraft) ++ ((wS cI aSeen s_words s_hours s_size) ++ (wL cI aLand g_speeches g_speechLengths g_weather g_kindsOfCows g_thatches g_weatherLength g_mowers g_cows g_ricks)))) 3 D 0 0 ((wH a aText aField aTrial aPast aKept aSeen aLand aDraft) ++ ((wS cI aSeen s_words s_hours s_size) ++ (wL cI aLand g_speeches g_speechLengths g_weather g_kindsOfCows g_thatches g_weatherLength g_mowers g_cows g_ricks))) 4 [(0, .ref (a 0)), (1, .int x1), (2, .int x2)] [] := by
    intro s_words s_hours s_size g_speeches g_speechLengths g_mowers x1 x2 kh4 ihh4 h
    delta jf_H_which_4B at h
    refine hk_iload_n hC jd_H_which_4 2 rfl ?_
    refine hk_aload_n hC jd_H_which_5 0 rfl ?_
    refine hk_get hC jk_H _ (at_l (k := 0) rfl) 6 (by decide) jq_278 rfl jd_H_which_6 ?_
    refine hk_getN hC jk_L _ (at_r (at_r (k := 0) rfl)) 6 (by decide) jq_133 rfl jd_H_which_9 ?_
    refine hk_icmp_ge (tgt := 42) hC jd_H_which_12 (by decide) (fun cc1 => ?_) (fun cc1 => ?_)
    · replace h := xi_t h cc1
      refine hk_iload_n hC jd_H_which_42 1 rfl ?_
      obtain rfl := Option.some.inj h
      exact hk_iret hC hr jd_H_which_43 rfl rfl
    · replace h := xi_f h cc1
      refine hk_aload_n hC jd_H_which_15 0 rfl ?_
      refine hk_get hC jk_H _ (at_l (k := 0) rfl) 5 (by decide) jq_277 rfl jd_H_which_16 ?_
      refine hk_aload_n hC jd_H_which_19 0 rfl ?_
      refine hk_get hC jk_H _ (at_l (k := 0) rfl) 6 (by decide) jq_278 rfl jd_H_which_20 ?_
      refine hk_iload_n hC jd_H_which_23 2 rfl ?_
      obtain ⟨q1, h_q1, h⟩ := xb_go h
      refine hk_callVBi hC (jc_S_isSoOf l D cI cF N aSeen aLand s_words s_hours s_size g_speeches g_speechLengths g_weather g_kindsOfCows g_thatches g_weatherLength g_mowers g_cows g_ricks x2 h_q1) jl_S_isSoOf rfl (List.mem_of_getElem? (at_r (at_l (k := 0) rfl))) jq_586 jq_587 jq_588 rfl ⟨by decide, by decide⟩ (pm_3_1_2 _ _ _) (pm_3_1_2 _ _ _) rfl (ws2 := ((wH a aText aField aTrial aPast aKept aSeen aLand aDraft) ++ ((wS cI aSeen s_words s_hours s_size) ++ (wL cI aLand g_speeches g_speechLengths g_weather g_kindsOfCows g_thatches g_weatherLength g_mowers g_cows g_ricks)))) rfl (Nat.le_of_ble_eq_true rfl) ⟨Nat.zero_le _, Nat.zero_le _⟩ jd_H_which_24 ?_
      refine hk_if_eq (tgt := 36) hC jd_H_which_27 (by decide) (fun cc2 => ?_) (fun cc2 => ?_)
      · replace h := xi_t h cc2
        exact (B_36 s_words s_hours s_size g_speeches g_speechLengths g_mowers x1 x2 kh4 ihh4 h)
      · replace h := xi_f h cc2
        refine hk_iload_n hC jd_H_which_30 1 rfl ?_
        refine hk_iconst (v := 1) hC jd_H_which_31 (by decide) ?_
        refine hk_iload_n hC jd_H_which_32 2 rfl ?_
        refine hk_ishl hC jd_H_which_33 ?_
        refine hk_ior hC jd_H_which_34 ?_
        obtain ⟨v1, e_v1, h⟩ := xl_go h
        refine hk_istore_n hC (i := 1) (y := v1) (lv2 := [(1, .int v1), (0, .ref (a 0)), (2, .int x2)]) jd_H_which_35 rfl e_v1 (by decide) rfl ?_
        exact hk_lv [1, 0, 2] rfl (B_36 s_words s_hours s_size g_speeches g_speechLengths g_mowers v1 x2 kh4 ihh4 h)
  have L_4 : ∀ (s_words : Nat → Int32) (s_hours : Nat → Int32) (s_size : Int32) (g_speeches : Nat → Int32) (g_speechLengths : Nat → Int32) (g_mowers : Int32) (x1 : Int32) (x2 : Int32)   (_ : jf_H_which_4 N s_words s_hours s_size g_speeches g_speechLengths g_mowers x1 x2  = some o), hk_W p l e jr_H_which s m args below meth c A (hk_Zi below args s D A o ((wH a aText aField aTrial aPast aKept aSeen aLand aDraft) ++ ((wS cI aSeen s_words s_hours s_size) ++ (wL cI aLand g_speeches g_speechLengths g_weather g_kindsOfCows g_thatches g_weatherLength g_mowers g_cows g_ricks)))) 3 D 0 0 ((wH a aText aField aTrial aPast aKept aSeen aLand aDraft) ++ ((wS cI aSeen s_words s_hours s_size) ++ (wL cI aLand g_speeches g_speechLengths g_weather g_kindsOfCows g_thatches g_weatherLength g_mowers g_cows g_ricks))) 4 [(0, .ref (a 0)), (1, .int x1), (2, .int x2)] [] := by
    intro s_words s_hours s_size g_speeches g_speechLengths g_mowers x1 x2   h
    exact xloopW (fun (q : Int32 × Int32) => hk_W p l e jr_H_which s m args below meth c A (hk_Zi below args s D A o ((wH a aText aField aTrial aPast aKept aSeen aLand aDraft) ++ ((wS cI aSeen s_words s_hours s_size) ++ (wL cI aLand g_speeches g_speechLengths g_weather g_kindsOfCows g_thatches g_weatherLength g_mowers g_cows g_ricks)))) 3 D 0 0 ((wH a aText aField aTrial aPast aKept aSeen aLand aDraft) ++ ((wS cI aSeen s_words s_hours s_size) ++ (wL cI aLand g_speeches g_speechLengths g_weather g_kindsOfCows g_thatches g_weatherLength g_mowers g_cows g_ricks))) 4 [(0, .ref (a 0)), (1, .int q.1), (2, .int q.2)] []) (fun kh ih q h => B_4 s_words s_hours s_size g_speeches g_speechLengths g_mowers q.1 q.2 kh  ih  h) N (x1, x2) h
  delta jf_H_which at h
  refine hk_iconst (v := 0) hC jd_H_which_0 (by decide) ?_
  refine hk_istore_n hC (i := 1) (y := (0 : Int32)) (lv2 := [(1, .int (0 : Int32)), (0, .ref (a 0))]) jd_H_which_1 rfl rfl (by decide) rfl ?_
  refine hk_iconst (v := 0) hC jd_H_which_2 (by decide) ?_
  refine hk_istore_n hC (i := 2) (y := (0 : Int32)) (lv2 := [(2, .int (0 : Int32)), (1, .int (0 : Int32)), (0, .ref (a 0))]) jd_H_which_3 rfl rfl (by decide) rfl ?_
  exact hk_lv [2, 1, 0] rfl (L_4 s_words s_hours s_size g_speeches g_speechLengths g_mowers (0 : Int32) (0 : Int32)   h)
theorem jc_H_which (l : Launch) (D : va_G) (cI cF : ClassId) (N : Nat) (a : Nat → Nat) (aText : Nat → Nat) (aField : Nat → Nat) (aTrial : Nat → Nat) (aPast : Nat → Nat) (aKept : Nat → Nat) (aSeen : Nat → Nat) (aLand : Nat → Nat) (aDraft : Nat → Nat)  (s_words : Nat → Int32) (s_hours : Nat → Int32) (s_size : Int32) (g_speeches : Nat → Int32) (g_speechLengths : Nat → Int32) (g_weather : Nat → Int32) (g_kindsOfCows : Nat → Int32) (g_thatches : Nat → Int32) (g_weatherLength : Int32) (g_mowers : Int32) (g_cows : Int32) (g_ricks : Int32)  {o : Int32} (h : jf_H_which N s_words s_hours s_size g_speeches g_speechLengths g_mowers = some o) : hk_Mi l jy_H_which jb_H_which 3 (some .int) jr_H_which D cI cF ((wH a aText aField aTrial aPast aKept aSeen aLand aDraft) ++ ((wS cI aSeen s_words s_hours s_size) ++ (wL cI aLand g_speeches g_speechLengths g_weather g_kindsOfCows g_thatches g_weatherLength g_mowers g_cows g_ricks))) [.ref (a 0)] o ((wH a aText aField aTrial aPast aKept aSeen aLand aDraft) ++ ((wS cI aSeen s_words s_hours s_size) ++ (wL cI aLand g_speeches g_speechLengths g_weather g_kindsOfCows g_thatches g_weatherLength g_mowers g_cows g_ricks))) :=
  hk_metI (by decide) (Nat.le_of_ble_eq_true rfl) rfl rfl (fun p e s m args below meth c A hC hr => jw_H_which hC hr N a aText aField aTrial aPast aKept aSeen aLand aDraft s_words s_hours s_size g_speeches g_speechLengths g_weather g_kindsOfCows g_thatches g_weatherLength g_mowers g_cows g_ricks h)
