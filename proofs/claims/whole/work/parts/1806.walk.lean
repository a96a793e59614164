set_option maxHeartbeats 8000000 in
set_option maxRecDepth 100000 in
theorem jw_H_cutsOfThird {p : Program} {l : Launch} {e : Env} {s : State} {m : MethodId} {args : Array Value} {below : List Frame} {meth : Method} {c : Code} {A : Nat → Prop} {D : va_G} {cI cF : ClassId} (hC : hk_ok p s m args meth c A 6 D cI cF "HayTalk" jb_H_cutsOfThird) (hr : meth.sig.returnType = (some .int)) (N : Nat) (a : Nat → Nat) (aText : Nat → Nat) (aField : Nat → Nat) (aTrial : Nat → Nat) (aPast : Nat → Nat) (aKept : Nat → Nat) (aSeen : Nat → Nat) (aLand : Nat → Nat) (aDraft : Nat → Nat)  (f_lying : Nat → Int32) (f_damp : Nat → Int32) (f_told : Nat → Int32) (f_heights : Nat → Int32) (f_burnt : Nat → Int32) (f_layerWords : Nat → Int32) (f_layerWetness : Nat → Int32) (f_layerHeat : Nat → Int32) (f_hours : Int32) (x1 : Int32) (x2 : Int32) (x3 : Int32) {o : Int32} (h : jf_H_cutsOfThird N f_heights f_layerWords x1 x2 x3 = some o) : hk_W p l e jr_H_cutsOfThird s m args below meth c A (hk_Zi below args s D A o ((wH a aText aField aTrial aPast aKept aSeen aLand aDraft) ++ (wF cI aField f_lying f_damp f_told f_heights f_burnt f_layerWords f_layerWetness f_layerHeat f_hours))) 6 D 0 0 ((wH a aText aField aTrial aPast aKept aSeen aLand aDraft) ++ (wF cI aField f_lying f_damp f_told f_heights f_burnt f_layerWords f_layerWetness f_layerHeat f_hours)) 0 [(0, .ref (a 0)), (1, .int x1), (2, .int x2), (3, .int x3)] [] := by
  have B_6 : ∀ (f_heights : Nat → Int32) (f_layerWords : Nat → Int32) (x1 : Int32) (x2 : Int32) (x4 : Int32) (x5 : Int32) (kh6 : (Int32 × Int32) → Option (Int32)) (ihh6 : ∀ q, kh6 q = some o → hk_W p l e jr_H_cutsOfThird s m args below meth c A (hk_Zi below args s D A o ((wH a aText aField aTrial aPast aKept aSeen aLand aDraft) ++ (wF cI aField f_lying f_damp f_told f_heights f_burnt f_layerWords f_layerWetness f_layerHeat f_hours))) 6 D 0 0 ((wH a aText aField aTrial aPast aKept aSeen aLand aDraft) ++ (wF cI aField f_lying f_damp f_told f_heights f_burnt f_layerWords f_layerWetness f_layerHeat f_hours)) 6 [(0, .ref (a 0)), (1, .int x1), (2, .int x2), (4, .int q.1), (5, .int q.2)] []) (_ : jf_H_cutsOfThird_6B N f_heights f_layerWords x1 x2 x4 x5 kh6 = some o), hk_W p l e jr_H_cutsOfThird s m args below meth c A (hk_Zi below args s D A o ((wH a aText aField aTrial aPast aKept aSeen aLand aDraft) ++ (wF cI aField f_lying f_damp f_told f_heights f_burnt f_layerWords f_layerWetness f_layerHeat f_hours))) 6 D 0 0 ((wH a aText aField aTrial aPast aKept aSeen aLand aDraft) ++ (wF cI aField f_lying f_damp f_told f_heights f_burnt f_layerWords f_layerWetness f_layerHeat f_hours)) 6 [(0, .ref (a 0)), (1, .int x1), (2, .int x2), (4, .int x4), (5, .int x5)] [] := by
    intro f_heights f_layerWords x1 x2 x4 x5 kh6 ihh6 h
    delta jf_H_cutsOfThird_6B at h
    refine hk_iload hC jd_H_cutsOfThird_6 4 rfl ?_
    refine hk_aload_n hC jd_H_cutsOfThird_8 0 rfl ?_
    refine hk_get hC jk_H _ (at_l (k := 0) rfl) 1 (by decide) jq_273 rfl jd_H_cutsOfThird_9 ?_
    refine hk_iconst (v := 2) hC jd_H_cutsOfThird_12 (by decide) ?_
    obtain ⟨q1, h_q1, h⟩ := xb_go h
    refine hk_callVBi hC (jc_F_heightOf l D cI cF N aField f_lying f_damp f_told f_heights f_burnt f_layerWords f_layerWetness f_layerHeat f_hours (2 : Int32) h_q1) jl_F_heightOf rfl (List.mem_of_getElem? (at_r (k := 0) rfl)) jq_375 jq_376 jq_377 rfl ⟨by decide, by decide⟩ (pm_2_1 _ _) (pm_2_1 _ _) rfl (ws2 := ((wH a aText aField aTrial aPast aKept aSeen aLand aDraft) ++ (wF cI aField f_lying f_damp f_told f_heights f_burnt f_layerWords f_layerWetness f_layerHeat f_hours))) rfl (Nat.le_of_ble_eq_true rfl) ⟨Nat.zero_le _, Nat.zero_le _⟩ jd_H_cutsOfThird_13 ?_
    refine hk_icmp_gt (tgt := 57) hC jd_H_cutsOfThird_16 (by decide) (fun cc1 => ?_) (fun cc1 => ?_)
    · replace h := xi_t h cc1
      refine hk_bipush (v := -4) hC jd_H_cutsOfThird_57 (by decide) ?_
      obtain rfl := Option.some.inj h
      exact hk_iret hC hr jd_H_cutsOfThird_59 rfl rfl
    · replace h := xi_f h cc1
      refine hk_iload hC jd_H_cutsOfThird_19 3 rfl ?_
      refine hk_iload_n hC jd_H_cutsOfThird_21 2 rfl ?_
      refine hk_iand hC jd_H_cutsOfThird_22 ?_
      refine hk_iload_n hC jd_H_cutsOfThird_23 2 rfl ?_
      refine hk_icmp_ne (tgt := 30) hC jd_H_cutsOfThird_24 (by decide) (fun cc2 => ?_) (fun cc2 => ?_)
      · replace h := xi_f h cc2
        refine hk_iload hC jd_H_cutsOfThird_30 3 rfl ?_
        refine hk_iload_n hC jd_H_cutsOfThird_32 1 rfl ?_
        refine hk_aload_n hC jd_H_cutsOfThird_33 0 rfl ?_
        refine hk_get hC jk_H _ (at_l (k := 0) rfl) 1 (by decide) jq_273 rfl jd_H_cutsOfThird_34 ?_
        refine hk_iconst (v := 2) hC jd_H_cutsOfThird_37 (by decide) ?_
        refine hk_iload hC jd_H_cutsOfThird_38 4 rfl ?_
        obtain ⟨q2, h_q2, h⟩ := xb_go h
        refine hk_callVBi hC (jc_F_wordsFromTop l D cI cF N aField f_lying f_damp f_told f_heights f_burnt f_layerWords f_layerWetness f_layerHeat f_hours (2 : Int32) x5 h_q2) jl_F_wordsFromTop rfl (List.mem_of_getElem? (at_r (k := 0) rfl)) jq_530 jq_477 jq_478 rfl ⟨by decide, by decide⟩ (pm_2_1 _ _) (pm_2_1 _ _) rfl (ws2 := ((wH a aText aField aTrial aPast aKept aSeen aLand aDraft) ++ (wF cI aField f_lying f_damp f_told f_heights f_burnt f_layerWords f_layerWetness f_layerHeat f_hours))) rfl (Nat.le_of_ble_eq_true rfl) ⟨Nat.zero_le _, Nat.zero_le _⟩ jd_H_cutsOfThird_40 ?_
        refine hk_iload hC jd_H_cutsOfThird_43 3 rfl ?_
        obtain ⟨q3, h_q3, h⟩ := xb_go h
        refine hk_callS0i hC (jc_H_heardBy l D cI cF N x1 q2 x4 h_q3) jl_H_heardBy jq_531 jq_482 rfl ⟨by decide, by decide⟩ rfl (Nat.le_of_ble_eq_true rfl) ⟨Nat.zero_le _, Nat.zero_le _⟩ jd_H_cutsOfThird_45 ?_
        refine hk_ior hC jd_H_cutsOfThird_48 ?_
        obtain ⟨v1, e_v1, h⟩ := xl_go h
        refine hk_istore hC (i := 4) (y := v1) (lv2 := [(4, .int v1), (0, .ref (a 0)), (1, .int x1), (2, .int x2), (5, .int x5)]) jd_H_cutsOfThird_49 e_v1 (by decide) rfl ?_
        obtain ⟨v2, e_v2, h⟩ := xl_go h
        refine hk_iinc hC (lv2 := [(5, .int v2), (4, .int v1), (0, .ref (a 0)), (1, .int x1), (2, .int x2)]) jd_H_cutsOfThird_51 4 rfl e_v2 (by decide) rfl ?_
        refine hk_goto (tgt := 6) hC jd_H_cutsOfThird_54 (by decide) ?_
        exact hk_lv [2, 3, 4, 1, 0] rfl (ihh6 (v1, v2) h)
      · replace h := xi_t h cc2
        refine hk_iload hC jd_H_cutsOfThird_27 4 rfl ?_
        obtain rfl := Option.some.inj h
        exact hk_iret hC hr jd_H_cutsOfThird_29 rfl rfl
  have L_6 : ∀ (f_heights : Nat → Int32) (f_layerWords : Nat → Int32) (x1 : Int32) (x2 : Int32) (x4 : Int32) (x5 : Int32)   (_ : jf_H_cutsOfThird_6 N f_heights f_layerWords x1 x2 x4 x5  = some o), hk_W p l e jr_H_cutsOfThird s m args below meth c A (hk_Zi below args s D A o ((wH a aText aField aTrial aPast aKept aSeen aLand aDraft) ++ (wF cI aField f_lying f_damp f_told f_heights f_burnt f_layerWords f_layerWetness f_layerHeat f_hours))) 6 D 0 0 ((wH a aText aField aTrial aPast aKept aSeen aLand aDraft) ++ (wF cI aField f_lying f_damp f_told f_heights f_burnt f_layerWords f_layerWetness f_layerHeat f_hours)) 6 [(0, .ref (a 0)), (1, .int x1), (2, .int x2), (4, .int x4), (5, .int x5)] [] := by
    intro f_heights f_layerWords x1 x2 x4 x5   h
    exact xloopW (fun (q : Int32 × Int32) => hk_W p l e jr_H_cutsOfThird s m args below meth c A (hk_Zi below args s D A o ((wH a aText aField aTrial aPast aKept aSeen aLand aDraft) ++ (wF cI aField f_lying f_damp f_told f_heights f_burnt f_layerWords f_layerWetness f_layerHeat f_hours))) 6 D 0 0 ((wH a aText aField aTrial aPast aKept aSeen aLand aDraft) ++ (wF cI aField f_lying f_damp f_told f_heights f_burnt f_layerWords f_layerWetness f_layerHeat f_hours)) 6 [(0, .ref (a 0)), (1, .int x1), (2, .int x2), (4, .int q.1), (5, .int q.2)] []) (fun kh ih q h => B_6 f_heights f_layerWords x1 x2 q.1 q.2 kh  ih  h) N (x4, x5) h
  delta jf_H_cutsOfThird at h
  refine hk_iload_n hC jd_H_cutsOfThird_0 3 rfl ?_
  refine hk_istore hC (i := 4) (y := x3) (lv2 := [(4, .int x3), (0, .ref (a 0)), (1, .int x1), (2, .int x2), (3, .int x3)]) jd_H_cutsOfThird_1 rfl (by decide) rfl ?_
  refine hk_iconst (v := 0) hC jd_H_cutsOfThird_3 (by decide) ?_
  refine hk_istore hC (i := 5) (y := (0 : Int32)) (lv2 := [(5, .int (0 : Int32)), (4, .int x3), (0, .ref (a 0)), (1, .int x1), (2, .int x2), (3, .int x3)]) jd_H_cutsOfThird_4 rfl (by decide) rfl ?_
  exact hk_lv [2, 3, 4, 1, 0] rfl (L_6 f_heights f_layerWords x1 x2 x3 (0 : Int32)   h)
theorem jc_H_cutsOfThird (l : Launch) (D : va_G) (cI cF : ClassId) (N : Nat) (a : Nat → Nat) (aText : Nat → Nat) (aField : Nat → Nat) (aTrial : Nat → Nat) (aPast : Nat → Nat) (aKept : Nat → Nat) (aSeen : Nat → Nat) (aLand : Nat → Nat) (aDraft : Nat → Nat)  (f_lying : Nat → Int32) (f_damp : Nat → Int32) (f_told : Nat → Int32) (f_heights : Nat → Int32) (f_burnt : Nat → Int32) (f_layerWords : Nat → Int32) (f_layerWetness : Nat → Int32) (f_layerHeat : Nat → Int32) (f_hours : Int32) (x1 : Int32) (x2 : Int32) (x3 : Int32) {o : Int32} (h : jf_H_cutsOfThird N f_heights f_layerWords x1 x2 x3 = some o) : hk_Mi l jy_H_cutsOfThird jb_H_cutsOfThird 6 (some .int) jr_H_cutsOfThird D cI cF ((wH a aText aField aTrial aPast aKept aSeen aLand aDraft) ++ (wF cI aField f_lying f_damp f_told f_heights f_burnt f_layerWords f_layerWetness f_layerHeat f_hours)) [.ref (a 0), .int x1, .int x2, .int x3] o ((wH a aText aField aTrial aPast aKept aSeen aLand aDraft) ++ (wF cI aField f_lying f_damp f_told f_heights f_burnt f_layerWords f_layerWetness f_layerHeat f_hours)) :=
  hk_metI (by decide) (Nat.le_of_ble_eq_true rfl) rfl rfl (fun p e s m args below meth c A hC hr => jw_H_cutsOfThird hC hr N a aText aField aTrial aPast aKept aSeen aLand aDraft f_lying f_damp f_told f_heights f_burnt f_layerWords f_layerWetness f_layerHeat f_hours x1 x2 x3 h)
set_option maxHeartbeats 8000000 in
set_option maxRecDepth 100000 in
theorem jw_H_fewestCuts {p : Program} {l : Launch} {e : Env} {s : State} {m : MethodId} {args : Array Value} {below : List Frame} {meth : Method} {c : Code} {A : Nat → Prop} {D : va_G} {cI cF : ClassId} (hC : hk_ok p s m args meth c A 11 D cI cF "HayTalk" jb_H_fewestCuts) (hr : meth.sig.returnType = (some .int)) (N : Nat) (a : Nat → Nat) (aText : Nat → Nat) (aField : Nat → Nat) (aTrial : Nat → Nat) (aPast : Nat → Nat) (aKept : Nat → Nat) (aSeen : Nat → Nat) (aLand : Nat → Nat) (aDraft : Nat → Nat)  (f_lying : Nat → Int32) (f_damp : Nat → Int32) (f_told : Nat → Int32) (f_heights : Nat → Int32) (f_burnt : Nat → Int32) (f_layerWords : Nat → Int32) (f_layerWetness : Nat → Int32) (f_layerHeat : Nat → Int32) (f_hours : Int32) (g_speeches : Nat → Int32) (g_speechLengths : Nat → Int32) (g_weather : Nat → Int32) (g_kindsOfCows : Nat → Int32) (g_thatches : Nat → Int32) (g_weatherLength : Int32) (g_mowers : Int32) (g_cows : Int32) (g_ricks : Int32) (x1 : Int32) (x2 : Int32) {o : Int32} (h : jf_H_fewestCuts N f_told f_heights f_layerWords g_kindsOfCows x1 x2 = some o) : hk_W p l e jr_H_fewestCuts s m args below meth c A (hk_Zi below args s D A o ((wH a aText aField aTrial aPast aKept aSeen aLand aDraft) ++ ((wF cI aField f_lying f_damp f_told f_heights f_burnt f_layerWords f_layerWetness f_layerHeat f_hours) ++ (wL cI aLand g_speeches g_speechLengths g_weather g_kindsOfCows g_thatches g_weatherLength g_mowers g_cows g_ricks)))) 11 D 0 0 ((wH a aText aField aTrial aPast aKept aSeen aLand aDraft) ++ ((wF cI aField f_lying f_damp f_told f_heights f_burnt f_layerWords f_layerWetness f_layerHeat f_hours) ++ (wL cI aLand g_speeches g_speechLengths g_weather g_kindsOfCows g_thatches g_weatherLength g_mowers g_cows g_ricks))) 0 [(0, .ref (a 0)), (1, .int x1), (2, .int x2)] [] := by
  have B_122 : ∀ (f_told : Nat → Int32) (f_heights : Nat → Int32) (f_layerWords : Nat → Int32) (g_kindsOfCows : Nat → Int32) (x2 : Int32) (x3 : Int32) (x4 : Int32) (x5 : Int32) (x6 : Int32) (x7 : Int32) (x8 : Int32) (x9 : Int32) (kh53 : (Int32 × Int32 × Int32 × Int32) → Option (Int32)) (kx149 : (Int32 × Int32) → Option (Int32)) (ihh53 : ∀ q, kh53 q = some o → hk_W p l e jr_H_fewestCuts s m args below meth c A (hk_Zi below args s D A o ((wH a aText aField aTrial aPast aKept aSeen aLand aDraft) ++ ((wF cI aField f_lying f_damp f_told f_heights f_burnt f_layerWords f_layerWetness f_layerHeat f_hours) ++ (wL cI aLand g_speeches g_speechLengths g_weather g_kindsOfCows g_thatches g_weatherLength g_mowers g_cows g_ricks)))) 11 D 0 0 ((wH a aText aField aTrial aPast aKept aSeen aLand aDraft) ++ ((wF cI aField f_lying f_damp f_told f_heights f_burnt f_layerWords f_layerWetness f_layerHeat f_hours) ++ (wL cI aLand g_speeches g_speechLengths g_weather g_kindsOfCows g_thatches g_weatherLength g_mowers g_cows g_ricks))) 53 [(0, .ref (a 0)), (2, .int x2), (3, .int x3), (4, .int q.1), (5, .int q.2.1), (6, .int x6), (7, .int x7), (8, .int q.2.2.1), (9, .int q.2.2.2)] []) (ihx149 : ∀ q, kx149 q = some o → hk_W p l e jr_H_fewestCuts s m args below meth c A (hk_Zi below args s D A o ((wH a aText aField aTrial aPast aKept aSeen aLand aDraft) ++ ((wF cI aField f_lying f_damp f_told f_heights f_burnt f_layerWords f_layerWetness f_layerHeat f_hours) ++ (wL cI aLand g_speeches g_speechLengths g_weather g_kindsOfCows g_thatches g_weatherLength g_mowers g_cows g_ricks)))) 11 D 0 0 ((wH a aText aField aTrial aPast aKept aSeen aLand aDraft) ++ ((wF cI aField f_lying f_damp f_told f_heights f_burnt f_layerWords f_layerWetness f_layerHeat f_hours) ++ (wL cI aLand g_speeches g_speechLengths g_weather g_kindsOfCows g_thatches g_weatherLength g_mowers g_cows g_ricks))) 149 [(0, .ref (a 0)), (2, .int x2), (3, .int x3), (4, .int q.1), (5, .int q.2), (6, .int x6), (7, .int x7)] []) (_ : jf_H_fewestCuts_122 N f_told f_heights f_layerWords g_kindsOfCows x2 x3 x4 x5 x6 x7 x8 x9 kh53 kx149 = some o), hk_W p l e jr_H_fewestCuts s m args below meth c A (hk_Zi below args s D A o ((wH a aText aField aTrial aPast aKept aSeen aLand aDraft) ++ ((wF cI aField f_lying f_damp f_told f_heights f_burnt f_layerWords f_layerWetness f_layerHeat f_hours) ++ (wL cI aLand g_speeches g_speechLengths g_weather g_kindsOfCows g_thatches g_weatherLength g_mowers g_cows g_ricks)))) 11 D 0 0 ((wH a aText aField aTrial aPast aKept aSeen aLand aDraft) ++ ((wF cI aField f_lying f_damp f_told f_heights f_burnt f_layerWords f_layerWetness f_layerHeat f_hours) ++ (wL cI aLand g_speeches g_speechLengths g_weather g_kindsOfCows g_thatches g_weatherLength g_mowers g_cows g_ricks))) 122 [(0, .ref (a 0)), (2, .int x2), (3, .int x3), (4, .int x4), (5, .int x5), (6, .int x6), (7, .int x7), (8, .int x8), (9, .int x9)] [] := by
    intro f_told f_heights f_layerWords g_kindsOfCows x2 x3 x4 x5 x6 x7 x8 x9 kh53 kx149 ihh53 ihx149 h
    delta jf_H_fewestCuts_122 at h
    refine hk_iload hC jd_H_fewestCuts_122 7 rfl ?_
    refine hk_iload_n hC jd_H_fewestCuts_124 2 rfl ?_
    refine hk_aload_n hC jd_H_fewestCuts_125 0 rfl ?_
    refine hk_get hC jk_H _ (at_l (k := 0) rfl) 1 (by decide) jq_273 rfl jd_H_fewestCuts_126 ?_
    refine hk_iconst (v := 1) hC jd_H_fewestCuts_129 (by decide) ?_
    refine hk_iload hC jd_H_fewestCuts_130 8 rfl ?_
    obtain ⟨q1, h_q1, h⟩ := xb_go h
    refine hk_callVBi hC (jc_F_wordsFromTop l D cI cF N aField f_lying f_damp f_told f_heights f_burnt f_layerWords f_layerWetness f_layerHeat f_hours (1 : Int32) x9 h_q1) jl_F_wordsFromTop rfl (List.mem_of_getElem? (at_r (at_l (k := 0) rfl))) jq_530 jq_477 jq_478 rfl ⟨by decide, by decide⟩ (pm_3_1 _ _ _) (pm_3_1 _ _ _) rfl (ws2 := ((wH a aText aField aTrial aPast aKept aSeen aLand aDraft) ++ ((wF cI aField f_lying f_damp f_told f_heights f_burnt f_layerWords f_layerWetness f_layerHeat f_hours) ++ (wL cI aLand g_speeches g_speechLengths g_weather g_kindsOfCows g_thatches g_weatherLength g_mowers g_cows g_ricks)))) rfl (Nat.le_of_ble_eq_true rfl) ⟨Nat.zero_le _, Nat.zero_le _⟩ jd_H_fewestCuts_132 ?_
    refine hk_iload hC jd_H_fewestCuts_135 7 rfl ?_
    obtain ⟨q2, h_q2, h⟩ := xb_go h
    refine hk_callS0i hC (jc_H_heardBy l D cI cF N x3 q1 x8 h_q2) jl_H_heardBy jq_531 jq_482 rfl ⟨by decide, by decide⟩ rfl (Nat.le_of_ble_eq_true rfl) ⟨Nat.zero_le _, Nat.zero_le _⟩ jd_H_fewestCuts_137 ?_
    refine hk_ior hC jd_H_fewestCuts_140 ?_
    obtain ⟨v1, e_v1, h⟩ := xl_go h
    refine hk_istore hC (i := 8) (y := v1) (lv2 := [(8, .int v1), (0, .ref (a 0)), (2, .int x2), (3, .int x3), (4, .int x4), (5, .int x5), (6, .int x6), (7, .int x7), (9, .int x9)]) jd_H_fewestCuts_141 e_v1 (by decide) rfl ?_
    obtain ⟨v2, e_v2, h⟩ := xl_go h
    refine hk_iinc hC (lv2 := [(9, .int v2), (8, .int v1), (0, .ref (a 0)), (2, .int x2), (3, .int x3), (4, .int x4), (5, .int x5), (6, .int x6), (7, .int x7)]) jd_H_fewestCuts_143 8 rfl e_v2 (by decide) rfl ?_
    refine hk_goto (tgt := 53) hC jd_H_fewestCuts_146 (by decide) ?_
    exact hk_lv [2, 3, 4, 5, 6, 7, 8, 1, 0] rfl (ihh53 (x4, x5, v1, v2) h)
  have B_53 : ∀ (f_told : Nat → Int32) (f_heights : Nat → Int32) (f_layerWords : Nat → Int32) (g_kindsOfCows : Nat → Int32) (x2 : Int32) (x3 : Int32) (x4 : Int32) (x5 : Int32) (x6 : Int32) (x7 : Int32) (x8 : Int32) (x9 : Int32) (kh53 : (Int32 × Int32 × Int32 × Int32) → Option (Int32)) (kx149 : (Int32 × Int32) → Option (Int32)) (ihh53 : ∀ q, kh53 q = some o → hk_W p l e jr_H_fewestCuts s m args below meth c A (hk_Zi below args s D A o ((wH a aText aField aTrial aPast aKept aSeen aLand aDraft) ++ ((wF cI aField f_lying f_damp f_told f_heights f_burnt f_layerWords f_layerWetness f_layerHeat f_hours) ++ (wL cI aLand g_speeches g_speechLengths g_weather g_kindsOfCows g_thatches g_weatherLength g_mowers g_cows g_ricks)))) 11 D 0 0 ((wH a aText aField aTrial aPast aKept aSeen aLand aDraft) ++ ((wF cI aField f_lying f_damp f_told f_heights f_burnt f_layerWords f_layerWetness f_layerHeat f_hours) ++ (wL cI aLand g_speeches g_speechLengths g_weather g_kindsOfCows g_thatches g_weatherLength g_mowers g_cows g_ricks))) 53 [(0, .ref (a 0)), (2, .int x2), (3, .int x3), (4, .int q.1), (5, .int q.2.1), (6, .int x6), (7, .int x7), (8, .int q.2.2.1), (9, .int q.2.2.2)] []) (ihx149 : ∀ q, kx149 q = some o → hk_W p l e jr_H_fewestCuts s m args below meth c A (hk_Zi below args s D A o ((wH a aText aField aTrial aPast aKept aSeen aLand aDraft) ++ ((wF cI aField f_lying f_damp f_told f_heights f_burnt f_layerWords f_layerWetness f_layerHeat f_hours) ++ (wL cI aLand g_speeches g_speechLengths g_weather g_kindsOfCows g_thatches g_weatherLength g_mowers g_cows g_ricks)))) 11 D 0 0 ((wH a aText aField aTrial aPast aKept aSeen aLand aDraft) ++ ((wF cI aField f_lying f_damp f_told f_heights f_burnt f_layerWords f_layerWetness f_layerHeat f_hours) ++ (wL cI aLand g_speeches g_speechLengths g_weather g_kindsOfCows g_thatches g_weatherLength g_mowers g_cows g_ricks))) 149 [(0, .ref (a 0)), (2, .int x2), (3, .int x3), (4, .int q.1), (5, .int q.2), (6, .int x6), (7, .int x7)] []) (_ : jf_H_fewestCuts_53B N f_told f_heights f_layerWords g_kindsOfCows x2 x3 x4 x5 x6 x7 x8 x9 kh53 kx149 = some o), hk_W p l e jr_H_fewestCuts s m args below meth c A (hk_Zi below args s D A o ((wH a aText aField aTrial aPast aKept aSeen aLand aDraft) ++ ((wF cI aField f_lying f_damp f_told f_heights f_burnt f_layerWords f_layerWetness f_layerHeat f_hours) ++ (wL cI aLand g_speeches g_speechLengths g_weather g_kindsOfCows g_thatches g_weatherLength g_mowers g_cows g_ricks)))) 11 D 0 0 ((wH a aText aField aTrial aPast aKept aSeen aLand aDraft) ++ ((wF cI aField f_lying f_damp f_told f_heights f_burnt f_layerWords f_layerWetness f_layerHeat f_hours) ++ (wL cI aLand g_speeches g_speechLengths g_weather g_kindsOfCows g_thatches g_weatherLength g_mowers g_cows g_ricks))) 53 [(0, .ref (a 0)), (2, .int x2), (3, .int x3), (4, .int x4), (5, .int x5), (6, .int x6), (7, .int x7), (8, .int x8), (9, .int x9)] [] := by
    intro f_told f_heights f_layerWords g_kindsOfCows x2 x3 x4 x5 x6 x7 x8 x9 kh53 kx149 ihh53 ihx149 h
    delta jf_H_fewestCuts_53B at h
    refine hk_iload hC jd_H_fewestCuts_53 8 rfl ?_
    refine hk_aload_n hC jd_H_fewestCuts_55 0 rfl ?_
    refine hk_get hC jk_H _ (at_l (k := 0) rfl) 1 (by decide) jq_273 rfl jd_H_fewestCuts_56 ?_
    refine hk_iconst (v := 1) hC jd_H_fewestCuts_59 (by decide) ?_
    obtain ⟨q1, h_q1, h⟩ := xb_go h
    refine hk_callVBi hC (jc_F_heightOf l D cI cF N aField f_lying f_damp f_told f_heights f_burnt f_layerWords f_layerWetness f_layerHeat f_hours (1 : Int32) h_q1) jl_F_heightOf rfl (List.mem_of_getElem? (at_r (at_l (k := 0) rfl))) jq_375 jq_376 jq_377 rfl ⟨by decide, by decide⟩ (pm_3_1 _ _ _) (pm_3_1 _ _ _) rfl (ws2 := ((wH a aText aField aTrial aPast aKept aSeen aLand aDraft) ++ ((wF cI aField f_lying f_damp f_told f_heights f_burnt f_layerWords f_layerWetness f_layerHeat f_hours) ++ (wL cI aLand g_speeches g_speechLengths g_weather g_kindsOfCows g_thatches g_weatherLength g_mowers g_cows g_ricks)))) rfl (Nat.le_of_ble_eq_true rfl) ⟨Nat.zero_le _, Nat.zero_le _⟩ jd_H_fewestCuts_60 ?_
    refine hk_icmp_gt (tgt := 149) hC jd_H_fewestCuts_63 (by decide) (fun cc1 => ?_) (fun cc1 => ?_)
    · replace h := xi_t h cc1
      exact hk_lv [0, 1, 2, 3, 4, 5, 6] rfl (ihx149 (x4, x5) h)
    · replace h := xi_f h cc1
      refine hk_aload_n hC jd_H_fewestCuts_66 0 rfl ?_
      refine hk_iload_n hC jd_H_fewestCuts_67 2 rfl ?_
      refine hk_iload_n hC jd_H_fewestCuts_68 1 rfl ?_
      refine hk_iload hC jd_H_fewestCuts_69 7 rfl ?_
      obtain ⟨q2, h_q2, h⟩ := xb_go h
      refine hk_callVBi hC (jc_H_cutsOfThird l D cI cF N a aText aField aTrial aPast aKept aSeen aLand aDraft f_lying f_damp f_told f_heights f_burnt f_layerWords f_layerWetness f_layerHeat f_hours x3 x2 x8 h_q2) jl_H_cutsOfThird rfl (List.mem_of_getElem? (at_l (k := 0) rfl)) jq_526 jq_528 jq0_12 rfl ⟨by decide, by decide⟩ (pm_3_0_1 _ _ _) (pm_3_0_1 _ _ _) rfl (ws2 := ((wH a aText aField aTrial aPast aKept aSeen aLand aDraft) ++ ((wF cI aField f_lying f_damp f_told f_heights f_burnt f_layerWords f_layerWetness f_layerHeat f_hours) ++ (wL cI aLand g_speeches g_speechLengths g_weather g_kindsOfCows g_thatches g_weatherLength g_mowers g_cows g_ricks)))) rfl (Nat.le_of_ble_eq_true rfl) ⟨Nat.zero_le _, Nat.zero_le _⟩ jd_H_fewestCuts_71 ?_
      refine hk_istore hC (i := 10) (y := q2) (lv2 := [(10, .int q2), (0, .ref (a 0)), (2, .int x2), (3, .int x3), (4, .int x4), (5, .int x5), (6, .int x6), (7, .int x7), (8, .int x8), (9, .int x9)]) jd_H_fewestCuts_74 rfl (by decide) rfl ?_
      refine hk_iload hC jd_H_fewestCuts_76 0 rfl ?_
      refine hk_bipush (v := -4) hC jd_H_fewestCuts_78 (by decide) ?_
      refine hk_icmp_eq (tgt := 122) hC jd_H_fewestCuts_80 (by decide) (fun cc2 => ?_) (fun cc2 => ?_)
      · replace h := xi_t h cc2
        exact hk_lv [1, 2, 3, 4, 5, 6, 7, 8, 9] rfl (B_122 f_told f_heights f_layerWords g_kindsOfCows x2 x3 x4 x5 x6 x7 x8 x9 kh53 kx149 ihh53 ihx149 h)
      · replace h := xi_f h cc2
        refine hk_iload hC jd_H_fewestCuts_83 7 rfl ?_
        refine hk_iload hC jd_H_fewestCuts_85 9 rfl ?_
        refine hk_iadd hC jd_H_fewestCuts_87 ?_
        refine hk_iload hC jd_H_fewestCuts_88 0 rfl ?_
        refine hk_iadd hC jd_H_fewestCuts_90 ?_
        refine hk_iload hC jd_H_fewestCuts_91 5 rfl ?_
        refine hk_icmp_gt (tgt := 122) hC jd_H_fewestCuts_93 (by decide) (fun cc3 => ?_) (fun cc3 => ?_)
        · replace h := xi_t h cc3
          exact hk_lv [1, 2, 3, 4, 5, 6, 7, 8, 9] rfl (B_122 f_told f_heights f_layerWords g_kindsOfCows x2 x3 x4 x5 x6 x7 x8 x9 kh53 kx149 ihh53 ihx149 h)
        · replace h := xi_f h cc3
          refine hk_iload hC jd_H_fewestCuts_96 7 rfl ?_
          refine hk_iload hC jd_H_fewestCuts_98 9 rfl ?_
          refine hk_iadd hC jd_H_fewestCuts_100 ?_
          refine hk_iload hC jd_H_fewestCuts_101 0 rfl ?_
          refine hk_iadd hC jd_H_fewestCuts_103 ?_
          obtain ⟨v1, e_v1, h⟩ := xl_go h
          refine hk_istore hC (i := 5) (y := v1) (lv2 := [(5, .int v1), (10, .int q2), (0, .ref (a 0)), (2, .int x2), (3, .int x3), (4, .int x4), (6, .int x6), (7, .int x7), (8, .int x8), (9, .int x9)]) jd_H_fewestCuts_104 e_v1 (by decide) rfl ?_
          refine hk_bipush (v := 100) hC jd_H_fewestCuts_106 (by decide) ?_
          refine hk_iload hC jd_H_fewestCuts_108 7 rfl ?_
          refine hk_imul hC jd_H_fewestCuts_110 ?_
          refine hk_bipush (v := 10) hC jd_H_fewestCuts_111 (by decide) ?_
          refine hk_iload hC jd_H_fewestCuts_113 9 rfl ?_
          refine hk_imul hC jd_H_fewestCuts_115 ?_
          refine hk_iadd hC jd_H_fewestCuts_116 ?_
          refine hk_iload hC jd_H_fewestCuts_117 1 rfl ?_
          refine hk_iadd hC jd_H_fewestCuts_119 ?_
          obtain ⟨v2, e_v2, h⟩ := xl_go h
          refine hk_istore hC (i := 4) (y := v2) (lv2 := [(4, .int v2), (5, .int v1), (10, .int q2), (0, .ref (a 0)), (2, .int x2), (3, .int x3), (6, .int x6), (7, .int x7), (8, .int x8), (9, .int x9)]) jd_H_fewestCuts_120 e_v2 (by decide) rfl ?_
          exact hk_lv [3, 4, 5, 0, 1, 6, 7, 8, 9] rfl (B_122 f_told f_heights f_layerWords g_kindsOfCows x2 x3 v2 v1 x6 x7 x8 x9 kh53 kx149 ihh53 ihx149 h)
  have L_53 : ∀ (f_told : Nat → Int32) (f_heights : Nat → Int32) (f_layerWords : Nat → Int32) (g_kindsOfCows : Nat → Int32) (x2 : Int32) (x3 : Int32) (x4 : Int32) (x5 : Int32) (x6 : Int32) (x7 : Int32) (x8 : Int32) (x9 : Int32) (kx149 : (Int32 × Int32) → Option (Int32)) (ihx149 : ∀ q, kx149 q = some o → hk_W p l e jr_H_fewestCuts s m args below meth c A (hk_Zi below args s D A o ((wH a aText aField aTrial aPast aKept aSeen aLand aDraft) ++ ((wF cI aField f_lying f_damp f_told f_heights f_burnt f_layerWords f_layerWetness f_layerHeat f_hours) ++ (wL cI aLand g_speeches g_speechLengths g_weather g_kindsOfCows g_thatches g_weatherLength g_mowers g_cows g_ricks)))) 11 D 0 0 ((wH a aText aField aTrial aPast aKept aSeen aLand aDraft) ++ ((wF cI aField f_lying f_damp f_told f_heights f_burnt f_layerWords f_layerWetness f_layerHeat f_hours) ++ (wL cI aLand g_speeches g_speechLengths g_weather g_kindsOfCows g_thatches g_weatherLength g_mowers g_cows g_ricks))) 149 [(0, .ref (a 0)), (2, .int x2), (3, .int x3), (4, .int q.1), (5, .int q.2), (6, .int x6), (7, .int x7)] []) (_ : jf_H_fewestCuts_53 N f_told f_heights f_layerWords g_kindsOfCows x2 x3 x4 x5 x6 x7 x8 x9 kx149 = some o), hk_W p l e jr_H_fewestCuts s m args below meth c A (hk_Zi below args s D A o ((wH a aText aField aTrial aPast aKept aSeen aLand aDraft) ++ ((wF cI aField f_lying f_damp f_told f_heights f_burnt f_layerWords f_layerWetness f_layerHeat f_hours) ++ (wL cI aLand g_speeches g_speechLengths g_weather g_kindsOfCows g_thatches g_weatherLength g_mowers g_cows g_ricks)))) 11 D 0 0 ((wH a aText aField aTrial aPast aKept aSeen aLand aDraft) ++ ((wF cI aField f_lying f_damp f_told f_heights f_burnt f_layerWords f_layerWetness f_layerHeat f_hours) ++ (wL cI aLand g_speeches g_speechLengths g_weather g_kindsOfCows g_thatches g_weatherLength g_mowers g_cows g_ricks))) 53 [(0, .ref (a 0)), (2, .int x2), (3, .int x3), (4, .int x4), (5, .int x5), (6, .int x6), (7, .int x7), (8, .int x8), (9, .int x9)] [] := by
    intro f_told f_heights f_layerWords g_kindsOfCows x2 x3 x4 x5 x6 x7 x8 x9 kx149 ihx149 h
    exact xloopW (fun (q : Int32 × Int32 × Int32 × Int32) => hk_W p l e jr_H_fewestCuts s m args below meth c A (hk_Zi below args s D A o ((wH a aText aField aTrial aPast aKept aSeen aLand aDraft) ++ ((wF cI aField f_lying f_damp f_told f_heights f_burnt f_layerWords f_layerWetness f_layerHeat f_hours) ++ (wL cI aLand g_speeches g_speechLengths g_weather g_kindsOfCows g_thatches g_weatherLength g_mowers g_cows g_ricks)))) 11 D 0 0 ((wH a aText aField aTrial aPast aKept aSeen aLand aDraft) ++ ((wF cI aField f_lying f_damp f_told f_heights f_burnt f_layerWords f_layerWetness f_layerHeat f_hours) ++ (wL cI aLand g_speeches g_speechLengths g_weather g_kindsOfCows g_thatches g_weatherLength g_mowers g_cows g_ricks))) 53 [(0, .ref (a 0)), (2, .int x2), (3, .int x3), (4, .int q.1), (5, .int q.2.1), (6, .int x6), (7, .int x7), (8, .int q.2.2.1), (9, .int q.2.2.2)] []) (fun kh ih q h => B_53 f_told f_heights f_layerWords g_kindsOfCows x2 x3 q.1 q.2.1 x6 x7 q.2.2.1 q.2.2.2 kh kx149 ih ihx149 h) N (x4, x5, x8, x9) h
  have B_149 : ∀ (f_told : Nat → Int32) (f_heights : Nat → Int32) (f_layerWords : Nat → Int32) (g_kindsOfCows : Nat → Int32) (x2 : Int32) (x3 : Int32) (x4 : Int32) (x5 : Int32) (x6 : Int32) (x7 : Int32) (kh33 : (Int32 × Int32 × Int32 × Int32) → Option (Int32)) (ihh33 : ∀ q, kh33 q = some o → hk_W p l e jr_H_fewestCuts s m args below meth c A (hk_Zi below args s D A o ((wH a aText aField aTrial aPast aKept aSeen aLand aDraft) ++ ((wF cI aField f_lying f_damp f_told f_heights f_burnt f_layerWords f_layerWetness f_layerHeat f_hours) ++ (wL cI aLand g_speeches g_speechLengths g_weather g_kindsOfCows g_thatches g_weatherLength g_mowers g_cows g_ricks)))) 11 D 0 0 ((wH a aText aField aTrial aPast aKept aSeen aLand aDraft) ++ ((wF cI aField f_lying f_damp f_told f_heights f_burnt f_layerWords f_layerWetness f_layerHeat f_hours) ++ (wL cI aLand g_speeches g_speechLengths g_weather g_kindsOfCows g_thatches g_weatherLength g_mowers g_cows g_ricks))) 33 [(0, .ref (a 0)), (2, .int x2), (3, .int x3), (4, .int q.1), (5, .int q.2.1), (6, .int q.2.2.1), (7, .int q.2.2.2)] []) (_ : jf_H_fewestCuts_149 N f_told f_heights f_layerWords g_kindsOfCows x2 x3 x4 x5 x6 x7 kh33 = some o), hk_W p l e jr_H_fewestCuts s m args below meth c A (hk_Zi below args s D A o ((wH a aText aField aTrial aPast aKept aSeen aLand aDraft) ++ ((wF cI aField f_lying f_damp f_told f_heights f_burnt f_layerWords f_layerWetness f_layerHeat f_hours) ++ (wL cI aLand g_speeches g_speechLengths g_weather g_kindsOfCows g_thatches g_weatherLength g_mowers g_cows g_ricks)))) 11 D 0 0 ((wH a aText aField aTrial aPast aKept aSeen aLand aDraft) ++ ((wF cI aField f_lying f_damp f_told f_heights f_burnt f_layerWords f_layerWetness f_layerHeat f_hours) ++ (wL cI aLand g_speeches g_speechLengths g_weather g_kindsOfCows g_thatches g_weatherLength g_mowers g_cows g_ricks))) 149 [(0, .ref (a 0)), (2, .int x2), (3, .int x3), (4, .int x4), (5, .int x5), (6, .int x6), (7, .int x7)] [] := by
    intro f_told f_heights f_layerWords g_kindsOfCows x2 x3 x4 x5 x6 x7 kh33 ihh33 h
    delta jf_H_fewestCuts_149 at h
    refine hk_iload hC jd_H_fewestCuts_149 5 rfl ?_
    refine hk_iload_n hC jd_H_fewestCuts_151 2 rfl ?_
    refine hk_aload_n hC jd_H_fewestCuts_152 0 rfl ?_
    refine hk_get hC jk_H _ (at_l (k := 0) rfl) 1 (by decide) jq_273 rfl jd_H_fewestCuts_153 ?_
    refine hk_iconst (v := 0) hC jd_H_fewestCuts_156 (by decide) ?_
    refine hk_iload hC jd_H_fewestCuts_157 6 rfl ?_
    obtain ⟨q1, h_q1, h⟩ := xb_go h
    refine hk_callVBi hC (jc_F_wordsFromTop l D cI cF N aField f_lying f_damp f_told f_heights f_burnt f_layerWords f_layerWetness f_layerHeat f_hours (0 : Int32) x7 h_q1) jl_F_wordsFromTop rfl (List.mem_of_getElem? (at_r (at_l (k := 0) rfl))) jq_530 jq_477 jq_478 rfl ⟨by decide, by decide⟩ (pm_3_1 _ _ _) (pm_3_1 _ _ _) rfl (ws2 := ((wH a aText aField aTrial aPast aKept aSeen aLand aDraft) ++ ((wF cI aField f_lying f_damp f_told f_heights f_burnt f_layerWords f_layerWetness f_layerHeat f_hours) ++ (wL cI aLand g_speeches g_speechLengths g_weather g_kindsOfCows g_thatches g_weatherLength g_mowers g_cows g_ricks)))) rfl (Nat.le_of_ble_eq_true rfl) ⟨Nat.zero_le _, Nat.zero_le _⟩ jd_H_fewestCuts_159 ?_
    refine hk_iload hC jd_H_fewestCuts_162 5 rfl ?_
    obtain ⟨q2, h_q2, h⟩ := xb_go h
    refine hk_callS0i hC (jc_H_heardBy l D cI cF N x3 q1 x6 h_q2) jl_H_heardBy jq_531 jq_482 rfl ⟨by decide, by decide⟩ rfl (Nat.le_of_ble_eq_true rfl) ⟨Nat.zero_le _, Nat.zero_le _⟩ jd_H_fewestCuts_164 ?_
    refine hk_ior hC jd_H_fewestCuts_167 ?_
    obtain ⟨v1, e_v1, h⟩ := xl_go h
    refine hk_istore hC (i := 6) (y := v1) (lv2 := [(6, .int v1), (0, .ref (a 0)), (2, .int x2), (3, .int x3), (4, .int x4), (5, .int x5), (7, .int x7)]) jd_H_fewestCuts_168 e_v1 (by decide) rfl ?_
    obtain ⟨v2, e_v2, h⟩ := xl_go h
    refine hk_iinc hC (lv2 := [(7, .int v2), (6, .int v1), (0, .ref (a 0)), (2, .int x2), (3, .int x3), (4, .int x4), (5, .int x5)]) jd_H_fewestCuts_170 6 rfl e_v2 (by decide) rfl ?_
    refine hk_goto (tgt := 33) hC jd_H_fewestCuts_173 (by decide) ?_
    exact hk_lv [2, 3, 4, 5, 6, 1, 0] rfl (ihh33 (x4, x5, v1, v2) h)
  have B_33 : ∀ (f_told : Nat → Int32) (f_heights : Nat → Int32) (f_layerWords : Nat → Int32) (g_kindsOfCows : Nat → Int32) (x2 : Int32) (x3 : Int32) (x4 : Int32) (x5 : Int32) (x6 : Int32) (x7 : Int32) (kh33 : (Int32 × Int32 × Int32 × Int32) → Option (Int32)) (ihh33 : ∀ q, kh33 q = some o → hk_W p l e jr_H_fewestCuts s m args below meth c A (hk_Zi below args s D A o ((wH a aText aField aTrial aPast aKept aSeen aLand aDraft) ++ ((wF cI aField f_lying f_damp f_told f_heights f_burnt f_layerWords f_layerWetness f_layerHeat f_hours) ++ (wL cI aLand g_speeches g_speechLengths g_weather g_kindsOfCows g_thatches g_weatherLength g_mowers g_cows g_ricks)))) 11 D 0 0 ((wH a aText aField aTrial aPast aKept aSeen aLand aDraft) ++ ((wF cI aField f_lying f_damp f_told f_heights f_burnt f_layerWords f_layerWetness f_layerHeat f_hours) ++ (wL cI aLand g_speeches g_speechLengths g_weather g_kindsOfCows g_thatches g_weatherLength g_mowers g_cows g_ricks))) 33 [(0, .ref (a 0)), (2, .int x2), (3, .int x3), (4, .int q.1), (5, .int q.2.1), (6, .int q.2.2.1), (7, .int q.2.2.2)] []) (_ : jf_H_fewestCuts_33B N f_told f_heights f_layerWords g_kindsOfCows x2 x3 x4 x5 x6 x7 kh33 = some o), hk_W p l e jr_H_fewestCuts s m args below meth c A (hk_Zi below args s D A o ((wH a aText aField aTrial aPast aKept aSeen aLand aDraft) ++ ((wF cI aField f_lying f_damp f_told f_heights f_burnt f_layerWords f_layerWetness f_layerHeat f_hours) ++ (wL cI aLand g_speeches g_speechLengths g_weather g_kindsOfCows g_thatches g_weatherLength g_mowers g_cows g_ricks)))) 11 D 0 0 ((wH a aText aField aTrial aPast aKept aSeen aLand aDraft) ++ ((wF cI aField f_lying f_damp f_told f_heights f_burnt f_layerWords f_layerWetness f_layerHeat f_hours) ++ (wL cI aLand g_speeches g_speechLengths g_weather g_kindsOfCows g_thatches g_weatherLength g_mowers g_cows g_ricks))) 33 [(0, .ref (a 0)), (2, .int x2), (3, .int x3), (4, .int x4), (5, .int x5), (6, .int x6), (7, .int x7)] [] := by
    intro f_told f_heights f_layerWords g_kindsOfCows x2 x3 x4 x5 x6 x7 kh33 ihh33 h
    delta jf_H_fewestCuts_33B at h
    refine hk_iload hC jd_H_fewestCuts_33 6 rfl ?_
    refine hk_aload_n hC jd_H_fewestCuts_35 0 rfl ?_
    refine hk_get hC jk_H _ (at_l (k := 0) rfl) 1 (by decide) jq_273 rfl jd_H_fewestCuts_36 ?_
    refine hk_iconst (v := 0) hC jd_H_fewestCuts_39 (by decide) ?_
    obtain ⟨q1, h_q1, h⟩ := xb_go h
    refine hk_callVBi hC (jc_F_heightOf l D cI cF N aField f_lying f_damp f_told f_heights f_burnt f_layerWords f_layerWetness f_layerHeat f_hours (0 : Int32) h_q1) jl_F_heightOf rfl (List.mem_of_getElem? (at_r (at_l (k := 0) rfl))) jq_375 jq_376 jq_377 rfl ⟨by decide, by decide⟩ (pm_3_1 _ _ _) (pm_3_1 _ _ _) rfl (ws2 := ((wH a aText aField aTrial aPast aKept aSeen aLand aDraft) ++ ((wF cI aField f_lying f_damp f_told f_heights f_burnt f_layerWords f_layerWetness f_layerHeat f_hours) ++ (wL cI aLand g_speeches g_speechLengths g_weather g_kindsOfCows g_thatches g_weatherLength g_mowers g_cows g_ricks)))) rfl (Nat.le_of_ble_eq_true rfl) ⟨Nat.zero_le _, Nat.zero_le _⟩ jd_H_fewestCuts_40 ?_
    refine hk_icmp_gt (tgt := 176) hC jd_H_fewestCuts_43 (by decide) (fun cc1 => ?_) (fun cc1 => ?_)
    · replace h := xi_t h cc1
      refine hk_iload hC jd_H_fewestCuts_176 3 rfl ?_
      obtain rfl := Option.some.inj h
      exact hk_iret hC hr jd_H_fewestCuts_178 rfl rfl
    · replace h := xi_f h cc1
      refine hk_iload hC jd_H_fewestCuts_46 5 rfl ?_
      refine hk_istore hC (i := 8) (y := x6) (lv2 := [(8, .int x6), (0, .ref (a 0)), (2, .int x2), (3, .int x3), (4, .int x4), (5, .int x5), (6, .int x6), (7, .int x7)]) jd_H_fewestCuts_48 rfl (by decide) rfl ?_
      refine hk_iconst (v := 0) hC jd_H_fewestCuts_50 (by decide) ?_
      refine hk_istore hC (i := 9) (y := (0 : Int32)) (lv2 := [(9, .int (0 : Int32)), (8, .int x6), (0, .ref (a 0)), (2, .int x2), (3, .int x3), (4, .int x4), (5, .int x5), (6, .int x6), (7, .int x7)]) jd_H_fewestCuts_51 rfl (by decide) rfl ?_
      exact hk_lv [2, 3, 4, 5, 6, 7, 8, 1, 0] rfl (L_53 f_told f_heights f_layerWords g_kindsOfCows x2 x3 x4 x5 x6 x7 x6 (0 : Int32) _ (fun q2 h => by exact (B_149 f_told f_heights f_layerWords g_kindsOfCows x2 x3 q2.1 q2.2 x6 x7 kh33 ihh33 h)) h)
  have L_33 : ∀ (f_told : Nat → Int32) (f_heights : Nat → Int32) (f_layerWords : Nat → Int32) (g_kindsOfCows : Nat → Int32) (x2 : Int32) (x3 : Int32) (x4 : Int32) (x5 : Int32) (x6 : Int32) (x7 : Int32)   (_ : jf_H_fewestCuts_33 N f_told f_heights f_layerWords g_kindsOfCows x2 x3 x4 x5 x6 x7  = some o), hk_W p l e jr_H_fewestCuts s m args below meth c A (hk_Zi below args s D A o ((wH a aText aField aTrial aPast aKept aSeen aLand aDraft) ++ ((wF cI aField f_lying f_damp f_told f_heights f_burnt f_layerWords f_layerWetness f_layerHeat f_hours) ++ (wL cI aLand g_speeches g_speechLengths g_weather g_kindsOfCows g_thatches g_weatherLength g_mowers g_cows g_ricks)))) 11 D 0 0 ((wH a aText aField aTrial aPast aKept aSeen aLand aDraft) ++ ((wF cI aField f_lying f_damp f_told f_heights f_burnt f_layerWords f_layerWetness f_layerHeat f_hours) ++ (wL cI aLand g_speeches g_speechLengths g_weather g_kindsOfCows g_thatches g_weatherLength g_mowers g_cows g_ricks))) 33 [(0, .ref (a 0)), (2, .int x2), (3, .int x3), (4, .int x4), (5, .int x5), (6, .int x6), (7, .int x7)] [] := by
    intro f_told f_heights f_layerWords g_kindsOfCows x2 x3 x4 x5 x6 x7   h
    exact xloopW (fun (q : Int32 × Int32 × Int32 × Int32) => hk_W p l e jr_H_fewestCuts s m args below meth c A (hk_Zi below args s D A o ((wH a aText aField aTrial aPast aKept aSeen aLand aDraft) ++ ((wF cI aField f_lying f_damp f_told f_heights f_burnt f_layerWords f_layerWetness f_layerHeat f_hours) ++ (wL cI aLand g_speeches g_speechLengths g_weather g_kindsOfCows g_thatches g_weatherLength g_mowers g_cows g_ricks)))) 11 D 0 0 ((wH a aText aField aTrial aPast aKept aSeen aLand aDraft) ++ ((wF cI aField f_lying f_damp f_told f_heights f_burnt f_layerWords f_layerWetness f_layerHeat f_hours) ++ (wL cI aLand g_speeches g_speechLengths g_weather g_kindsOfCows g_thatches g_weatherLength g_mowers g_cows g_ricks))) 33 [(0, .ref (a 0)), (2, .int x2), (3, .int x3), (4, .int q.1), (5, .int q.2.1), (6, .int q.2.2.1), (7, .int q.2.2.2)] []) (fun kh ih q h => B_33 f_told f_heights f_layerWords g_kindsOfCows x2 x3 q.1 q.2.1 q.2.2.1 q.2.2.2 kh  ih  h) N (x4, x5, x6, x7) h
  delta jf_H_fewestCuts at h
  refine hk_aload_n hC jd_H_fewestCuts_0 0 rfl ?_
  refine hk_get hC jk_H _ (at_l (k := 0) rfl) 6 (by decide) jq_278 rfl jd_H_fewestCuts_1 ?_
  refine hk_iload_n hC jd_H_fewestCuts_4 1 rfl ?_
  obtain ⟨q1, h_q1, h⟩ := xb_go h
  refine hk_callVBi hC (jc_L_kindOf l D cI cF N aLand g_speeches g_speechLengths g_weather g_kindsOfCows g_thatches g_weatherLength g_mowers g_cows g_ricks x1 h_q1) jl_L_kindOf rfl (List.mem_of_getElem? (at_r (at_r (k := 0) rfl))) jq_359 jq_360 jq_361 rfl ⟨by decide, by decide⟩ (pm_3_2 _ _ _) (pm_3_2 _ _ _) rfl (ws2 := ((wH a aText aField aTrial aPast aKept aSeen aLand aDraft) ++ ((wF cI aField f_lying f_damp f_told f_heights f_burnt f_layerWords f_layerWetness f_layerHeat f_hours) ++ (wL cI aLand g_speeches g_speechLengths g_weather g_kindsOfCows g_thatches g_weatherLength g_mowers g_cows g_ricks)))) rfl (Nat.le_of_ble_eq_true rfl) ⟨Nat.zero_le _, Nat.zero_le _⟩ jd_H_fewestCuts_5 ?_
  refine hk_istore_n hC (i := 3) (y := q1) (lv2 := [(3, .int q1), (0, .ref (a 0)), (1, .int x1), (2, .int x2)]) jd_H_fewestCuts_8 rfl rfl (by decide) rfl ?_
  refine hk_bipush (v := -4) hC jd_H_fewestCuts_9 (by decide) ?_
  refine hk_istore hC (i := 4) (y := (-4 : Int32)) (lv2 := [(4, .int (-4 : Int32)), (3, .int q1), (0, .ref (a 0)), (1, .int x1), (2, .int x2)]) jd_H_fewestCuts_11 rfl (by decide) rfl ?_
  refine hk_bipush (v := 24) hC jd_H_fewestCuts_13 (by decide) ?_
  refine hk_istore hC (i := 5) (y := (24 : Int32)) (lv2 := [(5, .int (24 : Int32)), (4, .int (-4 : Int32)), (3, .int q1), (0, .ref (a 0)), (1, .int x1), (2, .int x2)]) jd_H_fewestCuts_15 rfl (by decide) rfl ?_
  refine hk_aload_n hC jd_H_fewestCuts_17 3 rfl ?_
  refine hk_get hC jk_H _ (at_l (k := 0) rfl) 1 (by decide) jq_273 rfl jd_H_fewestCuts_18 ?_
  refine hk_getN hC jk_F _ (at_r (at_l (k := 0) rfl)) 2 (by decide) jq_51 rfl jd_H_fewestCuts_21 ?_
  refine hk_iload_n hC jd_H_fewestCuts_24 4 rfl ?_
  obtain ⟨q2, h_q2, h⟩ := xb_go h
  refine hk_callSi hC (jc_R_at l D cI cF N (fun _ => (aField 3)) 4 f_told x1 h_q2) jl_R_at jq_350 jq_345 rfl ⟨by decide, by decide⟩ [_] (congrArg (fun z => [z]) (at_r (at_l (k := 3) rfl))) rfl rfl (ws2 := ((wH a aText aField aTrial aPast aKept aSeen aLand aDraft) ++ ((wF cI aField f_lying f_damp f_told f_heights f_burnt f_layerWords f_layerWetness f_layerHeat f_hours) ++ (wL cI aLand g_speeches g_speechLengths g_weather g_kindsOfCows g_thatches g_weatherLength g_mowers g_cows g_ricks)))) (set_r (set_l (Nat.le_of_ble_eq_true rfl) rfl)) rfl (Nat.le_of_ble_eq_true rfl) ⟨Nat.zero_le _, Nat.zero_le _⟩ jd_H_fewestCuts_25 ?_
  refine hk_istore hC (i := 6) (y := q2) (lv2 := [(6, .int q2), (5, .int (24 : Int32)), (4, .int (-4 : Int32)), (3, .int q1), (0, .ref (a 0)), (1, .int x1), (2, .int x2)]) jd_H_fewestCuts_28 rfl (by decide) rfl ?_
  refine hk_iconst (v := 0) hC jd_H_fewestCuts_30 (by decide) ?_
  refine hk_istore hC (i := 7) (y := (0 : Int32)) (lv2 := [(7, .int (0 : Int32)), (6, .int q2), (5, .int (24 : Int32)), (4, .int (-4 : Int32)), (3, .int q1), (0, .ref (a 0)), (1, .int x1), (2, .int x2)]) jd_H_fewestCuts_31 rfl (by decide) rfl ?_
  exact hk_lv [5, 7, 4, 3, 2, 1, 0] rfl (L_33 f_told f_heights f_layerWords g_kindsOfCows x2 q1 (-4 : Int32) (24 : Int32) q2 (0 : Int32)   h)
theorem jc_H_fewestCuts (l : Launch) (D : va_G) (cI cF : ClassId) (N : Nat) (a : Nat → Nat) (aText : Nat → Nat) (aField : Nat → Nat) (aTrial : Nat → Nat) (aPast : Nat → Nat) (aKept : Nat → Nat) (aSeen : Nat → Nat) (aLand : Nat → Nat) (aDraft : Nat → Nat)  (f_lying : Nat → Int32) (f_damp : Nat → Int32) (f_told : Nat → Int32) (f_heights : Nat → Int32) (f_burnt : Nat → Int32) (f_layerWords : Nat → Int32) (f_layerWetness : Nat → Int32) (f_layerHeat : Nat → Int32) (f_hours : Int32) (g_speeches : Nat → Int32) (g_speechLengths : Nat → Int32) (g_weather : Nat → Int32) (g_kindsOfCows : Nat → Int32) (g_thatches : Nat → Int32) (g_weatherLength : Int32) (g_mowers : Int32) (g_cows : Int32) (g_ricks : Int32) (x1 : Int32) (x2 : Int32) {o : Int32} (h : jf_H_fewestCuts N f_told f_heights f_layerWords g_kindsOfCows x1 x2 = some o) : hk_Mi l jy_H_fewestCuts jb_H_fewestCuts 11 (some .int) jr_H_fewestCuts D cI cF ((wH a aText aField aTrial aPast aKept aSeen aLand aDraft) ++ ((wF cI aField f_lying f_damp f_told f_heights f_burnt f_layerWords f_layerWetness f_layerHeat f_hours) ++ (wL cI aLand g_speeches g_speechLengths g_weather g_kindsOfCows g_thatches g_weatherLength g_mowers g_cows g_ricks))) [.ref (a 0), .int x1, .int x2] o ((wH a aText aField aTrial aPast aKept aSeen aLand aDraft) ++ ((wF cI aField f_lying f_damp f_told f_heights f_burnt f_layerWords f_layerWetness f_layerHeat f_hours) ++ (wL cI aLand g_speeches g_speechLengths g_weather g_kindsOfCows g_thatches g_weatherLength g_mowers g_cows g_ricks))) :=
  hk_metI (by decide) (Nat.le_of_ble_eq_true rfl) rfl rfl (fun p e s m args below meth c A hC hr => jw_H_fewestCuts hC hr N a aText aField aTrial aPast aKept aSeen aLand aDraft f_lying f_damp f_told f_heights f_burnt f_layerWords f_layerWetness f_layerHeat f_hours g_speeches g_speechLengths g_weather g_kindsOfCows g_thatches g_weatherLength g_mowers g_cows g_ricks x1 x2 h)
set_option maxHeartbeats 8000000 in
set_option maxRecDepth 100000 in
theorem jw_H_tell {p : Program} {l : Launch} {e : Env} {s : State} {m : MethodId} {args : Array Value} {below : List Frame} {meth : Method} {c : Code} {A : Nat → Prop} {D : va_G} {cI cF : ClassId} (hC : hk_ok p s m args meth c A 8 D cI cF "HayTalk" jb_H_tell) (hr : meth.sig.returnType = (some .int)) (N : Nat) (a : Nat → Nat) (aText : Nat → Nat) (aField : Nat → Nat) (aTrial : Nat → Nat) (aPast : Nat → Nat) (aKept : Nat → Nat) (aSeen : Nat → Nat) (aLand : Nat → Nat) (aDraft : Nat → Nat)  (f_lying : Nat → Int32) (f_damp : Nat → Int32) (f_told : Nat → Int32) (f_heights : Nat → Int32) (f_burnt : Nat → Int32) (f_layerWords : Nat → Int32) (f_layerWetness : Nat → Int32) (f_layerHeat : Nat → Int32) (f_hours : Int32) (g_speeches : Nat → Int32) (g_speechLengths : Nat → Int32) (g_weather : Nat → Int32) (g_kindsOfCows : Nat → Int32) (g_thatches : Nat → Int32) (g_weatherLength : Int32) (g_mowers : Int32) (g_cows : Int32) (g_ricks : Int32) (x1 : Int32) (x2 : Int32) (x3 : Int32) {o : Int32} (h : jf_H_tell N f_told f_heights f_layerWords g_kindsOfCows g_cows g_ricks x1 x2 x3 = some o) : hk_W p l e jr_H_tell s m args below meth c A (hk_Zi below args s D A o ((wH a aText aField aTrial aPast aKept aSeen aLand aDraft) ++ ((wF cI aField f_lying f_damp f_told f_heights f_burnt f_layerWords f_layerWetness f_layerHeat f_hours) ++ (wL cI aLand g_speeches g_speechLengths g_weather g_kindsOfCows g_thatches g_weatherLength g_mowers g_cows g_ricks)))) 8 D 0 0 ((wH a aText aField aTrial aPast aKept aSeen aLand aDraft) ++ ((wF cI aField f_lying f_damp f_told f_heights f_burnt f_layerWords f_layerWetness f_layerHeat f_hours) ++ (wL cI aLand g_speeches g_speechLengths g_weather g_kindsOfCows g_thatches g_weatherLength g_mowers g_cows g_ricks))) 0 [(0, .ref (a 0)), (1, .int x1), (2, .int x2), (3, .int x3)] [] := by
  delta jf_H_tell at h
  refine hk_aload_n hC jd_H_tell_0 0 rfl ?_
  refine hk_iload_n hC jd_H_tell_1 1 rfl ?_
  obtain ⟨q1, h_q1, h⟩ := xb_go h
  refine hk_callVBi hC (jc_H_isCow l D cI cF N a aText aField aTrial aPast aKept aSeen aLand aDraft g_speeches g_speechLengths g_weather g_kindsOfCows g_thatches g_weatherLength g_mowers g_cows g_ricks x1 h_q1) jl_H_isCow rfl (List.mem_of_getElem? (at_l (k := 0) rfl)) jq_355 jq_357 jq0_6 rfl ⟨by decide, by decide⟩ (pm_3_0_2 _ _ _) (pm_3_0_2 _ _ _) rfl (ws2 := ((wH a aText aField aTrial aPast aKept aSeen aLand aDraft) ++ ((wF cI aField f_lying f_damp f_told f_heights f_burnt f_layerWords f_layerWetness f_layerHeat f_hours) ++ (wL cI aLand g_speeches g_speechLengths g_weather g_kindsOfCows g_thatches g_weatherLength g_mowers g_cows g_ricks)))) rfl (Nat.le_of_ble_eq_true rfl) ⟨Nat.zero_le _, Nat.zero_le _⟩ jd_H_tell_2 ?_
  refine hk_if_eq (tgt := 35) hC jd_H_tell_5 (by decide) (fun cc1 => ?_) (fun cc1 => ?_)
  · replace h := xi_t h cc1
    refine hk_iconst (v := -1) hC jd_H_tell_35 (by decide) ?_
    obtain rfl := Option.some.inj h
    exact hk_iret hC hr jd_H_tell_36 rfl rfl
  · replace h := xi_f h cc1
    refine hk_iload_n hC jd_H_tell_8 2 rfl ?_
    refine hk_iconst (v := 1) hC jd_H_tell_9 (by decide) ?_
    refine hk_sipush (v := 1023) hC jd_H_tell_10 (by decide) ?_
    obtain ⟨q2, h_q2, h⟩ := xb_go h
    refine hk_callS0i hC (jc_H_isWithin l D cI cF N x2 (1 : Int32) (1023 : Int32) h_q2) jl_H_isWithin jq_302 jq_249 rfl ⟨by decide, by decide⟩ rfl (Nat.le_of_ble_eq_true rfl) ⟨Nat.zero_le _, Nat.zero_le _⟩ jd_H_tell_13 ?_
    refine hk_if_eq (tgt := 35) hC jd_H_tell_16 (by decide) (fun cc2 => ?_) (fun cc2 => ?_)
    · replace h := xi_t h cc2
      refine hk_iconst (v := -1) hC jd_H_tell_35 (by decide) ?_
      obtain rfl := Option.some.inj h
      exact hk_iret hC hr jd_H_tell_36 rfl rfl
    · replace h := xi_f h cc2
      refine hk_iload_n hC jd_H_tell_19 3 rfl ?_
      refine hk_iconst (v := -1) hC jd_H_tell_20 (by decide) ?_
      refine hk_icmp_lt (tgt := 35) hC jd_H_tell_21 (by decide) (fun cc3 => ?_) (fun cc3 => ?_)
      · replace h := xi_t h cc3
        refine hk_iconst (v := -1) hC jd_H_tell_35 (by decide) ?_
        obtain rfl := Option.some.inj h
        exact hk_iret hC hr jd_H_tell_36 rfl rfl
      · replace h := xi_f h cc3
        refine hk_iload_n hC jd_H_tell_24 3 rfl ?_
        refine hk_aload_n hC jd_H_tell_25 0 rfl ?_
        refine hk_get hC jk_H _ (at_l (k := 0) rfl) 6 (by decide) jq_278 rfl jd_H_tell_26 ?_
        refine hk_getN hC jk_L _ (at_r (at_r (k := 0) rfl)) 8 (by decide) jq_139 rfl jd_H_tell_29 ?_
        refine hk_icmp_lt (tgt := 37) hC jd_H_tell_32 (by decide) (fun cc4 => ?_) (fun cc4 => ?_)
        · replace h := xi_t h cc4
          refine hk_aload_n hC jd_H_tell_37 0 rfl ?_
          refine hk_iload_n hC jd_H_tell_38 1 rfl ?_
          refine hk_iload_n hC jd_H_tell_39 2 rfl ?_
          obtain ⟨q3, h_q3, h⟩ := xb_go h
          refine hk_callVWi hC (jc_H_fewestCuts l D cI cF N a aText aField aTrial aPast aKept aSeen aLand aDraft f_lying f_damp f_told f_heights f_burnt f_layerWords f_layerWetness f_layerHeat f_hours g_speeches g_speechLengths g_weather g_kindsOfCows g_thatches g_weatherLength g_mowers g_cows g_ricks x1 x2 h_q3) jl_H_fewestCuts rfl (at_l (k := 0) rfl) jq_522 jq_524 jq0_11 rfl ⟨by decide, by decide⟩ rfl rfl (Nat.le_of_ble_eq_true rfl) ⟨Nat.zero_le _, Nat.zero_le _⟩ jd_H_tell_40 ?_
          refine hk_istore hC (i := 4) (y := q3) (lv2 := [(4, .int q3), (0, .ref (a 0)), (1, .int x1), (2, .int x2), (3, .int x3)]) jd_H_tell_43 rfl (by decide) rfl ?_
          refine hk_iload hC jd_H_tell_45 0 rfl ?_
          refine hk_bipush (v := -4) hC jd_H_tell_47 (by decide) ?_
          refine hk_icmp_ne (tgt := 55) hC jd_H_tell_49 (by decide) (fun cc5 => ?_) (fun cc5 => ?_)
          · replace h := xi_f h cc5
            refine hk_iload hC jd_H_tell_55 0 rfl ?_
            refine hk_bipush (v := 100) hC jd_H_tell_57 (by decide) ?_
            refine hk_idiv hC jd_H_tell_59 (by decide) ?_
            obtain ⟨v1, e_v1, h⟩ := xl_go h
            refine hk_istore hC (i := 5) (y := v1) (lv2 := [(5, .int v1), (4, .int q3), (0, .ref (a 0)), (1, .int x1), (2, .int x2), (3, .int x3)]) jd_H_tell_60 e_v1 (by decide) rfl ?_
            refine hk_iload hC jd_H_tell_62 1 rfl ?_
            refine hk_bipush (v := 10) hC jd_H_tell_64 (by decide) ?_
            refine hk_idiv hC jd_H_tell_66 (by decide) ?_
            refine hk_bipush (v := 10) hC jd_H_tell_67 (by decide) ?_
            refine hk_irem hC jd_H_tell_69 (by decide) ?_
            obtain ⟨v2, e_v2, h⟩ := xl_go h
            refine hk_istore hC (i := 6) (y := v2) (lv2 := [(6, .int v2), (5, .int v1), (4, .int q3), (0, .ref (a 0)), (1, .int x1), (2, .int x2), (3, .int x3)]) jd_H_tell_70 e_v2 (by decide) rfl ?_
            refine hk_iload hC jd_H_tell_72 2 rfl ?_
            refine hk_bipush (v := 10) hC jd_H_tell_74 (by decide) ?_
            refine hk_irem hC jd_H_tell_76 (by decide) ?_
            obtain ⟨v3, e_v3, h⟩ := xl_go h
            refine hk_istore hC (i := 7) (y := v3) (lv2 := [(7, .int v3), (6, .int v2), (5, .int v1), (4, .int q3), (0, .ref (a 0)), (1, .int x1), (2, .int x2), (3, .int x3)]) jd_H_tell_77 e_v3 (by decide) rfl ?_
            refine hk_iload_n hC jd_H_tell_79 7 rfl ?_
            by_cases cc6 : x3 = (0 : Int32)
            · replace h := xi_t h cc6
              refine hk_tabIn (tgt := 108) (off := 28) hC jd_H_tell_80 (by rw [cc6]; decide) (by rw [cc6]; decide) (by rw [cc6]; rfl) (by decide) ?_
              refine hk_iload hC jd_H_tell_108 2 rfl ?_
              obtain rfl := Option.some.inj h
              exact hk_iret hC hr jd_H_tell_110 rfl rfl
            · replace h := xi_f h cc6
              by_cases cc7 : x3 = (1 : Int32)
              · replace h := xi_t h cc7
                refine hk_tabIn (tgt := 111) (off := 31) hC jd_H_tell_80 (by rw [cc7]; decide) (by rw [cc7]; decide) (by rw [cc7]; rfl) (by decide) ?_
                refine hk_iload hC jd_H_tell_111 1 rfl ?_
                obtain rfl := Option.some.inj h
                exact hk_iret hC hr jd_H_tell_113 rfl rfl
              · replace h := xi_f h cc7
                by_cases cc8 : x3 = (2 : Int32)
                · replace h := xi_t h cc8
                  refine hk_tabIn (tgt := 114) (off := 34) hC jd_H_tell_80 (by rw [cc8]; decide) (by rw [cc8]; decide) (by rw [cc8]; rfl) (by decide) ?_
                  refine hk_iload hC jd_H_tell_114 0 rfl ?_
                  obtain rfl := Option.some.inj h
                  exact hk_iret hC hr jd_H_tell_116 rfl rfl
                · replace h := xi_f h cc8
                  refine hk_tabOut (tgt := 117) hC jd_H_tell_80 (hk_tabX 3 (by decide) rfl (lt_s (lt_s (lt_s lt_0 cc6) cc7) cc8)) (by decide) ?_
                  refine hk_iload hC jd_H_tell_117 2 rfl ?_
                  refine hk_iload hC jd_H_tell_119 1 rfl ?_
                  refine hk_iadd hC jd_H_tell_121 ?_
                  refine hk_iload hC jd_H_tell_122 0 rfl ?_
                  refine hk_iadd hC jd_H_tell_124 ?_
                  obtain rfl := Option.some.inj h
                  exact hk_iret hC hr jd_H_tell_125 rfl rfl
          · replace h := xi_t h cc5
            refine hk_bipush (v := -4) hC jd_H_tell_52 (by decide) ?_
            obtain rfl := Option.some.inj h
            exact hk_iret hC hr jd_H_tell_54 rfl rfl
        · replace h := xi_f h cc4
          refine hk_iconst (v := -1) hC jd_H_tell_35 (by decide) ?_
          obtain rfl := Option.some.inj h
          exact hk_iret hC hr jd_H_tell_36 rfl rfl
theorem jc_H_tell (l : Launch) (D : va_G) (cI cF : ClassId) (N : Nat) (a : Nat → Nat) (aText : Nat → Nat) (aField : Nat → Nat) (aTrial : Nat → Nat) (aPast : Nat → Nat) (aKept : Nat → Nat) (aSeen : Nat → Nat) (aLand : Nat → Nat) (aDraft : Nat → Nat)  (f_lying : Nat → Int32) (f_damp : Nat → Int32) (f_told : Nat → Int32) (f_heights : Nat → Int32) (f_burnt : Nat → Int32) (f_layerWords : Nat → Int32) (f_layerWetness : Nat → Int32) (f_layerHeat : Nat → Int32) (f_hours : Int32) (g_speeches : Nat → Int32) (g_speechLengths : Nat → Int32) (g_weather : Nat → Int32) (g_kindsOfCows : Nat → Int32) (g_thatches : Nat → Int32) (g_weatherLength : Int32) (g_mowers : Int32) (g_cows : Int32) (g_ricks : Int32) (x1 : Int32) (x2 : Int32) (x3 : Int32) {o : Int32} (h : jf_H_tell N f_told f_heights f_layerWords g_kindsOfCows g_cows g_ricks x1 x2 x3 = some o) : hk_Mi l jy_H_tell jb_H_tell 8 (some .int) jr_H_tell D cI cF ((wH a aText aField aTrial aPast aKept aSeen aLand aDraft) ++ ((wF cI aField f_lying f_damp f_told f_heights f_burnt f_layerWords f_layerWetness f_layerHeat f_hours) ++ (wL cI aLand g_speeches g_speechLengths g_weather g_kindsOfCows g_thatches g_weatherLength g_mowers g_cows g_ricks))) [.ref (a 0), .int x1, .int x2, .int x3] o ((wH a aText aField aTrial aPast aKept aSeen aLand aDraft) ++ ((wF cI aField f_lying f_damp f_told f_heights f_burnt f_layerWords f_layerWetness f_layerHeat f_hours) ++ (wL cI aLand g_speeches g_speechLengths g_weather g_kindsOfCows g_thatches g_weatherLength g_mowers g_cows g_ricks))) :=
  hk_metI (by decide) (Nat.le_of_ble_eq_true rfl) rfl rfl (fun p e s m args below meth c A hC hr => jw_H_tell hC hr N a aText aField aTrial aPast aKept aSeen aLand aDraft f_lying f_damp f_told f_heights f_burnt f_layerWords f_layerWetness f_layerHeat f_hours g_speeches g_speechLengths g_weather g_kindsOfCows g_thatches g_weatherLength g_mowers g_cows g_ricks x1 x2 x3 h)
set_option maxHeartbeats 8000000 in
set_option maxRecDepth 100000 in
theorem jw_H_rakes {p : Program} {l : Launch} {e : Env} {s : State} {m : MethodId} {args : Array Value} {below : List Frame} {meth : Method} {c : Code} {A : Nat → Prop} {D : va_G} {cI cF : ClassId} (hC : hk_ok p s m args meth c A 8 D cI cF "HayTalk" jb_H_rakes) (hr : meth.sig.returnType = (some .int)) (N : Nat) (a : Nat → Nat) (aText : Nat → Nat) (aField : Nat → Nat) (aTrial : Nat → Nat) (aPast : Nat → Nat) (aKept : Nat → Nat) (aSeen : Nat → Nat) (aLand : Nat → Nat) (aDraft : Nat → Nat)  (f_lying : Nat → Int32) (f_damp : Nat → Int32) (f_told : Nat → Int32) (f_heights : Nat → Int32) (f_burnt : Nat → Int32) (f_layerWords : Nat → Int32) (f_layerWetness : Nat → Int32) (f_layerHeat : Nat → Int32) (f_hours : Int32) (g_speeches : Nat → Int32) (g_speechLengths : Nat → Int32) (g_weather : Nat → Int32) (g_kindsOfCows : Nat → Int32) (g_thatches : Nat → Int32) (g_weatherLength : Int32) (g_mowers : Int32) (g_cows : Int32) (g_ricks : Int32) (x1 : Int32) {o : Int32} (h : jf_H_rakes N f_lying g_mowers x1 = some o) : hk_W p l e jr_H_rakes s m args below meth c A (hk_Zi below args s D A o ((wH a aText aField aTrial aPast aKept aSeen aLand aDraft) ++ ((wF cI aField f_lying f_damp f_told f_heights f_burnt f_layerWords f_layerWetness f_layerHeat f_hours) ++ (wL cI aLand g_speeches g_speechLengths g_weather g_kindsOfCows g_thatches g_weatherLength g_mowers g_cows g_ricks)))) 8 D 0 0 ((wH a aText aField aTrial aPast aKept aSeen aLand aDraft) ++ ((wF cI aField f_lying f_damp f_told f_heights f_burnt f_layerWords f_layerWetness f_layerHeat f_hours) ++ (wL cI aLand g_speeches g_speechLengths g_weather g_kindsOfCows g_thatches g_weatherLength g_mowers g_cows g_ricks))) 0 [(0, .ref (a 0)), (1, .int x1)] [] := by
  have B_106 : ∀ (f_lying : Nat → Int32) (g_mowers : Int32) (x1 : Int32) (x2 : Int32) (x3 : Int32) (x4 : Int32) (x5 : Int32) (kh38 : (Int32 × Int32 × Int32) → Option (Int32)) (kx112 : (Int32 × Int32) → Option (Int32)) (ihh38 : ∀ q, kh38 q = some o → hk_W p l e jr_H_rakes s m args below meth c A (hk_Zi below args s D A o ((wH a aText aField aTrial aPast aKept aSeen aLand aDraft) ++ ((wF cI aField f_lying f_damp f_told f_heights f_burnt f_layerWords f_layerWetness f_layerHeat f_hours) ++ (wL cI aLand g_speeches g_speechLengths g_weather g_kindsOfCows g_thatches g_weatherLength g_mowers g_cows g_ricks)))) 8 D 0 0 ((wH a aText aField aTrial aPast aKept aSeen aLand aDraft) ++ ((wF cI aField f_lying f_damp f_told f_heights f_burnt f_layerWords f_layerWetness f_layerHeat f_hours) ++ (wL cI aLand g_speeches g_speechLengths g_weather g_kindsOfCows g_thatches g_weatherLength g_mowers g_cows g_ricks))) 38 [(0, .ref (a 0)), (1, .int x1), (2, .int q.1), (3, .int q.2.1), (4, .int x4), (5, .int q.2.2)] []) (ihx112 : ∀ q, kx112 q = some o → hk_W p l e jr_H_rakes s m args below meth c A (hk_Zi below args s D A o ((wH a aText aField aTrial aPast aKept aSeen aLand aDraft) ++ ((wF cI aField f_lying f_damp f_told f_heights f_burnt f_layerWords f_layerWetness f_layerHeat f_hours) ++ (wL cI aLand g_speeches g_speechLengths g_weather g_kindsOfCows g_thatches g_weatherLength g_mowers g_cows g_ricks)))) 8 D 0 0 ((wH a aText aField aTrial aPast aKept aSeen aLand aDraft) ++ ((wF cI aField f_lying f_damp f_told f_heights f_burnt f_layerWords f_layerWetness f_layerHeat f_hours) ++ (wL cI aLand g_speeches g_speechLengths g_weather g_kindsOfCows g_thatches g_weatherLength g_mowers g_cows g_ricks))) 112 [(0, .ref (a 0)), (1, .int x1), (2, .int q.1), (3, .int q.2), (4, .int x4)] []) (_ : jf_H_rakes_106 N f_lying g_mowers x1 x2 x3 x4 x5 kh38 kx112 = some o), hk_W p l e jr_H_rakes s m args below meth c A (hk_Zi below args s D A o ((wH a aText aField aTrial aPast aKept aSeen aLand aDraft) ++ ((wF cI aField f_lying f_damp f_told f_heights f_burnt f_layerWords f_layerWetness f_layerHeat f_hours) ++ (wL cI aLand g_speeches g_speechLengths g_weather g_kindsOfCows g_thatches g_weatherLength g_mowers g_cows g_ricks)))) 8 D 0 0 ((wH a aText aField aTrial aPast aKept aSeen aLand aDraft) ++ ((wF cI aField f_lying f_damp f_told f_heights f_burnt f_layerWords f_layerWetness f_layerHeat f_hours) ++ (wL cI aLand g_speeches g_speechLengths g_weather g_kindsOfCows g_thatches g_weatherLength g_mowers g_cows g_ricks))) 106 [(0, .ref (a 0)), (1, .int x1), (2, .int x2), (3, .int x3), (4, .int x4), (5, .int x5)] [] := by
    intro f_lying g_mowers x1 x2 x3 x4 x5 kh38 kx112 ihh38 ihx112 h
    delta jf_H_rakes_106 at h
    obtain ⟨v1, e_v1, h⟩ := xl_go h
    refine hk_iinc hC (lv2 := [(5, .int v1), (0, .ref (a 0)), (1, .int x1), (2, .int x2), (3, .int x3), (4, .int x4)]) jd_H_rakes_106 5 rfl e_v1 (by decide) rfl ?_
    refine hk_goto (tgt := 38) hC jd_H_rakes_109 (by decide) ?_
    exact hk_lv [1, 2, 3, 4, 5, 0] rfl (ihh38 (x2, x3, v1) h)
  have B_94 : ∀ (f_lying : Nat → Int32) (g_mowers : Int32) (x1 : Int32) (x4 : Int32) (x5 : Int32) (x7 : Int32) (kh38 : (Int32 × Int32 × Int32) → Option (Int32)) (kx112 : (Int32 × Int32) → Option (Int32)) (ihh38 : ∀ q, kh38 q = some o → hk_W p l e jr_H_rakes s m args below meth c A (hk_Zi below args s D A o ((wH a aText aField aTrial aPast aKept aSeen aLand aDraft) ++ ((wF cI aField f_lying f_damp f_told f_heights f_burnt f_layerWords f_layerWetness f_layerHeat f_hours) ++ (wL cI aLand g_speeches g_speechLengths g_weather g_kindsOfCows g_thatches g_weatherLength g_mowers g_cows g_ricks)))) 8 D 0 0 ((wH a aText aField aTrial aPast aKept aSeen aLand aDraft) ++ ((wF cI aField f_lying f_damp f_told f_heights f_burnt f_layerWords f_layerWetness f_layerHeat f_hours) ++ (wL cI aLand g_speeches g_speechLengths g_weather g_kindsOfCows g_thatches g_weatherLength g_mowers g_cows g_ricks))) 38 [(0, .ref (a 0)), (1, .int x1), (2, .int q.1), (3, .int q.2.1), (4, .int x4), (5, .int q.2.2)] []) (ihx112 : ∀ q, kx112 q = some o → hk_W p l e jr_H_rakes s m args below meth c A (hk_Zi below args s D A o ((wH a aText aField aTrial aPast aKept aSeen aLand aDraft) ++ ((wF cI aField f_lying f_damp f_told f_heights f_burnt f_layerWords f_layerWetness f_layerHeat f_hours) ++ (wL cI aLand g_speeches g_speechLengths g_weather g_kindsOfCows g_thatches g_weatherLength g_mowers g_cows g_ricks)))) 8 D 0 0 ((wH a aText aField aTrial aPast aKept aSeen aLand aDraft) ++ ((wF cI aField f_lying f_damp f_told f_heights f_burnt f_layerWords f_layerWetness f_layerHeat f_hours) ++ (wL cI aLand g_speeches g_speechLengths g_weather g_kindsOfCows g_thatches g_weatherLength g_mowers g_cows g_ricks))) 112 [(0, .ref (a 0)), (1, .int x1), (2, .int q.1), (3, .int q.2), (4, .int x4)] []) (_ : jf_H_rakes_94 N f_lying g_mowers x1 x4 x5 x7 kh38 kx112 = some o), hk_W p l e jr_H_rakes s m args below meth c A (hk_Zi below args s D A o ((wH a aText aField aTrial aPast aKept aSeen aLand aDraft) ++ ((wF cI aField f_lying f_damp f_told f_heights f_burnt f_layerWords f_layerWetness f_layerHeat f_hours) ++ (wL cI aLand g_speeches g_speechLengths g_weather g_kindsOfCows g_thatches g_weatherLength g_mowers g_cows g_ricks)))) 8 D 0 0 ((wH a aText aField aTrial aPast aKept aSeen aLand aDraft) ++ ((wF cI aField f_lying f_damp f_told f_heights f_burnt f_layerWords f_layerWetness f_layerHeat f_hours) ++ (wL cI aLand g_speeches g_speechLengths g_weather g_kindsOfCows g_thatches g_weatherLength g_mowers g_cows g_ricks))) 94 [(0, .ref (a 0)), (1, .int x1), (4, .int x4), (5, .int x5), (7, .int x7)] [] := by
    intro f_lying g_mowers x1 x4 x5 x7 kh38 kx112 ihh38 ihx112 h
    delta jf_H_rakes_94 at h
    refine hk_iload hC jd_H_rakes_94 4 rfl ?_
    refine hk_istore_n hC (i := 3) (y := x7) (lv2 := [(3, .int x7), (0, .ref (a 0)), (1, .int x1), (4, .int x4), (5, .int x5), (7, .int x7)]) jd_H_rakes_96 rfl rfl (by decide) rfl ?_
    refine hk_bipush (v := 10) hC jd_H_rakes_97 (by decide) ?_
    refine hk_iload hC jd_H_rakes_99 3 rfl ?_
    refine hk_imul hC jd_H_rakes_101 ?_
    refine hk_iload hC jd_H_rakes_102 4 rfl ?_
    refine hk_iadd hC jd_H_rakes_104 ?_
    obtain ⟨v1, e_v1, h⟩ := xl_go h
    refine hk_istore_n hC (i := 2) (y := v1) (lv2 := [(2, .int v1), (3, .int x7), (0, .ref (a 0)), (1, .int x1), (4, .int x4), (5, .int x5), (7, .int x7)]) jd_H_rakes_105 rfl e_v1 (by decide) rfl ?_
    exact hk_lv [2, 3, 0, 1, 4, 5] rfl (B_106 f_lying g_mowers x1 v1 x7 x4 x5 kh38 kx112 ihh38 ihx112 h)
  have B_38 : ∀ (f_lying : Nat → Int32) (g_mowers : Int32) (x1 : Int32) (x2 : Int32) (x3 : Int32) (x4 : Int32) (x5 : Int32) (kh38 : (Int32 × Int32 × Int32) → Option (Int32)) (kx112 : (Int32 × Int32) → Option (Int32)) (ihh38 : ∀ q, kh38 q = some o → hk_W p l e jr_H_rakes s m args below meth c A (hk_Zi below args s D A o ((wH a aText aField aTrial aPast aKept aSeen aLand aDraft) ++ ((wF cI aField f_lying f_damp f_told f_heights f_burnt f_layerWords f_layerWetness f_layerHeat f_hours) ++ (wL cI aLand g_speeches g_speechLengths g_weather g_kindsOfCows g_thatches g_weatherLength g_mowers g_cows g_ricks)))) 8 D 0 0 ((wH a aText aField aTrial aPast aKept aSeen aLand aDraft) ++ ((wF cI aField f_lying f_damp f_told f_heights f_burnt f_layerWords f_layerWetness f_layerHeat f_hours) ++ (wL cI aLand g_speeches g_speechLengths g_weather g_kindsOfCows g_thatches g_weatherLength g_mowers g_cows g_ricks))) 38 [(0, .ref (a 0)), (1, .int x1), (2, .int q.1), (3, .int q.2.1), (4, .int x4), (5, .int q.2.2)] []) (ihx112 : ∀ q, kx112 q = some o → hk_W p l e jr_H_rakes s m args below meth c A (hk_Zi below args s D A o ((wH a aText aField aTrial aPast aKept aSeen aLand aDraft) ++ ((wF cI aField f_lying f_damp f_told f_heights f_burnt f_layerWords f_layerWetness f_layerHeat f_hours) ++ (wL cI aLand g_speeches g_speechLengths g_weather g_kindsOfCows g_thatches g_weatherLength g_mowers g_cows g_ricks)))) 8 D 0 0 ((wH a aText aField aTrial aPast aKept aSeen aLand aDraft) ++ ((wF cI aField f_lying f_damp f_told f_heights f_burnt f_layerWords f_layerWetness f_layerHeat f_hours) ++ (wL cI aLand g_speeches g_speechLengths g_weather g_kindsOfCows g_thatches g_weatherLength g_mowers g_cows g_ricks))) 112 [(0, .ref (a 0)), (1, .int x1), (2, .int q.1), (3, .int q.2), (4, .int x4)] []) (_ : jf_H_rakes_38B N f_lying g_mowers x1 x2 x3 x4 x5 kh38 kx112 = some o), hk_W p l e jr_H_rakes s m args below meth c A (hk_Zi below args s D A o ((wH a aText aField aTrial aPast aKept aSeen aLand aDraft) ++ ((wF cI aField f_lying f_damp f_told f_heights f_burnt f_layerWords f_layerWetness f_layerHeat f_hours) ++ (wL cI aLand g_speeches g_speechLengths g_weather g_kindsOfCows g_thatches g_weatherLength g_mowers g_cows g_ricks)))) 8 D 0 0 ((wH a aText aField aTrial aPast aKept aSeen aLand aDraft) ++ ((wF cI aField f_lying f_damp f_told f_heights f_burnt f_layerWords f_layerWetness f_layerHeat f_hours) ++ (wL cI aLand g_speeches g_speechLengths g_weather g_kindsOfCows g_thatches g_weatherLength g_mowers g_cows g_ricks))) 38 [(0, .ref (a 0)), (1, .int x1), (2, .int x2), (3, .int x3), (4, .int x4), (5, .int x5)] [] := by
    intro f_lying g_mowers x1 x2 x3 x4 x5 kh38 kx112 ihh38 ihx112 h
    delta jf_H_rakes_38B at h
    refine hk_iload hC jd_H_rakes_38 5 rfl ?_
    refine hk_aload_n hC jd_H_rakes_40 0 rfl ?_
    refine hk_get hC jk_H _ (at_l (k := 0) rfl) 6 (by decide) jq_278 rfl jd_H_rakes_41 ?_
    refine hk_getN hC jk_L _ (at_r (at_r (k := 0) rfl)) 6 (by decide) jq_133 rfl jd_H_rakes_44 ?_
    refine hk_icmp_ge (tgt := 112) hC jd_H_rakes_47 (by decide) (fun cc1 => ?_) (fun cc1 => ?_)
    · replace h := xi_t h cc1
      exact hk_lv [0, 1, 2, 3, 4] rfl (ihx112 (x2, x3) h)
    · replace h := xi_f h cc1
      refine hk_aload_n hC jd_H_rakes_50 0 rfl ?_
      refine hk_get hC jk_H _ (at_l (k := 0) rfl) 1 (by decide) jq_273 rfl jd_H_rakes_51 ?_
      refine hk_iload hC jd_H_rakes_54 4 rfl ?_
      refine hk_iload hC jd_H_rakes_56 5 rfl ?_
      obtain ⟨q1, h_q1, h⟩ := xb_go h
      refine hk_callVBi hC (jc_F_lyingIn l D cI cF N aField f_lying f_damp f_told f_heights f_burnt f_layerWords f_layerWetness f_layerHeat f_hours x4 x5 h_q1) jl_F_lyingIn rfl (List.mem_of_getElem? (at_r (at_l (k := 0) rfl))) jq_451 jq_452 jq_453 rfl ⟨by decide, by decide⟩ (pm_3_1 _ _ _) (pm_3_1 _ _ _) rfl (ws2 := ((wH a aText aField aTrial aPast aKept aSeen aLand aDraft) ++ ((wF cI aField f_lying f_damp f_told f_heights f_burnt f_layerWords f_layerWetness f_layerHeat f_hours) ++ (wL cI aLand g_speeches g_speechLengths g_weather g_kindsOfCows g_thatches g_weatherLength g_mowers g_cows g_ricks)))) rfl (Nat.le_of_ble_eq_true rfl) ⟨Nat.zero_le _, Nat.zero_le _⟩ jd_H_rakes_58 ?_
      refine hk_istore hC (i := 6) (y := q1) (lv2 := [(6, .int q1), (0, .ref (a 0)), (1, .int x1), (2, .int x2), (3, .int x3), (4, .int x4), (5, .int x5)]) jd_H_rakes_61 rfl (by decide) rfl ?_
      refine hk_iload hC jd_H_rakes_63 0 rfl ?_
      refine hk_iload_n hC jd_H_rakes_65 2 rfl ?_
      refine hk_iconst (v := -1) hC jd_H_rakes_66 (by decide) ?_
      refine hk_ixor hC jd_H_rakes_67 ?_
      refine hk_iand hC jd_H_rakes_68 ?_
      obtain ⟨q2, h_q2, h⟩ := xb_go h
      refine hk_callS0i hC (jc_Integer_bitCount l D cI cF N (q1 &&& (x1 ^^^ (-1 : Int32))) h_q2) jl_Integer_bitCount jq_536 jq_537 rfl ⟨by decide, by decide⟩ rfl (Nat.le_of_ble_eq_true rfl) ⟨Nat.zero_le _, Nat.zero_le _⟩ jd_H_rakes_69 ?_
      refine hk_istore hC (i := 7) (y := q2) (lv2 := [(7, .int q2), (6, .int q1), (0, .ref (a 0)), (1, .int x1), (2, .int x2), (3, .int x3), (4, .int x4), (5, .int x5)]) jd_H_rakes_72 rfl (by decide) rfl ?_
      refine hk_iload hC jd_H_rakes_74 1 rfl ?_
      refine hk_iload_n hC jd_H_rakes_76 3 rfl ?_
      refine hk_iand hC jd_H_rakes_77 ?_
      refine hk_iload_n hC jd_H_rakes_78 3 rfl ?_
      refine hk_icmp_ne (tgt := 106) hC jd_H_rakes_79 (by decide) (fun cc2 => ?_) (fun cc2 => ?_)
      · replace h := xi_f h cc2
        exact hk_lv [2, 3, 4, 5, 6, 7] rfl (B_106 f_lying g_mowers x1 x2 x3 x4 x5 kh38 kx112 ihh38 ihx112 h)
      · replace h := xi_t h cc2
        refine hk_iload_n hC jd_H_rakes_82 4 rfl ?_
        refine hk_bipush (v := -4) hC jd_H_rakes_83 (by decide) ?_
        refine hk_icmp_eq (tgt := 94) hC jd_H_rakes_85 (by decide) (fun cc3 => ?_) (fun cc3 => ?_)
        · replace h := xi_t h cc3
          exact hk_lv [2, 3, 6, 7, 0] rfl (B_94 f_lying g_mowers x1 x4 x5 q2 kh38 kx112 ihh38 ihx112 h)
        · replace h := xi_f h cc3
          refine hk_iload hC jd_H_rakes_88 0 rfl ?_
          refine hk_iload_n hC jd_H_rakes_90 5 rfl ?_
          refine hk_icmp_ge (tgt := 106) hC jd_H_rakes_91 (by decide) (fun cc4 => ?_) (fun cc4 => ?_)
          · replace h := xi_t h cc4
            exact hk_lv [2, 3, 4, 5, 6, 7] rfl (B_106 f_lying g_mowers x1 x2 x3 x4 x5 kh38 kx112 ihh38 ihx112 h)
          · replace h := xi_f h cc4
            exact hk_lv [2, 3, 6, 7, 0] rfl (B_94 f_lying g_mowers x1 x4 x5 q2 kh38 kx112 ihh38 ihx112 h)
  have L_38 : ∀ (f_lying : Nat → Int32) (g_mowers : Int32) (x1 : Int32) (x2 : Int32) (x3 : Int32) (x4 : Int32) (x5 : Int32) (kx112 : (Int32 × Int32) → Option (Int32)) (ihx112 : ∀ q, kx112 q = some o → hk_W p l e jr_H_rakes s m args below meth c A (hk_Zi below args s D A o ((wH a aText aField aTrial aPast aKept aSeen aLand aDraft) ++ ((wF cI aField f_lying f_damp f_told f_heights f_burnt f_layerWords f_layerWetness f_layerHeat f_hours) ++ (wL cI aLand g_speeches g_speechLengths g_weather g_kindsOfCows g_thatches g_weatherLength g_mowers g_cows g_ricks)))) 8 D 0 0 ((wH a aText aField aTrial aPast aKept aSeen aLand aDraft) ++ ((wF cI aField f_lying f_damp f_told f_heights f_burnt f_layerWords f_layerWetness f_layerHeat f_hours) ++ (wL cI aLand g_speeches g_speechLengths g_weather g_kindsOfCows g_thatches g_weatherLength g_mowers g_cows g_ricks))) 112 [(0, .ref (a 0)), (1, .int x1), (2, .int q.1), (3, .int q.2), (4, .int x4)] []) (_ : jf_H_rakes_38 N f_lying g_mowers x1 x2 x3 x4 x5 kx112 = some o), hk_W p l e jr_H_rakes s m args below meth c A (hk_Zi below args s D A o ((wH a aText aField aTrial aPast aKept aSeen aLand aDraft) ++ ((wF cI aField f_lying f_damp f_told f_heights f_burnt f_layerWords f_layerWetness f_layerHeat f_hours) ++ (wL cI aLand g_speeches g_speechLengths g_weather g_kindsOfCows g_thatches g_weatherLength g_mowers g_cows g_ricks)))) 8 D 0 0 ((wH a aText aField aTrial aPast aKept aSeen aLand aDraft) ++ ((wF cI aField f_lying f_damp f_told f_heights f_burnt f_layerWords f_layerWetness f_layerHeat f_hours) ++ (wL cI aLand g_speeches g_speechLengths g_weather g_kindsOfCows g_thatches g_weatherLength g_mowers g_cows g_ricks))) 38 [(0, .ref (a 0)), (1, .int x1), (2, .int x2), (3, .int x3), (4, .int x4), (5, .int x5)] [] := by
    intro f_lying g_mowers x1 x2 x3 x4 x5 kx112 ihx112 h
    exact xloopW (fun (q : Int32 × Int32 × Int32) => hk_W p l e jr_H_rakes s m args below meth c A (hk_Zi below args s D A o ((wH a aText aField aTrial aPast aKept aSeen aLand aDraft) ++ ((wF cI aField f_lying f_damp f_told f_heights f_burnt f_layerWords f_layerWetness f_layerHeat f_hours) ++ (wL cI aLand g_speeches g_speechLengths g_weather g_kindsOfCows g_thatches g_weatherLength g_mowers g_cows g_ricks)))) 8 D 0 0 ((wH a aText aField aTrial aPast aKept aSeen aLand aDraft) ++ ((wF cI aField f_lying f_damp f_told f_heights f_burnt f_layerWords f_layerWetness f_layerHeat f_hours) ++ (wL cI aLand g_speeches g_speechLengths g_weather g_kindsOfCows g_thatches g_weatherLength g_mowers g_cows g_ricks))) 38 [(0, .ref (a 0)), (1, .int x1), (2, .int q.1), (3, .int q.2.1), (4, .int x4), (5, .int q.2.2)] []) (fun kh ih q h => B_38 f_lying g_mowers x1 q.1 q.2.1 x4 q.2.2 kh kx112 ih ihx112 h) N (x2, x3, x5) h
  have B_112 : ∀ (f_lying : Nat → Int32) (g_mowers : Int32) (x1 : Int32) (x2 : Int32) (x3 : Int32) (x4 : Int32) (kh22 : (Int32 × Int32 × Int32) → Option (Int32)) (ihh22 : ∀ q, kh22 q = some o → hk_W p l e jr_H_rakes s m args below meth c A (hk_Zi below args s D A o ((wH a aText aField aTrial aPast aKept aSeen aLand aDraft) ++ ((wF cI aField f_lying f_damp f_told f_heights f_burnt f_layerWords f_layerWetness f_layerHeat f_hours) ++ (wL cI aLand g_speeches g_speechLengths g_weather g_kindsOfCows g_thatches g_weatherLength g_mowers g_cows g_ricks)))) 8 D 0 0 ((wH a aText aField aTrial aPast aKept aSeen aLand aDraft) ++ ((wF cI aField f_lying f_damp f_told f_heights f_burnt f_layerWords f_layerWetness f_layerHeat f_hours) ++ (wL cI aLand g_speeches g_speechLengths g_weather g_kindsOfCows g_thatches g_weatherLength g_mowers g_cows g_ricks))) 22 [(0, .ref (a 0)), (1, .int x1), (2, .int q.1), (3, .int q.2.1), (4, .int q.2.2)] []) (_ : jf_H_rakes_112 N f_lying g_mowers x1 x2 x3 x4 kh22 = some o), hk_W p l e jr_H_rakes s m args below meth c A (hk_Zi below args s D A o ((wH a aText aField aTrial aPast aKept aSeen aLand aDraft) ++ ((wF cI aField f_lying f_damp f_told f_heights f_burnt f_layerWords f_layerWetness f_layerHeat f_hours) ++ (wL cI aLand g_speeches g_speechLengths g_weather g_kindsOfCows g_thatches g_weatherLength g_mowers g_cows g_ricks)))) 8 D 0 0 ((wH a aText aField aTrial aPast aKept aSeen aLand aDraft) ++ ((wF cI aField f_lying f_damp f_told f_heights f_burnt f_layerWords f_layerWetness f_layerHeat f_hours) ++ (wL cI aLand g_speeches g_speechLengths g_weather g_kindsOfCows g_thatches g_weatherLength g_mowers g_cows g_ricks))) 112 [(0, .ref (a 0)), (1, .int x1), (2, .int x2), (3, .int x3), (4, .int x4)] [] := by
    intro f_lying g_mowers x1 x2 x3 x4 kh22 ihh22 h
    delta jf_H_rakes_112 at h
    obtain ⟨v1, e_v1, h⟩ := xl_go h
    refine hk_iinc hC (lv2 := [(4, .int v1), (0, .ref (a 0)), (1, .int x1), (2, .int x2), (3, .int x3)]) jd_H_rakes_112 4 rfl e_v1 (by decide) rfl ?_
    refine hk_goto (tgt := 22) hC jd_H_rakes_115 (by decide) ?_
    exact hk_lv [1, 2, 3, 4, 0] rfl (ihh22 (x2, x3, v1) h)
  have B_22 : ∀ (f_lying : Nat → Int32) (g_mowers : Int32) (x1 : Int32) (x2 : Int32) (x3 : Int32) (x4 : Int32) (kh22 : (Int32 × Int32 × Int32) → Option (Int32)) (ihh22 : ∀ q, kh22 q = some o → hk_W p l e jr_H_rakes s m args below meth c A (hk_Zi below args s D A o ((wH a aText aField aTrial aPast aKept aSeen aLand aDraft) ++ ((wF cI aField f_lying f_damp f_told f_heights f_burnt f_layerWords f_layerWetness f_layerHeat f_hours) ++ (wL cI aLand g_speeches g_speechLengths g_weather g_kindsOfCows g_thatches g_weatherLength g_mowers g_cows g_ricks)))) 8 D 0 0 ((wH a aText aField aTrial aPast aKept aSeen aLand aDraft) ++ ((wF cI aField f_lying f_damp f_told f_heights f_burnt f_layerWords f_layerWetness f_layerHeat f_hours) ++ (wL cI aLand g_speeches g_speechLengths g_weather g_kindsOfCows g_thatches g_weatherLength g_mowers g_cows g_ricks))) 22 [(0, .ref (a 0)), (1, .int x1), (2, .int q.1), (3, .int q.2.1), (4, .int q.2.2)] []) (_ : jf_H_rakes_22B N f_lying g_mowers x1 x2 x3 x4 kh22 = some o), hk_W p l e jr_H_rakes s m args below meth c A (hk_Zi below args s D A o ((wH a aText aField aTrial aPast aKept aSeen aLand aDraft) ++ ((wF cI aField f_lying f_damp f_told f_heights f_burnt f_layerWords f_layerWetness f_layerHeat f_hours) ++ (wL cI aLand g_speeches g_speechLengths g_weather g_kindsOfCows g_thatches g_weatherLength g_mowers g_cows g_ricks)))) 8 D 0 0 ((wH a aText aField aTrial aPast aKept aSeen aLand aDraft) ++ ((wF cI aField f_lying f_damp f_told f_heights f_burnt f_layerWords f_layerWetness f_layerHeat f_hours) ++ (wL cI aLand g_speeches g_speechLengths g_weather g_kindsOfCows g_thatches g_weatherLength g_mowers g_cows g_ricks))) 22 [(0, .ref (a 0)), (1, .int x1), (2, .int x2), (3, .int x3), (4, .int x4)] [] := by
    intro f_lying g_mowers x1 x2 x3 x4 kh22 ihh22 h
    delta jf_H_rakes_22B at h
    refine hk_iload hC jd_H_rakes_22 4 rfl ?_
    refine hk_aload_n hC jd_H_rakes_24 0 rfl ?_
    refine hk_get hC jk_H _ (at_l (k := 0) rfl) 6 (by decide) jq_278 rfl jd_H_rakes_25 ?_
    refine hk_getN hC jk_L _ (at_r (at_r (k := 0) rfl)) 6 (by decide) jq_133 rfl jd_H_rakes_28 ?_
    refine hk_icmp_ge (tgt := 118) hC jd_H_rakes_31 (by decide) (fun cc1 => ?_) (fun cc1 => ?_)
    · replace h := xi_t h cc1
      refine hk_iload_n hC jd_H_rakes_118 2 rfl ?_
      obtain rfl := Option.some.inj h
      exact hk_iret hC hr jd_H_rakes_119 rfl rfl
    · replace h := xi_f h cc1
      refine hk_iload hC jd_H_rakes_34 4 rfl ?_
      refine hk_istore hC (i := 5) (y := x4) (lv2 := [(5, .int x4), (0, .ref (a 0)), (1, .int x1), (2, .int x2), (3, .int x3), (4, .int x4)]) jd_H_rakes_36 rfl (by decide) rfl ?_
      exact hk_lv [1, 2, 3, 4, 5, 0] rfl (L_38 f_lying g_mowers x1 x2 x3 x4 x4 _ (fun q1 h => by exact (B_112 f_lying g_mowers x1 q1.1 q1.2 x4 kh22 ihh22 h)) h)
  have L_22 : ∀ (f_lying : Nat → Int32) (g_mowers : Int32) (x1 : Int32) (x2 : Int32) (x3 : Int32) (x4 : Int32)   (_ : jf_H_rakes_22 N f_lying g_mowers x1 x2 x3 x4  = some o), hk_W p l e jr_H_rakes s m args below meth c A (hk_Zi below args s D A o ((wH a aText aField aTrial aPast aKept aSeen aLand aDraft) ++ ((wF cI aField f_lying f_damp f_told f_heights f_burnt f_layerWords f_layerWetness f_layerHeat f_hours) ++ (wL cI aLand g_speeches g_speechLengths g_weather g_kindsOfCows g_thatches g_weatherLength g_mowers g_cows g_ricks)))) 8 D 0 0 ((wH a aText aField aTrial aPast aKept aSeen aLand aDraft) ++ ((wF cI aField f_lying f_damp f_told f_heights f_burnt f_layerWords f_layerWetness f_layerHeat f_hours) ++ (wL cI aLand g_speeches g_speechLengths g_weather g_kindsOfCows g_thatches g_weatherLength g_mowers g_cows g_ricks))) 22 [(0, .ref (a 0)), (1, .int x1), (2, .int x2), (3, .int x3), (4, .int x4)] [] := by
    intro f_lying g_mowers x1 x2 x3 x4   h
    exact xloopW (fun (q : Int32 × Int32 × Int32) => hk_W p l e jr_H_rakes s m args below meth c A (hk_Zi below args s D A o ((wH a aText aField aTrial aPast aKept aSeen aLand aDraft) ++ ((wF cI aField f_lying f_damp f_told f_heights f_burnt f_layerWords f_layerWetness f_layerHeat f_hours) ++ (wL cI aLand g_speeches g_speechLengths g_weather g_kindsOfCows g_thatches g_weatherLength g_mowers g_cows g_ricks)))) 8 D 0 0 ((wH a aText aField aTrial aPast aKept aSeen aLand aDraft) ++ ((wF cI aField f_lying f_damp f_told f_heights f_burnt f_layerWords f_layerWetness f_layerHeat f_hours) ++ (wL cI aLand g_speeches g_speechLengths g_weather g_kindsOfCows g_thatches g_weatherLength g_mowers g_cows g_ricks))) 22 [(0, .ref (a 0)), (1, .int x1), (2, .int q.1), (3, .int q.2.1), (4, .int q.2.2)] []) (fun kh ih q h => B_22 f_lying g_mowers x1 q.1 q.2.1 q.2.2 kh  ih  h) N (x2, x3, x4) h
  delta jf_H_rakes at h
  refine hk_iload_n hC jd_H_rakes_0 1 rfl ?_
  refine hk_iconst (v := 1) hC jd_H_rakes_1 (by decide) ?_
  refine hk_sipush (v := 1023) hC jd_H_rakes_2 (by decide) ?_
  obtain ⟨q1, h_q1, h⟩ := xb_go h
  refine hk_callS0i hC (jc_H_isWithin l D cI cF N x1 (1 : Int32) (1023 : Int32) h_q1) jl_H_isWithin jq_302 jq_249 rfl ⟨by decide, by decide⟩ rfl (Nat.le_of_ble_eq_true rfl) ⟨Nat.zero_le _, Nat.zero_le _⟩ jd_H_rakes_5 ?_
  refine hk_if_ne (tgt := 13) hC jd_H_rakes_8 (by decide) (fun cc1 => ?_) (fun cc1 => ?_)
  · replace h := xi_f h cc1
    refine hk_bipush (v := -4) hC jd_H_rakes_13 (by decide) ?_
    refine hk_istore_n hC (i := 2) (y := (-4 : Int32)) (lv2 := [(2, .int (-4 : Int32)), (0, .ref (a 0)), (1, .int x1)]) jd_H_rakes_15 rfl rfl (by decide) rfl ?_
    refine hk_bipush (v := -4) hC jd_H_rakes_16 (by decide) ?_
    refine hk_istore_n hC (i := 3) (y := (-4 : Int32)) (lv2 := [(3, .int (-4 : Int32)), (2, .int (-4 : Int32)), (0, .ref (a 0)), (1, .int x1)]) jd_H_rakes_18 rfl rfl (by decide) rfl ?_
    refine hk_iconst (v := 0) hC jd_H_rakes_19 (by decide) ?_
    refine hk_istore hC (i := 4) (y := (0 : Int32)) (lv2 := [(4, .int (0 : Int32)), (3, .int (-4 : Int32)), (2, .int (-4 : Int32)), (0, .ref (a 0)), (1, .int x1)]) jd_H_rakes_20 rfl (by decide) rfl ?_
    exact hk_lv [3, 4, 2, 1, 0] rfl (L_22 f_lying g_mowers x1 (-4 : Int32) (-4 : Int32) (0 : Int32)   h)
  · replace h := xi_t h cc1
    refine hk_iconst (v := -1) hC jd_H_rakes_11 (by decide) ?_
    obtain rfl := Option.some.inj h
    exact hk_iret hC hr jd_H_rakes_12 rfl rfl
theorem jc_H_rakes (l : Launch) (D : va_G) (cI cF : ClassId) (N : Nat) (a : Nat → Nat) (aText : Nat → Nat) (aField : Nat → Nat) (aTrial : Nat → Nat) (aPast : Nat → Nat) (aKept : Nat → Nat) (aSeen : Nat → Nat) (aLand : Nat → Nat) (aDraft : Nat → Nat)  (f_lying : Nat → Int32) (f_damp : Nat → Int32) (f_told : Nat → Int32) (f_heights : Nat → Int32) (f_burnt : Nat → Int32) (f_layerWords : Nat → Int32) (f_layerWetness : Nat → Int32) (f_layerHeat : Nat → Int32) (f_hours : Int32) (g_speeches : Nat → Int32) (g_speechLengths : Nat → Int32) (g_weather : Nat → Int32) (g_kindsOfCows : Nat → Int32) (g_thatches : Nat → Int32) (g_weatherLength : Int32) (g_mowers : Int32) (g_cows : Int32) (g_ricks : Int32) (x1 : Int32) {o : Int32} (h : jf_H_rakes N f_lying g_mowers x1 = some o) : hk_Mi l jy_H_rakes jb_H_rakes 8 (some .int) jr_H_rakes D cI cF ((wH a aText aField aTrial aPast aKept aSeen aLand aDraft) ++ ((wF cI aField f_lying f_damp f_told f_heights f_burnt f_layerWords f_layerWetness f_layerHeat f_hours) ++ (wL cI aLand g_speeches g_speechLengths g_weather g_kindsOfCows g_thatches g_weatherLength g_mowers g_cows g_ricks))) [.ref (a 0), .int x1] o ((wH a aText aField aTrial aPast aKept aSeen aLand aDraft) ++ ((wF cI aField f_lying f_damp f_told f_heights f_burnt f_layerWords f_layerWetness f_layerHeat f_hours) ++ (wL cI aLand g_speeches g_speechLengths g_weather g_kindsOfCows g_thatches g_weatherLength g_mowers g_cows g_ricks))) :=
  hk_metI (by decide) (Nat.le_of_ble_eq_true rfl) rfl rfl (fun p e s m args below meth c A hC hr => jw_H_rakes hC hr N a aText aField aTrial aPast aKept aSeen aLand aDraft f_lying f_damp f_told f_heights f_burnt f_layerWords f_layerWetness f_layerHeat f_hours g_speeches g_speechLengths g_weather g_kindsOfCows g_thatches g_weatherLength g_mowers g_cows g_ricks x1 h)
