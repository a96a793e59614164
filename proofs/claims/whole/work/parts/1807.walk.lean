set_option maxHeartbeats 8000000 in
set_option maxRecDepth 100000 in
theorem jw_H_most {p : Program} {l : Launch} {e : Env} {s : State} {m : MethodId} {args : Array Value} {below : List Frame} {meth : Method} {c : Code} {A : Nat → Prop} {D : va_G} {cI cF : ClassId} (hC : hk_ok p s m args meth c A 7 D cI cF "HayTalk" jb_H_most) (hr : meth.sig.returnType = (some .int)) (N : Nat) (a : Nat → Nat) (aText : Nat → Nat) (aField : Nat → Nat) (aTrial : Nat → Nat) (aPast : Nat → Nat) (aKept : Nat → Nat) (aSeen : Nat → Nat) (aLand : Nat → Nat) (aDraft : Nat → Nat)  (f_lying : Nat → Int32) (f_damp : Nat → Int32) (f_told : Nat → Int32) (f_heights : Nat → Int32) (f_burnt : Nat → Int32) (f_layerWords : Nat → Int32) (f_layerWetness : Nat → Int32) (f_layerHeat : Nat → Int32) (f_hours : Int32) (g_speeches : Nat → Int32) (g_speechLengths : Nat → Int32) (g_weather : Nat → Int32) (g_kindsOfCows : Nat → Int32) (g_thatches : Nat → Int32) (g_weatherLength : Int32) (g_mowers : Int32) (g_cows : Int32) (g_ricks : Int32) (x1 : Int32) (x2 : Int32) {o : Int32} (h : jf_H_most N f_told f_heights f_layerWords g_kindsOfCows g_cows g_ricks x1 x2 = some o) : hk_W p l e jr_H_most s m args below meth c A (hk_Zi below args s D A o ((wH a aText aField aTrial aPast aKept aSeen aLand aDraft) ++ ((wF cI aField f_lying f_damp f_told f_heights f_burnt f_layerWords f_layerWetness f_layerHeat f_hours) ++ (wL cI aLand g_speeches g_speechLengths g_weather g_kindsOfCows g_thatches g_weatherLength g_mowers g_cows g_ricks)))) 7 D 0 0 ((wH a aText aField aTrial aPast aKept aSeen aLand aDraft) ++ ((wF cI aField f_lying f_damp f_told f_heights f_burnt f_layerWords f_layerWetness f_layerHeat f_hours) ++ (wL cI aLand g_speeches g_speechLengths g_weather g_kindsOfCows g_thatches g_weatherLength g_mowers g_cows g_ricks))) 0 [(0, .ref (a 0)), (1, .int x1), (2, .int x2)] [] := by
  have B_90 : ∀ (f_told : Nat → Int32) (f_heights : Nat → Int32) (f_layerWords : Nat → Int32) (g_kindsOfCows : Nat → Int32) (g_cows : Int32) (g_ricks : Int32) (x1 : Int32) (x2 : Int32) (x3 : Int32) (x4 : Int32) (x5 : Int32) (kh29 : (Int32 × Int32 × Int32) → Option (Int32)) (kx96 : (Int32 × Int32) → Option (Int32)) (ihh29 : ∀ q, kh29 q = some o → hk_W p l e jr_H_most s m args below meth c A (hk_Zi below args s D A o ((wH a aText aField aTrial aPast aKept aSeen aLand aDraft) ++ ((wF cI aField f_lying f_damp f_told f_heights f_burnt f_layerWords f_layerWetness f_layerHeat f_hours) ++ (wL cI aLand g_speeches g_speechLengths g_weather g_kindsOfCows g_thatches g_weatherLength g_mowers g_cows g_ricks)))) 7 D 0 0 ((wH a aText aField aTrial aPast aKept aSeen aLand aDraft) ++ ((wF cI aField f_lying f_damp f_told f_heights f_burnt f_layerWords f_layerWetness f_layerHeat f_hours) ++ (wL cI aLand g_speeches g_speechLengths g_weather g_kindsOfCows g_thatches g_weatherLength g_mowers g_cows g_ricks))) 29 [(0, .ref (a 0)), (1, .int x1), (2, .int x2), (3, .int q.1), (4, .int q.2.1), (5, .int q.2.2)] []) (ihx96 : ∀ q, kx96 q = some o → hk_W p l e jr_H_most s m args below meth c A (hk_Zi below args s D A o ((wH a aText aField aTrial aPast aKept aSeen aLand aDraft) ++ ((wF cI aField f_lying f_damp f_told f_heights f_burnt f_layerWords f_layerWetness f_layerHeat f_hours) ++ (wL cI aLand g_speeches g_speechLengths g_weather g_kindsOfCows g_thatches g_weatherLength g_mowers g_cows g_ricks)))) 7 D 0 0 ((wH a aText aField aTrial aPast aKept aSeen aLand aDraft) ++ ((wF cI aField f_lying f_damp f_told f_heights f_burnt f_layerWords f_layerWetness f_layerHeat f_hours) ++ (wL cI aLand g_speeches g_speechLengths g_weather g_kindsOfCows g_thatches g_weatherLength g_mowers g_cows g_ricks))) 96 [(2, .int x2), (3, .int q.1), (4, .int q.2)] []) (_ : jf_H_most_90 N f_told f_heights f_layerWords g_kindsOfCows g_cows g_ricks x1 x2 x3 x4 x5 kh29 kx96 = some o), hk_W p l e jr_H_most s m args below meth c A (hk_Zi below args s D A o ((wH a aText aField aTrial aPast aKept aSeen aLand aDraft) ++ ((wF cI aField f_lying f_damp f_told f_heights f_burnt f_layerWords f_layerWetness f_layerHeat f_hours) ++ (wL cI aLand g_speeches g_speechLengths g_weather g_kindsOfCows g_thatches g_weatherLength g_mowers g_cows g_ricks)))) 7 D 0 0 ((wH a aText aField aTrial aPast aKept aSeen aLand aDraft) ++ ((wF cI aField f_lying f_damp f_told f_heights f_burnt f_layerWords f_layerWetness f_layerHeat f_hours) ++ (wL cI aLand g_speeches g_speechLengths g_weather g_kindsOfCows g_thatches g_weatherLength g_mowers g_cows g_ricks))) 90 [(0, .ref (a 0)), (1, .int x1), (2, .int x2), (3, .int x3), (4, .int x4), (5, .int x5)] [] := by
    intro f_told f_heights f_layerWords g_kindsOfCows g_cows g_ricks x1 x2 x3 x4 x5 kh29 kx96 ihh29 ihx96 h
    delta jf_H_most_90 at h
    obtain ⟨v1, e_v1, h⟩ := xl_go h
    refine hk_iinc hC (lv2 := [(5, .int v1), (0, .ref (a 0)), (1, .int x1), (2, .int x2), (3, .int x3), (4, .int x4)]) jd_H_most_90 5 rfl e_v1 (by decide) rfl ?_
    refine hk_goto (tgt := 29) hC jd_H_most_93 (by decide) ?_
    exact hk_lv [1, 2, 3, 4, 5, 0] rfl (ihh29 (x3, x4, v1) h)
  have B_29 : ∀ (f_told : Nat → Int32) (f_heights : Nat → Int32) (f_layerWords : Nat → Int32) (g_kindsOfCows : Nat → Int32) (g_cows : Int32) (g_ricks : Int32) (x1 : Int32) (x2 : Int32) (x3 : Int32) (x4 : Int32) (x5 : Int32) (kh29 : (Int32 × Int32 × Int32) → Option (Int32)) (kx96 : (Int32 × Int32) → Option (Int32)) (ihh29 : ∀ q, kh29 q = some o → hk_W p l e jr_H_most s m args below meth c A (hk_Zi below args s D A o ((wH a aText aField aTrial aPast aKept aSeen aLand aDraft) ++ ((wF cI aField f_lying f_damp f_told f_heights f_burnt f_layerWords f_layerWetness f_layerHeat f_hours) ++ (wL cI aLand g_speeches g_speechLengths g_weather g_kindsOfCows g_thatches g_weatherLength g_mowers g_cows g_ricks)))) 7 D 0 0 ((wH a aText aField aTrial aPast aKept aSeen aLand aDraft) ++ ((wF cI aField f_lying f_damp f_told f_heights f_burnt f_layerWords f_layerWetness f_layerHeat f_hours) ++ (wL cI aLand g_speeches g_speechLengths g_weather g_kindsOfCows g_thatches g_weatherLength g_mowers g_cows g_ricks))) 29 [(0, .ref (a 0)), (1, .int x1), (2, .int x2), (3, .int q.1), (4, .int q.2.1), (5, .int q.2.2)] []) (ihx96 : ∀ q, kx96 q = some o → hk_W p l e jr_H_most s m args below meth c A (hk_Zi below args s D A o ((wH a aText aField aTrial aPast aKept aSeen aLand aDraft) ++ ((wF cI aField f_lying f_damp f_told f_heights f_burnt f_layerWords f_layerWetness f_layerHeat f_hours) ++ (wL cI aLand g_speeches g_speechLengths g_weather g_kindsOfCows g_thatches g_weatherLength g_mowers g_cows g_ricks)))) 7 D 0 0 ((wH a aText aField aTrial aPast aKept aSeen aLand aDraft) ++ ((wF cI aField f_lying f_damp f_told f_heights f_burnt f_layerWords f_layerWetness f_layerHeat f_hours) ++ (wL cI aLand g_speeches g_speechLengths g_weather g_kindsOfCows g_thatches g_weatherLength g_mowers g_cows g_ricks))) 96 [(2, .int x2), (3, .int q.1), (4, .int q.2)] []) (_ : jf_H_most_29B N f_told f_heights f_layerWords g_kindsOfCows g_cows g_ricks x1 x2 x3 x4 x5 kh29 kx96 = some o), hk_W p l e jr_H_most s m args below meth c A (hk_Zi below args s D A o ((wH a aText aField aTrial aPast aKept aSeen aLand aDraft) ++ ((wF cI aField f_lying f_damp f_told f_heights f_burnt f_layerWords f_layerWetness f_layerHeat f_hours) ++ (wL cI aLand g_speeches g_speechLengths g_weather g_kindsOfCows g_thatches g_weatherLength g_mowers g_cows g_ricks)))) 7 D 0 0 ((wH a aText aField aTrial aPast aKept aSeen aLand aDraft) ++ ((wF cI aField f_lying f_damp f_told f_heights f_burnt f_layerWords f_layerWetness f_layerHeat f_hours) ++ (wL cI aLand g_speeches g_speechLengths g_weather g_kindsOfCows g_thatches g_weatherLength g_mowers g_cows g_ricks))) 29 [(0, .ref (a 0)), (1, .int x1), (2, .int x2), (3, .int x3), (4, .int x4), (5, .int x5)] [] := by
    intro f_told f_heights f_layerWords g_kindsOfCows g_cows g_ricks x1 x2 x3 x4 x5 kh29 kx96 ihh29 ihx96 h
    delta jf_H_most_29B at h
    refine hk_iload hC jd_H_most_29 5 rfl ?_
    refine hk_aload_n hC jd_H_most_31 0 rfl ?_
    refine hk_get hC jk_H _ (at_l (k := 0) rfl) 6 (by decide) jq_278 rfl jd_H_most_32 ?_
    refine hk_getN hC jk_L _ (at_r (at_r (k := 0) rfl)) 8 (by decide) jq_139 rfl jd_H_most_35 ?_
    refine hk_icmp_ge (tgt := 96) hC jd_H_most_38 (by decide) (fun cc1 => ?_) (fun cc1 => ?_)
    · replace h := xi_t h cc1
      exact hk_lv [2, 3, 4] rfl (ihx96 (x3, x4) h)
    · replace h := xi_f h cc1
      refine hk_aload_n hC jd_H_most_41 0 rfl ?_
      refine hk_get hC jk_H _ (at_l (k := 0) rfl) 1 (by decide) jq_273 rfl jd_H_most_42 ?_
      refine hk_iload hC jd_H_most_45 5 rfl ?_
      refine hk_iload_n hC jd_H_most_47 1 rfl ?_
      refine hk_aload_n hC jd_H_most_48 0 rfl ?_
      refine hk_get hC jk_H _ (at_l (k := 0) rfl) 6 (by decide) jq_278 rfl jd_H_most_49 ?_
      refine hk_iload_n hC jd_H_most_52 1 rfl ?_
      obtain ⟨q1, h_q1, h⟩ := xb_go h
      refine hk_callVBi hC (jc_L_kindOf l D cI cF N aLand g_speeches g_speechLengths g_weather g_kindsOfCows g_thatches g_weatherLength g_mowers g_cows g_ricks x1 h_q1) jl_L_kindOf rfl (List.mem_of_getElem? (at_r (at_r (k := 0) rfl))) jq_359 jq_360 jq_361 rfl ⟨by decide, by decide⟩ (pm_3_2 _ _ _) (pm_3_2 _ _ _) rfl (ws2 := ((wH a aText aField aTrial aPast aKept aSeen aLand aDraft) ++ ((wF cI aField f_lying f_damp f_told f_heights f_burnt f_layerWords f_layerWetness f_layerHeat f_hours) ++ (wL cI aLand g_speeches g_speechLengths g_weather g_kindsOfCows g_thatches g_weatherLength g_mowers g_cows g_ricks)))) rfl (Nat.le_of_ble_eq_true rfl) ⟨Nat.zero_le _, Nat.zero_le _⟩ jd_H_most_53 ?_
      obtain ⟨q2, h_q2, h⟩ := xb_go h
      refine hk_callVBi hC (jc_F_freshFor l D cI cF N aField f_lying f_damp f_told f_heights f_burnt f_layerWords f_layerWetness f_layerHeat f_hours x5 x1 q1 h_q2) jl_F_freshFor rfl (List.mem_of_getElem? (at_r (at_l (k := 0) rfl))) jq_546 jq_473 jq_474 rfl ⟨by decide, by decide⟩ (pm_3_1 _ _ _) (pm_3_1 _ _ _) rfl (ws2 := ((wH a aText aField aTrial aPast aKept aSeen aLand aDraft) ++ ((wF cI aField f_lying f_damp f_told f_heights f_burnt f_layerWords f_layerWetness f_layerHeat f_hours) ++ (wL cI aLand g_speeches g_speechLengths g_weather g_kindsOfCows g_thatches g_weatherLength g_mowers g_cows g_ricks)))) rfl (Nat.le_of_ble_eq_true rfl) ⟨Nat.zero_le _, Nat.zero_le _⟩ jd_H_most_56 ?_
      obtain ⟨q3, h_q3, h⟩ := xb_go h
      refine hk_callS0i hC (jc_Integer_bitCount l D cI cF N q2 h_q3) jl_Integer_bitCount jq_536 jq_537 rfl ⟨by decide, by decide⟩ rfl (Nat.le_of_ble_eq_true rfl) ⟨Nat.zero_le _, Nat.zero_le _⟩ jd_H_most_59 ?_
      refine hk_istore hC (i := 6) (y := q3) (lv2 := [(6, .int q3), (0, .ref (a 0)), (1, .int x1), (2, .int x2), (3, .int x3), (4, .int x4), (5, .int x5)]) jd_H_most_62 rfl (by decide) rfl ?_
      refine hk_aload_n hC jd_H_most_64 1 rfl ?_
      refine hk_get hC jk_H _ (at_l (k := 0) rfl) 1 (by decide) jq_273 rfl jd_H_most_65 ?_
      refine hk_iload hC jd_H_most_68 6 rfl ?_
      obtain ⟨q4, h_q4, h⟩ := xb_go h
      refine hk_callVBi hC (jc_F_heightOf l D cI cF N aField f_lying f_damp f_told f_heights f_burnt f_layerWords f_layerWetness f_layerHeat f_hours x5 h_q4) jl_F_heightOf rfl (List.mem_of_getElem? (at_r (at_l (k := 0) rfl))) jq_375 jq_376 jq_377 rfl ⟨by decide, by decide⟩ (pm_3_1 _ _ _) (pm_3_1 _ _ _) rfl (ws2 := ((wH a aText aField aTrial aPast aKept aSeen aLand aDraft) ++ ((wF cI aField f_lying f_damp f_told f_heights f_burnt f_layerWords f_layerWetness f_layerHeat f_hours) ++ (wL cI aLand g_speeches g_speechLengths g_weather g_kindsOfCows g_thatches g_weatherLength g_mowers g_cows g_ricks)))) rfl (Nat.le_of_ble_eq_true rfl) ⟨Nat.zero_le _, Nat.zero_le _⟩ jd_H_most_70 ?_
      refine hk_if_le (tgt := 90) hC jd_H_most_73 (by decide) (fun cc2 => ?_) (fun cc2 => ?_)
      · replace h := xi_t h cc2
        exact hk_lv [1, 2, 3, 4, 5, 6] rfl (B_90 f_told f_heights f_layerWords g_kindsOfCows g_cows g_ricks x1 x2 x3 x4 x5 kh29 kx96 ihh29 ihx96 h)
      · replace h := xi_f h cc2
        refine hk_iload hC jd_H_most_76 0 rfl ?_
        refine hk_iload hC jd_H_most_78 5 rfl ?_
        refine hk_icmp_le (tgt := 90) hC jd_H_most_80 (by decide) (fun cc3 => ?_) (fun cc3 => ?_)
        · replace h := xi_t h cc3
          exact hk_lv [1, 2, 3, 4, 5, 6] rfl (B_90 f_told f_heights f_layerWords g_kindsOfCows g_cows g_ricks x1 x2 x3 x4 x5 kh29 kx96 ihh29 ihx96 h)
        · replace h := xi_f h cc3
          refine hk_iload hC jd_H_most_83 0 rfl ?_
          refine hk_istore hC (i := 4) (y := q3) (lv2 := [(4, .int q3), (6, .int q3), (0, .ref (a 0)), (1, .int x1), (2, .int x2), (3, .int x3), (5, .int x5)]) jd_H_most_85 rfl (by decide) rfl ?_
          refine hk_iload hC jd_H_most_87 6 rfl ?_
          refine hk_istore_n hC (i := 3) (y := x5) (lv2 := [(3, .int x5), (4, .int q3), (6, .int q3), (0, .ref (a 0)), (1, .int x1), (2, .int x2), (5, .int x5)]) jd_H_most_89 rfl rfl (by decide) rfl ?_
          exact hk_lv [3, 4, 5, 0, 1, 6] rfl (B_90 f_told f_heights f_layerWords g_kindsOfCows g_cows g_ricks x1 x2 x5 q3 x5 kh29 kx96 ihh29 ihx96 h)
  have L_29 : ∀ (f_told : Nat → Int32) (f_heights : Nat → Int32) (f_layerWords : Nat → Int32) (g_kindsOfCows : Nat → Int32) (g_cows : Int32) (g_ricks : Int32) (x1 : Int32) (x2 : Int32) (x3 : Int32) (x4 : Int32) (x5 : Int32) (kx96 : (Int32 × Int32) → Option (Int32)) (ihx96 : ∀ q, kx96 q = some o → hk_W p l e jr_H_most s m args below meth c A (hk_Zi below args s D A o ((wH a aText aField aTrial aPast aKept aSeen aLand aDraft) ++ ((wF cI aField f_lying f_damp f_told f_heights f_burnt f_layerWords f_layerWetness f_layerHeat f_hours) ++ (wL cI aLand g_speeches g_speechLengths g_weather g_kindsOfCows g_thatches g_weatherLength g_mowers g_cows g_ricks)))) 7 D 0 0 ((wH a aText aField aTrial aPast aKept aSeen aLand aDraft) ++ ((wF cI aField f_lying f_damp f_told f_heights f_burnt f_layerWords f_layerWetness f_layerHeat f_hours) ++ (wL cI aLand g_speeches g_speechLengths g_weather g_kindsOfCows g_thatches g_weatherLength g_mowers g_cows g_ricks))) 96 [(2, .int x2), (3, .int q.1), (4, .int q.2)] []) (_ : jf_H_most_29 N f_told f_heights f_layerWords g_kindsOfCows g_cows g_ricks x1 x2 x3 x4 x5 kx96 = some o), hk_W p l e jr_H_most s m args below meth c A (hk_Zi below args s D A o ((wH a aText aField aTrial aPast aKept aSeen aLand aDraft) ++ ((wF cI aField f_lying f_damp f_told f_heights f_burnt f_layerWords f_layerWetness f_layerHeat f_hours) ++ (wL cI aLand g_speeches g_speechLengths g_weather g_kindsOfCows g_thatches g_weatherLength g_mowers g_cows g_ricks)))) 7 D 0 0 ((wH a aText aField aTrial aPast aKept aSeen aLand aDraft) ++ ((wF cI aField f_lying f_damp f_told f_heights f_burnt f_layerWords f_layerWetness f_layerHeat f_hours) ++ (wL cI aLand g_speeches g_speechLengths g_weather g_kindsOfCows g_thatches g_weatherLength g_mowers g_cows g_ricks))) 29 [(0, .ref (a 0)), (1, .int x1), (2, .int x2), (3, .int x3), (4, .int x4), (5, .int x5)] [] := by
    intro f_told f_heights f_layerWords g_kindsOfCows g_cows g_ricks x1 x2 x3 x4 x5 kx96 ihx96 h
    exact xloopW (fun (q : Int32 × Int32 × Int32) => hk_W p l e jr_H_most s m args below meth c A (hk_Zi below args s D A o ((wH a aText aField aTrial aPast aKept aSeen aLand aDraft) ++ ((wF cI aField f_lying f_damp f_told f_heights f_burnt f_layerWords f_layerWetness f_layerHeat f_hours) ++ (wL cI aLand g_speeches g_speechLengths g_weather g_kindsOfCows g_thatches g_weatherLength g_mowers g_cows g_ricks)))) 7 D 0 0 ((wH a aText aField aTrial aPast aKept aSeen aLand aDraft) ++ ((wF cI aField f_lying f_damp f_told f_heights f_burnt f_layerWords f_layerWetness f_layerHeat f_hours) ++ (wL cI aLand g_speeches g_speechLengths g_weather g_kindsOfCows g_thatches g_weatherLength g_mowers g_cows g_ricks))) 29 [(0, .ref (a 0)), (1, .int x1), (2, .int x2), (3, .int q.1), (4, .int q.2.1), (5, .int q.2.2)] []) (fun kh ih q h => B_29 f_told f_heights f_layerWords g_kindsOfCows g_cows g_ricks x1 x2 q.1 q.2.1 q.2.2 kh kx96 ih ihx96 h) N (x3, x4, x5) h
  have B_96 : ∀ (f_told : Nat → Int32) (f_heights : Nat → Int32) (f_layerWords : Nat → Int32) (g_kindsOfCows : Nat → Int32) (g_cows : Int32) (g_ricks : Int32) (x2 : Int32) (x3 : Int32) (x4 : Int32)   (_ : jf_H_most_96 N f_told f_heights f_layerWords g_kindsOfCows g_cows g_ricks x2 x3 x4  = some o), hk_W p l e jr_H_most s m args below meth c A (hk_Zi below args s D A o ((wH a aText aField aTrial aPast aKept aSeen aLand aDraft) ++ ((wF cI aField f_lying f_damp f_told f_heights f_burnt f_layerWords f_layerWetness f_layerHeat f_hours) ++ (wL cI aLand g_speeches g_speechLengths g_weather g_kindsOfCows g_thatches g_weatherLength g_mowers g_cows g_ricks)))) 7 D 0 0 ((wH a aText aField aTrial aPast aKept aSeen aLand aDraft) ++ ((wF cI aField f_lying f_damp f_told f_heights f_burnt f_layerWords f_layerWetness f_layerHeat f_hours) ++ (wL cI aLand g_speeches g_speechLengths g_weather g_kindsOfCows g_thatches g_weatherLength g_mowers g_cows g_ricks))) 96 [(2, .int x2), (3, .int x3), (4, .int x4)] [] := by
    intro f_told f_heights f_layerWords g_kindsOfCows g_cows g_ricks x2 x3 x4   h
    delta jf_H_most_96 at h
    refine hk_iload_n hC jd_H_most_96 0 rfl ?_
    refine hk_if_ne (tgt := 104) hC jd_H_most_97 (by decide) (fun cc1 => ?_) (fun cc1 => ?_)
    · replace h := xi_f h cc1
      refine hk_iload hC jd_H_most_104 2 rfl ?_
      obtain rfl := Option.some.inj h
      exact hk_iret hC hr jd_H_most_106 rfl rfl
    · replace h := xi_t h cc1
      refine hk_iload_n hC jd_H_most_100 1 rfl ?_
      refine hk_goto (tgt := 106) hC jd_H_most_101 (by decide) ?_
      obtain rfl := Option.some.inj h
      exact hk_iret hC hr jd_H_most_106 rfl rfl
  delta jf_H_most at h
  refine hk_aload_n hC jd_H_most_0 0 rfl ?_
  refine hk_iload_n hC jd_H_most_1 1 rfl ?_
  obtain ⟨q1, h_q1, h⟩ := xb_go h
  refine hk_callVBi hC (jc_H_isCow l D cI cF N a aText aField aTrial aPast aKept aSeen aLand aDraft g_speeches g_speechLengths g_weather g_kindsOfCows g_thatches g_weatherLength g_mowers g_cows g_ricks x1 h_q1) jl_H_isCow rfl (List.mem_of_getElem? (at_l (k := 0) rfl)) jq_355 jq_357 jq0_6 rfl ⟨by decide, by decide⟩ (pm_3_0_2 _ _ _) (pm_3_0_2 _ _ _) rfl (ws2 := ((wH a aText aField aTrial aPast aKept aSeen aLand aDraft) ++ ((wF cI aField f_lying f_damp f_told f_heights f_burnt f_layerWords f_layerWetness f_layerHeat f_hours) ++ (wL cI aLand g_speeches g_speechLengths g_weather g_kindsOfCows g_thatches g_weatherLength g_mowers g_cows g_ricks)))) rfl (Nat.le_of_ble_eq_true rfl) ⟨Nat.zero_le _, Nat.zero_le _⟩ jd_H_most_2 ?_
  refine hk_if_eq (tgt := 17) hC jd_H_most_5 (by decide) (fun cc1 => ?_) (fun cc1 => ?_)
  · replace h := xi_t h cc1
    refine hk_iconst (v := -1) hC jd_H_most_17 (by decide) ?_
    obtain rfl := Option.some.inj h
    exact hk_iret hC hr jd_H_most_18 rfl rfl
  · replace h := xi_f h cc1
    refine hk_iload_n hC jd_H_most_8 2 rfl ?_
    refine hk_iconst (v := 0) hC jd_H_most_9 (by decide) ?_
    refine hk_iconst (v := 1) hC jd_H_most_10 (by decide) ?_
    obtain ⟨q2, h_q2, h⟩ := xb_go h
    refine hk_callS0i hC (jc_H_isWithin l D cI cF N x2 (0 : Int32) (1 : Int32) h_q2) jl_H_isWithin jq_302 jq_249 rfl ⟨by decide, by decide⟩ rfl (Nat.le_of_ble_eq_true rfl) ⟨Nat.zero_le _, Nat.zero_le _⟩ jd_H_most_11 ?_
    refine hk_if_ne (tgt := 19) hC jd_H_most_14 (by decide) (fun cc2 => ?_) (fun cc2 => ?_)
    · replace h := xi_f h cc2
      refine hk_bipush (v := -4) hC jd_H_most_19 (by decide) ?_
      refine hk_istore_n hC (i := 3) (y := (-4 : Int32)) (lv2 := [(3, .int (-4 : Int32)), (0, .ref (a 0)), (1, .int x1), (2, .int x2)]) jd_H_most_21 rfl rfl (by decide) rfl ?_
      refine hk_bipush (v := -4) hC jd_H_most_22 (by decide) ?_
      refine hk_istore hC (i := 4) (y := (-4 : Int32)) (lv2 := [(4, .int (-4 : Int32)), (3, .int (-4 : Int32)), (0, .ref (a 0)), (1, .int x1), (2, .int x2)]) jd_H_most_24 rfl (by decide) rfl ?_
      refine hk_iconst (v := 0) hC jd_H_most_26 (by decide) ?_
      refine hk_istore hC (i := 5) (y := (0 : Int32)) (lv2 := [(5, .int (0 : Int32)), (4, .int (-4 : Int32)), (3, .int (-4 : Int32)), (0, .ref (a 0)), (1, .int x1), (2, .int x2)]) jd_H_most_27 rfl (by decide) rfl ?_
      exact hk_lv [3, 4, 5, 2, 1, 0] rfl (L_29 f_told f_heights f_layerWords g_kindsOfCows g_cows g_ricks x1 x2 (-4 : Int32) (-4 : Int32) (0 : Int32) _ (fun q3 h => by exact (B_96 f_told f_heights f_layerWords g_kindsOfCows g_cows g_ricks x2 q3.1 q3.2   h)) h)
    · replace h := xi_t h cc2
      refine hk_iconst (v := -1) hC jd_H_most_17 (by decide) ?_
      obtain rfl := Option.some.inj h
      exact hk_iret hC hr jd_H_most_18 rfl rfl
theorem jc_H_most (l : Launch) (D : va_G) (cI cF : ClassId) (N : Nat) (a : Nat → Nat) (aText : Nat → Nat) (aField : Nat → Nat) (aTrial : Nat → Nat) (aPast : Nat → Nat) (aKept : Nat → Nat) (aSeen : Nat → Nat) (aLand : Nat → Nat) (aDraft : Nat → Nat)  (f_lying : Nat → Int32) (f_damp : Nat → Int32) (f_told : Nat → Int32) (f_heights : Nat → Int32) (f_burnt : Nat → Int32) (f_layerWords : Nat → Int32) (f_layerWetness : Nat → Int32) (f_layerHeat : Nat → Int32) (f_hours : Int32) (g_speeches : Nat → Int32) (g_speechLengths : Nat → Int32) (g_weather : Nat → Int32) (g_kindsOfCows : Nat → Int32) (g_thatches : Nat → Int32) (g_weatherLength : Int32) (g_mowers : Int32) (g_cows : Int32) (g_ricks : Int32) (x1 : Int32) (x2 : Int32) {o : Int32} (h : jf_H_most N f_told f_heights f_layerWords g_kindsOfCows g_cows g_ricks x1 x2 = some o) : hk_Mi l jy_H_most jb_H_most 7 (some .int) jr_H_most D cI cF ((wH a aText aField aTrial aPast aKept aSeen aLand aDraft) ++ ((wF cI aField f_lying f_damp f_told f_heights f_burnt f_layerWords f_layerWetness f_layerHeat f_hours) ++ (wL cI aLand g_speeches g_speechLengths g_weather g_kindsOfCows g_thatches g_weatherLength g_mowers g_cows g_ricks))) [.ref (a 0), .int x1, .int x2] o ((wH a aText aField aTrial aPast aKept aSeen aLand aDraft) ++ ((wF cI aField f_lying f_damp f_told f_heights f_burnt f_layerWords f_layerWetness f_layerHeat f_hours) ++ (wL cI aLand g_speeches g_speechLengths g_weather g_kindsOfCows g_thatches g_weatherLength g_mowers g_cows g_ricks))) :=
  hk_metI (by decide) (Nat.le_of_ble_eq_true rfl) rfl rfl (fun p e s m args below meth c A hC hr => jw_H_most hC hr N a aText aField aTrial aPast aKept aSeen aLand aDraft f_lying f_damp f_told f_heights f_burnt f_layerWords f_layerWetness f_layerHeat f_hours g_speeches g_speechLengths g_weather g_kindsOfCows g_thatches g_weatherLength g_mowers g_cows g_ricks x1 x2 h)
set_option maxHeartbeats 8000000 in
set_option maxRecDepth 100000 in
theorem jw_H_isWord {p : Program} {l : Launch} {e : Env} {s : State} {m : MethodId} {args : Array Value} {below : List Frame} {meth : Method} {c : Code} {A : Nat → Prop} {D : va_G} {cI cF : ClassId} (hC : hk_ok p s m args meth c A 1 D cI cF "HayTalk" jb_H_isWord) (hr : meth.sig.returnType = (some .boolean)) (N : Nat)    (x0 : Int32) {o : Int32} (h : jf_H_isWord N x0 = some o) : hk_W p l e jr_H_isWord s m args below meth c A (hk_Zi below args s D A o ([] : va_W)) 1 D 0 0 ([] : va_W) 0 [(0, .int x0)] [] := by
  delta jf_H_isWord at h
  refine hk_iload_n hC jd_H_isWord_0 0 rfl ?_
  refine hk_iconst (v := 0) hC jd_H_isWord_1 (by decide) ?_
  refine hk_bipush (v := 9) hC jd_H_isWord_2 (by decide) ?_
  obtain ⟨q1, h_q1, h⟩ := xb_go h
  refine hk_callS0i hC (jc_H_isWithin l D cI cF N x0 (0 : Int32) (9 : Int32) h_q1) jl_H_isWithin jq_302 jq_249 rfl ⟨by decide, by decide⟩ rfl (Nat.le_of_ble_eq_true rfl) ⟨Nat.zero_le _, Nat.zero_le _⟩ jd_H_isWord_4 ?_
  have hbo := xo_in h
  replace h := xo_go h
  obtain rfl := Option.some.inj h
  exact hk_zret hC hr hbo jd_H_isWord_7 rfl rfl
theorem jc_H_isWord (l : Launch) (D : va_G) (cI cF : ClassId) (N : Nat)    (x0 : Int32) {o : Int32} (h : jf_H_isWord N x0 = some o) : hk_Mi l jy_H_isWord jb_H_isWord 1 (some .boolean) jr_H_isWord D cI cF ([] : va_W) [.int x0] o ([] : va_W) :=
  hk_metI (by decide) (Nat.le_of_ble_eq_true rfl) rfl rfl (fun p e s m args below meth c A hC hr => jw_H_isWord hC hr N x0 h)
set_option maxHeartbeats 8000000 in
set_option maxRecDepth 100000 in
theorem jw_H_first {p : Program} {l : Launch} {e : Env} {s : State} {m : MethodId} {args : Array Value} {below : List Frame} {meth : Method} {c : Code} {A : Nat → Prop} {D : va_G} {cI cF : ClassId} (hC : hk_ok p s m args meth c A 5 D cI cF "HayTalk" jb_H_first) (hr : meth.sig.returnType = (some .int)) (N : Nat) (a : Nat → Nat) (aText : Nat → Nat) (aField : Nat → Nat) (aTrial : Nat → Nat) (aPast : Nat → Nat) (aKept : Nat → Nat) (aSeen : Nat → Nat) (aLand : Nat → Nat) (aDraft : Nat → Nat)  (f_lying : Nat → Int32) (f_damp : Nat → Int32) (f_told : Nat → Int32) (f_heights : Nat → Int32) (f_burnt : Nat → Int32) (f_layerWords : Nat → Int32) (f_layerWetness : Nat → Int32) (f_layerHeat : Nat → Int32) (f_hours : Int32) (g_speeches : Nat → Int32) (g_speechLengths : Nat → Int32) (g_weather : Nat → Int32) (g_kindsOfCows : Nat → Int32) (g_thatches : Nat → Int32) (g_weatherLength : Int32) (g_mowers : Int32) (g_cows : Int32) (g_ricks : Int32) (x1 : Int32) (x2 : Int32) {o : Int32} (h : jf_H_first N f_hours g_speeches g_speechLengths g_mowers x1 x2 = some o) : hk_W p l e jr_H_first s m args below meth c A (hk_Zi below args s D A o ((wH a aText aField aTrial aPast aKept aSeen aLand aDraft) ++ ((wF cI aField f_lying f_damp f_told f_heights f_burnt f_layerWords f_layerWetness f_layerHeat f_hours) ++ (wL cI aLand g_speeches g_speechLengths g_weather g_kindsOfCows g_thatches g_weatherLength g_mowers g_cows g_ricks)))) 5 D 0 0 ((wH a aText aField aTrial aPast aKept aSeen aLand aDraft) ++ ((wF cI aField f_lying f_damp f_told f_heights f_burnt f_layerWords f_layerWetness f_layerHeat f_hours) ++ (wL cI aLand g_speeches g_speechLengths g_weather g_kindsOfCows g_thatches g_weatherLength g_mowers g_cows g_ricks))) 0 [(0, .ref (a 0)), (1, .int x1), (2, .int x2)] [] := by
  have B_29 : ∀ (f_hours : Int32) (g_speeches : Nat → Int32) (g_speechLengths : Nat → Int32) (g_mowers : Int32) (x1 : Int32) (x2 : Int32) (x3 : Int32) (x4 : Int32) (kh29 : (Int32) → Option (Int32)) (kx65 : (Int32) → Option (Int32)) (kx82 : (Unit) → Option (Int32)) (ihh29 : ∀ q, kh29 q = some o → hk_W p l e jr_H_first s m args below meth c A (hk_Zi below args s D A o ((wH a aText aField aTrial aPast aKept aSeen aLand aDraft) ++ ((wF cI aField f_lying f_damp f_told f_heights f_burnt f_layerWords f_layerWetness f_layerHeat f_hours) ++ (wL cI aLand g_speeches g_speechLengths g_weather g_kindsOfCows g_thatches g_weatherLength g_mowers g_cows g_ricks)))) 5 D 0 0 ((wH a aText aField aTrial aPast aKept aSeen aLand aDraft) ++ ((wF cI aField f_lying f_damp f_told f_heights f_burnt f_layerWords f_layerWetness f_layerHeat f_hours) ++ (wL cI aLand g_speeches g_speechLengths g_weather g_kindsOfCows g_thatches g_weatherLength g_mowers g_cows g_ricks))) 29 [(0, .ref (a 0)), (1, .int x1), (2, .int x2), (3, .int x3), (4, .int q)] []) (ihx65 : ∀ q, kx65 q = some o → hk_W p l e jr_H_first s m args below meth c A (hk_Zi below args s D A o ((wH a aText aField aTrial aPast aKept aSeen aLand aDraft) ++ ((wF cI aField f_lying f_damp f_told f_heights f_burnt f_layerWords f_layerWetness f_layerHeat f_hours) ++ (wL cI aLand g_speeches g_speechLengths g_weather g_kindsOfCows g_thatches g_weatherLength g_mowers g_cows g_ricks)))) 5 D 0 0 ((wH a aText aField aTrial aPast aKept aSeen aLand aDraft) ++ ((wF cI aField f_lying f_damp f_told f_heights f_burnt f_layerWords f_layerWetness f_layerHeat f_hours) ++ (wL cI aLand g_speeches g_speechLengths g_weather g_kindsOfCows g_thatches g_weatherLength g_mowers g_cows g_ricks))) 65 [(2, .int x2), (3, .int x3), (4, .int q)] []) (ihx82 : ∀ q, kx82 q = some o → hk_W p l e jr_H_first s m args below meth c A (hk_Zi below args s D A o ((wH a aText aField aTrial aPast aKept aSeen aLand aDraft) ++ ((wF cI aField f_lying f_damp f_told f_heights f_burnt f_layerWords f_layerWetness f_layerHeat f_hours) ++ (wL cI aLand g_speeches g_speechLengths g_weather g_kindsOfCows g_thatches g_weatherLength g_mowers g_cows g_ricks)))) 5 D 0 0 ((wH a aText aField aTrial aPast aKept aSeen aLand aDraft) ++ ((wF cI aField f_lying f_damp f_told f_heights f_burnt f_layerWords f_layerWetness f_layerHeat f_hours) ++ (wL cI aLand g_speeches g_speechLengths g_weather g_kindsOfCows g_thatches g_weatherLength g_mowers g_cows g_ricks))) 82 [(0, .ref (a 0)), (1, .int x1), (2, .int x2), (3, .int x3)] []) (_ : jf_H_first_29B N f_hours g_speeches g_speechLengths g_mowers x1 x2 x3 x4 kh29 kx65 kx82 = some o), hk_W p l e jr_H_first s m args below meth c A (hk_Zi below args s D A o ((wH a aText aField aTrial aPast aKept aSeen aLand aDraft) ++ ((wF cI aField f_lying f_damp f_told f_heights f_burnt f_layerWords f_layerWetness f_layerHeat f_hours) ++ (wL cI aLand g_speeches g_speechLengths g_weather g_kindsOfCows g_thatches g_weatherLength g_mowers g_cows g_ricks)))) 5 D 0 0 ((wH a aText aField aTrial aPast aKept aSeen aLand aDraft) ++ ((wF cI aField f_lying f_damp f_told f_heights f_burnt f_layerWords f_layerWetness f_layerHeat f_hours) ++ (wL cI aLand g_speeches g_speechLengths g_weather g_kindsOfCows g_thatches g_weatherLength g_mowers g_cows g_ricks))) 29 [(0, .ref (a 0)), (1, .int x1), (2, .int x2), (3, .int x3), (4, .int x4)] [] := by
    intro f_hours g_speeches g_speechLengths g_mowers x1 x2 x3 x4 kh29 kx65 kx82 ihh29 ihx65 ihx82 h
    delta jf_H_first_29B at h
    refine hk_iload hC jd_H_first_29 4 rfl ?_
    refine hk_aload_n hC jd_H_first_31 0 rfl ?_
    refine hk_get hC jk_H _ (at_l (k := 0) rfl) 6 (by decide) jq_278 rfl jd_H_first_32 ?_
    refine hk_getN hC jk_L _ (at_r (at_r (k := 0) rfl)) 6 (by decide) jq_133 rfl jd_H_first_35 ?_
    refine hk_icmp_ge (tgt := 82) hC jd_H_first_38 (by decide) (fun cc1 => ?_) (fun cc1 => ?_)
    · replace h := xi_t h cc1
      exact hk_lv [0, 1, 2, 3] rfl (ihx82 () h)
    · replace h := xi_f h cc1
      refine hk_aload_n hC jd_H_first_41 0 rfl ?_
      refine hk_get hC jk_H _ (at_l (k := 0) rfl) 6 (by decide) jq_278 rfl jd_H_first_42 ?_
      refine hk_iload hC jd_H_first_45 4 rfl ?_
      refine hk_aload_n hC jd_H_first_47 0 rfl ?_
      refine hk_get hC jk_H _ (at_l (k := 0) rfl) 1 (by decide) jq_273 rfl jd_H_first_48 ?_
      refine hk_getN hC jk_F _ (at_r (at_l (k := 0) rfl)) 8 (by decide) jq_60 rfl jd_H_first_51 ?_
      refine hk_iload_n hC jd_H_first_54 3 rfl ?_
      refine hk_iadd hC jd_H_first_55 ?_
      refine hk_iconst (v := 1) hC jd_H_first_56 (by decide) ?_
      refine hk_isub hC jd_H_first_57 ?_
      obtain ⟨q1, h_q1, h⟩ := xb_go h
      refine hk_callVBi hC (jc_L_wordOf l D cI cF N aLand g_speeches g_speechLengths g_weather g_kindsOfCows g_thatches g_weatherLength g_mowers g_cows g_ricks x4 ((f_hours + x3) - (1 : Int32)) h_q1) jl_L_wordOf rfl (List.mem_of_getElem? (at_r (at_r (k := 0) rfl))) jq_340 jq_341 jq_342 rfl ⟨by decide, by decide⟩ (pm_3_2 _ _ _) (pm_3_2 _ _ _) rfl (ws2 := ((wH a aText aField aTrial aPast aKept aSeen aLand aDraft) ++ ((wF cI aField f_lying f_damp f_told f_heights f_burnt f_layerWords f_layerWetness f_layerHeat f_hours) ++ (wL cI aLand g_speeches g_speechLengths g_weather g_kindsOfCows g_thatches g_weatherLength g_mowers g_cows g_ricks)))) rfl (Nat.le_of_ble_eq_true rfl) ⟨Nat.zero_le _, Nat.zero_le _⟩ jd_H_first_58 ?_
      refine hk_iload_n hC jd_H_first_61 1 rfl ?_
      refine hk_icmp_ne (tgt := 76) hC jd_H_first_62 (by decide) (fun cc2 => ?_) (fun cc2 => ?_)
      · replace h := xi_f h cc2
        obtain ⟨v1, e_v1, h⟩ := xl_go h
        refine hk_iinc hC (lv2 := [(4, .int v1), (0, .ref (a 0)), (1, .int x1), (2, .int x2), (3, .int x3)]) jd_H_first_76 4 rfl e_v1 (by decide) rfl ?_
        refine hk_goto (tgt := 29) hC jd_H_first_79 (by decide) ?_
        exact hk_lv [1, 2, 3, 4, 0] rfl (ihh29 v1 h)
      · replace h := xi_t h cc2
        exact hk_lv [2, 3, 4] rfl (ihx65 x4 h)
  have L_29 : ∀ (f_hours : Int32) (g_speeches : Nat → Int32) (g_speechLengths : Nat → Int32) (g_mowers : Int32) (x1 : Int32) (x2 : Int32) (x3 : Int32) (x4 : Int32) (kx65 : (Int32) → Option (Int32)) (kx82 : (Unit) → Option (Int32)) (ihx65 : ∀ q, kx65 q = some o → hk_W p l e jr_H_first s m args below meth c A (hk_Zi below args s D A o ((wH a aText aField aTrial aPast aKept aSeen aLand aDraft) ++ ((wF cI aField f_lying f_damp f_told f_heights f_burnt f_layerWords f_layerWetness f_layerHeat f_hours) ++ (wL cI aLand g_speeches g_speechLengths g_weather g_kindsOfCows g_thatches g_weatherLength g_mowers g_cows g_ricks)))) 5 D 0 0 ((wH a aText aField aTrial aPast aKept aSeen aLand aDraft) ++ ((wF cI aField f_lying f_damp f_told f_heights f_burnt f_layerWords f_layerWetness f_layerHeat f_hours) ++ (wL cI aLand g_speeches g_speechLengths g_weather g_kindsOfCows g_thatches g_weatherLength g_mowers g_cows g_ricks))) 65 [(2, .int x2), (3, .int x3), (4, .int q)] []) (ihx82 : ∀ q, kx82 q = some o → hk_W p l e jr_H_first s m args below meth c A (hk_Zi below args s D A o ((wH a aText aField aTrial aPast aKept aSeen aLand aDraft) ++ ((wF cI aField f_lying f_damp f_told f_heights f_burnt f_layerWords f_layerWetness f_layerHeat f_hours) ++ (wL cI aLand g_speeches g_speechLengths g_weather g_kindsOfCows g_thatches g_weatherLength g_mowers g_cows g_ricks)))) 5 D 0 0 ((wH a aText aField aTrial aPast aKept aSeen aLand aDraft) ++ ((wF cI aField f_lying f_damp f_told f_heights f_burnt f_layerWords f_layerWetness f_layerHeat f_hours) ++ (wL cI aLand g_speeches g_speechLengths g_weather g_kindsOfCows g_thatches g_weatherLength g_mowers g_cows g_ricks))) 82 [(0, .ref (a 0)), (1, .int x1), (2, .int x2), (3, .int x3)] []) (_ : jf_H_first_29 N f_hours g_speeches g_speechLengths g_mowers x1 x2 x3 x4 kx65 kx82 = some o), hk_W p l e jr_H_first s m args below meth c A (hk_Zi below args s D A o ((wH a aText aField aTrial aPast aKept aSeen aLand aDraft) ++ ((wF cI aField f_lying f_damp f_told f_heights f_burnt f_layerWords f_layerWetness f_layerHeat f_hours) ++ (wL cI aLand g_speeches g_speechLengths g_weather g_kindsOfCows g_thatches g_weatherLength g_mowers g_cows g_ricks)))) 5 D 0 0 ((wH a aText aField aTrial aPast aKept aSeen aLand aDraft) ++ ((wF cI aField f_lying f_damp f_told f_heights f_burnt f_layerWords f_layerWetness f_layerHeat f_hours) ++ (wL cI aLand g_speeches g_speechLengths g_weather g_kindsOfCows g_thatches g_weatherLength g_mowers g_cows g_ricks))) 29 [(0, .ref (a 0)), (1, .int x1), (2, .int x2), (3, .int x3), (4, .int x4)] [] := by
    intro f_hours g_speeches g_speechLengths g_mowers x1 x2 x3 x4 kx65 kx82 ihx65 ihx82 h
    exact xloopW (fun (q : Int32) => hk_W p l e jr_H_first s m args below meth c A (hk_Zi below args s D A o ((wH a aText aField aTrial aPast aKept aSeen aLand aDraft) ++ ((wF cI aField f_lying f_damp f_told f_heights f_burnt f_layerWords f_layerWetness f_layerHeat f_hours) ++ (wL cI aLand g_speeches g_speechLengths g_weather g_kindsOfCows g_thatches g_weatherLength g_mowers g_cows g_ricks)))) 5 D 0 0 ((wH a aText aField aTrial aPast aKept aSeen aLand aDraft) ++ ((wF cI aField f_lying f_damp f_told f_heights f_burnt f_layerWords f_layerWetness f_layerHeat f_hours) ++ (wL cI aLand g_speeches g_speechLengths g_weather g_kindsOfCows g_thatches g_weatherLength g_mowers g_cows g_ricks))) 29 [(0, .ref (a 0)), (1, .int x1), (2, .int x2), (3, .int x3), (4, .int q)] []) (fun kh ih q h => B_29 f_hours g_speeches g_speechLengths g_mowers x1 x2 x3 q kh kx65 kx82 ih ihx65 ihx82 h) N x4 h
  have B_82 : ∀ (f_hours : Int32) (g_speeches : Nat → Int32) (g_speechLengths : Nat → Int32) (g_mowers : Int32) (x1 : Int32) (x2 : Int32) (x3 : Int32) (kh20 : (Int32) → Option (Int32)) (kx65 : (Int32 × Int32) → Option (Int32)) (ihh20 : ∀ q, kh20 q = some o → hk_W p l e jr_H_first s m args below meth c A (hk_Zi below args s D A o ((wH a aText aField aTrial aPast aKept aSeen aLand aDraft) ++ ((wF cI aField f_lying f_damp f_told f_heights f_burnt f_layerWords f_layerWetness f_layerHeat f_hours) ++ (wL cI aLand g_speeches g_speechLengths g_weather g_kindsOfCows g_thatches g_weatherLength g_mowers g_cows g_ricks)))) 5 D 0 0 ((wH a aText aField aTrial aPast aKept aSeen aLand aDraft) ++ ((wF cI aField f_lying f_damp f_told f_heights f_burnt f_layerWords f_layerWetness f_layerHeat f_hours) ++ (wL cI aLand g_speeches g_speechLengths g_weather g_kindsOfCows g_thatches g_weatherLength g_mowers g_cows g_ricks))) 20 [(0, .ref (a 0)), (1, .int x1), (2, .int x2), (3, .int q)] []) (ihx65 : ∀ q, kx65 q = some o → hk_W p l e jr_H_first s m args below meth c A (hk_Zi below args s D A o ((wH a aText aField aTrial aPast aKept aSeen aLand aDraft) ++ ((wF cI aField f_lying f_damp f_told f_heights f_burnt f_layerWords f_layerWetness f_layerHeat f_hours) ++ (wL cI aLand g_speeches g_speechLengths g_weather g_kindsOfCows g_thatches g_weatherLength g_mowers g_cows g_ricks)))) 5 D 0 0 ((wH a aText aField aTrial aPast aKept aSeen aLand aDraft) ++ ((wF cI aField f_lying f_damp f_told f_heights f_burnt f_layerWords f_layerWetness f_layerHeat f_hours) ++ (wL cI aLand g_speeches g_speechLengths g_weather g_kindsOfCows g_thatches g_weatherLength g_mowers g_cows g_ricks))) 65 [(2, .int x2), (3, .int q.1), (4, .int q.2)] []) (_ : jf_H_first_82 N f_hours g_speeches g_speechLengths g_mowers x1 x2 x3 kh20 kx65 = some o), hk_W p l e jr_H_first s m args below meth c A (hk_Zi below args s D A o ((wH a aText aField aTrial aPast aKept aSeen aLand aDraft) ++ ((wF cI aField f_lying f_damp f_told f_heights f_burnt f_layerWords f_layerWetness f_layerHeat f_hours) ++ (wL cI aLand g_speeches g_speechLengths g_weather g_kindsOfCows g_thatches g_weatherLength g_mowers g_cows g_ricks)))) 5 D 0 0 ((wH a aText aField aTrial aPast aKept aSeen aLand aDraft) ++ ((wF cI aField f_lying f_damp f_told f_heights f_burnt f_layerWords f_layerWetness f_layerHeat f_hours) ++ (wL cI aLand g_speeches g_speechLengths g_weather g_kindsOfCows g_thatches g_weatherLength g_mowers g_cows g_ricks))) 82 [(0, .ref (a 0)), (1, .int x1), (2, .int x2), (3, .int x3)] [] := by
    intro f_hours g_speeches g_speechLengths g_mowers x1 x2 x3 kh20 kx65 ihh20 ihx65 h
    delta jf_H_first_82 at h
    obtain ⟨v1, e_v1, h⟩ := xl_go h
    refine hk_iinc hC (lv2 := [(3, .int v1), (0, .ref (a 0)), (1, .int x1), (2, .int x2)]) jd_H_first_82 3 rfl e_v1 (by decide) rfl ?_
    refine hk_goto (tgt := 20) hC jd_H_first_85 (by decide) ?_
    exact hk_lv [1, 2, 3, 0] rfl (ihh20 v1 h)
  have B_20 : ∀ (f_hours : Int32) (g_speeches : Nat → Int32) (g_speechLengths : Nat → Int32) (g_mowers : Int32) (x1 : Int32) (x2 : Int32) (x3 : Int32) (kh20 : (Int32) → Option (Int32)) (kx65 : (Int32 × Int32) → Option (Int32)) (ihh20 : ∀ q, kh20 q = some o → hk_W p l e jr_H_first s m args below meth c A (hk_Zi below args s D A o ((wH a aText aField aTrial aPast aKept aSeen aLand aDraft) ++ ((wF cI aField f_lying f_damp f_told f_heights f_burnt f_layerWords f_layerWetness f_layerHeat f_hours) ++ (wL cI aLand g_speeches g_speechLengths g_weather g_kindsOfCows g_thatches g_weatherLength g_mowers g_cows g_ricks)))) 5 D 0 0 ((wH a aText aField aTrial aPast aKept aSeen aLand aDraft) ++ ((wF cI aField f_lying f_damp f_told f_heights f_burnt f_layerWords f_layerWetness f_layerHeat f_hours) ++ (wL cI aLand g_speeches g_speechLengths g_weather g_kindsOfCows g_thatches g_weatherLength g_mowers g_cows g_ricks))) 20 [(0, .ref (a 0)), (1, .int x1), (2, .int x2), (3, .int q)] []) (ihx65 : ∀ q, kx65 q = some o → hk_W p l e jr_H_first s m args below meth c A (hk_Zi below args s D A o ((wH a aText aField aTrial aPast aKept aSeen aLand aDraft) ++ ((wF cI aField f_lying f_damp f_told f_heights f_burnt f_layerWords f_layerWetness f_layerHeat f_hours) ++ (wL cI aLand g_speeches g_speechLengths g_weather g_kindsOfCows g_thatches g_weatherLength g_mowers g_cows g_ricks)))) 5 D 0 0 ((wH a aText aField aTrial aPast aKept aSeen aLand aDraft) ++ ((wF cI aField f_lying f_damp f_told f_heights f_burnt f_layerWords f_layerWetness f_layerHeat f_hours) ++ (wL cI aLand g_speeches g_speechLengths g_weather g_kindsOfCows g_thatches g_weatherLength g_mowers g_cows g_ricks))) 65 [(2, .int x2), (3, .int q.1), (4, .int q.2)] []) (_ : jf_H_first_20B N f_hours g_speeches g_speechLengths g_mowers x1 x2 x3 kh20 kx65 = some o), hk_W p l e jr_H_first s m args below meth c A (hk_Zi below args s D A o ((wH a aText aField aTrial aPast aKept aSeen aLand aDraft) ++ ((wF cI aField f_lying f_damp f_told f_heights f_burnt f_layerWords f_layerWetness f_layerHeat f_hours) ++ (wL cI aLand g_speeches g_speechLengths g_weather g_kindsOfCows g_thatches g_weatherLength g_mowers g_cows g_ricks)))) 5 D 0 0 ((wH a aText aField aTrial aPast aKept aSeen aLand aDraft) ++ ((wF cI aField f_lying f_damp f_told f_heights f_burnt f_layerWords f_layerWetness f_layerHeat f_hours) ++ (wL cI aLand g_speeches g_speechLengths g_weather g_kindsOfCows g_thatches g_weatherLength g_mowers g_cows g_ricks))) 20 [(0, .ref (a 0)), (1, .int x1), (2, .int x2), (3, .int x3)] [] := by
    intro f_hours g_speeches g_speechLengths g_mowers x1 x2 x3 kh20 kx65 ihh20 ihx65 h
    delta jf_H_first_20B at h
    refine hk_iload_n hC jd_H_first_20 3 rfl ?_
    refine hk_bipush (v := 60) hC jd_H_first_21 (by decide) ?_
    refine hk_icmp_gt (tgt := 88) hC jd_H_first_23 (by decide) (fun cc1 => ?_) (fun cc1 => ?_)
    · replace h := xi_t h cc1
      refine hk_bipush (v := -4) hC jd_H_first_88 (by decide) ?_
      obtain rfl := Option.some.inj h
      exact hk_iret hC hr jd_H_first_90 rfl rfl
    · replace h := xi_f h cc1
      refine hk_iconst (v := 0) hC jd_H_first_26 (by decide) ?_
      refine hk_istore hC (i := 4) (y := (0 : Int32)) (lv2 := [(4, .int (0 : Int32)), (0, .ref (a 0)), (1, .int x1), (2, .int x2), (3, .int x3)]) jd_H_first_27 rfl (by decide) rfl ?_
      exact hk_lv [1, 2, 3, 4, 0] rfl (L_29 f_hours g_speeches g_speechLengths g_mowers x1 x2 x3 (0 : Int32) _ _ (fun q1 h => by exact (ihx65 (x3, q1) h)) (fun q2 h => by exact (B_82 f_hours g_speeches g_speechLengths g_mowers x1 x2 x3 kh20 kx65 ihh20 ihx65 h)) h)
  have L_20 : ∀ (f_hours : Int32) (g_speeches : Nat → Int32) (g_speechLengths : Nat → Int32) (g_mowers : Int32) (x1 : Int32) (x2 : Int32) (x3 : Int32) (kx65 : (Int32 × Int32) → Option (Int32)) (ihx65 : ∀ q, kx65 q = some o → hk_W p l e jr_H_first s m args below meth c A (hk_Zi below args s D A o ((wH a aText aField aTrial aPast aKept aSeen aLand aDraft) ++ ((wF cI aField f_lying f_damp f_told f_heights f_burnt f_layerWords f_layerWetness f_layerHeat f_hours) ++ (wL cI aLand g_speeches g_speechLengths g_weather g_kindsOfCows g_thatches g_weatherLength g_mowers g_cows g_ricks)))) 5 D 0 0 ((wH a aText aField aTrial aPast aKept aSeen aLand aDraft) ++ ((wF cI aField f_lying f_damp f_told f_heights f_burnt f_layerWords f_layerWetness f_layerHeat f_hours) ++ (wL cI aLand g_speeches g_speechLengths g_weather g_kindsOfCows g_thatches g_weatherLength g_mowers g_cows g_ricks))) 65 [(2, .int x2), (3, .int q.1), (4, .int q.2)] []) (_ : jf_H_first_20 N f_hours g_speeches g_speechLengths g_mowers x1 x2 x3 kx65 = some o), hk_W p l e jr_H_first s m args below meth c A (hk_Zi below args s D A o ((wH a aText aField aTrial aPast aKept aSeen aLand aDraft) ++ ((wF cI aField f_lying f_damp f_told f_heights f_burnt f_layerWords f_layerWetness f_layerHeat f_hours) ++ (wL cI aLand g_speeches g_speechLengths g_weather g_kindsOfCows g_thatches g_weatherLength g_mowers g_cows g_ricks)))) 5 D 0 0 ((wH a aText aField aTrial aPast aKept aSeen aLand aDraft) ++ ((wF cI aField f_lying f_damp f_told f_heights f_burnt f_layerWords f_layerWetness f_layerHeat f_hours) ++ (wL cI aLand g_speeches g_speechLengths g_weather g_kindsOfCows g_thatches g_weatherLength g_mowers g_cows g_ricks))) 20 [(0, .ref (a 0)), (1, .int x1), (2, .int x2), (3, .int x3)] [] := by
    intro f_hours g_speeches g_speechLengths g_mowers x1 x2 x3 kx65 ihx65 h
    exact xloopW (fun (q : Int32) => hk_W p l e jr_H_first s m args below meth c A (hk_Zi below args s D A o ((wH a aText aField aTrial aPast aKept aSeen aLand aDraft) ++ ((wF cI aField f_lying f_damp f_told f_heights f_burnt f_layerWords f_layerWetness f_layerHeat f_hours) ++ (wL cI aLand g_speeches g_speechLengths g_weather g_kindsOfCows g_thatches g_weatherLength g_mowers g_cows g_ricks)))) 5 D 0 0 ((wH a aText aField aTrial aPast aKept aSeen aLand aDraft) ++ ((wF cI aField f_lying f_damp f_told f_heights f_burnt f_layerWords f_layerWetness f_layerHeat f_hours) ++ (wL cI aLand g_speeches g_speechLengths g_weather g_kindsOfCows g_thatches g_weatherLength g_mowers g_cows g_ricks))) 20 [(0, .ref (a 0)), (1, .int x1), (2, .int x2), (3, .int q)] []) (fun kh ih q h => B_20 f_hours g_speeches g_speechLengths g_mowers x1 x2 q kh kx65 ih ihx65 h) N x3 h
  have B_65 : ∀ (f_hours : Int32) (g_speeches : Nat → Int32) (g_speechLengths : Nat → Int32) (g_mowers : Int32) (x2 : Int32) (x3 : Int32) (x4 : Int32)   (_ : jf_H_first_65 N f_hours g_speeches g_speechLengths g_mowers x2 x3 x4  = some o), hk_W p l e jr_H_first s m args below meth c A (hk_Zi below args s D A o ((wH a aText aField aTrial aPast aKept aSeen aLand aDraft) ++ ((wF cI aField f_lying f_damp f_told f_heights f_burnt f_layerWords f_layerWetness f_layerHeat f_hours) ++ (wL cI aLand g_speeches g_speechLengths g_weather g_kindsOfCows g_thatches g_weatherLength g_mowers g_cows g_ricks)))) 5 D 0 0 ((wH a aText aField aTrial aPast aKept aSeen aLand aDraft) ++ ((wF cI aField f_lying f_damp f_told f_heights f_burnt f_layerWords f_layerWetness f_layerHeat f_hours) ++ (wL cI aLand g_speeches g_speechLengths g_weather g_kindsOfCows g_thatches g_weatherLength g_mowers g_cows g_ricks))) 65 [(2, .int x2), (3, .int x3), (4, .int x4)] [] := by
    intro f_hours g_speeches g_speechLengths g_mowers x2 x3 x4   h
    delta jf_H_first_65 at h
    refine hk_iload_n hC jd_H_first_65 0 rfl ?_
    refine hk_if_ne (tgt := 73) hC jd_H_first_66 (by decide) (fun cc1 => ?_) (fun cc1 => ?_)
    · replace h := xi_f h cc1
      refine hk_iload hC jd_H_first_73 2 rfl ?_
      obtain rfl := Option.some.inj h
      exact hk_iret hC hr jd_H_first_75 rfl rfl
    · replace h := xi_t h cc1
      refine hk_iload_n hC jd_H_first_69 1 rfl ?_
      refine hk_goto (tgt := 75) hC jd_H_first_70 (by decide) ?_
      obtain rfl := Option.some.inj h
      exact hk_iret hC hr jd_H_first_75 rfl rfl
  delta jf_H_first at h
  refine hk_iload_n hC jd_H_first_0 1 rfl ?_
  obtain ⟨q1, h_q1, h⟩ := xb_go h
  refine hk_callS0i hC (jc_H_isWord l D cI cF N x1 h_q1) jl_H_isWord jq_551 jq_552 rfl ⟨by decide, by decide⟩ rfl (Nat.le_of_ble_eq_true rfl) ⟨Nat.zero_le _, Nat.zero_le _⟩ jd_H_first_1 ?_
  refine hk_if_eq (tgt := 16) hC jd_H_first_4 (by decide) (fun cc1 => ?_) (fun cc1 => ?_)
  · replace h := xi_t h cc1
    refine hk_iconst (v := -1) hC jd_H_first_16 (by decide) ?_
    obtain rfl := Option.some.inj h
    exact hk_iret hC hr jd_H_first_17 rfl rfl
  · replace h := xi_f h cc1
    refine hk_iload_n hC jd_H_first_7 2 rfl ?_
    refine hk_iconst (v := 0) hC jd_H_first_8 (by decide) ?_
    refine hk_iconst (v := 1) hC jd_H_first_9 (by decide) ?_
    obtain ⟨q2, h_q2, h⟩ := xb_go h
    refine hk_callS0i hC (jc_H_isWithin l D cI cF N x2 (0 : Int32) (1 : Int32) h_q2) jl_H_isWithin jq_302 jq_249 rfl ⟨by decide, by decide⟩ rfl (Nat.le_of_ble_eq_true rfl) ⟨Nat.zero_le _, Nat.zero_le _⟩ jd_H_first_10 ?_
    refine hk_if_ne (tgt := 18) hC jd_H_first_13 (by decide) (fun cc2 => ?_) (fun cc2 => ?_)
    · replace h := xi_f h cc2
      refine hk_iconst (v := 1) hC jd_H_first_18 (by decide) ?_
      refine hk_istore_n hC (i := 3) (y := (1 : Int32)) (lv2 := [(3, .int (1 : Int32)), (0, .ref (a 0)), (1, .int x1), (2, .int x2)]) jd_H_first_19 rfl rfl (by decide) rfl ?_
      exact hk_lv [1, 2, 3, 0] rfl (L_20 f_hours g_speeches g_speechLengths g_mowers x1 x2 (1 : Int32) _ (fun q3 h => by exact (B_65 f_hours g_speeches g_speechLengths g_mowers x2 q3.1 q3.2   h)) h)
    · replace h := xi_t h cc2
      refine hk_iconst (v := -1) hC jd_H_first_16 (by decide) ?_
      obtain rfl := Option.some.inj h
      exact hk_iret hC hr jd_H_first_17 rfl rfl
theorem jc_H_first (l : Launch) (D : va_G) (cI cF : ClassId) (N : Nat) (a : Nat → Nat) (aText : Nat → Nat) (aField : Nat → Nat) (aTrial : Nat → Nat) (aPast : Nat → Nat) (aKept : Nat → Nat) (aSeen : Nat → Nat) (aLand : Nat → Nat) (aDraft : Nat → Nat)  (f_lying : Nat → Int32) (f_damp : Nat → Int32) (f_told : Nat → Int32) (f_heights : Nat → Int32) (f_burnt : Nat → Int32) (f_layerWords : Nat → Int32) (f_layerWetness : Nat → Int32) (f_layerHeat : Nat → Int32) (f_hours : Int32) (g_speeches : Nat → Int32) (g_speechLengths : Nat → Int32) (g_weather : Nat → Int32) (g_kindsOfCows : Nat → Int32) (g_thatches : Nat → Int32) (g_weatherLength : Int32) (g_mowers : Int32) (g_cows : Int32) (g_ricks : Int32) (x1 : Int32) (x2 : Int32) {o : Int32} (h : jf_H_first N f_hours g_speeches g_speechLengths g_mowers x1 x2 = some o) : hk_Mi l jy_H_first jb_H_first 5 (some .int) jr_H_first D cI cF ((wH a aText aField aTrial aPast aKept aSeen aLand aDraft) ++ ((wF cI aField f_lying f_damp f_told f_heights f_burnt f_layerWords f_layerWetness f_layerHeat f_hours) ++ (wL cI aLand g_speeches g_speechLengths g_weather g_kindsOfCows g_thatches g_weatherLength g_mowers g_cows g_ricks))) [.ref (a 0), .int x1, .int x2] o ((wH a aText aField aTrial aPast aKept aSeen aLand aDraft) ++ ((wF cI aField f_lying f_damp f_told f_heights f_burnt f_layerWords f_layerWetness f_layerHeat f_hours) ++ (wL cI aLand g_speeches g_speechLengths g_weather g_kindsOfCows g_thatches g_weatherLength g_mowers g_cows g_ricks))) :=
  hk_metI (by decide) (Nat.le_of_ble_eq_true rfl) rfl rfl (fun p e s m args below meth c A hC hr => jw_H_first hC hr N a aText aField aTrial aPast aKept aSeen aLand aDraft f_lying f_damp f_told f_heights f_burnt f_layerWords f_layerWetness f_layerHeat f_hours g_speeches g_speechLengths g_weather g_kindsOfCows g_thatches g_weatherLength g_mowers g_cows g_ricks x1 x2 h)
set_option maxHeartbeats 8000000 in
set_option maxRecDepth 100000 in
theorem jw_H_inLowestTerms {p : Program} {l : Launch} {e : Env} {s : State} {m : MethodId} {args : Array Value} {below : List Frame} {meth : Method} {c : Code} {A : Nat → Prop} {D : va_G} {cI cF : ClassId} (hC : hk_ok p s m args meth c A 7 D cI cF "HayTalk" jb_H_inLowestTerms) (hr : meth.sig.returnType = (some .int)) (N : Nat)    (x0 : Int32) (x1 : Int32) (x2 : Int32) {o : Int32} (h : jf_H_inLowestTerms N x0 x1 x2 = some o) : hk_W p l e jr_H_inLowestTerms s m args below meth c A (hk_Zi below args s D A o ([] : va_W)) 7 D 0 0 ([] : va_W) 0 [(0, .int x0), (1, .int x1), (2, .int x2)] [] := by
  have B_8 : ∀ (x0 : Int32) (x1 : Int32) (x2 : Int32) (x3 : Int32) (x4 : Int32) (x5 : Int32) (kh8 : (Int32 × Int32 × Int32) → Option (Int32)) (kx39 : (Int32) → Option (Int32)) (ihh8 : ∀ q, kh8 q = some o → hk_W p l e jr_H_inLowestTerms s m args below meth c A (hk_Zi below args s D A o ([] : va_W)) 7 D 0 0 ([] : va_W) 8 [(0, .int x0), (1, .int x1), (2, .int x2), (3, .int q.1), (4, .int q.2.1), (5, .int q.2.2)] []) (ihx39 : ∀ q, kx39 q = some o → hk_W p l e jr_H_inLowestTerms s m args below meth c A (hk_Zi below args s D A o ([] : va_W)) 7 D 0 0 ([] : va_W) 39 [(0, .int x0), (1, .int x1), (2, .int x2), (3, .int q)] []) (_ : jf_H_inLowestTerms_8B N x0 x1 x2 x3 x4 x5 kh8 kx39 = some o), hk_W p l e jr_H_inLowestTerms s m args below meth c A (hk_Zi below args s D A o ([] : va_W)) 7 D 0 0 ([] : va_W) 8 [(0, .int x0), (1, .int x1), (2, .int x2), (3, .int x3), (4, .int x4), (5, .int x5)] [] := by
    intro x0 x1 x2 x3 x4 x5 kh8 kx39 ihh8 ihx39 h
    delta jf_H_inLowestTerms_8B at h
    refine hk_iload hC jd_H_inLowestTerms_8 5 rfl ?_
    refine hk_bipush (v := 100) hC jd_H_inLowestTerms_10 (by decide) ?_
    refine hk_icmp_ge (tgt := 39) hC jd_H_inLowestTerms_12 (by decide) (fun cc1 => ?_) (fun cc1 => ?_)
    · replace h := xi_t h cc1
      exact hk_lv [0, 1, 2, 3] rfl (ihx39 x3 h)
    · replace h := xi_f h cc1
      refine hk_iload hC jd_H_inLowestTerms_15 4 rfl ?_
      refine hk_if_eq (tgt := 39) hC jd_H_inLowestTerms_17 (by decide) (fun cc2 => ?_) (fun cc2 => ?_)
      · replace h := xi_t h cc2
        exact hk_lv [0, 1, 2, 3] rfl (ihx39 x3 h)
      · replace h := xi_f h cc2
        refine hk_iload_n hC jd_H_inLowestTerms_20 3 rfl ?_
        refine hk_iload hC jd_H_inLowestTerms_21 4 rfl ?_
        have hz1 := xz_in h
        replace h := xz_go h
        refine hk_irem hC jd_H_inLowestTerms_23 hz1 ?_
        obtain ⟨v1, e_v1, h⟩ := xl_go h
        refine hk_istore hC (i := 6) (y := v1) (lv2 := [(6, .int v1), (0, .int x0), (1, .int x1), (2, .int x2), (3, .int x3), (4, .int x4), (5, .int x5)]) jd_H_inLowestTerms_24 e_v1 (by decide) rfl ?_
        refine hk_iload hC jd_H_inLowestTerms_26 5 rfl ?_
        refine hk_istore_n hC (i := 3) (y := x4) (lv2 := [(3, .int x4), (6, .int v1), (0, .int x0), (1, .int x1), (2, .int x2), (4, .int x4), (5, .int x5)]) jd_H_inLowestTerms_28 rfl rfl (by decide) rfl ?_
        refine hk_iload hC jd_H_inLowestTerms_29 1 rfl ?_
        refine hk_istore hC (i := 4) (y := v1) (lv2 := [(4, .int v1), (3, .int x4), (6, .int v1), (0, .int x0), (1, .int x1), (2, .int x2), (5, .int x5)]) jd_H_inLowestTerms_31 rfl (by decide) rfl ?_
        obtain ⟨v2, e_v2, h⟩ := xl_go h
        refine hk_iinc hC (lv2 := [(5, .int v2), (4, .int v1), (3, .int x4), (6, .int v1), (0, .int x0), (1, .int x1), (2, .int x2)]) jd_H_inLowestTerms_33 6 rfl e_v2 (by decide) rfl ?_
        refine hk_goto (tgt := 8) hC jd_H_inLowestTerms_36 (by decide) ?_
        exact hk_lv [4, 5, 6, 2, 1, 0] rfl (ihh8 (x4, v1, v2) h)
  have L_8 : ∀ (x0 : Int32) (x1 : Int32) (x2 : Int32) (x3 : Int32) (x4 : Int32) (x5 : Int32) (kx39 : (Int32) → Option (Int32)) (ihx39 : ∀ q, kx39 q = some o → hk_W p l e jr_H_inLowestTerms s m args below meth c A (hk_Zi below args s D A o ([] : va_W)) 7 D 0 0 ([] : va_W) 39 [(0, .int x0), (1, .int x1), (2, .int x2), (3, .int q)] []) (_ : jf_H_inLowestTerms_8 N x0 x1 x2 x3 x4 x5 kx39 = some o), hk_W p l e jr_H_inLowestTerms s m args below meth c A (hk_Zi below args s D A o ([] : va_W)) 7 D 0 0 ([] : va_W) 8 [(0, .int x0), (1, .int x1), (2, .int x2), (3, .int x3), (4, .int x4), (5, .int x5)] [] := by
    intro x0 x1 x2 x3 x4 x5 kx39 ihx39 h
    exact xloopW (fun (q : Int32 × Int32 × Int32) => hk_W p l e jr_H_inLowestTerms s m args below meth c A (hk_Zi below args s D A o ([] : va_W)) 7 D 0 0 ([] : va_W) 8 [(0, .int x0), (1, .int x1), (2, .int x2), (3, .int q.1), (4, .int q.2.1), (5, .int q.2.2)] []) (fun kh ih q h => B_8 x0 x1 x2 q.1 q.2.1 q.2.2 kh kx39 ih ihx39 h) N (x3, x4, x5) h
  have B_48 : ∀ (x3 : Int32) (y0 : Int32)   (_ : jf_H_inLowestTerms_48 N x3 y0  = some o), hk_W p l e jr_H_inLowestTerms s m args below meth c A (hk_Zi below args s D A o ([] : va_W)) 7 D 0 0 ([] : va_W) 48 [(3, .int x3)] [.int y0] := by
    intro x3 y0   h
    delta jf_H_inLowestTerms_48 at h
    refine hk_istore hC (i := 5) (y := y0) (lv2 := [(5, .int y0), (3, .int x3)]) jd_H_inLowestTerms_48 rfl (by decide) rfl ?_
    refine hk_iload_n hC jd_H_inLowestTerms_50 1 rfl ?_
    refine hk_if_eq (tgt := 61) hC jd_H_inLowestTerms_51 (by decide) (fun cc1 => ?_) (fun cc1 => ?_)
    · replace h := xi_t h cc1
      refine hk_iload hC jd_H_inLowestTerms_61 0 rfl ?_
      obtain rfl := Option.some.inj h
      exact hk_iret hC hr jd_H_inLowestTerms_63 rfl rfl
    · replace h := xi_f h cc1
      refine hk_iload hC jd_H_inLowestTerms_54 0 rfl ?_
      refine hk_iload_n hC jd_H_inLowestTerms_56 1 rfl ?_
      have hz1 := xz_in h
      replace h := xz_go h
      refine hk_idiv hC jd_H_inLowestTerms_57 hz1 ?_
      refine hk_goto (tgt := 63) hC jd_H_inLowestTerms_58 (by decide) ?_
      obtain rfl := Option.some.inj h
      exact hk_iret hC hr jd_H_inLowestTerms_63 rfl rfl
  have B_39 : ∀ (x0 : Int32) (x1 : Int32) (x2 : Int32) (x3 : Int32)   (_ : jf_H_inLowestTerms_39 N x0 x1 x2 x3  = some o), hk_W p l e jr_H_inLowestTerms s m args below meth c A (hk_Zi below args s D A o ([] : va_W)) 7 D 0 0 ([] : va_W) 39 [(0, .int x0), (1, .int x1), (2, .int x2), (3, .int x3)] [] := by
    intro x0 x1 x2 x3   h
    delta jf_H_inLowestTerms_39 at h
    refine hk_iload_n hC jd_H_inLowestTerms_39 2 rfl ?_
    refine hk_if_ne (tgt := 47) hC jd_H_inLowestTerms_40 (by decide) (fun cc1 => ?_) (fun cc1 => ?_)
    · replace h := xi_f h cc1
      refine hk_iload_n hC jd_H_inLowestTerms_47 1 rfl ?_
      exact hk_lv [3] rfl (B_48 x3 x1   h)
    · replace h := xi_t h cc1
      refine hk_iload_n hC jd_H_inLowestTerms_43 0 rfl ?_
      refine hk_goto (tgt := 48) hC jd_H_inLowestTerms_44 (by decide) ?_
      exact hk_lv [3] rfl (B_48 x3 x0   h)
  delta jf_H_inLowestTerms at h
  refine hk_iload_n hC jd_H_inLowestTerms_0 1 rfl ?_
  refine hk_istore_n hC (i := 3) (y := x1) (lv2 := [(3, .int x1), (0, .int x0), (1, .int x1), (2, .int x2)]) jd_H_inLowestTerms_1 rfl rfl (by decide) rfl ?_
  refine hk_iload_n hC jd_H_inLowestTerms_2 1 rfl ?_
  refine hk_istore hC (i := 4) (y := x0) (lv2 := [(4, .int x0), (3, .int x1), (0, .int x0), (1, .int x1), (2, .int x2)]) jd_H_inLowestTerms_3 rfl (by decide) rfl ?_
  refine hk_iconst (v := 0) hC jd_H_inLowestTerms_5 (by decide) ?_
  refine hk_istore hC (i := 5) (y := (0 : Int32)) (lv2 := [(5, .int (0 : Int32)), (4, .int x0), (3, .int x1), (0, .int x0), (1, .int x1), (2, .int x2)]) jd_H_inLowestTerms_6 rfl (by decide) rfl ?_
  exact hk_lv [3, 4, 5, 2, 1, 0] rfl (L_8 x0 x1 x2 x1 x0 (0 : Int32) _ (fun q1 h => by exact (B_39 x0 x1 x2 q1   h)) h)
theorem jc_H_inLowestTerms (l : Launch) (D : va_G) (cI cF : ClassId) (N : Nat)    (x0 : Int32) (x1 : Int32) (x2 : Int32) {o : Int32} (h : jf_H_inLowestTerms N x0 x1 x2 = some o) : hk_Mi l jy_H_inLowestTerms jb_H_inLowestTerms 7 (some .int) jr_H_inLowestTerms D cI cF ([] : va_W) [.int x0, .int x1, .int x2] o ([] : va_W) :=
  hk_metI (by decide) (Nat.le_of_ble_eq_true rfl) rfl rfl (fun p e s m args below meth c A hC hr => jw_H_inLowestTerms hC hr N x0 x1 x2 h)
