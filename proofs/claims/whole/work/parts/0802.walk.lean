set_option maxHeartbeats 8000000 in
set_option maxRecDepth 100000 in
theorem jw_M_numberOf {p : Program} {l : Launch} {e : Env} {s : State} {m : MethodId} {args : Array Value} {below : List Frame} {meth : Method} {c : Code} {A : Nat → Prop} {D : va_G} {cI cF : ClassId} (hC : hk_ok p s m args meth c A 3 D cI cF "HayTalkModel" jb_M_numberOf) (hr : meth.sig.returnType = (some .int)) (N : Nat) (a : Nat → Nat)  (text : Nat → Int32) (letters : Int32) (mowers : Int32) (cows : Int32) (ricks : Int32) (weathers : Int32) (says : Nat → Int32) (words : Nat → Int32) (weather : Nat → Int32) (kindOf : Nat → Int32) (thatch : Nat → Int32) (newMowers : Int32) (newCows : Int32) (newRicks : Int32) (newWeathers : Int32) (newSays : Nat → Int32) (newWords : Nat → Int32) (newWeather : Nat → Int32) (newKind : Nat → Int32) (newThatch : Nat → Int32) (st : Nat → Int32) (pasts : Int32) (past : Nat → Int32) (aside : Nat → Int32) (seen : Int32) (seenWord : Nat → Int32) (seenHour : Nat → Int32) (keeps : Int32) (kept : Nat → Int32) (x1 : Int32) (x2 : Int32) {o : Int32} (h : jf_M_numberOf N text x1 x2 = some o) : hk_W p l e jr_M_numberOf s m args below meth c A (hk_Zi below args s D A o (wM cI a text letters mowers cows ricks weathers says words weather kindOf thatch newMowers newCows newRicks newWeathers newSays newWords newWeather newKind newThatch st pasts past aside seen seenWord seenHour keeps kept)) 3 D 0 0 (wM cI a text letters mowers cows ricks weathers says words weather kindOf thatch newMowers newCows newRicks newWeathers newSays newWords newWeather newKind newThatch st pasts past aside seen seenWord seenHour keeps kept) 0 [(0, .ref (a 0)), (1, .int x1), (2, .int x2)] [] := by
  delta jf_M_numberOf at h
  refine hk_iload_n hC jd_M_numberOf_0 2 rfl ?_
  refine hk_iload_n hC jd_M_numberOf_1 1 rfl ?_
  refine hk_isub hC jd_M_numberOf_2 ?_
  refine hk_i2l hC jd_M_numberOf_3 ?_
  refine hk_lconst (v := 1) hC jd_M_numberOf_4 (by decide) ?_
  refine hk_ldc2 hC jd_M_numberOf_5 jq_689 ?_
  obtain ⟨q1, h_q1, h⟩ := xb_go h
  refine hk_callS0i hC (jc_M_in l D cI cF N (Int32.toInt64 (x2 - x1)) (1 : Int64) (2 : Int64) h_q1) jl_M_in jq_673 jq_674 rfl ⟨by decide, by decide⟩ rfl (Nat.le_of_ble_eq_true rfl) ⟨Nat.zero_le _, Nat.zero_le _⟩ jd_M_numberOf_8 ?_
  refine hk_if_eq (tgt := 25) hC jd_M_numberOf_11 (by decide) (fun cc1 => ?_) (fun cc1 => ?_)
  · replace h := xi_t h cc1
    refine hk_iconst (v := -1) hC jd_M_numberOf_25 (by decide) ?_
    obtain rfl := Option.some.inj h
    exact hk_iret hC hr jd_M_numberOf_26 rfl rfl
  · replace h := xi_f h cc1
    refine hk_aload_n hC jd_M_numberOf_14 0 rfl ?_
    refine hk_iload_n hC jd_M_numberOf_15 1 rfl ?_
    refine hk_iload_n hC jd_M_numberOf_16 2 rfl ?_
    refine hk_bipush (v := 9) hC jd_M_numberOf_17 (by decide) ?_
    obtain ⟨q2, h_q2, h⟩ := xb_go h
    refine hk_callVWi hC (q0 := 0) (jc_M_isRow l D cI cF N a text letters mowers cows ricks weathers says words weather kindOf thatch newMowers newCows newRicks newWeathers newSays newWords newWeather newKind newThatch st pasts past aside seen seenWord seenHour keeps kept x1 x2 (9 : Int32) h_q2) jl_M_isRow rfl rfl jq_668 jq_670 jq0_16 rfl ⟨by decide, by decide⟩ rfl rfl (Nat.le_of_ble_eq_true rfl) ⟨Nat.zero_le _, Nat.zero_le _⟩ jd_M_numberOf_19 ?_
    refine hk_if_ne (tgt := 27) hC jd_M_numberOf_22 (by decide) (fun cc2 => ?_) (fun cc2 => ?_)
    · replace h := xi_f h cc2
      refine hk_iload_n hC jd_M_numberOf_27 2 rfl ?_
      refine hk_iload_n hC jd_M_numberOf_28 1 rfl ?_
      refine hk_isub hC jd_M_numberOf_29 ?_
      refine hk_iconst (v := 1) hC jd_M_numberOf_30 (by decide) ?_
      refine hk_icmp_ne (tgt := 46) hC jd_M_numberOf_31 (by decide) (fun cc3 => ?_) (fun cc3 => ?_)
      · replace h := xi_f h cc3
        refine hk_bipush (v := 10) hC jd_M_numberOf_46 (by decide) ?_
        refine hk_aload_n hC jd_M_numberOf_48 0 rfl ?_
        refine hk_get hC jk_M 0 rfl 0 (by decide) jq_698 rfl jd_M_numberOf_49 ?_
        refine hk_iload_n hC jd_M_numberOf_52 1 rfl ?_
        have hr1 := xr_in h
        replace h := xr_go h
        refine hk_iald hC 1 rfl hr1 jd_M_numberOf_53 ?_
        refine hk_bipush (v := 48) hC jd_M_numberOf_54 (by decide) ?_
        refine hk_isub hC jd_M_numberOf_56 ?_
        refine hk_imul hC jd_M_numberOf_57 ?_
        refine hk_aload_n hC jd_M_numberOf_58 0 rfl ?_
        refine hk_get hC jk_M 0 rfl 0 (by decide) jq_698 rfl jd_M_numberOf_59 ?_
        refine hk_iload_n hC jd_M_numberOf_62 1 rfl ?_
        refine hk_iconst (v := 1) hC jd_M_numberOf_63 (by decide) ?_
        refine hk_iadd hC jd_M_numberOf_64 ?_
        have hr2 := xr_in h
        replace h := xr_go h
        refine hk_iald hC 1 rfl hr2 jd_M_numberOf_65 ?_
        refine hk_iadd hC jd_M_numberOf_66 ?_
        refine hk_bipush (v := 48) hC jd_M_numberOf_67 (by decide) ?_
        refine hk_isub hC jd_M_numberOf_69 ?_
        obtain rfl := Option.some.inj h
        exact hk_iret hC hr jd_M_numberOf_70 rfl rfl
      · replace h := xi_t h cc3
        refine hk_aload_n hC jd_M_numberOf_34 0 rfl ?_
        refine hk_get hC jk_M 0 rfl 0 (by decide) jq_698 rfl jd_M_numberOf_35 ?_
        refine hk_iload_n hC jd_M_numberOf_38 1 rfl ?_
        have hr3 := xr_in h
        replace h := xr_go h
        refine hk_iald hC 1 rfl hr3 jd_M_numberOf_39 ?_
        refine hk_bipush (v := 48) hC jd_M_numberOf_40 (by decide) ?_
        refine hk_isub hC jd_M_numberOf_42 ?_
        refine hk_goto (tgt := 70) hC jd_M_numberOf_43 (by decide) ?_
        obtain rfl := Option.some.inj h
        exact hk_iret hC hr jd_M_numberOf_70 rfl rfl
    · replace h := xi_t h cc2
      refine hk_iconst (v := -1) hC jd_M_numberOf_25 (by decide) ?_
      obtain rfl := Option.some.inj h
      exact hk_iret hC hr jd_M_numberOf_26 rfl rfl
theorem jc_M_numberOf (l : Launch) (D : va_G) (cI cF : ClassId) (N : Nat) (a : Nat → Nat)  (text : Nat → Int32) (letters : Int32) (mowers : Int32) (cows : Int32) (ricks : Int32) (weathers : Int32) (says : Nat → Int32) (words : Nat → Int32) (weather : Nat → Int32) (kindOf : Nat → Int32) (thatch : Nat → Int32) (newMowers : Int32) (newCows : Int32) (newRicks : Int32) (newWeathers : Int32) (newSays : Nat → Int32) (newWords : Nat → Int32) (newWeather : Nat → Int32) (newKind : Nat → Int32) (newThatch : Nat → Int32) (st : Nat → Int32) (pasts : Int32) (past : Nat → Int32) (aside : Nat → Int32) (seen : Int32) (seenWord : Nat → Int32) (seenHour : Nat → Int32) (keeps : Int32) (kept : Nat → Int32) (x1 : Int32) (x2 : Int32) {o : Int32} (h : jf_M_numberOf N text x1 x2 = some o) : hk_Mi l jy_M_numberOf jb_M_numberOf 3 (some .int) jr_M_numberOf D cI cF (wM cI a text letters mowers cows ricks weathers says words weather kindOf thatch newMowers newCows newRicks newWeathers newSays newWords newWeather newKind newThatch st pasts past aside seen seenWord seenHour keeps kept) [.ref (a 0), .int x1, .int x2] o (wM cI a text letters mowers cows ricks weathers says words weather kindOf thatch newMowers newCows newRicks newWeathers newSays newWords newWeather newKind newThatch st pasts past aside seen seenWord seenHour keeps kept) :=
  hk_metI (by decide) (Nat.le_of_ble_eq_true rfl) rfl rfl (fun p e s m args below meth c A hC hr => jw_M_numberOf hC hr N a text letters mowers cows ricks weathers says words weather kindOf thatch newMowers newCows newRicks newWeathers newSays newWords newWeather newKind newThatch st pasts past aside seen seenWord seenHour keeps kept x1 x2 h)
set_option maxHeartbeats 8000000 in
set_option maxRecDepth 100000 in
theorem jw_M_readCow {p : Program} {l : Launch} {e : Env} {s : State} {m : MethodId} {args : Array Value} {below : List Frame} {meth : Method} {c : Code} {A : Nat → Prop} {D : va_G} {cI cF : ClassId} (hC : hk_ok p s m args meth c A 4 D cI cF "HayTalkModel" jb_M_readCow) (hr : meth.sig.returnType = (some .boolean)) (N : Nat) (a : Nat → Nat)  (text : Nat → Int32) (letters : Int32) (mowers : Int32) (cows : Int32) (ricks : Int32) (weathers : Int32) (says : Nat → Int32) (words : Nat → Int32) (weather : Nat → Int32) (kindOf : Nat → Int32) (thatch : Nat → Int32) (newMowers : Int32) (newCows : Int32) (newRicks : Int32) (newWeathers : Int32) (newSays : Nat → Int32) (newWords : Nat → Int32) (newWeather : Nat → Int32) (newKind : Nat → Int32) (newThatch : Nat → Int32) (st : Nat → Int32) (pasts : Int32) (past : Nat → Int32) (aside : Nat → Int32) (seen : Int32) (seenWord : Nat → Int32) (seenHour : Nat → Int32) (keeps : Int32) (kept : Nat → Int32) (x1 : Int32) (x2 : Int32) {o : Int32 × Int32 × (Nat → Int32)} (h : jf_M_readCow N text newCows newKind x1 x2 = some o) : hk_W p l e jr_M_readCow s m args below meth c A (hk_Zi below args s D A o.1 (wM cI a text letters mowers cows ricks weathers says words weather kindOf thatch newMowers o.2.1 newRicks newWeathers newSays newWords newWeather o.2.2 newThatch st pasts past aside seen seenWord seenHour keeps kept)) 4 D 0 0 (wM cI a text letters mowers cows ricks weathers says words weather kindOf thatch newMowers newCows newRicks newWeathers newSays newWords newWeather newKind newThatch st pasts past aside seen seenWord seenHour keeps kept) 0 [(0, .ref (a 0)), (1, .int x1), (2, .int x2)] [] := by
  delta jf_M_readCow at h
  refine hk_aload_n hC jd_M_readCow_0 0 rfl ?_
  refine hk_iload_n hC jd_M_readCow_1 1 rfl ?_
  refine hk_iload_n hC jd_M_readCow_2 2 rfl ?_
  obtain ⟨q1, h_q1, h⟩ := xb_go h
  refine hk_callVWi hC (q0 := 0) (jc_M_numberOf l D cI cF N a text letters mowers cows ricks weathers says words weather kindOf thatch newMowers newCows newRicks newWeathers newSays newWords newWeather newKind newThatch st pasts past aside seen seenWord seenHour keeps kept x1 x2 h_q1) jl_M_numberOf rfl rfl jq_685 jq_687 jq0_19 rfl ⟨by decide, by decide⟩ rfl rfl (Nat.le_of_ble_eq_true rfl) ⟨Nat.zero_le _, Nat.zero_le _⟩ jd_M_readCow_3 ?_
  refine hk_istore_n hC (i := 3) (y := q1) (lv2 := [(3, .int q1), (0, .ref (a 0)), (1, .int x1), (2, .int x2)]) jd_M_readCow_6 rfl rfl (by decide) rfl ?_
  refine hk_aload_n hC jd_M_readCow_7 1 rfl ?_
  refine hk_get hC jk_M 0 rfl 12 (by decide) jq_710 rfl jd_M_readCow_8 ?_
  refine hk_iconst (v := 4) hC jd_M_readCow_11 (by decide) ?_
  refine hk_icmp_eq (tgt := 27) hC jd_M_readCow_12 (by decide) (fun cc1 => ?_) (fun cc1 => ?_)
  · replace h := xi_t h cc1
    refine hk_iconst (v := 0) hC jd_M_readCow_27 (by decide) ?_
    obtain rfl := Option.some.inj h
    exact hk_zret hC hr rfl jd_M_readCow_28 rfl rfl
  · replace h := xi_f h cc1
    refine hk_iload_n hC jd_M_readCow_15 0 rfl ?_
    refine hk_i2l hC jd_M_readCow_16 ?_
    refine hk_lconst (v := 0) hC jd_M_readCow_17 (by decide) ?_
    refine hk_ldc2 hC jd_M_readCow_18 jq_690 ?_
    obtain ⟨q2, h_q2, h⟩ := xb_go h
    refine hk_callS0i hC (jc_M_in l D cI cF N (Int32.toInt64 q1) (0 : Int64) (3 : Int64) h_q2) jl_M_in jq_673 jq_674 rfl ⟨by decide, by decide⟩ rfl (Nat.le_of_ble_eq_true rfl) ⟨Nat.zero_le _, Nat.zero_le _⟩ jd_M_readCow_21 ?_
    refine hk_if_ne (tgt := 29) hC jd_M_readCow_24 (by decide) (fun cc2 => ?_) (fun cc2 => ?_)
    · replace h := xi_f h cc2
      refine hk_aload_n hC jd_M_readCow_29 1 rfl ?_
      refine hk_get hC jk_M 0 rfl 18 (by decide) jq_716 rfl jd_M_readCow_30 ?_
      refine hk_aload_n hC jd_M_readCow_33 1 rfl ?_
      refine hk_get hC jk_M 0 rfl 12 (by decide) jq_710 rfl jd_M_readCow_34 ?_
      refine hk_iload_n hC jd_M_readCow_37 0 rfl ?_
      have hr1 := xr_in h
      replace h := xr_go h
      obtain ⟨z1, e_z1, h⟩ := xl_go h
      refine hk_iast hC 10 rfl hr1 e_z1 (ws2 := (wM cI a text letters mowers cows ricks weathers says words weather kindOf thatch newMowers newCows newRicks newWeathers newSays newWords newWeather z1 newThatch st pasts past aside seen seenWord seenHour keeps kept)) rfl jd_M_readCow_38 ?_
      refine hk_aload_n hC jd_M_readCow_39 1 rfl ?_
      refine hk_dup hC jd_M_readCow_40 rfl ?_
      refine hk_get hC jk_M 0 rfl 12 (by decide) jq_710 rfl jd_M_readCow_41 ?_
      refine hk_iconst (v := 1) hC jd_M_readCow_44 (by decide) ?_
      refine hk_iadd hC jd_M_readCow_45 ?_
      obtain ⟨v1, e_v1, h⟩ := xl_go h
      refine hk_topi e_v1 ?_
      refine hk_put hC jk_M 0 rfl 12 (by decide) jq_710 rfl rfl rfl (Nat.le_of_ble_eq_true rfl) (ws2 := (wM cI a text letters mowers cows ricks weathers says words weather kindOf thatch newMowers v1 newRicks newWeathers newSays newWords newWeather z1 newThatch st pasts past aside seen seenWord seenHour keeps kept)) rfl jd_M_readCow_46 ?_
      refine hk_iconst (v := 1) hC jd_M_readCow_49 (by decide) ?_
      obtain rfl := Option.some.inj h
      exact hk_zret hC hr rfl jd_M_readCow_50 rfl rfl
    · replace h := xi_t h cc2
      refine hk_iconst (v := 0) hC jd_M_readCow_27 (by decide) ?_
      obtain rfl := Option.some.inj h
      exact hk_zret hC hr rfl jd_M_readCow_28 rfl rfl
theorem jc_M_readCow (l : Launch) (D : va_G) (cI cF : ClassId) (N : Nat) (a : Nat → Nat)  (text : Nat → Int32) (letters : Int32) (mowers : Int32) (cows : Int32) (ricks : Int32) (weathers : Int32) (says : Nat → Int32) (words : Nat → Int32) (weather : Nat → Int32) (kindOf : Nat → Int32) (thatch : Nat → Int32) (newMowers : Int32) (newCows : Int32) (newRicks : Int32) (newWeathers : Int32) (newSays : Nat → Int32) (newWords : Nat → Int32) (newWeather : Nat → Int32) (newKind : Nat → Int32) (newThatch : Nat → Int32) (st : Nat → Int32) (pasts : Int32) (past : Nat → Int32) (aside : Nat → Int32) (seen : Int32) (seenWord : Nat → Int32) (seenHour : Nat → Int32) (keeps : Int32) (kept : Nat → Int32) (x1 : Int32) (x2 : Int32) {o : Int32 × Int32 × (Nat → Int32)} (h : jf_M_readCow N text newCows newKind x1 x2 = some o) : hk_Mi l jy_M_readCow jb_M_readCow 4 (some .boolean) jr_M_readCow D cI cF (wM cI a text letters mowers cows ricks weathers says words weather kindOf thatch newMowers newCows newRicks newWeathers newSays newWords newWeather newKind newThatch st pasts past aside seen seenWord seenHour keeps kept) [.ref (a 0), .int x1, .int x2] o.1 (wM cI a text letters mowers cows ricks weathers says words weather kindOf thatch newMowers o.2.1 newRicks newWeathers newSays newWords newWeather o.2.2 newThatch st pasts past aside seen seenWord seenHour keeps kept) :=
  hk_metI (by decide) (Nat.le_of_ble_eq_true rfl) rfl rfl (fun p e s m args below meth c A hC hr => jw_M_readCow hC hr N a text letters mowers cows ricks weathers says words weather kindOf thatch newMowers newCows newRicks newWeathers newSays newWords newWeather newKind newThatch st pasts past aside seen seenWord seenHour keeps kept x1 x2 h)
set_option maxHeartbeats 8000000 in
set_option maxRecDepth 100000 in
theorem jw_M_readRick {p : Program} {l : Launch} {e : Env} {s : State} {m : MethodId} {args : Array Value} {below : List Frame} {meth : Method} {c : Code} {A : Nat → Prop} {D : va_G} {cI cF : ClassId} (hC : hk_ok p s m args meth c A 4 D cI cF "HayTalkModel" jb_M_readRick) (hr : meth.sig.returnType = (some .boolean)) (N : Nat) (a : Nat → Nat)  (text : Nat → Int32) (letters : Int32) (mowers : Int32) (cows : Int32) (ricks : Int32) (weathers : Int32) (says : Nat → Int32) (words : Nat → Int32) (weather : Nat → Int32) (kindOf : Nat → Int32) (thatch : Nat → Int32) (newMowers : Int32) (newCows : Int32) (newRicks : Int32) (newWeathers : Int32) (newSays : Nat → Int32) (newWords : Nat → Int32) (newWeather : Nat → Int32) (newKind : Nat → Int32) (newThatch : Nat → Int32) (st : Nat → Int32) (pasts : Int32) (past : Nat → Int32) (aside : Nat → Int32) (seen : Int32) (seenWord : Nat → Int32) (seenHour : Nat → Int32) (keeps : Int32) (kept : Nat → Int32) (x1 : Int32) (x2 : Int32) {o : Int32 × Int32 × (Nat → Int32)} (h : jf_M_readRick N text newRicks newThatch x1 x2 = some o) : hk_W p l e jr_M_readRick s m args below meth c A (hk_Zi below args s D A o.1 (wM cI a text letters mowers cows ricks weathers says words weather kindOf thatch newMowers newCows o.2.1 newWeathers newSays newWords newWeather newKind o.2.2 st pasts past aside seen seenWord seenHour keeps kept)) 4 D 0 0 (wM cI a text letters mowers cows ricks weathers says words weather kindOf thatch newMowers newCows newRicks newWeathers newSays newWords newWeather newKind newThatch st pasts past aside seen seenWord seenHour keeps kept) 0 [(0, .ref (a 0)), (1, .int x1), (2, .int x2)] [] := by
  delta jf_M_readRick at h
  refine hk_aload_n hC jd_M_readRick_0 0 rfl ?_
  refine hk_iload_n hC jd_M_readRick_1 1 rfl ?_
  refine hk_iload_n hC jd_M_readRick_2 2 rfl ?_
  obtain ⟨q1, h_q1, h⟩ := xb_go h
  refine hk_callVWi hC (q0 := 0) (jc_M_numberOf l D cI cF N a text letters mowers cows ricks weathers says words weather kindOf thatch newMowers newCows newRicks newWeathers newSays newWords newWeather newKind newThatch st pasts past aside seen seenWord seenHour keeps kept x1 x2 h_q1) jl_M_numberOf rfl rfl jq_685 jq_687 jq0_19 rfl ⟨by decide, by decide⟩ rfl rfl (Nat.le_of_ble_eq_true rfl) ⟨Nat.zero_le _, Nat.zero_le _⟩ jd_M_readRick_3 ?_
  refine hk_istore_n hC (i := 3) (y := q1) (lv2 := [(3, .int q1), (0, .ref (a 0)), (1, .int x1), (2, .int x2)]) jd_M_readRick_6 rfl rfl (by decide) rfl ?_
  refine hk_aload_n hC jd_M_readRick_7 1 rfl ?_
  refine hk_get hC jk_M 0 rfl 13 (by decide) jq_711 rfl jd_M_readRick_8 ?_
  refine hk_iconst (v := 3) hC jd_M_readRick_11 (by decide) ?_
  refine hk_icmp_eq (tgt := 27) hC jd_M_readRick_12 (by decide) (fun cc1 => ?_) (fun cc1 => ?_)
  · replace h := xi_t h cc1
    refine hk_iconst (v := 0) hC jd_M_readRick_27 (by decide) ?_
    obtain rfl := Option.some.inj h
    exact hk_zret hC hr rfl jd_M_readRick_28 rfl rfl
  · replace h := xi_f h cc1
    refine hk_iload_n hC jd_M_readRick_15 0 rfl ?_
    refine hk_i2l hC jd_M_readRick_16 ?_
    refine hk_lconst (v := 0) hC jd_M_readRick_17 (by decide) ?_
    refine hk_ldc2 hC jd_M_readRick_18 jq_672 ?_
    obtain ⟨q2, h_q2, h⟩ := xb_go h
    refine hk_callS0i hC (jc_M_in l D cI cF N (Int32.toInt64 q1) (0 : Int64) (9 : Int64) h_q2) jl_M_in jq_673 jq_674 rfl ⟨by decide, by decide⟩ rfl (Nat.le_of_ble_eq_true rfl) ⟨Nat.zero_le _, Nat.zero_le _⟩ jd_M_readRick_21 ?_
    refine hk_if_ne (tgt := 29) hC jd_M_readRick_24 (by decide) (fun cc2 => ?_) (fun cc2 => ?_)
    · replace h := xi_f h cc2
      refine hk_aload_n hC jd_M_readRick_29 1 rfl ?_
      refine hk_get hC jk_M 0 rfl 19 (by decide) jq_717 rfl jd_M_readRick_30 ?_
      refine hk_aload_n hC jd_M_readRick_33 1 rfl ?_
      refine hk_get hC jk_M 0 rfl 13 (by decide) jq_711 rfl jd_M_readRick_34 ?_
      refine hk_iload_n hC jd_M_readRick_37 0 rfl ?_
      have hr1 := xr_in h
      replace h := xr_go h
      obtain ⟨z1, e_z1, h⟩ := xl_go h
      refine hk_iast hC 11 rfl hr1 e_z1 (ws2 := (wM cI a text letters mowers cows ricks weathers says words weather kindOf thatch newMowers newCows newRicks newWeathers newSays newWords newWeather newKind z1 st pasts past aside seen seenWord seenHour keeps kept)) rfl jd_M_readRick_38 ?_
      refine hk_aload_n hC jd_M_readRick_39 1 rfl ?_
      refine hk_dup hC jd_M_readRick_40 rfl ?_
      refine hk_get hC jk_M 0 rfl 13 (by decide) jq_711 rfl jd_M_readRick_41 ?_
      refine hk_iconst (v := 1) hC jd_M_readRick_44 (by decide) ?_
      refine hk_iadd hC jd_M_readRick_45 ?_
      obtain ⟨v1, e_v1, h⟩ := xl_go h
      refine hk_topi e_v1 ?_
      refine hk_put hC jk_M 0 rfl 13 (by decide) jq_711 rfl rfl rfl (Nat.le_of_ble_eq_true rfl) (ws2 := (wM cI a text letters mowers cows ricks weathers says words weather kindOf thatch newMowers newCows v1 newWeathers newSays newWords newWeather newKind z1 st pasts past aside seen seenWord seenHour keeps kept)) rfl jd_M_readRick_46 ?_
      refine hk_iconst (v := 1) hC jd_M_readRick_49 (by decide) ?_
      obtain rfl := Option.some.inj h
      exact hk_zret hC hr rfl jd_M_readRick_50 rfl rfl
    · replace h := xi_t h cc2
      refine hk_iconst (v := 0) hC jd_M_readRick_27 (by decide) ?_
      obtain rfl := Option.some.inj h
      exact hk_zret hC hr rfl jd_M_readRick_28 rfl rfl
theorem jc_M_readRick (l : Launch) (D : va_G) (cI cF : ClassId) (N : Nat) (a : Nat → Nat)  (text : Nat → Int32) (letters : Int32) (mowers : Int32) (cows : Int32) (ricks : Int32) (weathers : Int32) (says : Nat → Int32) (words : Nat → Int32) (weather : Nat → Int32) (kindOf : Nat → Int32) (thatch : Nat → Int32) (newMowers : Int32) (newCows : Int32) (newRicks : Int32) (newWeathers : Int32) (newSays : Nat → Int32) (newWords : Nat → Int32) (newWeather : Nat → Int32) (newKind : Nat → Int32) (newThatch : Nat → Int32) (st : Nat → Int32) (pasts : Int32) (past : Nat → Int32) (aside : Nat → Int32) (seen : Int32) (seenWord : Nat → Int32) (seenHour : Nat → Int32) (keeps : Int32) (kept : Nat → Int32) (x1 : Int32) (x2 : Int32) {o : Int32 × Int32 × (Nat → Int32)} (h : jf_M_readRick N text newRicks newThatch x1 x2 = some o) : hk_Mi l jy_M_readRick jb_M_readRick 4 (some .boolean) jr_M_readRick D cI cF (wM cI a text letters mowers cows ricks weathers says words weather kindOf thatch newMowers newCows newRicks newWeathers newSays newWords newWeather newKind newThatch st pasts past aside seen seenWord seenHour keeps kept) [.ref (a 0), .int x1, .int x2] o.1 (wM cI a text letters mowers cows ricks weathers says words weather kindOf thatch newMowers newCows o.2.1 newWeathers newSays newWords newWeather newKind o.2.2 st pasts past aside seen seenWord seenHour keeps kept) :=
  hk_metI (by decide) (Nat.le_of_ble_eq_true rfl) rfl rfl (fun p e s m args below meth c A hC hr => jw_M_readRick hC hr N a text letters mowers cows ricks weathers says words weather kindOf thatch newMowers newCows newRicks newWeathers newSays newWords newWeather newKind newThatch st pasts past aside seen seenWord seenHour keeps kept x1 x2 h)
set_option maxHeartbeats 8000000 in
set_option maxRecDepth 100000 in
theorem jw_M_readItem {p : Program} {l : Launch} {e : Env} {s : State} {m : MethodId} {args : Array Value} {below : List Frame} {meth : Method} {c : Code} {A : Nat → Prop} {D : va_G} {cI cF : ClassId} (hC : hk_ok p s m args meth c A 4 D cI cF "HayTalkModel" jb_M_readItem) (hr : meth.sig.returnType = (some .boolean)) (N : Nat) (a : Nat → Nat)  (text : Nat → Int32) (letters : Int32) (mowers : Int32) (cows : Int32) (ricks : Int32) (weathers : Int32) (says : Nat → Int32) (words : Nat → Int32) (weather : Nat → Int32) (kindOf : Nat → Int32) (thatch : Nat → Int32) (newMowers : Int32) (newCows : Int32) (newRicks : Int32) (newWeathers : Int32) (newSays : Nat → Int32) (newWords : Nat → Int32) (newWeather : Nat → Int32) (newKind : Nat → Int32) (newThatch : Nat → Int32) (st : Nat → Int32) (pasts : Int32) (past : Nat → Int32) (aside : Nat → Int32) (seen : Int32) (seenWord : Nat → Int32) (seenHour : Nat → Int32) (keeps : Int32) (kept : Nat → Int32) (x1 : Int32) (x2 : Int32) {o : Int32 × Int32 × Int32 × Int32 × Int32 × (Nat → Int32) × (Nat → Int32) × (Nat → Int32) × (Nat → Int32) × (Nat → Int32)} (h : jf_M_readItem N text newMowers newCows newRicks newWeathers newSays newWords newWeather newKind newThatch x1 x2 = some o) : hk_W p l e jr_M_readItem s m args below meth c A (hk_Zi below args s D A o.1 (wM cI a text letters mowers cows ricks weathers says words weather kindOf thatch o.2.1 o.2.2.1 o.2.2.2.1 o.2.2.2.2.1 o.2.2.2.2.2.1 o.2.2.2.2.2.2.1 o.2.2.2.2.2.2.2.1 o.2.2.2.2.2.2.2.2.1 o.2.2.2.2.2.2.2.2.2 st pasts past aside seen seenWord seenHour keeps kept)) 4 D 0 0 (wM cI a text letters mowers cows ricks weathers says words weather kindOf thatch newMowers newCows newRicks newWeathers newSays newWords newWeather newKind newThatch st pasts past aside seen seenWord seenHour keeps kept) 0 [(0, .ref (a 0)), (1, .int x1), (2, .int x2)] [] := by
  delta jf_M_readItem at h
  refine hk_aload_n hC jd_M_readItem_0 0 rfl ?_
  refine hk_get hC jk_M 0 rfl 0 (by decide) jq_698 rfl jd_M_readItem_1 ?_
  refine hk_iload_n hC jd_M_readItem_4 1 rfl ?_
  have hr1 := xr_in h
  replace h := xr_go h
  refine hk_iald hC 1 rfl hr1 jd_M_readItem_5 ?_
  obtain ⟨v1, e_v1, h⟩ := xl_go h
  refine hk_istore_n hC (i := 3) (y := v1) (lv2 := [(3, .int v1), (0, .ref (a 0)), (1, .int x1), (2, .int x2)]) jd_M_readItem_6 rfl e_v1 (by decide) rfl ?_
  refine hk_iload_n hC jd_M_readItem_7 0 rfl ?_
  refine hk_bipush (v := 109) hC jd_M_readItem_8 (by decide) ?_
  refine hk_icmp_ne (tgt := 24) hC jd_M_readItem_10 (by decide) (fun cc1 => ?_) (fun cc1 => ?_)
  · replace h := xi_f h cc1
    refine hk_iload_n hC jd_M_readItem_24 0 rfl ?_
    refine hk_bipush (v := 101) hC jd_M_readItem_25 (by decide) ?_
    refine hk_icmp_ne (tgt := 41) hC jd_M_readItem_27 (by decide) (fun cc2 => ?_) (fun cc2 => ?_)
    · replace h := xi_f h cc2
      refine hk_iload_n hC jd_M_readItem_41 0 rfl ?_
      refine hk_bipush (v := 99) hC jd_M_readItem_42 (by decide) ?_
      refine hk_icmp_ne (tgt := 58) hC jd_M_readItem_44 (by decide) (fun cc3 => ?_) (fun cc3 => ?_)
      · replace h := xi_f h cc3
        refine hk_iload_n hC jd_M_readItem_58 0 rfl ?_
        refine hk_bipush (v := 107) hC jd_M_readItem_59 (by decide) ?_
        refine hk_icmp_ne (tgt := 79) hC jd_M_readItem_61 (by decide) (fun cc4 => ?_) (fun cc4 => ?_)
        · replace h := xi_f h cc4
          refine hk_iconst (v := 0) hC jd_M_readItem_79 (by decide) ?_
          obtain rfl := Option.some.inj h
          exact hk_zret hC hr rfl jd_M_readItem_80 rfl rfl
        · replace h := xi_t h cc4
          refine hk_aload_n hC jd_M_readItem_64 1 rfl ?_
          refine hk_iload_n hC jd_M_readItem_65 2 rfl ?_
          refine hk_iconst (v := 1) hC jd_M_readItem_66 (by decide) ?_
          refine hk_iadd hC jd_M_readItem_67 ?_
          refine hk_iload_n hC jd_M_readItem_68 3 rfl ?_
          obtain ⟨q1, h_q1, h⟩ := xb_go h
          refine hk_callVWi hC (q0 := 0) (jc_M_readRick l D cI cF N a text letters mowers cows ricks weathers says words weather kindOf thatch newMowers newCows newRicks newWeathers newSays newWords newWeather newKind newThatch st pasts past aside seen seenWord seenHour keeps kept (x1 + (1 : Int32)) x2 h_q1) jl_M_readRick rfl rfl jq_691 jq_693 jq0_20 rfl ⟨by decide, by decide⟩ rfl rfl (Nat.le_of_ble_eq_true rfl) ⟨Nat.zero_le _, Nat.zero_le _⟩ jd_M_readItem_69 ?_
          refine hk_if_eq (tgt := 79) hC jd_M_readItem_72 (by decide) (fun cc5 => ?_) (fun cc5 => ?_)
          · replace h := xi_t h cc5
            refine hk_iconst (v := 0) hC jd_M_readItem_79 (by decide) ?_
            obtain rfl := Option.some.inj h
            exact hk_zret hC hr rfl jd_M_readItem_80 rfl rfl
          · replace h := xi_f h cc5
            refine hk_iconst (v := 1) hC jd_M_readItem_75 (by decide) ?_
            refine hk_goto (tgt := 80) hC jd_M_readItem_76 (by decide) ?_
            obtain rfl := Option.some.inj h
            exact hk_zret hC hr rfl jd_M_readItem_80 rfl rfl
      · replace h := xi_t h cc3
        refine hk_aload_n hC jd_M_readItem_47 1 rfl ?_
        refine hk_iload_n hC jd_M_readItem_48 2 rfl ?_
        refine hk_iconst (v := 1) hC jd_M_readItem_49 (by decide) ?_
        refine hk_iadd hC jd_M_readItem_50 ?_
        refine hk_iload_n hC jd_M_readItem_51 3 rfl ?_
        obtain ⟨q2, h_q2, h⟩ := xb_go h
        refine hk_callVWi hC (q0 := 0) (jc_M_readCow l D cI cF N a text letters mowers cows ricks weathers says words weather kindOf thatch newMowers newCows newRicks newWeathers newSays newWords newWeather newKind newThatch st pasts past aside seen seenWord seenHour keeps kept (x1 + (1 : Int32)) x2 h_q2) jl_M_readCow rfl rfl jq_681 jq_683 jq0_18 rfl ⟨by decide, by decide⟩ rfl rfl (Nat.le_of_ble_eq_true rfl) ⟨Nat.zero_le _, Nat.zero_le _⟩ jd_M_readItem_52 ?_
        refine hk_goto (tgt := 80) hC jd_M_readItem_55 (by decide) ?_
        have hbo := xo_in h
        replace h := xo_go h
        obtain rfl := Option.some.inj h
        exact hk_zret hC hr hbo jd_M_readItem_80 rfl rfl
    · replace h := xi_t h cc2
      refine hk_aload_n hC jd_M_readItem_30 1 rfl ?_
      refine hk_iload_n hC jd_M_readItem_31 2 rfl ?_
      refine hk_iconst (v := 1) hC jd_M_readItem_32 (by decide) ?_
      refine hk_iadd hC jd_M_readItem_33 ?_
      refine hk_iload_n hC jd_M_readItem_34 3 rfl ?_
      obtain ⟨q3, h_q3, h⟩ := xb_go h
      refine hk_callVWi hC (q0 := 0) (jc_M_readWeather l D cI cF N a text letters mowers cows ricks weathers says words weather kindOf thatch newMowers newCows newRicks newWeathers newSays newWords newWeather newKind newThatch st pasts past aside seen seenWord seenHour keeps kept (x1 + (1 : Int32)) x2 h_q3) jl_M_readWeather rfl rfl jq_677 jq_679 jq0_17 rfl ⟨by decide, by decide⟩ rfl rfl (Nat.le_of_ble_eq_true rfl) ⟨Nat.zero_le _, Nat.zero_le _⟩ jd_M_readItem_35 ?_
      refine hk_goto (tgt := 80) hC jd_M_readItem_38 (by decide) ?_
      have hbo := xo_in h
      replace h := xo_go h
      obtain rfl := Option.some.inj h
      exact hk_zret hC hr hbo jd_M_readItem_80 rfl rfl
  · replace h := xi_t h cc1
    refine hk_aload_n hC jd_M_readItem_13 1 rfl ?_
    refine hk_iload_n hC jd_M_readItem_14 2 rfl ?_
    refine hk_iconst (v := 1) hC jd_M_readItem_15 (by decide) ?_
    refine hk_iadd hC jd_M_readItem_16 ?_
    refine hk_iload_n hC jd_M_readItem_17 3 rfl ?_
    obtain ⟨q4, h_q4, h⟩ := xb_go h
    refine hk_callVWi hC (q0 := 0) (jc_M_readMower l D cI cF N a text letters mowers cows ricks weathers says words weather kindOf thatch newMowers newCows newRicks newWeathers newSays newWords newWeather newKind newThatch st pasts past aside seen seenWord seenHour keeps kept (x1 + (1 : Int32)) x2 h_q4) jl_M_readMower rfl rfl jq_664 jq_666 jq0_15 rfl ⟨by decide, by decide⟩ rfl rfl (Nat.le_of_ble_eq_true rfl) ⟨Nat.zero_le _, Nat.zero_le _⟩ jd_M_readItem_18 ?_
    refine hk_goto (tgt := 80) hC jd_M_readItem_21 (by decide) ?_
    have hbo := xo_in h
    replace h := xo_go h
    obtain rfl := Option.some.inj h
    exact hk_zret hC hr hbo jd_M_readItem_80 rfl rfl
theorem jc_M_readItem (l : Launch) (D : va_G) (cI cF : ClassId) (N : Nat) (a : Nat → Nat)  (text : Nat → Int32) (letters : Int32) (mowers : Int32) (cows : Int32) (ricks : Int32) (weathers : Int32) (says : Nat → Int32) (words : Nat → Int32) (weather : Nat → Int32) (kindOf : Nat → Int32) (thatch : Nat → Int32) (newMowers : Int32) (newCows : Int32) (newRicks : Int32) (newWeathers : Int32) (newSays : Nat → Int32) (newWords : Nat → Int32) (newWeather : Nat → Int32) (newKind : Nat → Int32) (newThatch : Nat → Int32) (st : Nat → Int32) (pasts : Int32) (past : Nat → Int32) (aside : Nat → Int32) (seen : Int32) (seenWord : Nat → Int32) (seenHour : Nat → Int32) (keeps : Int32) (kept : Nat → Int32) (x1 : Int32) (x2 : Int32) {o : Int32 × Int32 × Int32 × Int32 × Int32 × (Nat → Int32) × (Nat → Int32) × (Nat → Int32) × (Nat → Int32) × (Nat → Int32)} (h : jf_M_readItem N text newMowers newCows newRicks newWeathers newSays newWords newWeather newKind newThatch x1 x2 = some o) : hk_Mi l jy_M_readItem jb_M_readItem 4 (some .boolean) jr_M_readItem D cI cF (wM cI a text letters mowers cows ricks weathers says words weather kindOf thatch newMowers newCows newRicks newWeathers newSays newWords newWeather newKind newThatch st pasts past aside seen seenWord seenHour keeps kept) [.ref (a 0), .int x1, .int x2] o.1 (wM cI a text letters mowers cows ricks weathers says words weather kindOf thatch o.2.1 o.2.2.1 o.2.2.2.1 o.2.2.2.2.1 o.2.2.2.2.2.1 o.2.2.2.2.2.2.1 o.2.2.2.2.2.2.2.1 o.2.2.2.2.2.2.2.2.1 o.2.2.2.2.2.2.2.2.2 st pasts past aside seen seenWord seenHour keeps kept) :=
  hk_metI (by decide) (Nat.le_of_ble_eq_true rfl) rfl rfl (fun p e s m args below meth c A hC hr => jw_M_readItem hC hr N a text letters mowers cows ricks weathers says words weather kindOf thatch newMowers newCows newRicks newWeathers newSays newWords newWeather newKind newThatch st pasts past aside seen seenWord seenHour keeps kept x1 x2 h)
