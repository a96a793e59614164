set_option maxHeartbeats 8000000 in
set_option maxRecDepth 100000 in
theorem jw_M_isCow {p : Program} {l : Launch} {e : Env} {s : State} {m : MethodId} {args : Array Value} {below : List Frame} {meth : Method} {c : Code} {A : Nat → Prop} {D : va_G} {cI cF : ClassId} (hC : hk_ok p s m args meth c A 2 D cI cF "HayTalkModel" jb_M_isCow) (hr : meth.sig.returnType = (some .boolean)) (N : Nat) (a : Nat → Nat)  (text : Nat → Int32) (letters : Int32) (mowers : Int32) (cows : Int32) (ricks : Int32) (weathers : Int32) (says : Nat → Int32) (words : Nat → Int32) (weather : Nat → Int32) (kindOf : Nat → Int32) (thatch : Nat → Int32) (newMowers : Int32) (newCows : Int32) (newRicks : Int32) (newWeathers : Int32) (newSays : Nat → Int32) (newWords : Nat → Int32) (newWeather : Nat → Int32) (newKind : Nat → Int32) (newThatch : Nat → Int32) (st : Nat → Int32) (pasts : Int32) (past : Nat → Int32) (aside : Nat → Int32) (seen : Int32) (seenWord : Nat → Int32) (seenHour : Nat → Int32) (keeps : Int32) (kept : Nat → Int32) (x1 : Int32) {o : Int32} (h : jf_M_isCow N cows x1 = some o) : hk_W p l e jr_M_isCow s m args below meth c A (hk_Zi below args s D A o (wM cI a text letters mowers cows ricks weathers says words weather kindOf thatch newMowers newCows newRicks newWeathers newSays newWords newWeather newKind newThatch st pasts past aside seen seenWord seenHour keeps kept)) 2 D 0 0 (wM cI a text letters mowers cows ricks weathers says words weather kindOf thatch newMowers newCows newRicks newWeathers newSays newWords newWeather newKind newThatch st pasts past aside seen seenWord seenHour keeps kept) 0 [(0, .ref (a 0)), (1, .int x1)] [] := by
  delta jf_M_isCow at h
  refine hk_iload_n hC jd_M_isCow_0 1 rfl ?_
  refine hk_i2l hC jd_M_isCow_1 ?_
  refine hk_lconst (v := 0) hC jd_M_isCow_2 (by decide) ?_
  refine hk_aload_n hC jd_M_isCow_3 0 rfl ?_
  refine hk_get hC jk_M 0 rfl 3 (by decide) jq_701 rfl jd_M_isCow_4 ?_
  refine hk_iconst (v := 1) hC jd_M_isCow_7 (by decide) ?_
  refine hk_isub hC jd_M_isCow_8 ?_
  refine hk_i2l hC jd_M_isCow_9 ?_
  obtain ⟨q1, h_q1, h⟩ := xb_go h
  refine hk_callS0i hC (jc_M_in l D cI cF N (Int32.toInt64 x1) (0 : Int64) (Int32.toInt64 (cows - (1 : Int32))) h_q1) jl_M_in jq_673 jq_674 rfl ⟨by decide, by decide⟩ rfl (Nat.le_of_ble_eq_true rfl) ⟨Nat.zero_le _, Nat.zero_le _⟩ jd_M_isCow_10 ?_
  have hbo := xo_in h
  replace h := xo_go h
  obtain rfl := Option.some.inj h
  exact hk_zret hC hr hbo jd_M_isCow_13 rfl rfl
theorem jc_M_isCow (l : Launch) (D : va_G) (cI cF : ClassId) (N : Nat) (a : Nat → Nat)  (text : Nat → Int32) (letters : Int32) (mowers : Int32) (cows : Int32) (ricks : Int32) (weathers : Int32) (says : Nat → Int32) (words : Nat → Int32) (weather : Nat → Int32) (kindOf : Nat → Int32) (thatch : Nat → Int32) (newMowers : Int32) (newCows : Int32) (newRicks : Int32) (newWeathers : Int32) (newSays : Nat → Int32) (newWords : Nat → Int32) (newWeather : Nat → Int32) (newKind : Nat → Int32) (newThatch : Nat → Int32) (st : Nat → Int32) (pasts : Int32) (past : Nat → Int32) (aside : Nat → Int32) (seen : Int32) (seenWord : Nat → Int32) (seenHour : Nat → Int32) (keeps : Int32) (kept : Nat → Int32) (x1 : Int32) {o : Int32} (h : jf_M_isCow N cows x1 = some o) : hk_Mi l jy_M_isCow jb_M_isCow 2 (some .boolean) jr_M_isCow D cI cF (wM cI a text letters mowers cows ricks weathers says words weather kindOf thatch newMowers newCows newRicks newWeathers newSays newWords newWeather newKind newThatch st pasts past aside seen seenWord seenHour keeps kept) [.ref (a 0), .int x1] o (wM cI a text letters mowers cows ricks weathers says words weather kindOf thatch newMowers newCows newRicks newWeathers newSays newWords newWeather newKind newThatch st pasts past aside seen seenWord seenHour keeps kept) :=
  hk_metI (by decide) (Nat.le_of_ble_eq_true rfl) rfl rfl (fun p e s m args below meth c A hC hr => jw_M_isCow hC hr N a text letters mowers cows ricks weathers says words weather kindOf thatch newMowers newCows newRicks newWeathers newSays newWords newWeather newKind newThatch st pasts past aside seen seenWord seenHour keeps kept x1 h)
set_option maxHeartbeats 8000000 in
set_option maxRecDepth 100000 in
theorem jw_M_cow {p : Program} {l : Launch} {e : Env} {s : State} {m : MethodId} {args : Array Value} {below : List Frame} {meth : Method} {c : Code} {A : Nat → Prop} {D : va_G} {cI cF : ClassId} (hC : hk_ok p s m args meth c A 3 D cI cF "HayTalkModel" jb_M_cow) (hr : meth.sig.returnType = (some .int)) (N : Nat) (a : Nat → Nat)  (text : Nat → Int32) (letters : Int32) (mowers : Int32) (cows : Int32) (ricks : Int32) (weathers : Int32) (says : Nat → Int32) (words : Nat → Int32) (weather : Nat → Int32) (kindOf : Nat → Int32) (thatch : Nat → Int32) (newMowers : Int32) (newCows : Int32) (newRicks : Int32) (newWeathers : Int32) (newSays : Nat → Int32) (newWords : Nat → Int32) (newWeather : Nat → Int32) (newKind : Nat → Int32) (newThatch : Nat → Int32) (st : Nat → Int32) (pasts : Int32) (past : Nat → Int32) (aside : Nat → Int32) (seen : Int32) (seenWord : Nat → Int32) (seenHour : Nat → Int32) (keeps : Int32) (kept : Nat → Int32) (x1 : Int32) (x2 : Int32) {o : Int32} (h : jf_M_cow N cows kindOf st x1 x2 = some o) : hk_W p l e jr_M_cow s m args below meth c A (hk_Zi below args s D A o (wM cI a text letters mowers cows ricks weathers says words weather kindOf thatch newMowers newCows newRicks newWeathers newSays newWords newWeather newKind newThatch st pasts past aside seen seenWord seenHour keeps kept)) 3 D 0 0 (wM cI a text letters mowers cows ricks weathers says words weather kindOf thatch newMowers newCows newRicks newWeathers newSays newWords newWeather newKind newThatch st pasts past aside seen seenWord seenHour keeps kept) 0 [(0, .ref (a 0)), (1, .int x1), (2, .int x2)] [] := by
  delta jf_M_cow at h
  refine hk_aload_n hC jd_M_cow_0 0 rfl ?_
  refine hk_iload_n hC jd_M_cow_1 1 rfl ?_
  obtain ⟨q1, h_q1, h⟩ := xb_go h
  refine hk_callVWi hC (q0 := 0) (jc_M_isCow l D cI cF N a text letters mowers cows ricks weathers says words weather kindOf thatch newMowers newCows newRicks newWeathers newSays newWords newWeather newKind newThatch st pasts past aside seen seenWord seenHour keeps kept x1 h_q1) jl_M_isCow rfl rfl jq_814 jq_816 jq0_23 rfl ⟨by decide, by decide⟩ rfl rfl (Nat.le_of_ble_eq_true rfl) ⟨Nat.zero_le _, Nat.zero_le _⟩ jd_M_cow_2 ?_
  refine hk_if_eq (tgt := 18) hC jd_M_cow_5 (by decide) (fun cc1 => ?_) (fun cc1 => ?_)
  · replace h := xi_t h cc1
    refine hk_iconst (v := -1) hC jd_M_cow_18 (by decide) ?_
    refine hk_goto (tgt := 44) hC jd_M_cow_19 (by decide) ?_
    obtain rfl := Option.some.inj h
    exact hk_iret hC hr jd_M_cow_44 rfl rfl
  · replace h := xi_f h cc1
    refine hk_iload_n hC jd_M_cow_8 2 rfl ?_
    refine hk_i2l hC jd_M_cow_9 ?_
    refine hk_lconst (v := 0) hC jd_M_cow_10 (by decide) ?_
    refine hk_lconst (v := 1) hC jd_M_cow_11 (by decide) ?_
    obtain ⟨q2, h_q2, h⟩ := xb_go h
    refine hk_callS0i hC (jc_M_in l D cI cF N (Int32.toInt64 x2) (0 : Int64) (1 : Int64) h_q2) jl_M_in jq_673 jq_674 rfl ⟨by decide, by decide⟩ rfl (Nat.le_of_ble_eq_true rfl) ⟨Nat.zero_le _, Nat.zero_le _⟩ jd_M_cow_12 ?_
    refine hk_if_ne (tgt := 22) hC jd_M_cow_15 (by decide) (fun cc2 => ?_) (fun cc2 => ?_)
    · replace h := xi_f h cc2
      refine hk_iload_n hC jd_M_cow_22 2 rfl ?_
      refine hk_if_ne (tgt := 35) hC jd_M_cow_23 (by decide) (fun cc3 => ?_) (fun cc3 => ?_)
      · replace h := xi_f h cc3
        refine hk_aload_n hC jd_M_cow_35 0 rfl ?_
        refine hk_get hC jk_M 0 rfl 20 (by decide) jq_718 rfl jd_M_cow_36 ?_
        refine hk_bipush (v := 11) hC jd_M_cow_39 (by decide) ?_
        refine hk_iload_n hC jd_M_cow_41 1 rfl ?_
        refine hk_iadd hC jd_M_cow_42 ?_
        have hr1 := xr_in h
        replace h := xr_go h
        refine hk_iald hC 12 rfl hr1 jd_M_cow_43 ?_
        obtain rfl := Option.some.inj h
        exact hk_iret hC hr jd_M_cow_44 rfl rfl
      · replace h := xi_t h cc3
        refine hk_aload_n hC jd_M_cow_26 0 rfl ?_
        refine hk_get hC jk_M 0 rfl 9 (by decide) jq_707 rfl jd_M_cow_27 ?_
        refine hk_iload_n hC jd_M_cow_30 1 rfl ?_
        have hr2 := xr_in h
        replace h := xr_go h
        refine hk_iald hC 5 rfl hr2 jd_M_cow_31 ?_
        refine hk_goto (tgt := 44) hC jd_M_cow_32 (by decide) ?_
        obtain rfl := Option.some.inj h
        exact hk_iret hC hr jd_M_cow_44 rfl rfl
    · replace h := xi_t h cc2
      refine hk_iconst (v := -1) hC jd_M_cow_18 (by decide) ?_
      refine hk_goto (tgt := 44) hC jd_M_cow_19 (by decide) ?_
      obtain rfl := Option.some.inj h
      exact hk_iret hC hr jd_M_cow_44 rfl rfl
theorem jc_M_cow (l : Launch) (D : va_G) (cI cF : ClassId) (N : Nat) (a : Nat → Nat)  (text : Nat → Int32) (letters : Int32) (mowers : Int32) (cows : Int32) (ricks : Int32) (weathers : Int32) (says : Nat → Int32) (words : Nat → Int32) (weather : Nat → Int32) (kindOf : Nat → Int32) (thatch : Nat → Int32) (newMowers : Int32) (newCows : Int32) (newRicks : Int32) (newWeathers : Int32) (newSays : Nat → Int32) (newWords : Nat → Int32) (newWeather : Nat → Int32) (newKind : Nat → Int32) (newThatch : Nat → Int32) (st : Nat → Int32) (pasts : Int32) (past : Nat → Int32) (aside : Nat → Int32) (seen : Int32) (seenWord : Nat → Int32) (seenHour : Nat → Int32) (keeps : Int32) (kept : Nat → Int32) (x1 : Int32) (x2 : Int32) {o : Int32} (h : jf_M_cow N cows kindOf st x1 x2 = some o) : hk_Mi l jy_M_cow jb_M_cow 3 (some .int) jr_M_cow D cI cF (wM cI a text letters mowers cows ricks weathers says words weather kindOf thatch newMowers newCows newRicks newWeathers newSays newWords newWeather newKind newThatch st pasts past aside seen seenWord seenHour keeps kept) [.ref (a 0), .int x1, .int x2] o (wM cI a text letters mowers cows ricks weathers says words weather kindOf thatch newMowers newCows newRicks newWeathers newSays newWords newWeather newKind newThatch st pasts past aside seen seenWord seenHour keeps kept) :=
  hk_metI (by decide) (Nat.le_of_ble_eq_true rfl) rfl rfl (fun p e s m args below meth c A hC hr => jw_M_cow hC hr N a text letters mowers cows ricks weathers says words weather kindOf thatch newMowers newCows newRicks newWeathers newSays newWords newWeather newKind newThatch st pasts past aside seen seenWord seenHour keeps kept x1 x2 h)
set_option maxHeartbeats 8000000 in
set_option maxRecDepth 100000 in
theorem jw_M_isRick {p : Program} {l : Launch} {e : Env} {s : State} {m : MethodId} {args : Array Value} {below : List Frame} {meth : Method} {c : Code} {A : Nat → Prop} {D : va_G} {cI cF : ClassId} (hC : hk_ok p s m args meth c A 2 D cI cF "HayTalkModel" jb_M_isRick) (hr : meth.sig.returnType = (some .boolean)) (N : Nat) (a : Nat → Nat)  (text : Nat → Int32) (letters : Int32) (mowers : Int32) (cows : Int32) (ricks : Int32) (weathers : Int32) (says : Nat → Int32) (words : Nat → Int32) (weather : Nat → Int32) (kindOf : Nat → Int32) (thatch : Nat → Int32) (newMowers : Int32) (newCows : Int32) (newRicks : Int32) (newWeathers : Int32) (newSays : Nat → Int32) (newWords : Nat → Int32) (newWeather : Nat → Int32) (newKind : Nat → Int32) (newThatch : Nat → Int32) (st : Nat → Int32) (pasts : Int32) (past : Nat → Int32) (aside : Nat → Int32) (seen : Int32) (seenWord : Nat → Int32) (seenHour : Nat → Int32) (keeps : Int32) (kept : Nat → Int32) (x1 : Int32) {o : Int32} (h : jf_M_isRick N ricks x1 = some o) : hk_W p l e jr_M_isRick s m args below meth c A (hk_Zi below args s D A o (wM cI a text letters mowers cows ricks weathers says words weather kindOf thatch newMowers newCows newRicks newWeathers newSays newWords newWeather newKind newThatch st pasts past aside seen seenWord seenHour keeps kept)) 2 D 0 0 (wM cI a text letters mowers cows ricks weathers says words weather kindOf thatch newMowers newCows newRicks newWeathers newSays newWords newWeather newKind newThatch st pasts past aside seen seenWord seenHour keeps kept) 0 [(0, .ref (a 0)), (1, .int x1)] [] := by
  delta jf_M_isRick at h
  refine hk_iload_n hC jd_M_isRick_0 1 rfl ?_
  refine hk_i2l hC jd_M_isRick_1 ?_
  refine hk_lconst (v := 0) hC jd_M_isRick_2 (by decide) ?_
  refine hk_aload_n hC jd_M_isRick_3 0 rfl ?_
  refine hk_get hC jk_M 0 rfl 4 (by decide) jq_702 rfl jd_M_isRick_4 ?_
  refine hk_iconst (v := 1) hC jd_M_isRick_7 (by decide) ?_
  refine hk_isub hC jd_M_isRick_8 ?_
  refine hk_i2l hC jd_M_isRick_9 ?_
  obtain ⟨q1, h_q1, h⟩ := xb_go h
  refine hk_callS0i hC (jc_M_in l D cI cF N (Int32.toInt64 x1) (0 : Int64) (Int32.toInt64 (ricks - (1 : Int32))) h_q1) jl_M_in jq_673 jq_674 rfl ⟨by decide, by decide⟩ rfl (Nat.le_of_ble_eq_true rfl) ⟨Nat.zero_le _, Nat.zero_le _⟩ jd_M_isRick_10 ?_
  have hbo := xo_in h
  replace h := xo_go h
  obtain rfl := Option.some.inj h
  exact hk_zret hC hr hbo jd_M_isRick_13 rfl rfl
theorem jc_M_isRick (l : Launch) (D : va_G) (cI cF : ClassId) (N : Nat) (a : Nat → Nat)  (text : Nat → Int32) (letters : Int32) (mowers : Int32) (cows : Int32) (ricks : Int32) (weathers : Int32) (says : Nat → Int32) (words : Nat → Int32) (weather : Nat → Int32) (kindOf : Nat → Int32) (thatch : Nat → Int32) (newMowers : Int32) (newCows : Int32) (newRicks : Int32) (newWeathers : Int32) (newSays : Nat → Int32) (newWords : Nat → Int32) (newWeather : Nat → Int32) (newKind : Nat → Int32) (newThatch : Nat → Int32) (st : Nat → Int32) (pasts : Int32) (past : Nat → Int32) (aside : Nat → Int32) (seen : Int32) (seenWord : Nat → Int32) (seenHour : Nat → Int32) (keeps : Int32) (kept : Nat → Int32) (x1 : Int32) {o : Int32} (h : jf_M_isRick N ricks x1 = some o) : hk_Mi l jy_M_isRick jb_M_isRick 2 (some .boolean) jr_M_isRick D cI cF (wM cI a text letters mowers cows ricks weathers says words weather kindOf thatch newMowers newCows newRicks newWeathers newSays newWords newWeather newKind newThatch st pasts past aside seen seenWord seenHour keeps kept) [.ref (a 0), .int x1] o (wM cI a text letters mowers cows ricks weathers says words weather kindOf thatch newMowers newCows newRicks newWeathers newSays newWords newWeather newKind newThatch st pasts past aside seen seenWord seenHour keeps kept) :=
  hk_metI (by decide) (Nat.le_of_ble_eq_true rfl) rfl rfl (fun p e s m args below meth c A hC hr => jw_M_isRick hC hr N a text letters mowers cows ricks weathers says words weather kindOf thatch newMowers newCows newRicks newWeathers newSays newWords newWeather newKind newThatch st pasts past aside seen seenWord seenHour keeps kept x1 h)
set_option maxHeartbeats 8000000 in
set_option maxRecDepth 100000 in
theorem jw_M_hottest {p : Program} {l : Launch} {e : Env} {s : State} {m : MethodId} {args : Array Value} {below : List Frame} {meth : Method} {c : Code} {A : Nat → Prop} {D : va_G} {cI cF : ClassId} (hC : hk_ok p s m args meth c A 5 D cI cF "HayTalkModel" jb_M_hottest) (hr : meth.sig.returnType = (some .int)) (N : Nat) (a : Nat → Nat)  (text : Nat → Int32) (letters : Int32) (mowers : Int32) (cows : Int32) (ricks : Int32) (weathers : Int32) (says : Nat → Int32) (words : Nat → Int32) (weather : Nat → Int32) (kindOf : Nat → Int32) (thatch : Nat → Int32) (newMowers : Int32) (newCows : Int32) (newRicks : Int32) (newWeathers : Int32) (newSays : Nat → Int32) (newWords : Nat → Int32) (newWeather : Nat → Int32) (newKind : Nat → Int32) (newThatch : Nat → Int32) (st : Nat → Int32) (pasts : Int32) (past : Nat → Int32) (aside : Nat → Int32) (seen : Int32) (seenWord : Nat → Int32) (seenHour : Nat → Int32) (keeps : Int32) (kept : Nat → Int32) (x1 : Int32) {o : Int32} (h : jf_M_hottest N st x1 = some o) : hk_W p l e jr_M_hottest s m args below meth c A (hk_Zi below args s D A o (wM cI a text letters mowers cows ricks weathers says words weather kindOf thatch newMowers newCows newRicks newWeathers newSays newWords newWeather newKind newThatch st pasts past aside seen seenWord seenHour keeps kept)) 5 D 0 0 (wM cI a text letters mowers cows ricks weathers says words weather kindOf thatch newMowers newCows newRicks newWeathers newSays newWords newWeather newKind newThatch st pasts past aside seen seenWord seenHour keeps kept) 0 [(0, .ref (a 0)), (1, .int x1)] [] := by
  have B_45 : ∀ (st : Nat → Int32) (x1 : Int32) (x3 : Int32) (y0 : Int32) (kh4 : (Int32 × Int32) → Option (Int32)) (ihh4 : ∀ q, kh4 q = some o → hk_W p l e jr_M_hottest s m args below meth c A (hk_Zi below args s D A o (wM cI a text letters mowers cows ricks weathers says words weather kindOf thatch newMowers newCows newRicks newWeathers newSays newWords newWeather newKind newThatch st pasts past aside seen seenWord seenHour keeps kept)) 5 D 0 0 (wM cI a text letters mowers cows ricks weathers says words weather kindOf thatch newMowers newCows newRicks newWeathers newSays newWords newWeather newKind newThatch st pasts past aside seen seenWord seenHour keeps kept) 4 [(0, .ref (a 0)), (1, .int x1), (2, .int q.1), (3, .int q.2)] []) (_ : jf_M_hottest_45 N st x1 x3 y0 kh4 = some o), hk_W p l e jr_M_hottest s m args below meth c A (hk_Zi below args s D A o (wM cI a text letters mowers cows ricks weathers says words weather kindOf thatch newMowers newCows newRicks newWeathers newSays newWords newWeather newKind newThatch st pasts past aside seen seenWord seenHour keeps kept)) 5 D 0 0 (wM cI a text letters mowers cows ricks weathers says words weather kindOf thatch newMowers newCows newRicks newWeathers newSays newWords newWeather newKind newThatch st pasts past aside seen seenWord seenHour keeps kept) 45 [(0, .ref (a 0)), (1, .int x1), (3, .int x3)] [.int y0] := by
    intro st x1 x3 y0 kh4 ihh4 h
    delta jf_M_hottest_45 at h
    refine hk_istore_n hC (i := 2) (y := y0) (lv2 := [(2, .int y0), (0, .ref (a 0)), (1, .int x1), (3, .int x3)]) jd_M_hottest_45 rfl rfl (by decide) rfl ?_
    obtain ⟨v1, e_v1, h⟩ := xl_go h
    refine hk_iinc hC (lv2 := [(3, .int v1), (2, .int y0), (0, .ref (a 0)), (1, .int x1)]) jd_M_hottest_46 3 rfl e_v1 (by decide) rfl ?_
    refine hk_goto (tgt := 4) hC jd_M_hottest_49 (by decide) ?_
    exact hk_lv [2, 3, 1, 0] rfl (ihh4 (y0, v1) h)
  have B_4 : ∀ (st : Nat → Int32) (x1 : Int32) (x2 : Int32) (x3 : Int32) (kh4 : (Int32 × Int32) → Option (Int32)) (ihh4 : ∀ q, kh4 q = some o → hk_W p l e jr_M_hottest s m args below meth c A (hk_Zi below args s D A o (wM cI a text letters mowers cows ricks weathers says words weather kindOf thatch newMowers newCows newRicks newWeathers newSays newWords newWeather newKind newThatch st pasts past aside seen seenWord seenHour keeps kept)) 5 D 0 0 (wM cI a text letters mowers cows ricks weathers says words weather kindOf thatch newMowers newCows newRicks newWeathers newSays newWords newWeather newKind newThatch st pasts past aside seen seenWord seenHour keeps kept) 4 [(0, .ref (a 0)), (1, .int x1), (2, .int q.1), (3, .int q.2)] []) (_ : jf_M_hottest_4B N st x1 x2 x3 kh4 = some o), hk_W p l e jr_M_hottest s m args below meth c A (hk_Zi below args s D A o (wM cI a text letters mowers cows ricks weathers says words weather kindOf thatch newMowers newCows newRicks newWeathers newSays newWords newWeather newKind newThatch st pasts past aside seen seenWord seenHour keeps kept)) 5 D 0 0 (wM cI a text letters mowers cows ricks weathers says words weather kindOf thatch newMowers newCows newRicks newWeathers newSays newWords newWeather newKind newThatch st pasts past aside seen seenWord seenHour keeps kept) 4 [(0, .ref (a 0)), (1, .int x1), (2, .int x2), (3, .int x3)] [] := by
    intro st x1 x2 x3 kh4 ihh4 h
    delta jf_M_hottest_4B at h
    refine hk_iload_n hC jd_M_hottest_4 3 rfl ?_
    refine hk_aload_n hC jd_M_hottest_5 0 rfl ?_
    refine hk_get hC jk_M 0 rfl 20 (by decide) jq_718 rfl jd_M_hottest_6 ?_
    refine hk_bipush (v := 15) hC jd_M_hottest_9 (by decide) ?_
    refine hk_iload_n hC jd_M_hottest_11 1 rfl ?_
    refine hk_iadd hC jd_M_hottest_12 ?_
    have hr1 := xr_in h
    replace h := xr_go h
    refine hk_iald hC 12 rfl hr1 jd_M_hottest_13 ?_
    refine hk_icmp_ge (tgt := 52) hC jd_M_hottest_14 (by decide) (fun cc1 => ?_) (fun cc1 => ?_)
    · replace h := xi_t h cc1
      refine hk_iload_n hC jd_M_hottest_52 2 rfl ?_
      obtain rfl := Option.some.inj h
      exact hk_iret hC hr jd_M_hottest_53 rfl rfl
    · replace h := xi_f h cc1
      refine hk_aload_n hC jd_M_hottest_17 0 rfl ?_
      refine hk_get hC jk_M 0 rfl 20 (by decide) jq_718 rfl jd_M_hottest_18 ?_
      refine hk_bipush (v := 69) hC jd_M_hottest_21 (by decide) ?_
      refine hk_bipush (v := 8) hC jd_M_hottest_23 (by decide) ?_
      refine hk_iload_n hC jd_M_hottest_25 1 rfl ?_
      refine hk_imul hC jd_M_hottest_26 ?_
      refine hk_iadd hC jd_M_hottest_27 ?_
      refine hk_iload_n hC jd_M_hottest_28 3 rfl ?_
      refine hk_iadd hC jd_M_hottest_29 ?_
      have hr2 := xr_in h
      replace h := xr_go h
      refine hk_iald hC 12 rfl hr2 jd_M_hottest_30 ?_
      obtain ⟨v1, e_v1, h⟩ := xl_go h
      refine hk_istore hC (i := 4) (y := v1) (lv2 := [(4, .int v1), (0, .ref (a 0)), (1, .int x1), (2, .int x2), (3, .int x3)]) jd_M_hottest_31 e_v1 (by decide) rfl ?_
      refine hk_iload hC jd_M_hottest_33 0 rfl ?_
      refine hk_iload_n hC jd_M_hottest_35 3 rfl ?_
      refine hk_icmp_le (tgt := 44) hC jd_M_hottest_36 (by decide) (fun cc2 => ?_) (fun cc2 => ?_)
      · replace h := xi_t h cc2
        refine hk_iload_n hC jd_M_hottest_44 3 rfl ?_
        exact hk_lv [1, 2, 4] rfl (B_45 st x1 x3 x2 kh4 ihh4 h)
      · replace h := xi_f h cc2
        refine hk_iload hC jd_M_hottest_39 0 rfl ?_
        refine hk_goto (tgt := 45) hC jd_M_hottest_41 (by decide) ?_
        exact hk_lv [1, 2, 4] rfl (B_45 st x1 x3 v1 kh4 ihh4 h)
  have L_4 : ∀ (st : Nat → Int32) (x1 : Int32) (x2 : Int32) (x3 : Int32)   (_ : jf_M_hottest_4 N st x1 x2 x3  = some o), hk_W p l e jr_M_hottest s m args below meth c A (hk_Zi below args s D A o (wM cI a text letters mowers cows ricks weathers says words weather kindOf thatch newMowers newCows newRicks newWeathers newSays newWords newWeather newKind newThatch st pasts past aside seen seenWord seenHour keeps kept)) 5 D 0 0 (wM cI a text letters mowers cows ricks weathers says words weather kindOf thatch newMowers newCows newRicks newWeathers newSays newWords newWeather newKind newThatch st pasts past aside seen seenWord seenHour keeps kept) 4 [(0, .ref (a 0)), (1, .int x1), (2, .int x2), (3, .int x3)] [] := by
    intro st x1 x2 x3   h
    exact xloopW (fun (q : Int32 × Int32) => hk_W p l e jr_M_hottest s m args below meth c A (hk_Zi below args s D A o (wM cI a text letters mowers cows ricks weathers says words weather kindOf thatch newMowers newCows newRicks newWeathers newSays newWords newWeather newKind newThatch st pasts past aside seen seenWord seenHour keeps kept)) 5 D 0 0 (wM cI a text letters mowers cows ricks weathers says words weather kindOf thatch newMowers newCows newRicks newWeathers newSays newWords newWeather newKind newThatch st pasts past aside seen seenWord seenHour keeps kept) 4 [(0, .ref (a 0)), (1, .int x1), (2, .int q.1), (3, .int q.2)] []) (fun kh ih q h => B_4 st x1 q.1 q.2 kh  ih  h) N (x2, x3) h
  delta jf_M_hottest at h
  refine hk_iconst (v := 0) hC jd_M_hottest_0 (by decide) ?_
  refine hk_istore_n hC (i := 2) (y := (0 : Int32)) (lv2 := [(2, .int (0 : Int32)), (0, .ref (a 0)), (1, .int x1)]) jd_M_hottest_1 rfl rfl (by decide) rfl ?_
  refine hk_iconst (v := 0) hC jd_M_hottest_2 (by decide) ?_
  refine hk_istore_n hC (i := 3) (y := (0 : Int32)) (lv2 := [(3, .int (0 : Int32)), (2, .int (0 : Int32)), (0, .ref (a 0)), (1, .int x1)]) jd_M_hottest_3 rfl rfl (by decide) rfl ?_
  exact hk_lv [2, 3, 1, 0] rfl (L_4 st x1 (0 : Int32) (0 : Int32)   h)
theorem jc_M_hottest (l : Launch) (D : va_G) (cI cF : ClassId) (N : Nat) (a : Nat → Nat)  (text : Nat → Int32) (letters : Int32) (mowers : Int32) (cows : Int32) (ricks : Int32) (weathers : Int32) (says : Nat → Int32) (words : Nat → Int32) (weather : Nat → Int32) (kindOf : Nat → Int32) (thatch : Nat → Int32) (newMowers : Int32) (newCows : Int32) (newRicks : Int32) (newWeathers : Int32) (newSays : Nat → Int32) (newWords : Nat → Int32) (newWeather : Nat → Int32) (newKind : Nat → Int32) (newThatch : Nat → Int32) (st : Nat → Int32) (pasts : Int32) (past : Nat → Int32) (aside : Nat → Int32) (seen : Int32) (seenWord : Nat → Int32) (seenHour : Nat → Int32) (keeps : Int32) (kept : Nat → Int32) (x1 : Int32) {o : Int32} (h : jf_M_hottest N st x1 = some o) : hk_Mi l jy_M_hottest jb_M_hottest 5 (some .int) jr_M_hottest D cI cF (wM cI a text letters mowers cows ricks weathers says words weather kindOf thatch newMowers newCows newRicks newWeathers newSays newWords newWeather newKind newThatch st pasts past aside seen seenWord seenHour keeps kept) [.ref (a 0), .int x1] o (wM cI a text letters mowers cows ricks weathers says words weather kindOf thatch newMowers newCows newRicks newWeathers newSays newWords newWeather newKind newThatch st pasts past aside seen seenWord seenHour keeps kept) :=
  hk_metI (by decide) (Nat.le_of_ble_eq_true rfl) rfl rfl (fun p e s m args below meth c A hC hr => jw_M_hottest hC hr N a text letters mowers cows ricks weathers says words weather kindOf thatch newMowers newCows newRicks newWeathers newSays newWords newWeather newKind newThatch st pasts past aside seen seenWord seenHour keeps kept x1 h)
