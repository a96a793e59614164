set_option maxHeartbeats 8000000 in
set_option maxRecDepth 100000 in
theorem jw_M_wipe {p : Program} {l : Launch} {e : Env} {s : State} {m : MethodId} {args : Array Value} {below : List Frame} {meth : Method} {c : Code} {A : Nat → Prop} {D : va_G} {cI cF : ClassId} (hC : hk_ok p s m args meth c A 2 D cI cF "HayTalkModel" jb_M_wipe) (hr : meth.sig.returnType = (some .int)) (N : Nat) (a : Nat → Nat)  (text : Nat → Int32) (letters : Int32) (mowers : Int32) (cows : Int32) (ricks : Int32) (weathers : Int32) (says : Nat → Int32) (words : Nat → Int32) (weather : Nat → Int32) (kindOf : Nat → Int32) (thatch : Nat → Int32) (newMowers : Int32) (newCows : Int32) (newRicks : Int32) (newWeathers : Int32) (newSays : Nat → Int32) (newWords : Nat → Int32) (newWeather : Nat → Int32) (newKind : Nat → Int32) (newThatch : Nat → Int32) (st : Nat → Int32) (pasts : Int32) (past : Nat → Int32) (aside : Nat → Int32) (seen : Int32) (seenWord : Nat → Int32) (seenHour : Nat → Int32) (keeps : Int32) (kept : Nat → Int32)  {o : Int32 × Int32} (h : jf_M_wipe N letters = some o) : hk_W p l e jr_M_wipe s m args below meth c A (hk_Zi below args s D A o.1 (wM cI a text o.2 mowers cows ricks weathers says words weather kindOf thatch newMowers newCows newRicks newWeathers newSays newWords newWeather newKind newThatch st pasts past aside seen seenWord seenHour keeps kept)) 2 D 0 0 (wM cI a text letters mowers cows ricks weathers says words weather kindOf thatch newMowers newCows newRicks newWeathers newSays newWords newWeather newKind newThatch st pasts past aside seen seenWord seenHour keeps kept) 0 [(0, .ref (a 0))] [] := by
  delta jf_M_wipe at h
  refine hk_aload_n hC jd_M_wipe_0 0 rfl ?_
  refine hk_get hC jk_M 0 rfl 1 (by decide) jq_699 rfl jd_M_wipe_1 ?_
  refine hk_istore_n hC (i := 1) (y := letters) (lv2 := [(1, .int letters), (0, .ref (a 0))]) jd_M_wipe_4 rfl rfl (by decide) rfl ?_
  refine hk_aload_n hC jd_M_wipe_5 1 rfl ?_
  refine hk_iconst (v := 0) hC jd_M_wipe_6 (by decide) ?_
  refine hk_put hC jk_M 0 rfl 1 (by decide) jq_699 rfl rfl rfl (Nat.le_of_ble_eq_true rfl) (ws2 := (wM cI a text (0 : Int32) mowers cows ricks weathers says words weather kindOf thatch newMowers newCows newRicks newWeathers newSays newWords newWeather newKind newThatch st pasts past aside seen seenWord seenHour keeps kept)) rfl jd_M_wipe_7 ?_
  refine hk_iload_n hC jd_M_wipe_10 0 rfl ?_
  obtain rfl := Option.some.inj h
  exact hk_iret hC hr jd_M_wipe_11 rfl rfl
theorem jc_M_wipe (l : Launch) (D : va_G) (cI cF : ClassId) (N : Nat) (a : Nat → Nat)  (text : Nat → Int32) (letters : Int32) (mowers : Int32) (cows : Int32) (ricks : Int32) (weathers : Int32) (says : Nat → Int32) (words : Nat → Int32) (weather : Nat → Int32) (kindOf : Nat → Int32) (thatch : Nat → Int32) (newMowers : Int32) (newCows : Int32) (newRicks : Int32) (newWeathers : Int32) (newSays : Nat → Int32) (newWords : Nat → Int32) (newWeather : Nat → Int32) (newKind : Nat → Int32) (newThatch : Nat → Int32) (st : Nat → Int32) (pasts : Int32) (past : Nat → Int32) (aside : Nat → Int32) (seen : Int32) (seenWord : Nat → Int32) (seenHour : Nat → Int32) (keeps : Int32) (kept : Nat → Int32)  {o : Int32 × Int32} (h : jf_M_wipe N letters = some o) : hk_Mi l jy_M_wipe jb_M_wipe 2 (some .int) jr_M_wipe D cI cF (wM cI a text letters mowers cows ricks weathers says words weather kindOf thatch newMowers newCows newRicks newWeathers newSays newWords newWeather newKind newThatch st pasts past aside seen seenWord seenHour keeps kept) [.ref (a 0)] o.1 (wM cI a text o.2 mowers cows ricks weathers says words weather kindOf thatch newMowers newCows newRicks newWeathers newSays newWords newWeather newKind newThatch st pasts past aside seen seenWord seenHour keeps kept) :=
  hk_metI (by decide) (Nat.le_of_ble_eq_true rfl) rfl rfl (fun p e s m args below meth c A hC hr => jw_M_wipe hC hr N a text letters mowers cows ricks weathers says words weather kindOf thatch newMowers newCows newRicks newWeathers newSays newWords newWeather newKind newThatch st pasts past aside seen seenWord seenHour keeps kept h)
set_option maxHeartbeats 8000000 in
set_option maxRecDepth 100000 in
theorem jw_M_isMower {p : Program} {l : Launch} {e : Env} {s : State} {m : MethodId} {args : Array Value} {below : List Frame} {meth : Method} {c : Code} {A : Nat → Prop} {D : va_G} {cI cF : ClassId} (hC : hk_ok p s m args meth c A 2 D cI cF "HayTalkModel" jb_M_isMower) (hr : meth.sig.returnType = (some .boolean)) (N : Nat) (a : Nat → Nat)  (text : Nat → Int32) (letters : Int32) (mowers : Int32) (cows : Int32) (ricks : Int32) (weathers : Int32) (says : Nat → Int32) (words : Nat → Int32) (weather : Nat → Int32) (kindOf : Nat → Int32) (thatch : Nat → Int32) (newMowers : Int32) (newCows : Int32) (newRicks : Int32) (newWeathers : Int32) (newSays : Nat → Int32) (newWords : Nat → Int32) (newWeather : Nat → Int32) (newKind : Nat → Int32) (newThatch : Nat → Int32) (st : Nat → Int32) (pasts : Int32) (past : Nat → Int32) (aside : Nat → Int32) (seen : Int32) (seenWord : Nat → Int32) (seenHour : Nat → Int32) (keeps : Int32) (kept : Nat → Int32) (x1 : Int32) {o : Int32} (h : jf_M_isMower N mowers x1 = some o) : hk_W p l e jr_M_isMower s m args below meth c A (hk_Zi below args s D A o (wM cI a text letters mowers cows ricks weathers says words weather kindOf thatch newMowers newCows newRicks newWeathers newSays newWords newWeather newKind newThatch st pasts past aside seen seenWord seenHour keeps kept)) 2 D 0 0 (wM cI a text letters mowers cows ricks weathers says words weather kindOf thatch newMowers newCows newRicks newWeathers newSays newWords newWeather newKind newThatch st pasts past aside seen seenWord seenHour keeps kept) 0 [(0, .ref (a 0)), (1, .int x1)] [] := by
  delta jf_M_isMower at h
  refine hk_iload_n hC jd_M_isMower_0 1 rfl ?_
  refine hk_i2l hC jd_M_isMower_1 ?_
  refine hk_lconst (v := 0) hC jd_M_isMower_2 (by decide) ?_
  refine hk_aload_n hC jd_M_isMower_3 0 rfl ?_
  refine hk_get hC jk_M 0 rfl 2 (by decide) jq_700 rfl jd_M_isMower_4 ?_
  refine hk_iconst (v := 1) hC jd_M_isMower_7 (by decide) ?_
  refine hk_isub hC jd_M_isMower_8 ?_
  refine hk_i2l hC jd_M_isMower_9 ?_
  obtain ⟨q1, h_q1, h⟩ := xb_go h
  refine hk_callS0i hC (jc_M_in l D cI cF N (Int32.toInt64 x1) (0 : Int64) (Int32.toInt64 (mowers - (1 : Int32))) h_q1) jl_M_in jq_673 jq_674 rfl ⟨by decide, by decide⟩ rfl (Nat.le_of_ble_eq_true rfl) ⟨Nat.zero_le _, Nat.zero_le _⟩ jd_M_isMower_10 ?_
  have hbo := xo_in h
  replace h := xo_go h
  obtain rfl := Option.some.inj h
  exact hk_zret hC hr hbo jd_M_isMower_13 rfl rfl
theorem jc_M_isMower (l : Launch) (D : va_G) (cI cF : ClassId) (N : Nat) (a : Nat → Nat)  (text : Nat → Int32) (letters : Int32) (mowers : Int32) (cows : Int32) (ricks : Int32) (weathers : Int32) (says : Nat → Int32) (words : Nat → Int32) (weather : Nat → Int32) (kindOf : Nat → Int32) (thatch : Nat → Int32) (newMowers : Int32) (newCows : Int32) (newRicks : Int32) (newWeathers : Int32) (newSays : Nat → Int32) (newWords : Nat → Int32) (newWeather : Nat → Int32) (newKind : Nat → Int32) (newThatch : Nat → Int32) (st : Nat → Int32) (pasts : Int32) (past : Nat → Int32) (aside : Nat → Int32) (seen : Int32) (seenWord : Nat → Int32) (seenHour : Nat → Int32) (keeps : Int32) (kept : Nat → Int32) (x1 : Int32) {o : Int32} (h : jf_M_isMower N mowers x1 = some o) : hk_Mi l jy_M_isMower jb_M_isMower 2 (some .boolean) jr_M_isMower D cI cF (wM cI a text letters mowers cows ricks weathers says words weather kindOf thatch newMowers newCows newRicks newWeathers newSays newWords newWeather newKind newThatch st pasts past aside seen seenWord seenHour keeps kept) [.ref (a 0), .int x1] o (wM cI a text letters mowers cows ricks weathers says words weather kindOf thatch newMowers newCows newRicks newWeathers newSays newWords newWeather newKind newThatch st pasts past aside seen seenWord seenHour keeps kept) :=
  hk_metI (by decide) (Nat.le_of_ble_eq_true rfl) rfl rfl (fun p e s m args below meth c A hC hr => jw_M_isMower hC hr N a text letters mowers cows ricks weathers says words weather kindOf thatch newMowers newCows newRicks newWeathers newSays newWords newWeather newKind newThatch st pasts past aside seen seenWord seenHour keeps kept x1 h)
set_option maxHeartbeats 8000000 in
set_option maxRecDepth 100000 in
theorem jw_M_nextWord {p : Program} {l : Launch} {e : Env} {s : State} {m : MethodId} {args : Array Value} {below : List Frame} {meth : Method} {c : Code} {A : Nat → Prop} {D : va_G} {cI cF : ClassId} (hC : hk_ok p s m args meth c A 3 D cI cF "HayTalkModel" jb_M_nextWord) (hr : meth.sig.returnType = (some .int)) (N : Nat) (a : Nat → Nat)  (text : Nat → Int32) (letters : Int32) (mowers : Int32) (cows : Int32) (ricks : Int32) (weathers : Int32) (says : Nat → Int32) (words : Nat → Int32) (weather : Nat → Int32) (kindOf : Nat → Int32) (thatch : Nat → Int32) (newMowers : Int32) (newCows : Int32) (newRicks : Int32) (newWeathers : Int32) (newSays : Nat → Int32) (newWords : Nat → Int32) (newWeather : Nat → Int32) (newKind : Nat → Int32) (newThatch : Nat → Int32) (st : Nat → Int32) (pasts : Int32) (past : Nat → Int32) (aside : Nat → Int32) (seen : Int32) (seenWord : Nat → Int32) (seenHour : Nat → Int32) (keeps : Int32) (kept : Nat → Int32) (x1 : Int32) (x2 : Int32) {o : Int32} (h : jf_M_nextWord N says words x1 x2 = some o) : hk_W p l e jr_M_nextWord s m args below meth c A (hk_Zi below args s D A o (wM cI a text letters mowers cows ricks weathers says words weather kindOf thatch newMowers newCows newRicks newWeathers newSays newWords newWeather newKind newThatch st pasts past aside seen seenWord seenHour keeps kept)) 3 D 0 0 (wM cI a text letters mowers cows ricks weathers says words weather kindOf thatch newMowers newCows newRicks newWeathers newSays newWords newWeather newKind newThatch st pasts past aside seen seenWord seenHour keeps kept) 0 [(0, .ref (a 0)), (1, .int x1), (2, .int x2)] [] := by
  delta jf_M_nextWord at h
  refine hk_aload_n hC jd_M_nextWord_0 0 rfl ?_
  refine hk_get hC jk_M 0 rfl 7 (by decide) jq_705 rfl jd_M_nextWord_1 ?_
  refine hk_bipush (v := 9) hC jd_M_nextWord_4 (by decide) ?_
  refine hk_iload_n hC jd_M_nextWord_6 1 rfl ?_
  refine hk_imul hC jd_M_nextWord_7 ?_
  refine hk_iload_n hC jd_M_nextWord_8 2 rfl ?_
  refine hk_aload_n hC jd_M_nextWord_9 0 rfl ?_
  refine hk_get hC jk_M 0 rfl 6 (by decide) jq_704 rfl jd_M_nextWord_10 ?_
  refine hk_iload_n hC jd_M_nextWord_13 1 rfl ?_
  have hr1 := xr_in h
  replace h := xr_go h
  refine hk_iald hC 2 rfl hr1 jd_M_nextWord_14 ?_
  have hz1 := xz_in h
  replace h := xz_go h
  refine hk_irem hC jd_M_nextWord_15 hz1 ?_
  refine hk_iadd hC jd_M_nextWord_16 ?_
  have hr2 := xr_in h
  replace h := xr_go h
  refine hk_iald hC 3 rfl hr2 jd_M_nextWord_17 ?_
  obtain rfl := Option.some.inj h
  exact hk_iret hC hr jd_M_nextWord_18 rfl rfl
theorem jc_M_nextWord (l : Launch) (D : va_G) (cI cF : ClassId) (N : Nat) (a : Nat → Nat)  (text : Nat → Int32) (letters : Int32) (mowers : Int32) (cows : Int32) (ricks : Int32) (weathers : Int32) (says : Nat → Int32) (words : Nat → Int32) (weather : Nat → Int32) (kindOf : Nat → Int32) (thatch : Nat → Int32) (newMowers : Int32) (newCows : Int32) (newRicks : Int32) (newWeathers : Int32) (newSays : Nat → Int32) (newWords : Nat → Int32) (newWeather : Nat → Int32) (newKind : Nat → Int32) (newThatch : Nat → Int32) (st : Nat → Int32) (pasts : Int32) (past : Nat → Int32) (aside : Nat → Int32) (seen : Int32) (seenWord : Nat → Int32) (seenHour : Nat → Int32) (keeps : Int32) (kept : Nat → Int32) (x1 : Int32) (x2 : Int32) {o : Int32} (h : jf_M_nextWord N says words x1 x2 = some o) : hk_Mi l jy_M_nextWord jb_M_nextWord 3 (some .int) jr_M_nextWord D cI cF (wM cI a text letters mowers cows ricks weathers says words weather kindOf thatch newMowers newCows newRicks newWeathers newSays newWords newWeather newKind newThatch st pasts past aside seen seenWord seenHour keeps kept) [.ref (a 0), .int x1, .int x2] o (wM cI a text letters mowers cows ricks weathers says words weather kindOf thatch newMowers newCows newRicks newWeathers newSays newWords newWeather newKind newThatch st pasts past aside seen seenWord seenHour keeps kept) :=
  hk_metI (by decide) (Nat.le_of_ble_eq_true rfl) rfl rfl (fun p e s m args below meth c A hC hr => jw_M_nextWord hC hr N a text letters mowers cows ricks weathers says words weather kindOf thatch newMowers newCows newRicks newWeathers newSays newWords newWeather newKind newThatch st pasts past aside seen seenWord seenHour keeps kept x1 x2 h)
set_option maxHeartbeats 8000000 in
set_option maxRecDepth 100000 in
theorem jw_M_mower {p : Program} {l : Launch} {e : Env} {s : State} {m : MethodId} {args : Array Value} {below : List Frame} {meth : Method} {c : Code} {A : Nat → Prop} {D : va_G} {cI cF : ClassId} (hC : hk_ok p s m args meth c A 3 D cI cF "HayTalkModel" jb_M_mower) (hr : meth.sig.returnType = (some .int)) (N : Nat) (a : Nat → Nat)  (text : Nat → Int32) (letters : Int32) (mowers : Int32) (cows : Int32) (ricks : Int32) (weathers : Int32) (says : Nat → Int32) (words : Nat → Int32) (weather : Nat → Int32) (kindOf : Nat → Int32) (thatch : Nat → Int32) (newMowers : Int32) (newCows : Int32) (newRicks : Int32) (newWeathers : Int32) (newSays : Nat → Int32) (newWords : Nat → Int32) (newWeather : Nat → Int32) (newKind : Nat → Int32) (newThatch : Nat → Int32) (st : Nat → Int32) (pasts : Int32) (past : Nat → Int32) (aside : Nat → Int32) (seen : Int32) (seenWord : Nat → Int32) (seenHour : Nat → Int32) (keeps : Int32) (kept : Nat → Int32) (x1 : Int32) (x2 : Int32) {o : Int32} (h : jf_M_mower N mowers says words st x1 x2 = some o) : hk_W p l e jr_M_mower s m args below meth c A (hk_Zi below args s D A o (wM cI a text letters mowers cows ricks weathers says words weather kindOf thatch newMowers newCows newRicks newWeathers newSays newWords newWeather newKind newThatch st pasts past aside seen seenWord seenHour keeps kept)) 3 D 0 0 (wM cI a text letters mowers cows ricks weathers says words weather kindOf thatch newMowers newCows newRicks newWeathers newSays newWords newWeather newKind newThatch st pasts past aside seen seenWord seenHour keeps kept) 0 [(0, .ref (a 0)), (1, .int x1), (2, .int x2)] [] := by
  delta jf_M_mower at h
  refine hk_aload_n hC jd_M_mower_0 0 rfl ?_
  refine hk_iload_n hC jd_M_mower_1 1 rfl ?_
  obtain ⟨q1, h_q1, h⟩ := xb_go h
  refine hk_callVWi hC (q0 := 0) (jc_M_isMower l D cI cF N a text letters mowers cows ricks weathers says words weather kindOf thatch newMowers newCows newRicks newWeathers newSays newWords newWeather newKind newThatch st pasts past aside seen seenWord seenHour keeps kept x1 h_q1) jl_M_isMower rfl rfl jq_802 jq_804 jq0_21 rfl ⟨by decide, by decide⟩ rfl rfl (Nat.le_of_ble_eq_true rfl) ⟨Nat.zero_le _, Nat.zero_le _⟩ jd_M_mower_2 ?_
  refine hk_if_eq (tgt := 20) hC jd_M_mower_5 (by decide) (fun cc1 => ?_) (fun cc1 => ?_)
  · replace h := xi_t h cc1
    refine hk_iconst (v := -1) hC jd_M_mower_20 (by decide) ?_
    obtain rfl := Option.some.inj h
    exact hk_iret hC hr jd_M_mower_21 rfl rfl
  · replace h := xi_f h cc1
    refine hk_iload_n hC jd_M_mower_8 2 rfl ?_
    refine hk_i2l hC jd_M_mower_9 ?_
    refine hk_lconst (v := 0) hC jd_M_mower_10 (by decide) ?_
    refine hk_ldc2 hC jd_M_mower_11 jq_689 ?_
    obtain ⟨q2, h_q2, h⟩ := xb_go h
    refine hk_callS0i hC (jc_M_in l D cI cF N (Int32.toInt64 x2) (0 : Int64) (2 : Int64) h_q2) jl_M_in jq_673 jq_674 rfl ⟨by decide, by decide⟩ rfl (Nat.le_of_ble_eq_true rfl) ⟨Nat.zero_le _, Nat.zero_le _⟩ jd_M_mower_14 ?_
    refine hk_if_ne (tgt := 22) hC jd_M_mower_17 (by decide) (fun cc2 => ?_) (fun cc2 => ?_)
    · replace h := xi_f h cc2
      refine hk_iload_n hC jd_M_mower_22 2 rfl ?_
      refine hk_if_ne (tgt := 40) hC jd_M_mower_23 (by decide) (fun cc3 => ?_) (fun cc3 => ?_)
      · replace h := xi_f h cc3
        refine hk_iload_n hC jd_M_mower_40 2 rfl ?_
        refine hk_iconst (v := 1) hC jd_M_mower_41 (by decide) ?_
        refine hk_icmp_ne (tgt := 56) hC jd_M_mower_42 (by decide) (fun cc4 => ?_) (fun cc4 => ?_)
        · replace h := xi_f h cc4
          refine hk_aload_n hC jd_M_mower_56 0 rfl ?_
          refine hk_get hC jk_M 0 rfl 20 (by decide) jq_718 rfl jd_M_mower_57 ?_
          refine hk_bipush (v := 6) hC jd_M_mower_60 (by decide) ?_
          refine hk_iload_n hC jd_M_mower_62 1 rfl ?_
          refine hk_iadd hC jd_M_mower_63 ?_
          have hr1 := xr_in h
          replace h := xr_go h
          refine hk_iald hC 12 rfl hr1 jd_M_mower_64 ?_
          obtain rfl := Option.some.inj h
          exact hk_iret hC hr jd_M_mower_65 rfl rfl
        · replace h := xi_t h cc4
          refine hk_aload_n hC jd_M_mower_45 0 rfl ?_
          refine hk_get hC jk_M 0 rfl 20 (by decide) jq_718 rfl jd_M_mower_46 ?_
          refine hk_iconst (v := 1) hC jd_M_mower_49 (by decide) ?_
          refine hk_iload_n hC jd_M_mower_50 1 rfl ?_
          refine hk_iadd hC jd_M_mower_51 ?_
          have hr2 := xr_in h
          replace h := xr_go h
          refine hk_iald hC 12 rfl hr2 jd_M_mower_52 ?_
          refine hk_goto (tgt := 65) hC jd_M_mower_53 (by decide) ?_
          obtain rfl := Option.some.inj h
          exact hk_iret hC hr jd_M_mower_65 rfl rfl
      · replace h := xi_t h cc3
        refine hk_aload_n hC jd_M_mower_26 0 rfl ?_
        refine hk_iload_n hC jd_M_mower_27 1 rfl ?_
        refine hk_aload_n hC jd_M_mower_28 0 rfl ?_
        refine hk_get hC jk_M 0 rfl 20 (by decide) jq_718 rfl jd_M_mower_29 ?_
        refine hk_iconst (v := 0) hC jd_M_mower_32 (by decide) ?_
        have hr3 := xr_in h
        replace h := xr_go h
        refine hk_iald hC 12 rfl hr3 jd_M_mower_33 ?_
        obtain ⟨q3, h_q3, h⟩ := xb_go h
        refine hk_callVWi hC (q0 := 0) (jc_M_nextWord l D cI cF N a text letters mowers cows ricks weathers says words weather kindOf thatch newMowers newCows newRicks newWeathers newSays newWords newWeather newKind newThatch st pasts past aside seen seenWord seenHour keeps kept x1 (st (Int32.toNatClampNeg (0 : Int32))) h_q3) jl_M_nextWord rfl rfl jq_806 jq_808 jq0_22 rfl ⟨by decide, by decide⟩ rfl rfl (Nat.le_of_ble_eq_true rfl) ⟨Nat.zero_le _, Nat.zero_le _⟩ jd_M_mower_34 ?_
        refine hk_goto (tgt := 65) hC jd_M_mower_37 (by decide) ?_
        obtain rfl := Option.some.inj h
        exact hk_iret hC hr jd_M_mower_65 rfl rfl
    · replace h := xi_t h cc2
      refine hk_iconst (v := -1) hC jd_M_mower_20 (by decide) ?_
      obtain rfl := Option.some.inj h
      exact hk_iret hC hr jd_M_mower_21 rfl rfl
theorem jc_M_mower (l : Launch) (D : va_G) (cI cF : ClassId) (N : Nat) (a : Nat → Nat)  (text : Nat → Int32) (letters : Int32) (mowers : Int32) (cows : Int32) (ricks : Int32) (weathers : Int32) (says : Nat → Int32) (words : Nat → Int32) (weather : Nat → Int32) (kindOf : Nat → Int32) (thatch : Nat → Int32) (newMowers : Int32) (newCows : Int32) (newRicks : Int32) (newWeathers : Int32) (newSays : Nat → Int32) (newWords : Nat → Int32) (newWeather : Nat → Int32) (newKind : Nat → Int32) (newThatch : Nat → Int32) (st : Nat → Int32) (pasts : Int32) (past : Nat → Int32) (aside : Nat → Int32) (seen : Int32) (seenWord : Nat → Int32) (seenHour : Nat → Int32) (keeps : Int32) (kept : Nat → Int32) (x1 : Int32) (x2 : Int32) {o : Int32} (h : jf_M_mower N mowers says words st x1 x2 = some o) : hk_Mi l jy_M_mower jb_M_mower 3 (some .int) jr_M_mower D cI cF (wM cI a text letters mowers cows ricks weathers says words weather kindOf thatch newMowers newCows newRicks newWeathers newSays newWords newWeather newKind newThatch st pasts past aside seen seenWord seenHour keeps kept) [.ref (a 0), .int x1, .int x2] o (wM cI a text letters mowers cows ricks weathers says words weather kindOf thatch newMowers newCows newRicks newWeathers newSays newWords newWeather newKind newThatch st pasts past aside seen seenWord seenHour keeps kept) :=
  hk_metI (by decide) (Nat.le_of_ble_eq_true rfl) rfl rfl (fun p e s m args below meth c A hC hr => jw_M_mower hC hr N a text letters mowers cows ricks weathers says words weather kindOf thatch newMowers newCows newRicks newWeathers newSays newWords newWeather newKind newThatch st pasts past aside seen seenWord seenHour keeps kept x1 x2 h)
