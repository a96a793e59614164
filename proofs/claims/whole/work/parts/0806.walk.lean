set_option maxHeartbeats 8000000 in
set_option maxRecDepth 100000 in
theorem jw_M_rick {p : Program} {l : Launch} {e : Env} {s : State} {m : MethodId} {args : Array Value} {below : List Frame} {meth : Method} {c : Code} {A : Nat → Prop} {D : va_G} {cI cF : ClassId} (hC : hk_ok p s m args meth c A 3 D cI cF "HayTalkModel" jb_M_rick) (hr : meth.sig.returnType = (some .int)) (N : Nat) (a : Nat → Nat)  (text : Nat → Int32) (letters : Int32) (mowers : Int32) (cows : Int32) (ricks : Int32) (weathers : Int32) (says : Nat → Int32) (words : Nat → Int32) (weather : Nat → Int32) (kindOf : Nat → Int32) (thatch : Nat → Int32) (newMowers : Int32) (newCows : Int32) (newRicks : Int32) (newWeathers : Int32) (newSays : Nat → Int32) (newWords : Nat → Int32) (newWeather : Nat → Int32) (newKind : Nat → Int32) (newThatch : Nat → Int32) (st : Nat → Int32) (pasts : Int32) (past : Nat → Int32) (aside : Nat → Int32) (seen : Int32) (seenWord : Nat → Int32) (seenHour : Nat → Int32) (keeps : Int32) (kept : Nat → Int32) (x1 : Int32) (x2 : Int32) {o : Int32} (h : jf_M_rick N ricks thatch st x1 x2 = some o) : hk_W p l e jr_M_rick s m args below meth c A (hk_Zi below args s D A o (wM cI a text letters mowers cows ricks weathers says words weather kindOf thatch newMowers newCows newRicks newWeathers newSays newWords newWeather newKind newThatch st pasts past aside seen seenWord seenHour keeps kept)) 3 D 0 0 (wM cI a text letters mowers cows ricks weathers says words weather kindOf thatch newMowers newCows newRicks newWeathers newSays newWords newWeather newKind newThatch st pasts past aside seen seenWord seenHour keeps kept) 0 [(0, .ref (a 0)), (1, .int x1), (2, .int x2)] [] := by
  delta jf_M_rick at h
  refine hk_aload_n hC jd_M_rick_0 0 rfl ?_
  refine hk_iload_n hC jd_M_rick_1 1 rfl ?_
  obtain ⟨q1, h_q1, h⟩ := xb_go h
  refine hk_callVWi hC (q0 := 0) (jc_M_isRick l D cI cF N a text letters mowers cows ricks weathers says words weather kindOf thatch newMowers newCows newRicks newWeathers newSays newWords newWeather newKind newThatch st pasts past aside seen seenWord seenHour keeps kept x1 h_q1) jl_M_isRick rfl rfl jq_822 jq_824 jq0_24 rfl ⟨by decide, by decide⟩ rfl rfl (Nat.le_of_ble_eq_true rfl) ⟨Nat.zero_le _, Nat.zero_le _⟩ jd_M_rick_2 ?_
  refine hk_if_eq (tgt := 20) hC jd_M_rick_5 (by decide) (fun cc1 => ?_) (fun cc1 => ?_)
  · replace h := xi_t h cc1
    refine hk_iconst (v := -1) hC jd_M_rick_20 (by decide) ?_
    obtain rfl := Option.some.inj h
    exact hk_iret hC hr jd_M_rick_21 rfl rfl
  · replace h := xi_f h cc1
    refine hk_iload_n hC jd_M_rick_8 2 rfl ?_
    refine hk_i2l hC jd_M_rick_9 ?_
    refine hk_lconst (v := 0) hC jd_M_rick_10 (by decide) ?_
    refine hk_ldc2 hC jd_M_rick_11 jq_690 ?_
    obtain ⟨q2, h_q2, h⟩ := xb_go h
    refine hk_callS0i hC (jc_M_in l D cI cF N (Int32.toInt64 x2) (0 : Int64) (3 : Int64) h_q2) jl_M_in jq_673 jq_674 rfl ⟨by decide, by decide⟩ rfl (Nat.le_of_ble_eq_true rfl) ⟨Nat.zero_le _, Nat.zero_le _⟩ jd_M_rick_14 ?_
    refine hk_if_ne (tgt := 22) hC jd_M_rick_17 (by decide) (fun cc2 => ?_) (fun cc2 => ?_)
    · replace h := xi_f h cc2
      refine hk_iload_n hC jd_M_rick_22 2 rfl ?_
      refine hk_if_ne (tgt := 35) hC jd_M_rick_23 (by decide) (fun cc3 => ?_) (fun cc3 => ?_)
      · replace h := xi_f h cc3
        refine hk_iload_n hC jd_M_rick_35 2 rfl ?_
        refine hk_iconst (v := 1) hC jd_M_rick_36 (by decide) ?_
        refine hk_icmp_ne (tgt := 52) hC jd_M_rick_37 (by decide) (fun cc4 => ?_) (fun cc4 => ?_)
        · replace h := xi_f h cc4
          refine hk_iload_n hC jd_M_rick_52 2 rfl ?_
          refine hk_iconst (v := 2) hC jd_M_rick_53 (by decide) ?_
          refine hk_icmp_ne (tgt := 65) hC jd_M_rick_54 (by decide) (fun cc5 => ?_) (fun cc5 => ?_)
          · replace h := xi_f h cc5
            refine hk_aload_n hC jd_M_rick_65 0 rfl ?_
            refine hk_get hC jk_M 0 rfl 20 (by decide) jq_718 rfl jd_M_rick_66 ?_
            refine hk_bipush (v := 18) hC jd_M_rick_69 (by decide) ?_
            refine hk_iload_n hC jd_M_rick_71 1 rfl ?_
            refine hk_iadd hC jd_M_rick_72 ?_
            have hr1 := xr_in h
            replace h := xr_go h
            refine hk_iald hC 12 rfl hr1 jd_M_rick_73 ?_
            obtain rfl := Option.some.inj h
            exact hk_iret hC hr jd_M_rick_74 rfl rfl
          · replace h := xi_t h cc5
            refine hk_aload_n hC jd_M_rick_57 0 rfl ?_
            refine hk_iload_n hC jd_M_rick_58 1 rfl ?_
            obtain ⟨q3, h_q3, h⟩ := xb_go h
            refine hk_callVWi hC (q0 := 0) (jc_M_hottest l D cI cF N a text letters mowers cows ricks weathers says words weather kindOf thatch newMowers newCows newRicks newWeathers newSays newWords newWeather newKind newThatch st pasts past aside seen seenWord seenHour keeps kept x1 h_q3) jl_M_hottest rfl rfl jq_826 jq_828 jq0_25 rfl ⟨by decide, by decide⟩ rfl rfl (Nat.le_of_ble_eq_true rfl) ⟨Nat.zero_le _, Nat.zero_le _⟩ jd_M_rick_59 ?_
            refine hk_goto (tgt := 74) hC jd_M_rick_62 (by decide) ?_
            obtain rfl := Option.some.inj h
            exact hk_iret hC hr jd_M_rick_74 rfl rfl
        · replace h := xi_t h cc4
          refine hk_aload_n hC jd_M_rick_40 0 rfl ?_
          refine hk_get hC jk_M 0 rfl 20 (by decide) jq_718 rfl jd_M_rick_41 ?_
          refine hk_bipush (v := 15) hC jd_M_rick_44 (by decide) ?_
          refine hk_iload_n hC jd_M_rick_46 1 rfl ?_
          refine hk_iadd hC jd_M_rick_47 ?_
          have hr2 := xr_in h
          replace h := xr_go h
          refine hk_iald hC 12 rfl hr2 jd_M_rick_48 ?_
          refine hk_goto (tgt := 74) hC jd_M_rick_49 (by decide) ?_
          obtain rfl := Option.some.inj h
          exact hk_iret hC hr jd_M_rick_74 rfl rfl
      · replace h := xi_t h cc3
        refine hk_aload_n hC jd_M_rick_26 0 rfl ?_
        refine hk_get hC jk_M 0 rfl 10 (by decide) jq_708 rfl jd_M_rick_27 ?_
        refine hk_iload_n hC jd_M_rick_30 1 rfl ?_
        have hr3 := xr_in h
        replace h := xr_go h
        refine hk_iald hC 6 rfl hr3 jd_M_rick_31 ?_
        refine hk_goto (tgt := 74) hC jd_M_rick_32 (by decide) ?_
        obtain rfl := Option.some.inj h
        exact hk_iret hC hr jd_M_rick_74 rfl rfl
    · replace h := xi_t h cc2
      refine hk_iconst (v := -1) hC jd_M_rick_20 (by decide) ?_
      obtain rfl := Option.some.inj h
      exact hk_iret hC hr jd_M_rick_21 rfl rfl
theorem jc_M_rick (l : Launch) (D : va_G) (cI cF : ClassId) (N : Nat) (a : Nat → Nat)  (text : Nat → Int32) (letters : Int32) (mowers : Int32) (cows : Int32) (ricks : Int32) (weathers : Int32) (says : Nat → Int32) (words : Nat → Int32) (weather : Nat → Int32) (kindOf : Nat → Int32) (thatch : Nat → Int32) (newMowers : Int32) (newCows : Int32) (newRicks : Int32) (newWeathers : Int32) (newSays : Nat → Int32) (newWords : Nat → Int32) (newWeather : Nat → Int32) (newKind : Nat → Int32) (newThatch : Nat → Int32) (st : Nat → Int32) (pasts : Int32) (past : Nat → Int32) (aside : Nat → Int32) (seen : Int32) (seenWord : Nat → Int32) (seenHour : Nat → Int32) (keeps : Int32) (kept : Nat → Int32) (x1 : Int32) (x2 : Int32) {o : Int32} (h : jf_M_rick N ricks thatch st x1 x2 = some o) : hk_Mi l jy_M_rick jb_M_rick 3 (some .int) jr_M_rick D cI cF (wM cI a text letters mowers cows ricks weathers says words weather kindOf thatch newMowers newCows newRicks newWeathers newSays newWords newWeather newKind newThatch st pasts past aside seen seenWord seenHour keeps kept) [.ref (a 0), .int x1, .int x2] o (wM cI a text letters mowers cows ricks weathers says words weather kindOf thatch newMowers newCows newRicks newWeathers newSays newWords newWeather newKind newThatch st pasts past aside seen seenWord seenHour keeps kept) :=
  hk_metI (by decide) (Nat.le_of_ble_eq_true rfl) rfl rfl (fun p e s m args below meth c A hC hr => jw_M_rick hC hr N a text letters mowers cows ricks weathers says words weather kindOf thatch newMowers newCows newRicks newWeathers newSays newWords newWeather newKind newThatch st pasts past aside seen seenWord seenHour keeps kept x1 x2 h)
set_option maxHeartbeats 8000000 in
set_option maxRecDepth 100000 in
theorem jw_M_layer {p : Program} {l : Launch} {e : Env} {s : State} {m : MethodId} {args : Array Value} {below : List Frame} {meth : Method} {c : Code} {A : Nat → Prop} {D : va_G} {cI cF : ClassId} (hC : hk_ok p s m args meth c A 5 D cI cF "HayTalkModel" jb_M_layer) (hr : meth.sig.returnType = (some .int)) (N : Nat) (a : Nat → Nat)  (text : Nat → Int32) (letters : Int32) (mowers : Int32) (cows : Int32) (ricks : Int32) (weathers : Int32) (says : Nat → Int32) (words : Nat → Int32) (weather : Nat → Int32) (kindOf : Nat → Int32) (thatch : Nat → Int32) (newMowers : Int32) (newCows : Int32) (newRicks : Int32) (newWeathers : Int32) (newSays : Nat → Int32) (newWords : Nat → Int32) (newWeather : Nat → Int32) (newKind : Nat → Int32) (newThatch : Nat → Int32) (st : Nat → Int32) (pasts : Int32) (past : Nat → Int32) (aside : Nat → Int32) (seen : Int32) (seenWord : Nat → Int32) (seenHour : Nat → Int32) (keeps : Int32) (kept : Nat → Int32) (x1 : Int32) (x2 : Int32) (x3 : Int32) {o : Int32} (h : jf_M_layer N ricks st x1 x2 x3 = some o) : hk_W p l e jr_M_layer s m args below meth c A (hk_Zi below args s D A o (wM cI a text letters mowers cows ricks weathers says words weather kindOf thatch newMowers newCows newRicks newWeathers newSays newWords newWeather newKind newThatch st pasts past aside seen seenWord seenHour keeps kept)) 5 D 0 0 (wM cI a text letters mowers cows ricks weathers says words weather kindOf thatch newMowers newCows newRicks newWeathers newSays newWords newWeather newKind newThatch st pasts past aside seen seenWord seenHour keeps kept) 0 [(0, .ref (a 0)), (1, .int x1), (2, .int x2), (3, .int x3)] [] := by
  delta jf_M_layer at h
  refine hk_aload_n hC jd_M_layer_0 0 rfl ?_
  refine hk_iload_n hC jd_M_layer_1 1 rfl ?_
  obtain ⟨q1, h_q1, h⟩ := xb_go h
  refine hk_callVWi hC (q0 := 0) (jc_M_isRick l D cI cF N a text letters mowers cows ricks weathers says words weather kindOf thatch newMowers newCows newRicks newWeathers newSays newWords newWeather newKind newThatch st pasts past aside seen seenWord seenHour keeps kept x1 h_q1) jl_M_isRick rfl rfl jq_822 jq_824 jq0_24 rfl ⟨by decide, by decide⟩ rfl rfl (Nat.le_of_ble_eq_true rfl) ⟨Nat.zero_le _, Nat.zero_le _⟩ jd_M_layer_2 ?_
  refine hk_if_eq (tgt := 41) hC jd_M_layer_5 (by decide) (fun cc1 => ?_) (fun cc1 => ?_)
  · replace h := xi_t h cc1
    refine hk_iconst (v := -1) hC jd_M_layer_41 (by decide) ?_
    obtain rfl := Option.some.inj h
    exact hk_iret hC hr jd_M_layer_42 rfl rfl
  · replace h := xi_f h cc1
    refine hk_iload_n hC jd_M_layer_8 2 rfl ?_
    refine hk_i2l hC jd_M_layer_9 ?_
    refine hk_lconst (v := 0) hC jd_M_layer_10 (by decide) ?_
    refine hk_aload_n hC jd_M_layer_11 0 rfl ?_
    refine hk_get hC jk_M 0 rfl 20 (by decide) jq_718 rfl jd_M_layer_12 ?_
    refine hk_bipush (v := 15) hC jd_M_layer_15 (by decide) ?_
    refine hk_iload_n hC jd_M_layer_17 1 rfl ?_
    refine hk_iadd hC jd_M_layer_18 ?_
    have hr1 := xr_in h
    replace h := xr_go h
    refine hk_iald hC 12 rfl hr1 jd_M_layer_19 ?_
    refine hk_iconst (v := 1) hC jd_M_layer_20 (by decide) ?_
    refine hk_isub hC jd_M_layer_21 ?_
    refine hk_i2l hC jd_M_layer_22 ?_
    obtain ⟨q2, h_q2, h⟩ := xb_go h
    refine hk_callS0i hC (jc_M_in l D cI cF N (Int32.toInt64 x2) (0 : Int64) (Int32.toInt64 ((st (Int32.toNatClampNeg ((15 : Int32) + x1))) - (1 : Int32))) h_q2) jl_M_in jq_673 jq_674 rfl ⟨by decide, by decide⟩ rfl (Nat.le_of_ble_eq_true rfl) ⟨Nat.zero_le _, Nat.zero_le _⟩ jd_M_layer_23 ?_
    refine hk_if_eq (tgt := 41) hC jd_M_layer_26 (by decide) (fun cc2 => ?_) (fun cc2 => ?_)
    · replace h := xi_t h cc2
      refine hk_iconst (v := -1) hC jd_M_layer_41 (by decide) ?_
      obtain rfl := Option.some.inj h
      exact hk_iret hC hr jd_M_layer_42 rfl rfl
    · replace h := xi_f h cc2
      refine hk_iload_n hC jd_M_layer_29 3 rfl ?_
      refine hk_i2l hC jd_M_layer_30 ?_
      refine hk_lconst (v := 0) hC jd_M_layer_31 (by decide) ?_
      refine hk_ldc2 hC jd_M_layer_32 jq_689 ?_
      obtain ⟨q3, h_q3, h⟩ := xb_go h
      refine hk_callS0i hC (jc_M_in l D cI cF N (Int32.toInt64 x3) (0 : Int64) (2 : Int64) h_q3) jl_M_in jq_673 jq_674 rfl ⟨by decide, by decide⟩ rfl (Nat.le_of_ble_eq_true rfl) ⟨Nat.zero_le _, Nat.zero_le _⟩ jd_M_layer_35 ?_
      refine hk_if_ne (tgt := 43) hC jd_M_layer_38 (by decide) (fun cc3 => ?_) (fun cc3 => ?_)
      · replace h := xi_f h cc3
        refine hk_bipush (v := 8) hC jd_M_layer_43 (by decide) ?_
        refine hk_iload_n hC jd_M_layer_45 1 rfl ?_
        refine hk_imul hC jd_M_layer_46 ?_
        refine hk_iload_n hC jd_M_layer_47 2 rfl ?_
        refine hk_iadd hC jd_M_layer_48 ?_
        obtain ⟨v1, e_v1, h⟩ := xl_go h
        refine hk_istore hC (i := 4) (y := v1) (lv2 := [(4, .int v1), (0, .ref (a 0)), (1, .int x1), (2, .int x2), (3, .int x3)]) jd_M_layer_49 e_v1 (by decide) rfl ?_
        refine hk_iload_n hC jd_M_layer_51 4 rfl ?_
        refine hk_if_ne (tgt := 68) hC jd_M_layer_52 (by decide) (fun cc4 => ?_) (fun cc4 => ?_)
        · replace h := xi_f h cc4
          refine hk_iload_n hC jd_M_layer_68 4 rfl ?_
          refine hk_iconst (v := 1) hC jd_M_layer_69 (by decide) ?_
          refine hk_icmp_ne (tgt := 86) hC jd_M_layer_70 (by decide) (fun cc5 => ?_) (fun cc5 => ?_)
          · replace h := xi_f h cc5
            refine hk_aload_n hC jd_M_layer_86 1 rfl ?_
            refine hk_get hC jk_M 0 rfl 20 (by decide) jq_718 rfl jd_M_layer_87 ?_
            refine hk_bipush (v := 69) hC jd_M_layer_90 (by decide) ?_
            refine hk_iload hC jd_M_layer_92 0 rfl ?_
            refine hk_iadd hC jd_M_layer_94 ?_
            have hr2 := xr_in h
            replace h := xr_go h
            refine hk_iald hC 12 rfl hr2 jd_M_layer_95 ?_
            obtain rfl := Option.some.inj h
            exact hk_iret hC hr jd_M_layer_96 rfl rfl
          · replace h := xi_t h cc5
            refine hk_aload_n hC jd_M_layer_73 1 rfl ?_
            refine hk_get hC jk_M 0 rfl 20 (by decide) jq_718 rfl jd_M_layer_74 ?_
            refine hk_bipush (v := 45) hC jd_M_layer_77 (by decide) ?_
            refine hk_iload hC jd_M_layer_79 0 rfl ?_
            refine hk_iadd hC jd_M_layer_81 ?_
            have hr3 := xr_in h
            replace h := xr_go h
            refine hk_iald hC 12 rfl hr3 jd_M_layer_82 ?_
            refine hk_goto (tgt := 96) hC jd_M_layer_83 (by decide) ?_
            obtain rfl := Option.some.inj h
            exact hk_iret hC hr jd_M_layer_96 rfl rfl
        · replace h := xi_t h cc4
          refine hk_aload_n hC jd_M_layer_55 1 rfl ?_
          refine hk_get hC jk_M 0 rfl 20 (by decide) jq_718 rfl jd_M_layer_56 ?_
          refine hk_bipush (v := 21) hC jd_M_layer_59 (by decide) ?_
          refine hk_iload hC jd_M_layer_61 0 rfl ?_
          refine hk_iadd hC jd_M_layer_63 ?_
          have hr4 := xr_in h
          replace h := xr_go h
          refine hk_iald hC 12 rfl hr4 jd_M_layer_64 ?_
          refine hk_goto (tgt := 96) hC jd_M_layer_65 (by decide) ?_
          obtain rfl := Option.some.inj h
          exact hk_iret hC hr jd_M_layer_96 rfl rfl
      · replace h := xi_t h cc3
        refine hk_iconst (v := -1) hC jd_M_layer_41 (by decide) ?_
        obtain rfl := Option.some.inj h
        exact hk_iret hC hr jd_M_layer_42 rfl rfl
theorem jc_M_layer (l : Launch) (D : va_G) (cI cF : ClassId) (N : Nat) (a : Nat → Nat)  (text : Nat → Int32) (letters : Int32) (mowers : Int32) (cows : Int32) (ricks : Int32) (weathers : Int32) (says : Nat → Int32) (words : Nat → Int32) (weather : Nat → Int32) (kindOf : Nat → Int32) (thatch : Nat → Int32) (newMowers : Int32) (newCows : Int32) (newRicks : Int32) (newWeathers : Int32) (newSays : Nat → Int32) (newWords : Nat → Int32) (newWeather : Nat → Int32) (newKind : Nat → Int32) (newThatch : Nat → Int32) (st : Nat → Int32) (pasts : Int32) (past : Nat → Int32) (aside : Nat → Int32) (seen : Int32) (seenWord : Nat → Int32) (seenHour : Nat → Int32) (keeps : Int32) (kept : Nat → Int32) (x1 : Int32) (x2 : Int32) (x3 : Int32) {o : Int32} (h : jf_M_layer N ricks st x1 x2 x3 = some o) : hk_Mi l jy_M_layer jb_M_layer 5 (some .int) jr_M_layer D cI cF (wM cI a text letters mowers cows ricks weathers says words weather kindOf thatch newMowers newCows newRicks newWeathers newSays newWords newWeather newKind newThatch st pasts past aside seen seenWord seenHour keeps kept) [.ref (a 0), .int x1, .int x2, .int x3] o (wM cI a text letters mowers cows ricks weathers says words weather kindOf thatch newMowers newCows newRicks newWeathers newSays newWords newWeather newKind newThatch st pasts past aside seen seenWord seenHour keeps kept) :=
  hk_metI (by decide) (Nat.le_of_ble_eq_true rfl) rfl rfl (fun p e s m args below meth c A hC hr => jw_M_layer hC hr N a text letters mowers cows ricks weathers says words weather kindOf thatch newMowers newCows newRicks newWeathers newSays newWords newWeather newKind newThatch st pasts past aside seen seenWord seenHour keeps kept x1 x2 x3 h)
set_option maxHeartbeats 8000000 in
set_option maxRecDepth 100000 in
theorem jw_M_undo {p : Program} {l : Launch} {e : Env} {s : State} {m : MethodId} {args : Array Value} {below : List Frame} {meth : Method} {c : Code} {A : Nat → Prop} {D : va_G} {cI cF : ClassId} (hC : hk_ok p s m args meth c A 2 D cI cF "HayTalkModel" jb_M_undo) (hr : meth.sig.returnType = (some .int)) (N : Nat) (a : Nat → Nat)  (text : Nat → Int32) (letters : Int32) (mowers : Int32) (cows : Int32) (ricks : Int32) (weathers : Int32) (says : Nat → Int32) (words : Nat → Int32) (weather : Nat → Int32) (kindOf : Nat → Int32) (thatch : Nat → Int32) (newMowers : Int32) (newCows : Int32) (newRicks : Int32) (newWeathers : Int32) (newSays : Nat → Int32) (newWords : Nat → Int32) (newWeather : Nat → Int32) (newKind : Nat → Int32) (newThatch : Nat → Int32) (st : Nat → Int32) (pasts : Int32) (past : Nat → Int32) (aside : Nat → Int32) (seen : Int32) (seenWord : Nat → Int32) (seenHour : Nat → Int32) (keeps : Int32) (kept : Nat → Int32)  {o : Int32 × (Nat → Int32) × Int32} (h : jf_M_undo N st pasts past = some o) : hk_W p l e jr_M_undo s m args below meth c A (hk_Zi below args s D A o.1 (wM cI a text letters mowers cows ricks weathers says words weather kindOf thatch newMowers newCows newRicks newWeathers newSays newWords newWeather newKind newThatch o.2.1 o.2.2 past aside seen seenWord seenHour keeps kept)) 2 D 0 0 (wM cI a text letters mowers cows ricks weathers says words weather kindOf thatch newMowers newCows newRicks newWeathers newSays newWords newWeather newKind newThatch st pasts past aside seen seenWord seenHour keeps kept) 0 [(0, .ref (a 0))] [] := by
  have B_22 : ∀ (st : Nat → Int32) (pasts : Int32) (past : Nat → Int32) (x1 : Int32) (kh22 : ((Nat → Int32) × Int32) → Option (Int32 × (Nat → Int32) × Int32)) (kx54 : ((Nat → Int32)) → Option (Int32 × (Nat → Int32) × Int32)) (ihh22 : ∀ q, kh22 q = some o → hk_W p l e jr_M_undo s m args below meth c A (hk_Zi below args s D A o.1 (wM cI a text letters mowers cows ricks weathers says words weather kindOf thatch newMowers newCows newRicks newWeathers newSays newWords newWeather newKind newThatch o.2.1 o.2.2 past aside seen seenWord seenHour keeps kept)) 2 D 0 0 (wM cI a text letters mowers cows ricks weathers says words weather kindOf thatch newMowers newCows newRicks newWeathers newSays newWords newWeather newKind newThatch q.1 pasts past aside seen seenWord seenHour keeps kept) 22 [(0, .ref (a 0)), (1, .int q.2)] []) (ihx54 : ∀ q, kx54 q = some o → hk_W p l e jr_M_undo s m args below meth c A (hk_Zi below args s D A o.1 (wM cI a text letters mowers cows ricks weathers says words weather kindOf thatch newMowers newCows newRicks newWeathers newSays newWords newWeather newKind newThatch o.2.1 o.2.2 past aside seen seenWord seenHour keeps kept)) 2 D 0 0 (wM cI a text letters mowers cows ricks weathers says words weather kindOf thatch newMowers newCows newRicks newWeathers newSays newWords newWeather newKind newThatch q pasts past aside seen seenWord seenHour keeps kept) 54 [(0, .ref (a 0))] []) (_ : jf_M_undo_22B N st pasts past x1 kh22 kx54 = some o), hk_W p l e jr_M_undo s m args below meth c A (hk_Zi below args s D A o.1 (wM cI a text letters mowers cows ricks weathers says words weather kindOf thatch newMowers newCows newRicks newWeathers newSays newWords newWeather newKind newThatch o.2.1 o.2.2 past aside seen seenWord seenHour keeps kept)) 2 D 0 0 (wM cI a text letters mowers cows ricks weathers says words weather kindOf thatch newMowers newCows newRicks newWeathers newSays newWords newWeather newKind newThatch st pasts past aside seen seenWord seenHour keeps kept) 22 [(0, .ref (a 0)), (1, .int x1)] [] := by
    intro st pasts past x1 kh22 kx54 ihh22 ihx54 h
    delta jf_M_undo_22B at h
    refine hk_iload_n hC jd_M_undo_22 1 rfl ?_
    refine hk_bipush (v := 93) hC jd_M_undo_23 (by decide) ?_
    refine hk_icmp_ge (tgt := 54) hC jd_M_undo_25 (by decide) (fun cc1 => ?_) (fun cc1 => ?_)
    · replace h := xi_t h cc1
      exact hk_lv [0] rfl (ihx54 st h)
    · replace h := xi_f h cc1
      refine hk_aload_n hC jd_M_undo_28 0 rfl ?_
      refine hk_get hC jk_M 0 rfl 20 (by decide) jq_718 rfl jd_M_undo_29 ?_
      refine hk_iload_n hC jd_M_undo_32 1 rfl ?_
      refine hk_aload_n hC jd_M_undo_33 0 rfl ?_
      refine hk_get hC jk_M 0 rfl 22 (by decide) jq_720 rfl jd_M_undo_34 ?_
      refine hk_bipush (v := 93) hC jd_M_undo_37 (by decide) ?_
      refine hk_aload_n hC jd_M_undo_39 0 rfl ?_
      refine hk_get hC jk_M 0 rfl 21 (by decide) jq_719 rfl jd_M_undo_40 ?_
      refine hk_imul hC jd_M_undo_43 ?_
      refine hk_iload_n hC jd_M_undo_44 1 rfl ?_
      refine hk_iadd hC jd_M_undo_45 ?_
      have hr1 := xr_in h
      replace h := xr_go h
      refine hk_iald hC 13 rfl hr1 jd_M_undo_46 ?_
      have hr2 := xr_in h
      replace h := xr_go h
      obtain ⟨z1, e_z1, h⟩ := xl_go h
      refine hk_iast hC 12 rfl hr2 e_z1 (ws2 := (wM cI a text letters mowers cows ricks weathers says words weather kindOf thatch newMowers newCows newRicks newWeathers newSays newWords newWeather newKind newThatch z1 pasts past aside seen seenWord seenHour keeps kept)) rfl jd_M_undo_47 ?_
      obtain ⟨v1, e_v1, h⟩ := xl_go h
      refine hk_iinc hC (lv2 := [(1, .int v1), (0, .ref (a 0))]) jd_M_undo_48 1 rfl e_v1 (by decide) rfl ?_
      refine hk_goto (tgt := 22) hC jd_M_undo_51 (by decide) ?_
      exact hk_lv [1, 0] rfl (ihh22 (z1, v1) h)
  have L_22 : ∀ (st : Nat → Int32) (pasts : Int32) (past : Nat → Int32) (x1 : Int32) (kx54 : ((Nat → Int32)) → Option (Int32 × (Nat → Int32) × Int32)) (ihx54 : ∀ q, kx54 q = some o → hk_W p l e jr_M_undo s m args below meth c A (hk_Zi below args s D A o.1 (wM cI a text letters mowers cows ricks weathers says words weather kindOf thatch newMowers newCows newRicks newWeathers newSays newWords newWeather newKind newThatch o.2.1 o.2.2 past aside seen seenWord seenHour keeps kept)) 2 D 0 0 (wM cI a text letters mowers cows ricks weathers says words weather kindOf thatch newMowers newCows newRicks newWeathers newSays newWords newWeather newKind newThatch q pasts past aside seen seenWord seenHour keeps kept) 54 [(0, .ref (a 0))] []) (_ : jf_M_undo_22 N st pasts past x1 kx54 = some o), hk_W p l e jr_M_undo s m args below meth c A (hk_Zi below args s D A o.1 (wM cI a text letters mowers cows ricks weathers says words weather kindOf thatch newMowers newCows newRicks newWeathers newSays newWords newWeather newKind newThatch o.2.1 o.2.2 past aside seen seenWord seenHour keeps kept)) 2 D 0 0 (wM cI a text letters mowers cows ricks weathers says words weather kindOf thatch newMowers newCows newRicks newWeathers newSays newWords newWeather newKind newThatch st pasts past aside seen seenWord seenHour keeps kept) 22 [(0, .ref (a 0)), (1, .int x1)] [] := by
    intro st pasts past x1 kx54 ihx54 h
    exact xloopW (fun (q : (Nat → Int32) × Int32) => hk_W p l e jr_M_undo s m args below meth c A (hk_Zi below args s D A o.1 (wM cI a text letters mowers cows ricks weathers says words weather kindOf thatch newMowers newCows newRicks newWeathers newSays newWords newWeather newKind newThatch o.2.1 o.2.2 past aside seen seenWord seenHour keeps kept)) 2 D 0 0 (wM cI a text letters mowers cows ricks weathers says words weather kindOf thatch newMowers newCows newRicks newWeathers newSays newWords newWeather newKind newThatch q.1 pasts past aside seen seenWord seenHour keeps kept) 22 [(0, .ref (a 0)), (1, .int q.2)] []) (fun kh ih q h => B_22 q.1 pasts past q.2 kh kx54 ih ihx54 h) N (st, x1) h
  have B_54 : ∀ (st : Nat → Int32) (pasts : Int32) (past : Nat → Int32)   (_ : jf_M_undo_54 N st pasts past  = some o), hk_W p l e jr_M_undo s m args below meth c A (hk_Zi below args s D A o.1 (wM cI a text letters mowers cows ricks weathers says words weather kindOf thatch newMowers newCows newRicks newWeathers newSays newWords newWeather newKind newThatch o.2.1 o.2.2 past aside seen seenWord seenHour keeps kept)) 2 D 0 0 (wM cI a text letters mowers cows ricks weathers says words weather kindOf thatch newMowers newCows newRicks newWeathers newSays newWords newWeather newKind newThatch st pasts past aside seen seenWord seenHour keeps kept) 54 [(0, .ref (a 0))] [] := by
    intro st pasts past   h
    delta jf_M_undo_54 at h
    refine hk_aload_n hC jd_M_undo_54 0 rfl ?_
    refine hk_get hC jk_M 0 rfl 21 (by decide) jq_719 rfl jd_M_undo_55 ?_
    obtain rfl := Option.some.inj h
    exact hk_iret hC hr jd_M_undo_58 rfl rfl
  delta jf_M_undo at h
  refine hk_aload_n hC jd_M_undo_0 0 rfl ?_
  refine hk_get hC jk_M 0 rfl 21 (by decide) jq_719 rfl jd_M_undo_1 ?_
  refine hk_if_ne (tgt := 10) hC jd_M_undo_4 (by decide) (fun cc1 => ?_) (fun cc1 => ?_)
  · replace h := xi_f h cc1
    refine hk_aload_n hC jd_M_undo_10 0 rfl ?_
    refine hk_dup hC jd_M_undo_11 rfl ?_
    refine hk_get hC jk_M 0 rfl 21 (by decide) jq_719 rfl jd_M_undo_12 ?_
    refine hk_iconst (v := 1) hC jd_M_undo_15 (by decide) ?_
    refine hk_isub hC jd_M_undo_16 ?_
    obtain ⟨v1, e_v1, h⟩ := xl_go h
    refine hk_topi e_v1 ?_
    refine hk_put hC jk_M 0 rfl 21 (by decide) jq_719 rfl rfl rfl (Nat.le_of_ble_eq_true rfl) (ws2 := (wM cI a text letters mowers cows ricks weathers says words weather kindOf thatch newMowers newCows newRicks newWeathers newSays newWords newWeather newKind newThatch st v1 past aside seen seenWord seenHour keeps kept)) rfl jd_M_undo_17 ?_
    refine hk_iconst (v := 0) hC jd_M_undo_20 (by decide) ?_
    refine hk_istore_n hC (i := 1) (y := (0 : Int32)) (lv2 := [(1, .int (0 : Int32)), (0, .ref (a 0))]) jd_M_undo_21 rfl rfl (by decide) rfl ?_
    exact hk_lv [1, 0] rfl (L_22 st v1 past (0 : Int32) _ (fun q1 h => by exact (B_54 q1 v1 past   h)) h)
  · replace h := xi_t h cc1
    refine hk_bipush (v := -2) hC jd_M_undo_7 (by decide) ?_
    obtain rfl := Option.some.inj h
    exact hk_iret hC hr jd_M_undo_9 rfl rfl
theorem jc_M_undo (l : Launch) (D : va_G) (cI cF : ClassId) (N : Nat) (a : Nat → Nat)  (text : Nat → Int32) (letters : Int32) (mowers : Int32) (cows : Int32) (ricks : Int32) (weathers : Int32) (says : Nat → Int32) (words : Nat → Int32) (weather : Nat → Int32) (kindOf : Nat → Int32) (thatch : Nat → Int32) (newMowers : Int32) (newCows : Int32) (newRicks : Int32) (newWeathers : Int32) (newSays : Nat → Int32) (newWords : Nat → Int32) (newWeather : Nat → Int32) (newKind : Nat → Int32) (newThatch : Nat → Int32) (st : Nat → Int32) (pasts : Int32) (past : Nat → Int32) (aside : Nat → Int32) (seen : Int32) (seenWord : Nat → Int32) (seenHour : Nat → Int32) (keeps : Int32) (kept : Nat → Int32)  {o : Int32 × (Nat → Int32) × Int32} (h : jf_M_undo N st pasts past = some o) : hk_Mi l jy_M_undo jb_M_undo 2 (some .int) jr_M_undo D cI cF (wM cI a text letters mowers cows ricks weathers says words weather kindOf thatch newMowers newCows newRicks newWeathers newSays newWords newWeather newKind newThatch st pasts past aside seen seenWord seenHour keeps kept) [.ref (a 0)] o.1 (wM cI a text letters mowers cows ricks weathers says words weather kindOf thatch newMowers newCows newRicks newWeathers newSays newWords newWeather newKind newThatch o.2.1 o.2.2 past aside seen seenWord seenHour keeps kept) :=
  hk_metI (by decide) (Nat.le_of_ble_eq_true rfl) rfl rfl (fun p e s m args below meth c A hC hr => jw_M_undo hC hr N a text letters mowers cows ricks weathers says words weather kindOf thatch newMowers newCows newRicks newWeathers newSays newWords newWeather newKind newThatch st pasts past aside seen seenWord seenHour keeps kept h)
set_option maxHeartbeats 8000000 in
set_option maxRecDepth 100000 in
theorem jw_M_note {p : Program} {l : Launch} {e : Env} {s : State} {m : MethodId} {args : Array Value} {below : List Frame} {meth : Method} {c : Code} {A : Nat → Prop} {D : va_G} {cI cF : ClassId} (hC : hk_ok p s m args meth c A 2 D cI cF "HayTalkModel" jb_M_note) (hr : meth.sig.returnType = none) (N : Nat) (a : Nat → Nat)  (text : Nat → Int32) (letters : Int32) (mowers : Int32) (cows : Int32) (ricks : Int32) (weathers : Int32) (says : Nat → Int32) (words : Nat → Int32) (weather : Nat → Int32) (kindOf : Nat → Int32) (thatch : Nat → Int32) (newMowers : Int32) (newCows : Int32) (newRicks : Int32) (newWeathers : Int32) (newSays : Nat → Int32) (newWords : Nat → Int32) (newWeather : Nat → Int32) (newKind : Nat → Int32) (newThatch : Nat → Int32) (st : Nat → Int32) (pasts : Int32) (past : Nat → Int32) (aside : Nat → Int32) (seen : Int32) (seenWord : Nat → Int32) (seenHour : Nat → Int32) (keeps : Int32) (kept : Nat → Int32)  {o : Int32 × (Nat → Int32)} (h : jf_M_note N st pasts past = some o) : hk_W p l e jr_M_note s m args below meth c A (hk_Zv below args s D A (wM cI a text letters mowers cows ricks weathers says words weather kindOf thatch newMowers newCows newRicks newWeathers newSays newWords newWeather newKind newThatch st o.1 o.2 aside seen seenWord seenHour keeps kept)) 2 D 0 0 (wM cI a text letters mowers cows ricks weathers says words weather kindOf thatch newMowers newCows newRicks newWeathers newSays newWords newWeather newKind newThatch st pasts past aside seen seenWord seenHour keeps kept) 0 [(0, .ref (a 0))] [] := by
  have B_11 : ∀ (st : Nat → Int32) (pasts : Int32) (past : Nat → Int32) (x1 : Int32) (kh11 : ((Nat → Int32) × Int32) → Option (Int32 × (Nat → Int32))) (kx39 : ((Nat → Int32)) → Option (Int32 × (Nat → Int32))) (ihh11 : ∀ q, kh11 q = some o → hk_W p l e jr_M_note s m args below meth c A (hk_Zv below args s D A (wM cI a text letters mowers cows ricks weathers says words weather kindOf thatch newMowers newCows newRicks newWeathers newSays newWords newWeather newKind newThatch st o.1 o.2 aside seen seenWord seenHour keeps kept)) 2 D 0 0 (wM cI a text letters mowers cows ricks weathers says words weather kindOf thatch newMowers newCows newRicks newWeathers newSays newWords newWeather newKind newThatch st pasts q.1 aside seen seenWord seenHour keeps kept) 11 [(0, .ref (a 0)), (1, .int q.2)] []) (ihx39 : ∀ q, kx39 q = some o → hk_W p l e jr_M_note s m args below meth c A (hk_Zv below args s D A (wM cI a text letters mowers cows ricks weathers says words weather kindOf thatch newMowers newCows newRicks newWeathers newSays newWords newWeather newKind newThatch st o.1 o.2 aside seen seenWord seenHour keeps kept)) 2 D 0 0 (wM cI a text letters mowers cows ricks weathers says words weather kindOf thatch newMowers newCows newRicks newWeathers newSays newWords newWeather newKind newThatch st pasts q aside seen seenWord seenHour keeps kept) 39 [(0, .ref (a 0))] []) (_ : jf_M_note_11B N st pasts past x1 kh11 kx39 = some o), hk_W p l e jr_M_note s m args below meth c A (hk_Zv below args s D A (wM cI a text letters mowers cows ricks weathers says words weather kindOf thatch newMowers newCows newRicks newWeathers newSays newWords newWeather newKind newThatch st o.1 o.2 aside seen seenWord seenHour keeps kept)) 2 D 0 0 (wM cI a text letters mowers cows ricks weathers says words weather kindOf thatch newMowers newCows newRicks newWeathers newSays newWords newWeather newKind newThatch st pasts past aside seen seenWord seenHour keeps kept) 11 [(0, .ref (a 0)), (1, .int x1)] [] := by
    intro st pasts past x1 kh11 kx39 ihh11 ihx39 h
    delta jf_M_note_11B at h
    refine hk_iload_n hC jd_M_note_11 1 rfl ?_
    refine hk_sipush (v := 651) hC jd_M_note_12 (by decide) ?_
    refine hk_icmp_ge (tgt := 39) hC jd_M_note_15 (by decide) (fun cc1 => ?_) (fun cc1 => ?_)
    · replace h := xi_t h cc1
      exact hk_lv [0] rfl (ihx39 past h)
    · replace h := xi_f h cc1
      refine hk_aload_n hC jd_M_note_18 0 rfl ?_
      refine hk_get hC jk_M 0 rfl 22 (by decide) jq_720 rfl jd_M_note_19 ?_
      refine hk_iload_n hC jd_M_note_22 1 rfl ?_
      refine hk_aload_n hC jd_M_note_23 0 rfl ?_
      refine hk_get hC jk_M 0 rfl 22 (by decide) jq_720 rfl jd_M_note_24 ?_
      refine hk_iload_n hC jd_M_note_27 1 rfl ?_
      refine hk_bipush (v := 93) hC jd_M_note_28 (by decide) ?_
      refine hk_iadd hC jd_M_note_30 ?_
      have hr1 := xr_in h
      replace h := xr_go h
      refine hk_iald hC 13 rfl hr1 jd_M_note_31 ?_
      have hr2 := xr_in h
      replace h := xr_go h
      obtain ⟨z1, e_z1, h⟩ := xl_go h
      refine hk_iast hC 13 rfl hr2 e_z1 (ws2 := (wM cI a text letters mowers cows ricks weathers says words weather kindOf thatch newMowers newCows newRicks newWeathers newSays newWords newWeather newKind newThatch st pasts z1 aside seen seenWord seenHour keeps kept)) rfl jd_M_note_32 ?_
      obtain ⟨v1, e_v1, h⟩ := xl_go h
      refine hk_iinc hC (lv2 := [(1, .int v1), (0, .ref (a 0))]) jd_M_note_33 1 rfl e_v1 (by decide) rfl ?_
      refine hk_goto (tgt := 11) hC jd_M_note_36 (by decide) ?_
      exact hk_lv [1, 0] rfl (ihh11 (z1, v1) h)
  have L_11 : ∀ (st : Nat → Int32) (pasts : Int32) (past : Nat → Int32) (x1 : Int32) (kx39 : ((Nat → Int32)) → Option (Int32 × (Nat → Int32))) (ihx39 : ∀ q, kx39 q = some o → hk_W p l e jr_M_note s m args below meth c A (hk_Zv below args s D A (wM cI a text letters mowers cows ricks weathers says words weather kindOf thatch newMowers newCows newRicks newWeathers newSays newWords newWeather newKind newThatch st o.1 o.2 aside seen seenWord seenHour keeps kept)) 2 D 0 0 (wM cI a text letters mowers cows ricks weathers says words weather kindOf thatch newMowers newCows newRicks newWeathers newSays newWords newWeather newKind newThatch st pasts q aside seen seenWord seenHour keeps kept) 39 [(0, .ref (a 0))] []) (_ : jf_M_note_11 N st pasts past x1 kx39 = some o), hk_W p l e jr_M_note s m args below meth c A (hk_Zv below args s D A (wM cI a text letters mowers cows ricks weathers says words weather kindOf thatch newMowers newCows newRicks newWeathers newSays newWords newWeather newKind newThatch st o.1 o.2 aside seen seenWord seenHour keeps kept)) 2 D 0 0 (wM cI a text letters mowers cows ricks weathers says words weather kindOf thatch newMowers newCows newRicks newWeathers newSays newWords newWeather newKind newThatch st pasts past aside seen seenWord seenHour keeps kept) 11 [(0, .ref (a 0)), (1, .int x1)] [] := by
    intro st pasts past x1 kx39 ihx39 h
    exact xloopW (fun (q : (Nat → Int32) × Int32) => hk_W p l e jr_M_note s m args below meth c A (hk_Zv below args s D A (wM cI a text letters mowers cows ricks weathers says words weather kindOf thatch newMowers newCows newRicks newWeathers newSays newWords newWeather newKind newThatch st o.1 o.2 aside seen seenWord seenHour keeps kept)) 2 D 0 0 (wM cI a text letters mowers cows ricks weathers says words weather kindOf thatch newMowers newCows newRicks newWeathers newSays newWords newWeather newKind newThatch st pasts q.1 aside seen seenWord seenHour keeps kept) 11 [(0, .ref (a 0)), (1, .int q.2)] []) (fun kh ih q h => B_11 st pasts q.1 q.2 kh kx39 ih ihx39 h) N (past, x1) h
  have B_51 : ∀ (st : Nat → Int32) (pasts : Int32) (past : Nat → Int32) (x1 : Int32) (kh51 : ((Nat → Int32) × Int32) → Option (Int32 × (Nat → Int32))) (kx83 : ((Nat → Int32)) → Option (Int32 × (Nat → Int32))) (ihh51 : ∀ q, kh51 q = some o → hk_W p l e jr_M_note s m args below meth c A (hk_Zv below args s D A (wM cI a text letters mowers cows ricks weathers says words weather kindOf thatch newMowers newCows newRicks newWeathers newSays newWords newWeather newKind newThatch st o.1 o.2 aside seen seenWord seenHour keeps kept)) 2 D 0 0 (wM cI a text letters mowers cows ricks weathers says words weather kindOf thatch newMowers newCows newRicks newWeathers newSays newWords newWeather newKind newThatch st pasts q.1 aside seen seenWord seenHour keeps kept) 51 [(0, .ref (a 0)), (1, .int q.2)] []) (ihx83 : ∀ q, kx83 q = some o → hk_W p l e jr_M_note s m args below meth c A (hk_Zv below args s D A (wM cI a text letters mowers cows ricks weathers says words weather kindOf thatch newMowers newCows newRicks newWeathers newSays newWords newWeather newKind newThatch st o.1 o.2 aside seen seenWord seenHour keeps kept)) 2 D 0 0 (wM cI a text letters mowers cows ricks weathers says words weather kindOf thatch newMowers newCows newRicks newWeathers newSays newWords newWeather newKind newThatch st pasts q aside seen seenWord seenHour keeps kept) 83 [(0, .ref (a 0))] []) (_ : jf_M_note_51B N st pasts past x1 kh51 kx83 = some o), hk_W p l e jr_M_note s m args below meth c A (hk_Zv below args s D A (wM cI a text letters mowers cows ricks weathers says words weather kindOf thatch newMowers newCows newRicks newWeathers newSays newWords newWeather newKind newThatch st o.1 o.2 aside seen seenWord seenHour keeps kept)) 2 D 0 0 (wM cI a text letters mowers cows ricks weathers says words weather kindOf thatch newMowers newCows newRicks newWeathers newSays newWords newWeather newKind newThatch st pasts past aside seen seenWord seenHour keeps kept) 51 [(0, .ref (a 0)), (1, .int x1)] [] := by
    intro st pasts past x1 kh51 kx83 ihh51 ihx83 h
    delta jf_M_note_51B at h
    refine hk_iload_n hC jd_M_note_51 1 rfl ?_
    refine hk_bipush (v := 93) hC jd_M_note_52 (by decide) ?_
    refine hk_icmp_ge (tgt := 83) hC jd_M_note_54 (by decide) (fun cc1 => ?_) (fun cc1 => ?_)
    · replace h := xi_t h cc1
      exact hk_lv [0] rfl (ihx83 past h)
    · replace h := xi_f h cc1
      refine hk_aload_n hC jd_M_note_57 0 rfl ?_
      refine hk_get hC jk_M 0 rfl 22 (by decide) jq_720 rfl jd_M_note_58 ?_
      refine hk_bipush (v := 93) hC jd_M_note_61 (by decide) ?_
      refine hk_aload_n hC jd_M_note_63 0 rfl ?_
      refine hk_get hC jk_M 0 rfl 21 (by decide) jq_719 rfl jd_M_note_64 ?_
      refine hk_imul hC jd_M_note_67 ?_
      refine hk_iload_n hC jd_M_note_68 1 rfl ?_
      refine hk_iadd hC jd_M_note_69 ?_
      refine hk_aload_n hC jd_M_note_70 0 rfl ?_
      refine hk_get hC jk_M 0 rfl 20 (by decide) jq_718 rfl jd_M_note_71 ?_
      refine hk_iload_n hC jd_M_note_74 1 rfl ?_
      have hr1 := xr_in h
      replace h := xr_go h
      refine hk_iald hC 12 rfl hr1 jd_M_note_75 ?_
      have hr2 := xr_in h
      replace h := xr_go h
      obtain ⟨z1, e_z1, h⟩ := xl_go h
      refine hk_iast hC 13 rfl hr2 e_z1 (ws2 := (wM cI a text letters mowers cows ricks weathers says words weather kindOf thatch newMowers newCows newRicks newWeathers newSays newWords newWeather newKind newThatch st pasts z1 aside seen seenWord seenHour keeps kept)) rfl jd_M_note_76 ?_
      obtain ⟨v1, e_v1, h⟩ := xl_go h
      refine hk_iinc hC (lv2 := [(1, .int v1), (0, .ref (a 0))]) jd_M_note_77 1 rfl e_v1 (by decide) rfl ?_
      refine hk_goto (tgt := 51) hC jd_M_note_80 (by decide) ?_
      exact hk_lv [1, 0] rfl (ihh51 (z1, v1) h)
  have L_51 : ∀ (st : Nat → Int32) (pasts : Int32) (past : Nat → Int32) (x1 : Int32) (kx83 : ((Nat → Int32)) → Option (Int32 × (Nat → Int32))) (ihx83 : ∀ q, kx83 q = some o → hk_W p l e jr_M_note s m args below meth c A (hk_Zv below args s D A (wM cI a text letters mowers cows ricks weathers says words weather kindOf thatch newMowers newCows newRicks newWeathers newSays newWords newWeather newKind newThatch st o.1 o.2 aside seen seenWord seenHour keeps kept)) 2 D 0 0 (wM cI a text letters mowers cows ricks weathers says words weather kindOf thatch newMowers newCows newRicks newWeathers newSays newWords newWeather newKind newThatch st pasts q aside seen seenWord seenHour keeps kept) 83 [(0, .ref (a 0))] []) (_ : jf_M_note_51 N st pasts past x1 kx83 = some o), hk_W p l e jr_M_note s m args below meth c A (hk_Zv below args s D A (wM cI a text letters mowers cows ricks weathers says words weather kindOf thatch newMowers newCows newRicks newWeathers newSays newWords newWeather newKind newThatch st o.1 o.2 aside seen seenWord seenHour keeps kept)) 2 D 0 0 (wM cI a text letters mowers cows ricks weathers says words weather kindOf thatch newMowers newCows newRicks newWeathers newSays newWords newWeather newKind newThatch st pasts past aside seen seenWord seenHour keeps kept) 51 [(0, .ref (a 0)), (1, .int x1)] [] := by
    intro st pasts past x1 kx83 ihx83 h
    exact xloopW (fun (q : (Nat → Int32) × Int32) => hk_W p l e jr_M_note s m args below meth c A (hk_Zv below args s D A (wM cI a text letters mowers cows ricks weathers says words weather kindOf thatch newMowers newCows newRicks newWeathers newSays newWords newWeather newKind newThatch st o.1 o.2 aside seen seenWord seenHour keeps kept)) 2 D 0 0 (wM cI a text letters mowers cows ricks weathers says words weather kindOf thatch newMowers newCows newRicks newWeathers newSays newWords newWeather newKind newThatch st pasts q.1 aside seen seenWord seenHour keeps kept) 51 [(0, .ref (a 0)), (1, .int q.2)] []) (fun kh ih q h => B_51 st pasts q.1 q.2 kh kx83 ih ihx83 h) N (past, x1) h
  have B_83 : ∀ (st : Nat → Int32) (pasts : Int32) (past : Nat → Int32)   (_ : jf_M_note_83 N st pasts past  = some o), hk_W p l e jr_M_note s m args below meth c A (hk_Zv below args s D A (wM cI a text letters mowers cows ricks weathers says words weather kindOf thatch newMowers newCows newRicks newWeathers newSays newWords newWeather newKind newThatch st o.1 o.2 aside seen seenWord seenHour keeps kept)) 2 D 0 0 (wM cI a text letters mowers cows ricks weathers says words weather kindOf thatch newMowers newCows newRicks newWeathers newSays newWords newWeather newKind newThatch st pasts past aside seen seenWord seenHour keeps kept) 83 [(0, .ref (a 0))] [] := by
    intro st pasts past   h
    delta jf_M_note_83 at h
    refine hk_aload_n hC jd_M_note_83 0 rfl ?_
    refine hk_dup hC jd_M_note_84 rfl ?_
    refine hk_get hC jk_M 0 rfl 21 (by decide) jq_719 rfl jd_M_note_85 ?_
    refine hk_iconst (v := 1) hC jd_M_note_88 (by decide) ?_
    refine hk_iadd hC jd_M_note_89 ?_
    obtain ⟨v1, e_v1, h⟩ := xl_go h
    refine hk_topi e_v1 ?_
    refine hk_put hC jk_M 0 rfl 21 (by decide) jq_719 rfl rfl rfl (Nat.le_of_ble_eq_true rfl) (ws2 := (wM cI a text letters mowers cows ricks weathers says words weather kindOf thatch newMowers newCows newRicks newWeathers newSays newWords newWeather newKind newThatch st v1 past aside seen seenWord seenHour keeps kept)) rfl jd_M_note_90 ?_
    obtain rfl := Option.some.inj h
    exact hk_vret hC hr jd_M_note_93 rfl
  have B_49 : ∀ (st : Nat → Int32) (pasts : Int32) (past : Nat → Int32)   (_ : jf_M_note_49 N st pasts past  = some o), hk_W p l e jr_M_note s m args below meth c A (hk_Zv below args s D A (wM cI a text letters mowers cows ricks weathers says words weather kindOf thatch newMowers newCows newRicks newWeathers newSays newWords newWeather newKind newThatch st o.1 o.2 aside seen seenWord seenHour keeps kept)) 2 D 0 0 (wM cI a text letters mowers cows ricks weathers says words weather kindOf thatch newMowers newCows newRicks newWeathers newSays newWords newWeather newKind newThatch st pasts past aside seen seenWord seenHour keeps kept) 49 [(0, .ref (a 0))] [] := by
    intro st pasts past   h
    delta jf_M_note_49 at h
    refine hk_iconst (v := 0) hC jd_M_note_49 (by decide) ?_
    refine hk_istore_n hC (i := 1) (y := (0 : Int32)) (lv2 := [(1, .int (0 : Int32)), (0, .ref (a 0))]) jd_M_note_50 rfl rfl (by decide) rfl ?_
    exact hk_lv [1, 0] rfl (L_51 st pasts past (0 : Int32) _ (fun q1 h => by exact (B_83 st pasts q1   h)) h)
  have B_39 : ∀ (st : Nat → Int32) (pasts : Int32) (past : Nat → Int32)   (_ : jf_M_note_39 N st pasts past  = some o), hk_W p l e jr_M_note s m args below meth c A (hk_Zv below args s D A (wM cI a text letters mowers cows ricks weathers says words weather kindOf thatch newMowers newCows newRicks newWeathers newSays newWords newWeather newKind newThatch st o.1 o.2 aside seen seenWord seenHour keeps kept)) 2 D 0 0 (wM cI a text letters mowers cows ricks weathers says words weather kindOf thatch newMowers newCows newRicks newWeathers newSays newWords newWeather newKind newThatch st pasts past aside seen seenWord seenHour keeps kept) 39 [(0, .ref (a 0))] [] := by
    intro st pasts past   h
    delta jf_M_note_39 at h
    refine hk_aload_n hC jd_M_note_39 0 rfl ?_
    refine hk_dup hC jd_M_note_40 rfl ?_
    refine hk_get hC jk_M 0 rfl 21 (by decide) jq_719 rfl jd_M_note_41 ?_
    refine hk_iconst (v := 1) hC jd_M_note_44 (by decide) ?_
    refine hk_isub hC jd_M_note_45 ?_
    obtain ⟨v1, e_v1, h⟩ := xl_go h
    refine hk_topi e_v1 ?_
    refine hk_put hC jk_M 0 rfl 21 (by decide) jq_719 rfl rfl rfl (Nat.le_of_ble_eq_true rfl) (ws2 := (wM cI a text letters mowers cows ricks weathers says words weather kindOf thatch newMowers newCows newRicks newWeathers newSays newWords newWeather newKind newThatch st v1 past aside seen seenWord seenHour keeps kept)) rfl jd_M_note_46 ?_
    exact (B_49 st v1 past   h)
  delta jf_M_note at h
  refine hk_aload_n hC jd_M_note_0 0 rfl ?_
  refine hk_get hC jk_M 0 rfl 21 (by decide) jq_719 rfl jd_M_note_1 ?_
  refine hk_bipush (v := 8) hC jd_M_note_4 (by decide) ?_
  refine hk_icmp_ne (tgt := 49) hC jd_M_note_6 (by decide) (fun cc1 => ?_) (fun cc1 => ?_)
  · replace h := xi_f h cc1
    exact (B_49 st pasts past   h)
  · replace h := xi_t h cc1
    refine hk_iconst (v := 0) hC jd_M_note_9 (by decide) ?_
    refine hk_istore_n hC (i := 1) (y := (0 : Int32)) (lv2 := [(1, .int (0 : Int32)), (0, .ref (a 0))]) jd_M_note_10 rfl rfl (by decide) rfl ?_
    exact hk_lv [1, 0] rfl (L_11 st pasts past (0 : Int32) _ (fun q1 h => by exact (B_39 st pasts q1   h)) h)
theorem jc_M_note (l : Launch) (D : va_G) (cI cF : ClassId) (N : Nat) (a : Nat → Nat)  (text : Nat → Int32) (letters : Int32) (mowers : Int32) (cows : Int32) (ricks : Int32) (weathers : Int32) (says : Nat → Int32) (words : Nat → Int32) (weather : Nat → Int32) (kindOf : Nat → Int32) (thatch : Nat → Int32) (newMowers : Int32) (newCows : Int32) (newRicks : Int32) (newWeathers : Int32) (newSays : Nat → Int32) (newWords : Nat → Int32) (newWeather : Nat → Int32) (newKind : Nat → Int32) (newThatch : Nat → Int32) (st : Nat → Int32) (pasts : Int32) (past : Nat → Int32) (aside : Nat → Int32) (seen : Int32) (seenWord : Nat → Int32) (seenHour : Nat → Int32) (keeps : Int32) (kept : Nat → Int32)  {o : Int32 × (Nat → Int32)} (h : jf_M_note N st pasts past = some o) : hk_Mv l jy_M_note jb_M_note 2 jr_M_note D cI cF (wM cI a text letters mowers cows ricks weathers says words weather kindOf thatch newMowers newCows newRicks newWeathers newSays newWords newWeather newKind newThatch st pasts past aside seen seenWord seenHour keeps kept) [.ref (a 0)] (wM cI a text letters mowers cows ricks weathers says words weather kindOf thatch newMowers newCows newRicks newWeathers newSays newWords newWeather newKind newThatch st o.1 o.2 aside seen seenWord seenHour keeps kept) :=
  hk_metV (by decide) (Nat.le_of_ble_eq_true rfl) rfl rfl (fun p e s m args below meth c A hC hr => jw_M_note hC hr N a text letters mowers cows ricks weathers says words weather kindOf thatch newMowers newCows newRicks newWeathers newSays newWords newWeather newKind newThatch st pasts past aside seen seenWord seenHour keeps kept h)
