set_option maxHeartbeats 8000000 in
set_option maxRecDepth 100000 in
theorem jw_M_pass {p : Program} {l : Launch} {e : Env} {s : State} {m : MethodId} {args : Array Value} {below : List Frame} {meth : Method} {c : Code} {A : Nat → Prop} {D : va_G} {cI cF : ClassId} (hC : hk_ok p s m args meth c A 3 D cI cF "HayTalkModel" jb_M_pass) (hr : meth.sig.returnType = (some .int)) (N : Nat) (a : Nat → Nat)  (text : Nat → Int32) (letters : Int32) (mowers : Int32) (cows : Int32) (ricks : Int32) (weathers : Int32) (says : Nat → Int32) (words : Nat → Int32) (weather : Nat → Int32) (kindOf : Nat → Int32) (thatch : Nat → Int32) (newMowers : Int32) (newCows : Int32) (newRicks : Int32) (newWeathers : Int32) (newSays : Nat → Int32) (newWords : Nat → Int32) (newWeather : Nat → Int32) (newKind : Nat → Int32) (newThatch : Nat → Int32) (st : Nat → Int32) (pasts : Int32) (past : Nat → Int32) (aside : Nat → Int32) (seen : Int32) (seenWord : Nat → Int32) (seenHour : Nat → Int32) (keeps : Int32) (kept : Nat → Int32) (x1 : Int32) {o : Int32 × (Nat → Int32) × Int32 × (Nat → Int32)} (h : jf_M_pass N mowers ricks weathers says words weather thatch st pasts past x1 = some o) : hk_W p l e jr_M_pass s m args below meth c A (hk_Zi below args s D A o.1 (wM cI a text letters mowers cows ricks weathers says words weather kindOf thatch newMowers newCows newRicks newWeathers newSays newWords newWeather newKind newThatch o.2.1 o.2.2.1 o.2.2.2 aside seen seenWord seenHour keeps kept)) 3 D 0 0 (wM cI a text letters mowers cows ricks weathers says words weather kindOf thatch newMowers newCows newRicks newWeathers newSays newWords newWeather newKind newThatch st pasts past aside seen seenWord seenHour keeps kept) 0 [(0, .ref (a 0)), (1, .int x1)] [] := by
  have B_37 : ∀ (mowers : Int32) (ricks : Int32) (weathers : Int32) (says : Nat → Int32) (words : Nat → Int32) (weather : Nat → Int32) (thatch : Nat → Int32) (st : Nat → Int32) (pasts : Int32) (past : Nat → Int32) (x1 : Int32) (x2 : Int32) (kh37 : ((Nat → Int32) × Int32) → Option (Int32 × (Nat → Int32) × Int32 × (Nat → Int32))) (kx52 : ((Nat → Int32)) → Option (Int32 × (Nat → Int32) × Int32 × (Nat → Int32))) (ihh37 : ∀ q, kh37 q = some o → hk_W p l e jr_M_pass s m args below meth c A (hk_Zi below args s D A o.1 (wM cI a text letters mowers cows ricks weathers says words weather kindOf thatch newMowers newCows newRicks newWeathers newSays newWords newWeather newKind newThatch o.2.1 o.2.2.1 o.2.2.2 aside seen seenWord seenHour keeps kept)) 3 D 0 0 (wM cI a text letters mowers cows ricks weathers says words weather kindOf thatch newMowers newCows newRicks newWeathers newSays newWords newWeather newKind newThatch q.1 pasts past aside seen seenWord seenHour keeps kept) 37 [(0, .ref (a 0)), (1, .int x1), (2, .int q.2)] []) (ihx52 : ∀ q, kx52 q = some o → hk_W p l e jr_M_pass s m args below meth c A (hk_Zi below args s D A o.1 (wM cI a text letters mowers cows ricks weathers says words weather kindOf thatch newMowers newCows newRicks newWeathers newSays newWords newWeather newKind newThatch o.2.1 o.2.2.1 o.2.2.2 aside seen seenWord seenHour keeps kept)) 3 D 0 0 (wM cI a text letters mowers cows ricks weathers says words weather kindOf thatch newMowers newCows newRicks newWeathers newSays newWords newWeather newKind newThatch q pasts past aside seen seenWord seenHour keeps kept) 52 [(0, .ref (a 0))] []) (_ : jf_M_pass_37B N mowers ricks weathers says words weather thatch st pasts past x1 x2 kh37 kx52 = some o), hk_W p l e jr_M_pass s m args below meth c A (hk_Zi below args s D A o.1 (wM cI a text letters mowers cows ricks weathers says words weather kindOf thatch newMowers newCows newRicks newWeathers newSays newWords newWeather newKind newThatch o.2.1 o.2.2.1 o.2.2.2 aside seen seenWord seenHour keeps kept)) 3 D 0 0 (wM cI a text letters mowers cows ricks weathers says words weather kindOf thatch newMowers newCows newRicks newWeathers newSays newWords newWeather newKind newThatch st pasts past aside seen seenWord seenHour keeps kept) 37 [(0, .ref (a 0)), (1, .int x1), (2, .int x2)] [] := by
    intro mowers ricks weathers says words weather thatch st pasts past x1 x2 kh37 kx52 ihh37 ihx52 h
    delta jf_M_pass_37B at h
    refine hk_iload_n hC jd_M_pass_37 2 rfl ?_
    refine hk_iload_n hC jd_M_pass_38 1 rfl ?_
    refine hk_icmp_ge (tgt := 52) hC jd_M_pass_39 (by decide) (fun cc1 => ?_) (fun cc1 => ?_)
    · replace h := xi_t h cc1
      exact hk_lv [0] rfl (ihx52 st h)
    · replace h := xi_f h cc1
      refine hk_aload_n hC jd_M_pass_42 0 rfl ?_
      obtain ⟨q1, h_q1, h⟩ := xb_go h
      refine hk_callVWv hC (q0 := 0) (jc_M_oneHour l D cI cF N a text letters mowers cows ricks weathers says words weather kindOf thatch newMowers newCows newRicks newWeathers newSays newWords newWeather newKind newThatch st pasts past aside seen seenWord seenHour keeps kept h_q1) jl_M_oneHour rfl rfl jq_847 jq_849 jq0_27 rfl ⟨by decide, by decide⟩ rfl rfl (Nat.le_of_ble_eq_true rfl) ⟨Nat.zero_le _, Nat.zero_le _⟩ jd_M_pass_43 ?_
      obtain ⟨v1, e_v1, h⟩ := xl_go h
      refine hk_iinc hC (lv2 := [(2, .int v1), (0, .ref (a 0)), (1, .int x1)]) jd_M_pass_46 2 rfl e_v1 (by decide) rfl ?_
      refine hk_goto (tgt := 37) hC jd_M_pass_49 (by decide) ?_
      exact hk_lv [1, 2, 0] rfl (ihh37 (q1, v1) h)
  have L_37 : ∀ (mowers : Int32) (ricks : Int32) (weathers : Int32) (says : Nat → Int32) (words : Nat → Int32) (weather : Nat → Int32) (thatch : Nat → Int32) (st : Nat → Int32) (pasts : Int32) (past : Nat → Int32) (x1 : Int32) (x2 : Int32) (kx52 : ((Nat → Int32)) → Option (Int32 × (Nat → Int32) × Int32 × (Nat → Int32))) (ihx52 : ∀ q, kx52 q = some o → hk_W p l e jr_M_pass s m args below meth c A (hk_Zi below args s D A o.1 (wM cI a text letters mowers cows ricks weathers says words weather kindOf thatch newMowers newCows newRicks newWeathers newSays newWords newWeather newKind newThatch o.2.1 o.2.2.1 o.2.2.2 aside seen seenWord seenHour keeps kept)) 3 D 0 0 (wM cI a text letters mowers cows ricks weathers says words weather kindOf thatch newMowers newCows newRicks newWeathers newSays newWords newWeather newKind newThatch q pasts past aside seen seenWord seenHour keeps kept) 52 [(0, .ref (a 0))] []) (_ : jf_M_pass_37 N mowers ricks weathers says words weather thatch st pasts past x1 x2 kx52 = some o), hk_W p l e jr_M_pass s m args below meth c A (hk_Zi below args s D A o.1 (wM cI a text letters mowers cows ricks weathers says words weather kindOf thatch newMowers newCows newRicks newWeathers newSays newWords newWeather newKind newThatch o.2.1 o.2.2.1 o.2.2.2 aside seen seenWord seenHour keeps kept)) 3 D 0 0 (wM cI a text letters mowers cows ricks weathers says words weather kindOf thatch newMowers newCows newRicks newWeathers newSays newWords newWeather newKind newThatch st pasts past aside seen seenWord seenHour keeps kept) 37 [(0, .ref (a 0)), (1, .int x1), (2, .int x2)] [] := by
    intro mowers ricks weathers says words weather thatch st pasts past x1 x2 kx52 ihx52 h
    exact xloopW (fun (q : (Nat → Int32) × Int32) => hk_W p l e jr_M_pass s m args below meth c A (hk_Zi below args s D A o.1 (wM cI a text letters mowers cows ricks weathers says words weather kindOf thatch newMowers newCows newRicks newWeathers newSays newWords newWeather newKind newThatch o.2.1 o.2.2.1 o.2.2.2 aside seen seenWord seenHour keeps kept)) 3 D 0 0 (wM cI a text letters mowers cows ricks weathers says words weather kindOf thatch newMowers newCows newRicks newWeathers newSays newWords newWeather newKind newThatch q.1 pasts past aside seen seenWord seenHour keeps kept) 37 [(0, .ref (a 0)), (1, .int x1), (2, .int q.2)] []) (fun kh ih q h => B_37 mowers ricks weathers says words weather thatch q.1 pasts past x1 q.2 kh kx52 ih ihx52 h) N (st, x2) h
  have B_52 : ∀ (mowers : Int32) (ricks : Int32) (weathers : Int32) (says : Nat → Int32) (words : Nat → Int32) (weather : Nat → Int32) (thatch : Nat → Int32) (st : Nat → Int32) (pasts : Int32) (past : Nat → Int32)   (_ : jf_M_pass_52 N mowers ricks weathers says words weather thatch st pasts past  = some o), hk_W p l e jr_M_pass s m args below meth c A (hk_Zi below args s D A o.1 (wM cI a text letters mowers cows ricks weathers says words weather kindOf thatch newMowers newCows newRicks newWeathers newSays newWords newWeather newKind newThatch o.2.1 o.2.2.1 o.2.2.2 aside seen seenWord seenHour keeps kept)) 3 D 0 0 (wM cI a text letters mowers cows ricks weathers says words weather kindOf thatch newMowers newCows newRicks newWeathers newSays newWords newWeather newKind newThatch st pasts past aside seen seenWord seenHour keeps kept) 52 [(0, .ref (a 0))] [] := by
    intro mowers ricks weathers says words weather thatch st pasts past   h
    delta jf_M_pass_52 at h
    refine hk_aload_n hC jd_M_pass_52 0 rfl ?_
    refine hk_get hC jk_M 0 rfl 20 (by decide) jq_718 rfl jd_M_pass_53 ?_
    refine hk_iconst (v := 0) hC jd_M_pass_56 (by decide) ?_
    have hr1 := xr_in h
    replace h := xr_go h
    refine hk_iald hC 12 rfl hr1 jd_M_pass_57 ?_
    obtain rfl := Option.some.inj h
    exact hk_iret hC hr jd_M_pass_58 rfl rfl
  delta jf_M_pass at h
  refine hk_iload_n hC jd_M_pass_0 1 rfl ?_
  refine hk_i2l hC jd_M_pass_1 ?_
  refine hk_lconst (v := 1) hC jd_M_pass_2 (by decide) ?_
  refine hk_ldc2 hC jd_M_pass_3 jq_842 ?_
  obtain ⟨q1, h_q1, h⟩ := xb_go h
  refine hk_callS0i hC (jc_M_in l D cI cF N (Int32.toInt64 x1) (1 : Int64) (24 : Int64) h_q1) jl_M_in jq_673 jq_674 rfl ⟨by decide, by decide⟩ rfl (Nat.le_of_ble_eq_true rfl) ⟨Nat.zero_le _, Nat.zero_le _⟩ jd_M_pass_6 ?_
  refine hk_if_ne (tgt := 14) hC jd_M_pass_9 (by decide) (fun cc1 => ?_) (fun cc1 => ?_)
  · replace h := xi_f h cc1
    refine hk_aload_n hC jd_M_pass_14 0 rfl ?_
    refine hk_get hC jk_M 0 rfl 20 (by decide) jq_718 rfl jd_M_pass_15 ?_
    refine hk_iconst (v := 0) hC jd_M_pass_18 (by decide) ?_
    have hr1 := xr_in h
    replace h := xr_go h
    refine hk_iald hC 12 rfl hr1 jd_M_pass_19 ?_
    refine hk_iload_n hC jd_M_pass_20 1 rfl ?_
    refine hk_iadd hC jd_M_pass_21 ?_
    refine hk_sipush (v := 999) hC jd_M_pass_22 (by decide) ?_
    refine hk_icmp_le (tgt := 31) hC jd_M_pass_25 (by decide) (fun cc2 => ?_) (fun cc2 => ?_)
    · replace h := xi_t h cc2
      refine hk_aload_n hC jd_M_pass_31 0 rfl ?_
      obtain ⟨q2, h_q2, h⟩ := xb_go h
      refine hk_callVWv hC (q0 := 0) (jc_M_note l D cI cF N a text letters mowers cows ricks weathers says words weather kindOf thatch newMowers newCows newRicks newWeathers newSays newWords newWeather newKind newThatch st pasts past aside seen seenWord seenHour keeps kept h_q2) jl_M_note rfl rfl jq_843 jq_845 jq0_26 rfl ⟨by decide, by decide⟩ rfl rfl (Nat.le_of_ble_eq_true rfl) ⟨Nat.zero_le _, Nat.zero_le _⟩ jd_M_pass_32 ?_
      refine hk_iconst (v := 0) hC jd_M_pass_35 (by decide) ?_
      refine hk_istore_n hC (i := 2) (y := (0 : Int32)) (lv2 := [(2, .int (0 : Int32)), (0, .ref (a 0)), (1, .int x1)]) jd_M_pass_36 rfl rfl (by decide) rfl ?_
      exact hk_lv [1, 2, 0] rfl (L_37 mowers ricks weathers says words weather thatch st q2.1 q2.2 x1 (0 : Int32) _ (fun q3 h => by exact (B_52 mowers ricks weathers says words weather thatch q3 q2.1 q2.2   h)) h)
    · replace h := xi_f h cc2
      refine hk_bipush (v := -2) hC jd_M_pass_28 (by decide) ?_
      obtain rfl := Option.some.inj h
      exact hk_iret hC hr jd_M_pass_30 rfl rfl
  · replace h := xi_t h cc1
    refine hk_iconst (v := -1) hC jd_M_pass_12 (by decide) ?_
    obtain rfl := Option.some.inj h
    exact hk_iret hC hr jd_M_pass_13 rfl rfl
theorem jc_M_pass (l : Launch) (D : va_G) (cI cF : ClassId) (N : Nat) (a : Nat → Nat)  (text : Nat → Int32) (letters : Int32) (mowers : Int32) (cows : Int32) (ricks : Int32) (weathers : Int32) (says : Nat → Int32) (words : Nat → Int32) (weather : Nat → Int32) (kindOf : Nat → Int32) (thatch : Nat → Int32) (newMowers : Int32) (newCows : Int32) (newRicks : Int32) (newWeathers : Int32) (newSays : Nat → Int32) (newWords : Nat → Int32) (newWeather : Nat → Int32) (newKind : Nat → Int32) (newThatch : Nat → Int32) (st : Nat → Int32) (pasts : Int32) (past : Nat → Int32) (aside : Nat → Int32) (seen : Int32) (seenWord : Nat → Int32) (seenHour : Nat → Int32) (keeps : Int32) (kept : Nat → Int32) (x1 : Int32) {o : Int32 × (Nat → Int32) × Int32 × (Nat → Int32)} (h : jf_M_pass N mowers ricks weathers says words weather thatch st pasts past x1 = some o) : hk_Mi l jy_M_pass jb_M_pass 3 (some .int) jr_M_pass D cI cF (wM cI a text letters mowers cows ricks weathers says words weather kindOf thatch newMowers newCows newRicks newWeathers newSays newWords newWeather newKind newThatch st pasts past aside seen seenWord seenHour keeps kept) [.ref (a 0), .int x1] o.1 (wM cI a text letters mowers cows ricks weathers says words weather kindOf thatch newMowers newCows newRicks newWeathers newSays newWords newWeather newKind newThatch o.2.1 o.2.2.1 o.2.2.2 aside seen seenWord seenHour keeps kept) :=
  hk_metI (by decide) (Nat.le_of_ble_eq_true rfl) rfl rfl (fun p e s m args below meth c A hC hr => jw_M_pass hC hr N a text letters mowers cows ricks weathers says words weather kindOf thatch newMowers newCows newRicks newWeathers newSays newWords newWeather newKind newThatch st pasts past aside seen seenWord seenHour keeps kept x1 h)
set_option maxHeartbeats 8000000 in
set_option maxRecDepth 100000 in
theorem jw_M_lying {p : Program} {l : Launch} {e : Env} {s : State} {m : MethodId} {args : Array Value} {below : List Frame} {meth : Method} {c : Code} {A : Nat → Prop} {D : va_G} {cI cF : ClassId} (hC : hk_ok p s m args meth c A 5 D cI cF "HayTalkModel" jb_M_lying) (hr : meth.sig.returnType = (some .int)) (N : Nat) (a : Nat → Nat)  (text : Nat → Int32) (letters : Int32) (mowers : Int32) (cows : Int32) (ricks : Int32) (weathers : Int32) (says : Nat → Int32) (words : Nat → Int32) (weather : Nat → Int32) (kindOf : Nat → Int32) (thatch : Nat → Int32) (newMowers : Int32) (newCows : Int32) (newRicks : Int32) (newWeathers : Int32) (newSays : Nat → Int32) (newWords : Nat → Int32) (newWeather : Nat → Int32) (newKind : Nat → Int32) (newThatch : Nat → Int32) (st : Nat → Int32) (pasts : Int32) (past : Nat → Int32) (aside : Nat → Int32) (seen : Int32) (seenWord : Nat → Int32) (seenHour : Nat → Int32) (keeps : Int32) (kept : Nat → Int32) (x1 : Int32) (x2 : Int32) {o : Int32} (h : jf_M_lying N st x1 x2 = some o) : hk_W p l e jr_M_lying s m args below meth c A (hk_Zi below args s D A o (wM cI a text letters mowers cows ricks weathers says words weather kindOf thatch newMowers newCows newRicks newWeathers newSays newWords newWeather newKind newThatch st pasts past aside seen seenWord seenHour keeps kept)) 5 D 0 0 (wM cI a text letters mowers cows ricks weathers says words weather kindOf thatch newMowers newCows newRicks newWeathers newSays newWords newWeather newKind newThatch st pasts past aside seen seenWord seenHour keeps kept) 0 [(0, .ref (a 0)), (1, .int x1), (2, .int x2)] [] := by
  have B_5 : ∀ (st : Nat → Int32) (x2 : Int32) (x3 : Int32) (x4 : Int32) (kh5 : (Int32 × Int32) → Option (Int32)) (ihh5 : ∀ q, kh5 q = some o → hk_W p l e jr_M_lying s m args below meth c A (hk_Zi below args s D A o (wM cI a text letters mowers cows ricks weathers says words weather kindOf thatch newMowers newCows newRicks newWeathers newSays newWords newWeather newKind newThatch st pasts past aside seen seenWord seenHour keeps kept)) 5 D 0 0 (wM cI a text letters mowers cows ricks weathers says words weather kindOf thatch newMowers newCows newRicks newWeathers newSays newWords newWeather newKind newThatch st pasts past aside seen seenWord seenHour keeps kept) 5 [(0, .ref (a 0)), (2, .int x2), (3, .int q.1), (4, .int q.2)] []) (_ : jf_M_lying_5B N st x2 x3 x4 kh5 = some o), hk_W p l e jr_M_lying s m args below meth c A (hk_Zi below args s D A o (wM cI a text letters mowers cows ricks weathers says words weather kindOf thatch newMowers newCows newRicks newWeathers newSays newWords newWeather newKind newThatch st pasts past aside seen seenWord seenHour keeps kept)) 5 D 0 0 (wM cI a text letters mowers cows ricks weathers says words weather kindOf thatch newMowers newCows newRicks newWeathers newSays newWords newWeather newKind newThatch st pasts past aside seen seenWord seenHour keeps kept) 5 [(0, .ref (a 0)), (2, .int x2), (3, .int x3), (4, .int x4)] [] := by
    intro st x2 x3 x4 kh5 ihh5 h
    delta jf_M_lying_5B at h
    refine hk_iload hC jd_M_lying_5 3 rfl ?_
    refine hk_iload_n hC jd_M_lying_7 1 rfl ?_
    refine hk_icmp_gt (tgt := 29) hC jd_M_lying_8 (by decide) (fun cc1 => ?_) (fun cc1 => ?_)
    · replace h := xi_t h cc1
      refine hk_iload_n hC jd_M_lying_29 2 rfl ?_
      obtain rfl := Option.some.inj h
      exact hk_iret hC hr jd_M_lying_30 rfl rfl
    · replace h := xi_f h cc1
      refine hk_iload_n hC jd_M_lying_11 2 rfl ?_
      refine hk_aload_n hC jd_M_lying_12 0 rfl ?_
      refine hk_get hC jk_M 0 rfl 20 (by decide) jq_718 rfl jd_M_lying_13 ?_
      refine hk_iconst (v := 1) hC jd_M_lying_16 (by decide) ?_
      refine hk_iload hC jd_M_lying_17 3 rfl ?_
      refine hk_iadd hC jd_M_lying_19 ?_
      have hr1 := xr_in h
      replace h := xr_go h
      refine hk_iald hC 12 rfl hr1 jd_M_lying_20 ?_
      refine hk_ior hC jd_M_lying_21 ?_
      obtain ⟨v1, e_v1, h⟩ := xl_go h
      refine hk_istore_n hC (i := 3) (y := v1) (lv2 := [(3, .int v1), (0, .ref (a 0)), (2, .int x2), (4, .int x4)]) jd_M_lying_22 rfl e_v1 (by decide) rfl ?_
      obtain ⟨v2, e_v2, h⟩ := xl_go h
      refine hk_iinc hC (lv2 := [(4, .int v2), (3, .int v1), (0, .ref (a 0)), (2, .int x2)]) jd_M_lying_23 3 rfl e_v2 (by decide) rfl ?_
      refine hk_goto (tgt := 5) hC jd_M_lying_26 (by decide) ?_
      exact hk_lv [2, 3, 1, 0] rfl (ihh5 (v1, v2) h)
  have L_5 : ∀ (st : Nat → Int32) (x2 : Int32) (x3 : Int32) (x4 : Int32)   (_ : jf_M_lying_5 N st x2 x3 x4  = some o), hk_W p l e jr_M_lying s m args below meth c A (hk_Zi below args s D A o (wM cI a text letters mowers cows ricks weathers says words weather kindOf thatch newMowers newCows newRicks newWeathers newSays newWords newWeather newKind newThatch st pasts past aside seen seenWord seenHour keeps kept)) 5 D 0 0 (wM cI a text letters mowers cows ricks weathers says words weather kindOf thatch newMowers newCows newRicks newWeathers newSays newWords newWeather newKind newThatch st pasts past aside seen seenWord seenHour keeps kept) 5 [(0, .ref (a 0)), (2, .int x2), (3, .int x3), (4, .int x4)] [] := by
    intro st x2 x3 x4   h
    exact xloopW (fun (q : Int32 × Int32) => hk_W p l e jr_M_lying s m args below meth c A (hk_Zi below args s D A o (wM cI a text letters mowers cows ricks weathers says words weather kindOf thatch newMowers newCows newRicks newWeathers newSays newWords newWeather newKind newThatch st pasts past aside seen seenWord seenHour keeps kept)) 5 D 0 0 (wM cI a text letters mowers cows ricks weathers says words weather kindOf thatch newMowers newCows newRicks newWeathers newSays newWords newWeather newKind newThatch st pasts past aside seen seenWord seenHour keeps kept) 5 [(0, .ref (a 0)), (2, .int x2), (3, .int q.1), (4, .int q.2)] []) (fun kh ih q h => B_5 st x2 q.1 q.2 kh  ih  h) N (x3, x4) h
  delta jf_M_lying at h
  refine hk_iconst (v := 0) hC jd_M_lying_0 (by decide) ?_
  refine hk_istore_n hC (i := 3) (y := (0 : Int32)) (lv2 := [(3, .int (0 : Int32)), (0, .ref (a 0)), (1, .int x1), (2, .int x2)]) jd_M_lying_1 rfl rfl (by decide) rfl ?_
  refine hk_iload_n hC jd_M_lying_2 2 rfl ?_
  refine hk_istore hC (i := 4) (y := x1) (lv2 := [(4, .int x1), (3, .int (0 : Int32)), (0, .ref (a 0)), (1, .int x1), (2, .int x2)]) jd_M_lying_3 rfl (by decide) rfl ?_
  exact hk_lv [2, 4, 1, 0] rfl (L_5 st x2 (0 : Int32) x1   h)
theorem jc_M_lying (l : Launch) (D : va_G) (cI cF : ClassId) (N : Nat) (a : Nat → Nat)  (text : Nat → Int32) (letters : Int32) (mowers : Int32) (cows : Int32) (ricks : Int32) (weathers : Int32) (says : Nat → Int32) (words : Nat → Int32) (weather : Nat → Int32) (kindOf : Nat → Int32) (thatch : Nat → Int32) (newMowers : Int32) (newCows : Int32) (newRicks : Int32) (newWeathers : Int32) (newSays : Nat → Int32) (newWords : Nat → Int32) (newWeather : Nat → Int32) (newKind : Nat → Int32) (newThatch : Nat → Int32) (st : Nat → Int32) (pasts : Int32) (past : Nat → Int32) (aside : Nat → Int32) (seen : Int32) (seenWord : Nat → Int32) (seenHour : Nat → Int32) (keeps : Int32) (kept : Nat → Int32) (x1 : Int32) (x2 : Int32) {o : Int32} (h : jf_M_lying N st x1 x2 = some o) : hk_Mi l jy_M_lying jb_M_lying 5 (some .int) jr_M_lying D cI cF (wM cI a text letters mowers cows ricks weathers says words weather kindOf thatch newMowers newCows newRicks newWeathers newSays newWords newWeather newKind newThatch st pasts past aside seen seenWord seenHour keeps kept) [.ref (a 0), .int x1, .int x2] o (wM cI a text letters mowers cows ricks weathers says words weather kindOf thatch newMowers newCows newRicks newWeathers newSays newWords newWeather newKind newThatch st pasts past aside seen seenWord seenHour keeps kept) :=
  hk_metI (by decide) (Nat.le_of_ble_eq_true rfl) rfl rfl (fun p e s m args below meth c A hC hr => jw_M_lying hC hr N a text letters mowers cows ricks weathers says words weather kindOf thatch newMowers newCows newRicks newWeathers newSays newWords newWeather newKind newThatch st pasts past aside seen seenWord seenHour keeps kept x1 x2 h)
set_option maxHeartbeats 8000000 in
set_option maxRecDepth 100000 in
theorem jw_M_rakeIn {p : Program} {l : Launch} {e : Env} {s : State} {m : MethodId} {args : Array Value} {below : List Frame} {meth : Method} {c : Code} {A : Nat → Prop} {D : va_G} {cI cF : ClassId} (hC : hk_ok p s m args meth c A 7 D cI cF "HayTalkModel" jb_M_rakeIn) (hr : meth.sig.returnType = none) (N : Nat) (a : Nat → Nat)  (text : Nat → Int32) (letters : Int32) (mowers : Int32) (cows : Int32) (ricks : Int32) (weathers : Int32) (says : Nat → Int32) (words : Nat → Int32) (weather : Nat → Int32) (kindOf : Nat → Int32) (thatch : Nat → Int32) (newMowers : Int32) (newCows : Int32) (newRicks : Int32) (newWeathers : Int32) (newSays : Nat → Int32) (newWords : Nat → Int32) (newWeather : Nat → Int32) (newKind : Nat → Int32) (newThatch : Nat → Int32) (st : Nat → Int32) (pasts : Int32) (past : Nat → Int32) (aside : Nat → Int32) (seen : Int32) (seenWord : Nat → Int32) (seenHour : Nat → Int32) (keeps : Int32) (kept : Nat → Int32) (x1 : Int32) (x2 : Int32) (x3 : Int32) {o : (Nat → Int32)} (h : jf_M_rakeIn N st x1 x2 x3 = some o) : hk_W p l e jr_M_rakeIn s m args below meth c A (hk_Zv below args s D A (wM cI a text letters mowers cows ricks weathers says words weather kindOf thatch newMowers newCows newRicks newWeathers newSays newWords newWeather newKind newThatch o pasts past aside seen seenWord seenHour keeps kept)) 7 D 0 0 (wM cI a text letters mowers cows ricks weathers says words weather kindOf thatch newMowers newCows newRicks newWeathers newSays newWords newWeather newKind newThatch st pasts past aside seen seenWord seenHour keeps kept) 0 [(0, .ref (a 0)), (1, .int x1), (2, .int x2), (3, .int x3)] [] := by
  have B_38 : ∀ (st : Nat → Int32) (x2 : Int32) (x3 : Int32) (x4 : Int32) (x5 : Int32) (x6 : Int32) (kh38 : ((Nat → Int32) × Int32 × Int32) → Option ((Nat → Int32))) (kx89 : ((Nat → Int32) × Int32) → Option ((Nat → Int32))) (ihh38 : ∀ q, kh38 q = some o → hk_W p l e jr_M_rakeIn s m args below meth c A (hk_Zv below args s D A (wM cI a text letters mowers cows ricks weathers says words weather kindOf thatch newMowers newCows newRicks newWeathers newSays newWords newWeather newKind newThatch o pasts past aside seen seenWord seenHour keeps kept)) 7 D 0 0 (wM cI a text letters mowers cows ricks weathers says words weather kindOf thatch newMowers newCows newRicks newWeathers newSays newWords newWeather newKind newThatch q.1 pasts past aside seen seenWord seenHour keeps kept) 38 [(0, .ref (a 0)), (2, .int x2), (3, .int x3), (4, .int x4), (5, .int q.2.1), (6, .int q.2.2)] []) (ihx89 : ∀ q, kx89 q = some o → hk_W p l e jr_M_rakeIn s m args below meth c A (hk_Zv below args s D A (wM cI a text letters mowers cows ricks weathers says words weather kindOf thatch newMowers newCows newRicks newWeathers newSays newWords newWeather newKind newThatch o pasts past aside seen seenWord seenHour keeps kept)) 7 D 0 0 (wM cI a text letters mowers cows ricks weathers says words weather kindOf thatch newMowers newCows newRicks newWeathers newSays newWords newWeather newKind newThatch q.1 pasts past aside seen seenWord seenHour keeps kept) 89 [(0, .ref (a 0)), (3, .int x3), (4, .int x4), (5, .int q.2)] []) (_ : jf_M_rakeIn_38B N st x2 x3 x4 x5 x6 kh38 kx89 = some o), hk_W p l e jr_M_rakeIn s m args below meth c A (hk_Zv below args s D A (wM cI a text letters mowers cows ricks weathers says words weather kindOf thatch newMowers newCows newRicks newWeathers newSays newWords newWeather newKind newThatch o pasts past aside seen seenWord seenHour keeps kept)) 7 D 0 0 (wM cI a text letters mowers cows ricks weathers says words weather kindOf thatch newMowers newCows newRicks newWeathers newSays newWords newWeather newKind newThatch st pasts past aside seen seenWord seenHour keeps kept) 38 [(0, .ref (a 0)), (2, .int x2), (3, .int x3), (4, .int x4), (5, .int x5), (6, .int x6)] [] := by
    intro st x2 x3 x4 x5 x6 kh38 kx89 ihh38 ihx89 h
    delta jf_M_rakeIn_38B at h
    refine hk_iload hC jd_M_rakeIn_38 5 rfl ?_
    refine hk_iload_n hC jd_M_rakeIn_40 1 rfl ?_
    refine hk_icmp_gt (tgt := 89) hC jd_M_rakeIn_41 (by decide) (fun cc1 => ?_) (fun cc1 => ?_)
    · replace h := xi_t h cc1
      exact hk_lv [0, 2, 3, 4] rfl (ihx89 (st, x5) h)
    · replace h := xi_f h cc1
      refine hk_aload_n hC jd_M_rakeIn_44 0 rfl ?_
      refine hk_iload hC jd_M_rakeIn_45 4 rfl ?_
      refine hk_aload_n hC jd_M_rakeIn_47 0 rfl ?_
      refine hk_get hC jk_M 0 rfl 20 (by decide) jq_718 rfl jd_M_rakeIn_48 ?_
      refine hk_bipush (v := 6) hC jd_M_rakeIn_51 (by decide) ?_
      refine hk_iload hC jd_M_rakeIn_53 5 rfl ?_
      refine hk_iadd hC jd_M_rakeIn_55 ?_
      have hr1 := xr_in h
      replace h := xr_go h
      refine hk_iald hC 12 rfl hr1 jd_M_rakeIn_56 ?_
      obtain ⟨q1, h_q1, h⟩ := xb_go h
      refine hk_callVWi hC (q0 := 0) (jc_M_wetter l D cI cF N a text letters mowers cows ricks weathers says words weather kindOf thatch newMowers newCows newRicks newWeathers newSays newWords newWeather newKind newThatch st pasts past aside seen seenWord seenHour keeps kept x5 (st (Int32.toNatClampNeg ((6 : Int32) + x6))) h_q1) jl_M_wetter rfl rfl jq_859 jq_861 jq0_30 rfl ⟨by decide, by decide⟩ rfl rfl (Nat.le_of_ble_eq_true rfl) ⟨Nat.zero_le _, Nat.zero_le _⟩ jd_M_rakeIn_57 ?_
      refine hk_istore hC (i := 5) (y := q1) (lv2 := [(5, .int q1), (0, .ref (a 0)), (2, .int x2), (3, .int x3), (4, .int x4), (6, .int x6)]) jd_M_rakeIn_60 rfl (by decide) rfl ?_
      refine hk_aload_n hC jd_M_rakeIn_62 1 rfl ?_
      refine hk_get hC jk_M 0 rfl 20 (by decide) jq_718 rfl jd_M_rakeIn_63 ?_
      refine hk_iconst (v := 1) hC jd_M_rakeIn_66 (by decide) ?_
      refine hk_iload hC jd_M_rakeIn_67 5 rfl ?_
      refine hk_iadd hC jd_M_rakeIn_69 ?_
      refine hk_iconst (v := 0) hC jd_M_rakeIn_70 (by decide) ?_
      have hr2 := xr_in h
      replace h := xr_go h
      obtain ⟨z1, e_z1, h⟩ := xl_go h
      refine hk_iast hC 12 rfl hr2 e_z1 (ws2 := (wM cI a text letters mowers cows ricks weathers says words weather kindOf thatch newMowers newCows newRicks newWeathers newSays newWords newWeather newKind newThatch z1 pasts past aside seen seenWord seenHour keeps kept)) rfl jd_M_rakeIn_71 ?_
      refine hk_aload_n hC jd_M_rakeIn_72 1 rfl ?_
      refine hk_get hC jk_M 0 rfl 20 (by decide) jq_718 rfl jd_M_rakeIn_73 ?_
      refine hk_bipush (v := 6) hC jd_M_rakeIn_76 (by decide) ?_
      refine hk_iload hC jd_M_rakeIn_78 5 rfl ?_
      refine hk_iadd hC jd_M_rakeIn_80 ?_
      refine hk_iconst (v := 0) hC jd_M_rakeIn_81 (by decide) ?_
      have hr3 := xr_in h
      replace h := xr_go h
      obtain ⟨z2, e_z2, h⟩ := xl_go h
      refine hk_iast hC 12 rfl hr3 e_z2 (ws2 := (wM cI a text letters mowers cows ricks weathers says words weather kindOf thatch newMowers newCows newRicks newWeathers newSays newWords newWeather newKind newThatch z2 pasts past aside seen seenWord seenHour keeps kept)) rfl jd_M_rakeIn_82 ?_
      obtain ⟨v1, e_v1, h⟩ := xl_go h
      refine hk_iinc hC (lv2 := [(6, .int v1), (5, .int q1), (0, .ref (a 0)), (2, .int x2), (3, .int x3), (4, .int x4)]) jd_M_rakeIn_83 5 rfl e_v1 (by decide) rfl ?_
      refine hk_goto (tgt := 38) hC jd_M_rakeIn_86 (by decide) ?_
      exact hk_lv [2, 3, 4, 5, 1, 0] rfl (ihh38 (z2, q1, v1) h)
  have L_38 : ∀ (st : Nat → Int32) (x2 : Int32) (x3 : Int32) (x4 : Int32) (x5 : Int32) (x6 : Int32) (kx89 : ((Nat → Int32) × Int32) → Option ((Nat → Int32))) (ihx89 : ∀ q, kx89 q = some o → hk_W p l e jr_M_rakeIn s m args below meth c A (hk_Zv below args s D A (wM cI a text letters mowers cows ricks weathers says words weather kindOf thatch newMowers newCows newRicks newWeathers newSays newWords newWeather newKind newThatch o pasts past aside seen seenWord seenHour keeps kept)) 7 D 0 0 (wM cI a text letters mowers cows ricks weathers says words weather kindOf thatch newMowers newCows newRicks newWeathers newSays newWords newWeather newKind newThatch q.1 pasts past aside seen seenWord seenHour keeps kept) 89 [(0, .ref (a 0)), (3, .int x3), (4, .int x4), (5, .int q.2)] []) (_ : jf_M_rakeIn_38 N st x2 x3 x4 x5 x6 kx89 = some o), hk_W p l e jr_M_rakeIn s m args below meth c A (hk_Zv below args s D A (wM cI a text letters mowers cows ricks weathers says words weather kindOf thatch newMowers newCows newRicks newWeathers newSays newWords newWeather newKind newThatch o pasts past aside seen seenWord seenHour keeps kept)) 7 D 0 0 (wM cI a text letters mowers cows ricks weathers says words weather kindOf thatch newMowers newCows newRicks newWeathers newSays newWords newWeather newKind newThatch st pasts past aside seen seenWord seenHour keeps kept) 38 [(0, .ref (a 0)), (2, .int x2), (3, .int x3), (4, .int x4), (5, .int x5), (6, .int x6)] [] := by
    intro st x2 x3 x4 x5 x6 kx89 ihx89 h
    exact xloopW (fun (q : (Nat → Int32) × Int32 × Int32) => hk_W p l e jr_M_rakeIn s m args below meth c A (hk_Zv below args s D A (wM cI a text letters mowers cows ricks weathers says words weather kindOf thatch newMowers newCows newRicks newWeathers newSays newWords newWeather newKind newThatch o pasts past aside seen seenWord seenHour keeps kept)) 7 D 0 0 (wM cI a text letters mowers cows ricks weathers says words weather kindOf thatch newMowers newCows newRicks newWeathers newSays newWords newWeather newKind newThatch q.1 pasts past aside seen seenWord seenHour keeps kept) 38 [(0, .ref (a 0)), (2, .int x2), (3, .int x3), (4, .int x4), (5, .int q.2.1), (6, .int q.2.2)] []) (fun kh ih q h => B_38 q.1 x2 x3 x4 q.2.1 q.2.2 kh kx89 ih ihx89 h) N (st, x5, x6) h
  have B_89 : ∀ (st : Nat → Int32) (x3 : Int32) (x4 : Int32) (x5 : Int32)   (_ : jf_M_rakeIn_89 N st x3 x4 x5  = some o), hk_W p l e jr_M_rakeIn s m args below meth c A (hk_Zv below args s D A (wM cI a text letters mowers cows ricks weathers says words weather kindOf thatch newMowers newCows newRicks newWeathers newSays newWords newWeather newKind newThatch o pasts past aside seen seenWord seenHour keeps kept)) 7 D 0 0 (wM cI a text letters mowers cows ricks weathers says words weather kindOf thatch newMowers newCows newRicks newWeathers newSays newWords newWeather newKind newThatch st pasts past aside seen seenWord seenHour keeps kept) 89 [(0, .ref (a 0)), (3, .int x3), (4, .int x4), (5, .int x5)] [] := by
    intro st x3 x4 x5   h
    delta jf_M_rakeIn_89 at h
    refine hk_aload_n hC jd_M_rakeIn_89 0 rfl ?_
    refine hk_get hC jk_M 0 rfl 20 (by decide) jq_718 rfl jd_M_rakeIn_90 ?_
    refine hk_bipush (v := 45) hC jd_M_rakeIn_93 (by decide) ?_
    refine hk_iload hC jd_M_rakeIn_95 2 rfl ?_
    refine hk_iadd hC jd_M_rakeIn_97 ?_
    refine hk_iload hC jd_M_rakeIn_98 3 rfl ?_
    have hr1 := xr_in h
    replace h := xr_go h
    obtain ⟨z1, e_z1, h⟩ := xl_go h
    refine hk_iast hC 12 rfl hr1 e_z1 (ws2 := (wM cI a text letters mowers cows ricks weathers says words weather kindOf thatch newMowers newCows newRicks newWeathers newSays newWords newWeather newKind newThatch z1 pasts past aside seen seenWord seenHour keeps kept)) rfl jd_M_rakeIn_100 ?_
    refine hk_aload_n hC jd_M_rakeIn_101 0 rfl ?_
    refine hk_get hC jk_M 0 rfl 20 (by decide) jq_718 rfl jd_M_rakeIn_102 ?_
    refine hk_bipush (v := 69) hC jd_M_rakeIn_105 (by decide) ?_
    refine hk_iload hC jd_M_rakeIn_107 2 rfl ?_
    refine hk_iadd hC jd_M_rakeIn_109 ?_
    refine hk_iconst (v := 0) hC jd_M_rakeIn_110 (by decide) ?_
    have hr2 := xr_in h
    replace h := xr_go h
    obtain ⟨z2, e_z2, h⟩ := xl_go h
    refine hk_iast hC 12 rfl hr2 e_z2 (ws2 := (wM cI a text letters mowers cows ricks weathers says words weather kindOf thatch newMowers newCows newRicks newWeathers newSays newWords newWeather newKind newThatch z2 pasts past aside seen seenWord seenHour keeps kept)) rfl jd_M_rakeIn_111 ?_
    refine hk_aload_n hC jd_M_rakeIn_112 0 rfl ?_
    refine hk_get hC jk_M 0 rfl 20 (by decide) jq_718 rfl jd_M_rakeIn_113 ?_
    refine hk_bipush (v := 15) hC jd_M_rakeIn_116 (by decide) ?_
    refine hk_iload_n hC jd_M_rakeIn_118 1 rfl ?_
    refine hk_iadd hC jd_M_rakeIn_119 ?_
    refine hk_dup2 hC jd_M_rakeIn_120 rfl rfl ?_
    have hr3 := xr_in h
    replace h := xr_go h
    refine hk_iald hC 12 rfl hr3 jd_M_rakeIn_121 ?_
    refine hk_iconst (v := 1) hC jd_M_rakeIn_122 (by decide) ?_
    refine hk_iadd hC jd_M_rakeIn_123 ?_
    have hr4 := xr_in h
    replace h := xr_go h
    obtain ⟨z3, e_z3, h⟩ := xl_go h
    refine hk_iast hC 12 rfl hr4 e_z3 (ws2 := (wM cI a text letters mowers cows ricks weathers says words weather kindOf thatch newMowers newCows newRicks newWeathers newSays newWords newWeather newKind newThatch z3 pasts past aside seen seenWord seenHour keeps kept)) rfl jd_M_rakeIn_124 ?_
    obtain rfl := Option.some.inj h
    exact hk_vret hC hr jd_M_rakeIn_125 rfl
  delta jf_M_rakeIn at h
  refine hk_bipush (v := 8) hC jd_M_rakeIn_0 (by decide) ?_
  refine hk_iload_n hC jd_M_rakeIn_2 3 rfl ?_
  refine hk_imul hC jd_M_rakeIn_3 ?_
  refine hk_aload_n hC jd_M_rakeIn_4 0 rfl ?_
  refine hk_get hC jk_M 0 rfl 20 (by decide) jq_718 rfl jd_M_rakeIn_5 ?_
  refine hk_bipush (v := 15) hC jd_M_rakeIn_8 (by decide) ?_
  refine hk_iload_n hC jd_M_rakeIn_10 3 rfl ?_
  refine hk_iadd hC jd_M_rakeIn_11 ?_
  have hr1 := xr_in h
  replace h := xr_go h
  refine hk_iald hC 12 rfl hr1 jd_M_rakeIn_12 ?_
  refine hk_iadd hC jd_M_rakeIn_13 ?_
  obtain ⟨v1, e_v1, h⟩ := xl_go h
  refine hk_istore hC (i := 4) (y := v1) (lv2 := [(4, .int v1), (0, .ref (a 0)), (1, .int x1), (2, .int x2), (3, .int x3)]) jd_M_rakeIn_14 e_v1 (by decide) rfl ?_
  refine hk_iconst (v := 0) hC jd_M_rakeIn_16 (by decide) ?_
  refine hk_istore hC (i := 5) (y := (0 : Int32)) (lv2 := [(5, .int (0 : Int32)), (4, .int v1), (0, .ref (a 0)), (1, .int x1), (2, .int x2), (3, .int x3)]) jd_M_rakeIn_17 rfl (by decide) rfl ?_
  refine hk_aload_n hC jd_M_rakeIn_19 2 rfl ?_
  refine hk_get hC jk_M 0 rfl 20 (by decide) jq_718 rfl jd_M_rakeIn_20 ?_
  refine hk_bipush (v := 21) hC jd_M_rakeIn_23 (by decide) ?_
  refine hk_iload hC jd_M_rakeIn_25 1 rfl ?_
  refine hk_iadd hC jd_M_rakeIn_27 ?_
  refine hk_aload_n hC jd_M_rakeIn_28 2 rfl ?_
  refine hk_iload_n hC jd_M_rakeIn_29 3 rfl ?_
  refine hk_iload_n hC jd_M_rakeIn_30 4 rfl ?_
  obtain ⟨q1, h_q1, h⟩ := xb_go h
  refine hk_callVWi hC (q0 := 0) (jc_M_lying l D cI cF N a text letters mowers cows ricks weathers says words weather kindOf thatch newMowers newCows newRicks newWeathers newSays newWords newWeather newKind newThatch st pasts past aside seen seenWord seenHour keeps kept x1 x2 h_q1) jl_M_lying rfl rfl jq_867 jq_869 jq0_31 rfl ⟨by decide, by decide⟩ rfl rfl (Nat.le_of_ble_eq_true rfl) ⟨Nat.zero_le _, Nat.zero_le _⟩ jd_M_rakeIn_31 ?_
  have hr2 := xr_in h
  replace h := xr_go h
  obtain ⟨z1, e_z1, h⟩ := xl_go h
  refine hk_iast hC 12 rfl hr2 e_z1 (ws2 := (wM cI a text letters mowers cows ricks weathers says words weather kindOf thatch newMowers newCows newRicks newWeathers newSays newWords newWeather newKind newThatch z1 pasts past aside seen seenWord seenHour keeps kept)) rfl jd_M_rakeIn_34 ?_
  refine hk_iload_n hC jd_M_rakeIn_35 3 rfl ?_
  refine hk_istore hC (i := 6) (y := x1) (lv2 := [(6, .int x1), (5, .int (0 : Int32)), (4, .int v1), (0, .ref (a 0)), (1, .int x1), (2, .int x2), (3, .int x3)]) jd_M_rakeIn_36 rfl (by decide) rfl ?_
  exact hk_lv [3, 5, 6, 2, 1, 0] rfl (L_38 z1 x2 x3 v1 (0 : Int32) x1 _ (fun q2 h => by exact (B_89 q2.1 x3 v1 q2.2   h)) h)
theorem jc_M_rakeIn (l : Launch) (D : va_G) (cI cF : ClassId) (N : Nat) (a : Nat → Nat)  (text : Nat → Int32) (letters : Int32) (mowers : Int32) (cows : Int32) (ricks : Int32) (weathers : Int32) (says : Nat → Int32) (words : Nat → Int32) (weather : Nat → Int32) (kindOf : Nat → Int32) (thatch : Nat → Int32) (newMowers : Int32) (newCows : Int32) (newRicks : Int32) (newWeathers : Int32) (newSays : Nat → Int32) (newWords : Nat → Int32) (newWeather : Nat → Int32) (newKind : Nat → Int32) (newThatch : Nat → Int32) (st : Nat → Int32) (pasts : Int32) (past : Nat → Int32) (aside : Nat → Int32) (seen : Int32) (seenWord : Nat → Int32) (seenHour : Nat → Int32) (keeps : Int32) (kept : Nat → Int32) (x1 : Int32) (x2 : Int32) (x3 : Int32) {o : (Nat → Int32)} (h : jf_M_rakeIn N st x1 x2 x3 = some o) : hk_Mv l jy_M_rakeIn jb_M_rakeIn 7 jr_M_rakeIn D cI cF (wM cI a text letters mowers cows ricks weathers says words weather kindOf thatch newMowers newCows newRicks newWeathers newSays newWords newWeather newKind newThatch st pasts past aside seen seenWord seenHour keeps kept) [.ref (a 0), .int x1, .int x2, .int x3] (wM cI a text letters mowers cows ricks weathers says words weather kindOf thatch newMowers newCows newRicks newWeathers newSays newWords newWeather newKind newThatch o pasts past aside seen seenWord seenHour keeps kept) :=
  hk_metV (by decide) (Nat.le_of_ble_eq_true rfl) rfl rfl (fun p e s m args below meth c A hC hr => jw_M_rakeIn hC hr N a text letters mowers cows ricks weathers says words weather kindOf thatch newMowers newCows newRicks newWeathers newSays newWords newWeather newKind newThatch st pasts past aside seen seenWord seenHour keeps kept x1 x2 x3 h)
set_option maxHeartbeats 8000000 in
set_option maxRecDepth 100000 in
theorem jw_M_rake {p : Program} {l : Launch} {e : Env} {s : State} {m : MethodId} {args : Array Value} {below : List Frame} {meth : Method} {c : Code} {A : Nat → Prop} {D : va_G} {cI cF : ClassId} (hC : hk_ok p s m args meth c A 4 D cI cF "HayTalkModel" jb_M_rake) (hr : meth.sig.returnType = (some .int)) (N : Nat) (a : Nat → Nat)  (text : Nat → Int32) (letters : Int32) (mowers : Int32) (cows : Int32) (ricks : Int32) (weathers : Int32) (says : Nat → Int32) (words : Nat → Int32) (weather : Nat → Int32) (kindOf : Nat → Int32) (thatch : Nat → Int32) (newMowers : Int32) (newCows : Int32) (newRicks : Int32) (newWeathers : Int32) (newSays : Nat → Int32) (newWords : Nat → Int32) (newWeather : Nat → Int32) (newKind : Nat → Int32) (newThatch : Nat → Int32) (st : Nat → Int32) (pasts : Int32) (past : Nat → Int32) (aside : Nat → Int32) (seen : Int32) (seenWord : Nat → Int32) (seenHour : Nat → Int32) (keeps : Int32) (kept : Nat → Int32) (x1 : Int32) (x2 : Int32) (x3 : Int32) {o : Int32 × (Nat → Int32) × Int32 × (Nat → Int32)} (h : jf_M_rake N mowers ricks st pasts past x1 x2 x3 = some o) : hk_W p l e jr_M_rake s m args below meth c A (hk_Zi below args s D A o.1 (wM cI a text letters mowers cows ricks weathers says words weather kindOf thatch newMowers newCows newRicks newWeathers newSays newWords newWeather newKind newThatch o.2.1 o.2.2.1 o.2.2.2 aside seen seenWord seenHour keeps kept)) 4 D 0 0 (wM cI a text letters mowers cows ricks weathers says words weather kindOf thatch newMowers newCows newRicks newWeathers newSays newWords newWeather newKind newThatch st pasts past aside seen seenWord seenHour keeps kept) 0 [(0, .ref (a 0)), (1, .int x1), (2, .int x2), (3, .int x3)] [] := by
  have B_54 : ∀ (mowers : Int32) (ricks : Int32) (st : Nat → Int32) (pasts : Int32) (past : Nat → Int32) (x1 : Int32) (x2 : Int32)   (_ : jf_M_rake_54 N mowers ricks st pasts past x1 x2  = some o), hk_W p l e jr_M_rake s m args below meth c A (hk_Zi below args s D A o.1 (wM cI a text letters mowers cows ricks weathers says words weather kindOf thatch newMowers newCows newRicks newWeathers newSays newWords newWeather newKind newThatch o.2.1 o.2.2.1 o.2.2.2 aside seen seenWord seenHour keeps kept)) 4 D 0 0 (wM cI a text letters mowers cows ricks weathers says words weather kindOf thatch newMowers newCows newRicks newWeathers newSays newWords newWeather newKind newThatch st pasts past aside seen seenWord seenHour keeps kept) 54 [(0, .ref (a 0)), (1, .int x1), (2, .int x2)] [] := by
    intro mowers ricks st pasts past x1 x2   h
    delta jf_M_rake_54 at h
    refine hk_aload_n hC jd_M_rake_54 0 rfl ?_
    refine hk_iload_n hC jd_M_rake_55 1 rfl ?_
    refine hk_iload_n hC jd_M_rake_56 2 rfl ?_
    obtain ⟨q1, h_q1, h⟩ := xb_go h
    refine hk_callVWi hC (q0 := 0) (jc_M_lying l D cI cF N a text letters mowers cows ricks weathers says words weather kindOf thatch newMowers newCows newRicks newWeathers newSays newWords newWeather newKind newThatch st pasts past aside seen seenWord seenHour keeps kept x1 x2 h_q1) jl_M_lying rfl rfl jq_867 jq_869 jq0_31 rfl ⟨by decide, by decide⟩ rfl rfl (Nat.le_of_ble_eq_true rfl) ⟨Nat.zero_le _, Nat.zero_le _⟩ jd_M_rake_57 ?_
    refine hk_if_ne (tgt := 68) hC jd_M_rake_60 (by decide) (fun cc1 => ?_) (fun cc1 => ?_)
    · replace h := xi_f h cc1
      refine hk_bipush (v := -3) hC jd_M_rake_68 (by decide) ?_
      obtain rfl := Option.some.inj h
      exact hk_iret hC hr jd_M_rake_70 rfl rfl
    · replace h := xi_t h cc1
      refine hk_bipush (v := -2) hC jd_M_rake_63 (by decide) ?_
      refine hk_goto (tgt := 70) hC jd_M_rake_65 (by decide) ?_
      obtain rfl := Option.some.inj h
      exact hk_iret hC hr jd_M_rake_70 rfl rfl
  delta jf_M_rake at h
  refine hk_aload_n hC jd_M_rake_0 0 rfl ?_
  refine hk_iload_n hC jd_M_rake_1 1 rfl ?_
  obtain ⟨q1, h_q1, h⟩ := xb_go h
  refine hk_callVWi hC (q0 := 0) (jc_M_isMower l D cI cF N a text letters mowers cows ricks weathers says words weather kindOf thatch newMowers newCows newRicks newWeathers newSays newWords newWeather newKind newThatch st pasts past aside seen seenWord seenHour keeps kept x1 h_q1) jl_M_isMower rfl rfl jq_802 jq_804 jq0_21 rfl ⟨by decide, by decide⟩ rfl rfl (Nat.le_of_ble_eq_true rfl) ⟨Nat.zero_le _, Nat.zero_le _⟩ jd_M_rake_2 ?_
  refine hk_if_eq (tgt := 29) hC jd_M_rake_5 (by decide) (fun cc1 => ?_) (fun cc1 => ?_)
  · replace h := xi_t h cc1
    refine hk_iconst (v := -1) hC jd_M_rake_29 (by decide) ?_
    obtain rfl := Option.some.inj h
    exact hk_iret hC hr jd_M_rake_30 rfl rfl
  · replace h := xi_f h cc1
    refine hk_aload_n hC jd_M_rake_8 0 rfl ?_
    refine hk_iload_n hC jd_M_rake_9 2 rfl ?_
    obtain ⟨q2, h_q2, h⟩ := xb_go h
    refine hk_callVWi hC (q0 := 0) (jc_M_isMower l D cI cF N a text letters mowers cows ricks weathers says words weather kindOf thatch newMowers newCows newRicks newWeathers newSays newWords newWeather newKind newThatch st pasts past aside seen seenWord seenHour keeps kept x2 h_q2) jl_M_isMower rfl rfl jq_802 jq_804 jq0_21 rfl ⟨by decide, by decide⟩ rfl rfl (Nat.le_of_ble_eq_true rfl) ⟨Nat.zero_le _, Nat.zero_le _⟩ jd_M_rake_10 ?_
    refine hk_if_eq (tgt := 29) hC jd_M_rake_13 (by decide) (fun cc2 => ?_) (fun cc2 => ?_)
    · replace h := xi_t h cc2
      refine hk_iconst (v := -1) hC jd_M_rake_29 (by decide) ?_
      obtain rfl := Option.some.inj h
      exact hk_iret hC hr jd_M_rake_30 rfl rfl
    · replace h := xi_f h cc2
      refine hk_iload_n hC jd_M_rake_16 2 rfl ?_
      refine hk_iload_n hC jd_M_rake_17 1 rfl ?_
      refine hk_icmp_lt (tgt := 29) hC jd_M_rake_18 (by decide) (fun cc3 => ?_) (fun cc3 => ?_)
      · replace h := xi_t h cc3
        refine hk_iconst (v := -1) hC jd_M_rake_29 (by decide) ?_
        obtain rfl := Option.some.inj h
        exact hk_iret hC hr jd_M_rake_30 rfl rfl
      · replace h := xi_f h cc3
        refine hk_aload_n hC jd_M_rake_21 0 rfl ?_
        refine hk_iload_n hC jd_M_rake_22 3 rfl ?_
        obtain ⟨q3, h_q3, h⟩ := xb_go h
        refine hk_callVWi hC (q0 := 0) (jc_M_isRick l D cI cF N a text letters mowers cows ricks weathers says words weather kindOf thatch newMowers newCows newRicks newWeathers newSays newWords newWeather newKind newThatch st pasts past aside seen seenWord seenHour keeps kept x3 h_q3) jl_M_isRick rfl rfl jq_822 jq_824 jq0_24 rfl ⟨by decide, by decide⟩ rfl rfl (Nat.le_of_ble_eq_true rfl) ⟨Nat.zero_le _, Nat.zero_le _⟩ jd_M_rake_23 ?_
        refine hk_if_ne (tgt := 31) hC jd_M_rake_26 (by decide) (fun cc4 => ?_) (fun cc4 => ?_)
        · replace h := xi_f h cc4
          refine hk_aload_n hC jd_M_rake_31 0 rfl ?_
          refine hk_iload_n hC jd_M_rake_32 1 rfl ?_
          refine hk_iload_n hC jd_M_rake_33 2 rfl ?_
          obtain ⟨q4, h_q4, h⟩ := xb_go h
          refine hk_callVWi hC (q0 := 0) (jc_M_lying l D cI cF N a text letters mowers cows ricks weathers says words weather kindOf thatch newMowers newCows newRicks newWeathers newSays newWords newWeather newKind newThatch st pasts past aside seen seenWord seenHour keeps kept x1 x2 h_q4) jl_M_lying rfl rfl jq_867 jq_869 jq0_31 rfl ⟨by decide, by decide⟩ rfl rfl (Nat.le_of_ble_eq_true rfl) ⟨Nat.zero_le _, Nat.zero_le _⟩ jd_M_rake_34 ?_
          refine hk_if_eq (tgt := 54) hC jd_M_rake_37 (by decide) (fun cc5 => ?_) (fun cc5 => ?_)
          · replace h := xi_t h cc5
            exact hk_lv [0, 1, 2] rfl (B_54 mowers ricks st pasts past x1 x2   h)
          · replace h := xi_f h cc5
            refine hk_aload_n hC jd_M_rake_40 0 rfl ?_
            refine hk_get hC jk_M 0 rfl 20 (by decide) jq_718 rfl jd_M_rake_41 ?_
            refine hk_bipush (v := 15) hC jd_M_rake_44 (by decide) ?_
            refine hk_iload_n hC jd_M_rake_46 3 rfl ?_
            refine hk_iadd hC jd_M_rake_47 ?_
            have hr1 := xr_in h
            replace h := xr_go h
            refine hk_iald hC 12 rfl hr1 jd_M_rake_48 ?_
            refine hk_bipush (v := 8) hC jd_M_rake_49 (by decide) ?_
            refine hk_icmp_ne (tgt := 71) hC jd_M_rake_51 (by decide) (fun cc6 => ?_) (fun cc6 => ?_)
            · replace h := xi_f h cc6
              refine hk_aload_n hC jd_M_rake_71 0 rfl ?_
              obtain ⟨q5, h_q5, h⟩ := xb_go h
              refine hk_callVWv hC (q0 := 0) (jc_M_note l D cI cF N a text letters mowers cows ricks weathers says words weather kindOf thatch newMowers newCows newRicks newWeathers newSays newWords newWeather newKind newThatch st pasts past aside seen seenWord seenHour keeps kept h_q5) jl_M_note rfl rfl jq_843 jq_845 jq0_26 rfl ⟨by decide, by decide⟩ rfl rfl (Nat.le_of_ble_eq_true rfl) ⟨Nat.zero_le _, Nat.zero_le _⟩ jd_M_rake_72 ?_
              refine hk_aload_n hC jd_M_rake_75 0 rfl ?_
              refine hk_iload_n hC jd_M_rake_76 1 rfl ?_
              refine hk_iload_n hC jd_M_rake_77 2 rfl ?_
              refine hk_iload_n hC jd_M_rake_78 3 rfl ?_
              obtain ⟨q6, h_q6, h⟩ := xb_go h
              refine hk_callVWv hC (q0 := 0) (jc_M_rakeIn l D cI cF N a text letters mowers cows ricks weathers says words weather kindOf thatch newMowers newCows newRicks newWeathers newSays newWords newWeather newKind newThatch st q5.1 q5.2 aside seen seenWord seenHour keeps kept x1 x2 x3 h_q6) jl_M_rakeIn rfl rfl jq_871 jq_873 jq0_32 rfl ⟨by decide, by decide⟩ rfl rfl (Nat.le_of_ble_eq_true rfl) ⟨Nat.zero_le _, Nat.zero_le _⟩ jd_M_rake_79 ?_
              refine hk_aload_n hC jd_M_rake_82 0 rfl ?_
              refine hk_get hC jk_M 0 rfl 20 (by decide) jq_718 rfl jd_M_rake_83 ?_
              refine hk_bipush (v := 15) hC jd_M_rake_86 (by decide) ?_
              refine hk_iload_n hC jd_M_rake_88 3 rfl ?_
              refine hk_iadd hC jd_M_rake_89 ?_
              have hr2 := xr_in h
              replace h := xr_go h
              refine hk_iald hC 12 rfl hr2 jd_M_rake_90 ?_
              obtain rfl := Option.some.inj h
              exact hk_iret hC hr jd_M_rake_91 rfl rfl
            · replace h := xi_t h cc6
              exact hk_lv [0, 1, 2] rfl (B_54 mowers ricks st pasts past x1 x2   h)
        · replace h := xi_t h cc4
          refine hk_iconst (v := -1) hC jd_M_rake_29 (by decide) ?_
          obtain rfl := Option.some.inj h
          exact hk_iret hC hr jd_M_rake_30 rfl rfl
theorem jc_M_rake (l : Launch) (D : va_G) (cI cF : ClassId) (N : Nat) (a : Nat → Nat)  (text : Nat → Int32) (letters : Int32) (mowers : Int32) (cows : Int32) (ricks : Int32) (weathers : Int32) (says : Nat → Int32) (words : Nat → Int32) (weather : Nat → Int32) (kindOf : Nat → Int32) (thatch : Nat → Int32) (newMowers : Int32) (newCows : Int32) (newRicks : Int32) (newWeathers : Int32) (newSays : Nat → Int32) (newWords : Nat → Int32) (newWeather : Nat → Int32) (newKind : Nat → Int32) (newThatch : Nat → Int32) (st : Nat → Int32) (pasts : Int32) (past : Nat → Int32) (aside : Nat → Int32) (seen : Int32) (seenWord : Nat → Int32) (seenHour : Nat → Int32) (keeps : Int32) (kept : Nat → Int32) (x1 : Int32) (x2 : Int32) (x3 : Int32) {o : Int32 × (Nat → Int32) × Int32 × (Nat → Int32)} (h : jf_M_rake N mowers ricks st pasts past x1 x2 x3 = some o) : hk_Mi l jy_M_rake jb_M_rake 4 (some .int) jr_M_rake D cI cF (wM cI a text letters mowers cows ricks weathers says words weather kindOf thatch newMowers newCows newRicks newWeathers newSays newWords newWeather newKind newThatch st pasts past aside seen seenWord seenHour keeps kept) [.ref (a 0), .int x1, .int x2, .int x3] o.1 (wM cI a text letters mowers cows ricks weathers says words weather kindOf thatch newMowers newCows newRicks newWeathers newSays newWords newWeather newKind newThatch o.2.1 o.2.2.1 o.2.2.2 aside seen seenWord seenHour keeps kept) :=
  hk_metI (by decide) (Nat.le_of_ble_eq_true rfl) rfl rfl (fun p e s m args below meth c A hC hr => jw_M_rake hC hr N a text letters mowers cows ricks weathers says words weather kindOf thatch newMowers newCows newRicks newWeathers newSays newWords newWeather newKind newThatch st pasts past aside seen seenWord seenHour keeps kept x1 x2 x3 h)
