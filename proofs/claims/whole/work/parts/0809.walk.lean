set_option maxHeartbeats 8000000 in
set_option maxRecDepth 100000 in
theorem jw_M_top {p : Program} {l : Launch} {e : Env} {s : State} {m : MethodId} {args : Array Value} {below : List Frame} {meth : Method} {c : Code} {A : Nat → Prop} {D : va_G} {cI cF : ClassId} (hC : hk_ok p s m args meth c A 2 D cI cF "HayTalkModel" jb_M_top) (hr : meth.sig.returnType = (some .int)) (N : Nat) (a : Nat → Nat)  (text : Nat → Int32) (letters : Int32) (mowers : Int32) (cows : Int32) (ricks : Int32) (weathers : Int32) (says : Nat → Int32) (words : Nat → Int32) (weather : Nat → Int32) (kindOf : Nat → Int32) (thatch : Nat → Int32) (newMowers : Int32) (newCows : Int32) (newRicks : Int32) (newWeathers : Int32) (newSays : Nat → Int32) (newWords : Nat → Int32) (newWeather : Nat → Int32) (newKind : Nat → Int32) (newThatch : Nat → Int32) (st : Nat → Int32) (pasts : Int32) (past : Nat → Int32) (aside : Nat → Int32) (seen : Int32) (seenWord : Nat → Int32) (seenHour : Nat → Int32) (keeps : Int32) (kept : Nat → Int32) (x1 : Int32) {o : Int32} (h : jf_M_top N st x1 = some o) : hk_W p l e jr_M_top s m args below meth c A (hk_Zi below args s D A o (wM cI a text letters mowers cows ricks weathers says words weather kindOf thatch newMowers newCows newRicks newWeathers newSays newWords newWeather newKind newThatch st pasts past aside seen seenWord seenHour keeps kept)) 2 D 0 0 (wM cI a text letters mowers cows ricks weathers says words weather kindOf thatch newMowers newCows newRicks newWeathers newSays newWords newWeather newKind newThatch st pasts past aside seen seenWord seenHour keeps kept) 0 [(0, .ref (a 0)), (1, .int x1)] [] := by
  delta jf_M_top at h
  refine hk_aload_n hC jd_M_top_0 0 rfl ?_
  refine hk_get hC jk_M 0 rfl 20 (by decide) jq_718 rfl jd_M_top_1 ?_
  refine hk_bipush (v := 21) hC jd_M_top_4 (by decide) ?_
  refine hk_bipush (v := 8) hC jd_M_top_6 (by decide) ?_
  refine hk_iload_n hC jd_M_top_8 1 rfl ?_
  refine hk_imul hC jd_M_top_9 ?_
  refine hk_iadd hC jd_M_top_10 ?_
  refine hk_aload_n hC jd_M_top_11 0 rfl ?_
  refine hk_get hC jk_M 0 rfl 20 (by decide) jq_718 rfl jd_M_top_12 ?_
  refine hk_bipush (v := 15) hC jd_M_top_15 (by decide) ?_
  refine hk_iload_n hC jd_M_top_17 1 rfl ?_
  refine hk_iadd hC jd_M_top_18 ?_
  have hr1 := xr_in h
  replace h := xr_go h
  refine hk_iald hC 12 rfl hr1 jd_M_top_19 ?_
  refine hk_iadd hC jd_M_top_20 ?_
  refine hk_iconst (v := 1) hC jd_M_top_21 (by decide) ?_
  refine hk_isub hC jd_M_top_22 ?_
  have hr2 := xr_in h
  replace h := xr_go h
  refine hk_iald hC 12 rfl hr2 jd_M_top_23 ?_
  obtain rfl := Option.some.inj h
  exact hk_iret hC hr jd_M_top_24 rfl rfl
theorem jc_M_top (l : Launch) (D : va_G) (cI cF : ClassId) (N : Nat) (a : Nat → Nat)  (text : Nat → Int32) (letters : Int32) (mowers : Int32) (cows : Int32) (ricks : Int32) (weathers : Int32) (says : Nat → Int32) (words : Nat → Int32) (weather : Nat → Int32) (kindOf : Nat → Int32) (thatch : Nat → Int32) (newMowers : Int32) (newCows : Int32) (newRicks : Int32) (newWeathers : Int32) (newSays : Nat → Int32) (newWords : Nat → Int32) (newWeather : Nat → Int32) (newKind : Nat → Int32) (newThatch : Nat → Int32) (st : Nat → Int32) (pasts : Int32) (past : Nat → Int32) (aside : Nat → Int32) (seen : Int32) (seenWord : Nat → Int32) (seenHour : Nat → Int32) (keeps : Int32) (kept : Nat → Int32) (x1 : Int32) {o : Int32} (h : jf_M_top N st x1 = some o) : hk_Mi l jy_M_top jb_M_top 2 (some .int) jr_M_top D cI cF (wM cI a text letters mowers cows ricks weathers says words weather kindOf thatch newMowers newCows newRicks newWeathers newSays newWords newWeather newKind newThatch st pasts past aside seen seenWord seenHour keeps kept) [.ref (a 0), .int x1] o (wM cI a text letters mowers cows ricks weathers says words weather kindOf thatch newMowers newCows newRicks newWeathers newSays newWords newWeather newKind newThatch st pasts past aside seen seenWord seenHour keeps kept) :=
  hk_metI (by decide) (Nat.le_of_ble_eq_true rfl) rfl rfl (fun p e s m args below meth c A hC hr => jw_M_top hC hr N a text letters mowers cows ricks weathers says words weather kindOf thatch newMowers newCows newRicks newWeathers newSays newWords newWeather newKind newThatch st pasts past aside seen seenWord seenHour keeps kept x1 h)
set_option maxHeartbeats 8000000 in
set_option maxRecDepth 100000 in
theorem jw_M_hears {p : Program} {l : Launch} {e : Env} {s : State} {m : MethodId} {args : Array Value} {below : List Frame} {meth : Method} {c : Code} {A : Nat → Prop} {D : va_G} {cI cF : ClassId} (hC : hk_ok p s m args meth c A 4 D cI cF "HayTalkModel" jb_M_hears) (hr : meth.sig.returnType = (some .int)) (N : Nat)    (x0 : Int32) (x1 : Int32) (x2 : Int32) {o : Int32} (h : jf_M_hears N x0 x1 x2 = some o) : hk_W p l e jr_M_hears s m args below meth c A (hk_Zi below args s D A o ([] : va_W)) 4 D 0 0 ([] : va_W) 0 [(0, .int x0), (1, .int x1), (2, .int x2)] [] := by
  have B_2 : ∀ (x0 : Int32) (x1 : Int32) (x2 : Int32) (x3 : Int32) (kh2 : (Int32) → Option (Int32)) (kx14 : (Int32) → Option (Int32)) (ihh2 : ∀ q, kh2 q = some o → hk_W p l e jr_M_hears s m args below meth c A (hk_Zi below args s D A o ([] : va_W)) 4 D 0 0 ([] : va_W) 2 [(0, .int x0), (1, .int x1), (2, .int x2), (3, .int q)] []) (ihx14 : ∀ q, kx14 q = some o → hk_W p l e jr_M_hears s m args below meth c A (hk_Zi below args s D A o ([] : va_W)) 4 D 0 0 ([] : va_W) 14 [(0, .int x0), (1, .int x1), (3, .int q)] []) (_ : jf_M_hears_2B N x0 x1 x2 x3 kh2 kx14 = some o), hk_W p l e jr_M_hears s m args below meth c A (hk_Zi below args s D A o ([] : va_W)) 4 D 0 0 ([] : va_W) 2 [(0, .int x0), (1, .int x1), (2, .int x2), (3, .int x3)] [] := by
    intro x0 x1 x2 x3 kh2 kx14 ihh2 ihx14 h
    delta jf_M_hears_2B at h
    refine hk_iload_n hC jd_M_hears_2 2 rfl ?_
    refine hk_iload_n hC jd_M_hears_3 3 rfl ?_
    refine hk_ishr hC jd_M_hears_4 ?_
    refine hk_if_eq (tgt := 14) hC jd_M_hears_5 (by decide) (fun cc1 => ?_) (fun cc1 => ?_)
    · replace h := xi_t h cc1
      exact hk_lv [0, 1, 3] rfl (ihx14 x3 h)
    · replace h := xi_f h cc1
      obtain ⟨v1, e_v1, h⟩ := xl_go h
      refine hk_iinc hC (lv2 := [(3, .int v1), (0, .int x0), (1, .int x1), (2, .int x2)]) jd_M_hears_8 3 rfl e_v1 (by decide) rfl ?_
      refine hk_goto (tgt := 2) hC jd_M_hears_11 (by decide) ?_
      exact hk_lv [1, 2, 3, 0] rfl (ihh2 v1 h)
  have L_2 : ∀ (x0 : Int32) (x1 : Int32) (x2 : Int32) (x3 : Int32) (kx14 : (Int32) → Option (Int32)) (ihx14 : ∀ q, kx14 q = some o → hk_W p l e jr_M_hears s m args below meth c A (hk_Zi below args s D A o ([] : va_W)) 4 D 0 0 ([] : va_W) 14 [(0, .int x0), (1, .int x1), (3, .int q)] []) (_ : jf_M_hears_2 N x0 x1 x2 x3 kx14 = some o), hk_W p l e jr_M_hears s m args below meth c A (hk_Zi below args s D A o ([] : va_W)) 4 D 0 0 ([] : va_W) 2 [(0, .int x0), (1, .int x1), (2, .int x2), (3, .int x3)] [] := by
    intro x0 x1 x2 x3 kx14 ihx14 h
    exact xloopW (fun (q : Int32) => hk_W p l e jr_M_hears s m args below meth c A (hk_Zi below args s D A o ([] : va_W)) 4 D 0 0 ([] : va_W) 2 [(0, .int x0), (1, .int x1), (2, .int x2), (3, .int q)] []) (fun kh ih q h => B_2 x0 x1 x2 q kh kx14 ih ihx14 h) N x3 h
  have B_14 : ∀ (x0 : Int32) (x1 : Int32) (x3 : Int32)   (_ : jf_M_hears_14 N x0 x1 x3  = some o), hk_W p l e jr_M_hears s m args below meth c A (hk_Zi below args s D A o ([] : va_W)) 4 D 0 0 ([] : va_W) 14 [(0, .int x0), (1, .int x1), (3, .int x3)] [] := by
    intro x0 x1 x3   h
    delta jf_M_hears_14 at h
    refine hk_iload_n hC jd_M_hears_14 0 rfl ?_
    refine hk_iconst (v := 1) hC jd_M_hears_15 (by decide) ?_
    refine hk_icmp_ne (tgt := 27) hC jd_M_hears_16 (by decide) (fun cc1 => ?_) (fun cc1 => ?_)
    · replace h := xi_f h cc1
      refine hk_iload_n hC jd_M_hears_27 0 rfl ?_
      refine hk_iconst (v := 2) hC jd_M_hears_28 (by decide) ?_
      refine hk_icmp_ne (tgt := 39) hC jd_M_hears_29 (by decide) (fun cc2 => ?_) (fun cc2 => ?_)
      · replace h := xi_f h cc2
        refine hk_iload_n hC jd_M_hears_39 0 rfl ?_
        refine hk_iconst (v := 3) hC jd_M_hears_40 (by decide) ?_
        refine hk_icmp_ne (tgt := 52) hC jd_M_hears_41 (by decide) (fun cc3 => ?_) (fun cc3 => ?_)
        · replace h := xi_f h cc3
          refine hk_iload_n hC jd_M_hears_52 1 rfl ?_
          obtain rfl := Option.some.inj h
          exact hk_iret hC hr jd_M_hears_53 rfl rfl
        · replace h := xi_t h cc3
          refine hk_iload_n hC jd_M_hears_44 1 rfl ?_
          refine hk_iload_n hC jd_M_hears_45 2 rfl ?_
          refine hk_ishr hC jd_M_hears_46 ?_
          refine hk_iload_n hC jd_M_hears_47 2 rfl ?_
          refine hk_ishl hC jd_M_hears_48 ?_
          refine hk_goto (tgt := 53) hC jd_M_hears_49 (by decide) ?_
          obtain rfl := Option.some.inj h
          exact hk_iret hC hr jd_M_hears_53 rfl rfl
      · replace h := xi_t h cc2
        refine hk_iload_n hC jd_M_hears_32 1 rfl ?_
        refine hk_iload_n hC jd_M_hears_33 1 rfl ?_
        refine hk_ineg hC jd_M_hears_34 ?_
        refine hk_iand hC jd_M_hears_35 ?_
        refine hk_goto (tgt := 53) hC jd_M_hears_36 (by decide) ?_
        obtain rfl := Option.some.inj h
        exact hk_iret hC hr jd_M_hears_53 rfl rfl
    · replace h := xi_t h cc1
      refine hk_iload_n hC jd_M_hears_19 1 rfl ?_
      refine hk_sipush (v := 341) hC jd_M_hears_20 (by decide) ?_
      refine hk_iand hC jd_M_hears_23 ?_
      refine hk_goto (tgt := 53) hC jd_M_hears_24 (by decide) ?_
      obtain rfl := Option.some.inj h
      exact hk_iret hC hr jd_M_hears_53 rfl rfl
  delta jf_M_hears at h
  refine hk_iconst (v := 0) hC jd_M_hears_0 (by decide) ?_
  refine hk_istore_n hC (i := 3) (y := (0 : Int32)) (lv2 := [(3, .int (0 : Int32)), (0, .int x0), (1, .int x1), (2, .int x2)]) jd_M_hears_1 rfl rfl (by decide) rfl ?_
  exact hk_lv [1, 2, 3, 0] rfl (L_2 x0 x1 x2 (0 : Int32) _ (fun q1 h => by exact (B_14 x0 x1 q1   h)) h)
theorem jc_M_hears (l : Launch) (D : va_G) (cI cF : ClassId) (N : Nat)    (x0 : Int32) (x1 : Int32) (x2 : Int32) {o : Int32} (h : jf_M_hears N x0 x1 x2 = some o) : hk_Mi l jy_M_hears jb_M_hears 4 (some .int) jr_M_hears D cI cF ([] : va_W) [.int x0, .int x1, .int x2] o ([] : va_W) :=
  hk_metI (by decide) (Nat.le_of_ble_eq_true rfl) rfl rfl (fun p e s m args below meth c A hC hr => jw_M_hears hC hr N x0 x1 x2 h)
set_option maxHeartbeats 8000000 in
set_option maxRecDepth 100000 in
theorem jw_M_cutFor {p : Program} {l : Launch} {e : Env} {s : State} {m : MethodId} {args : Array Value} {below : List Frame} {meth : Method} {c : Code} {A : Nat → Prop} {D : va_G} {cI cF : ClassId} (hC : hk_ok p s m args meth c A 5 D cI cF "HayTalkModel" jb_M_cutFor) (hr : meth.sig.returnType = (some .int)) (N : Nat) (a : Nat → Nat)  (text : Nat → Int32) (letters : Int32) (mowers : Int32) (cows : Int32) (ricks : Int32) (weathers : Int32) (says : Nat → Int32) (words : Nat → Int32) (weather : Nat → Int32) (kindOf : Nat → Int32) (thatch : Nat → Int32) (newMowers : Int32) (newCows : Int32) (newRicks : Int32) (newWeathers : Int32) (newSays : Nat → Int32) (newWords : Nat → Int32) (newWeather : Nat → Int32) (newKind : Nat → Int32) (newThatch : Nat → Int32) (st : Nat → Int32) (pasts : Int32) (past : Nat → Int32) (aside : Nat → Int32) (seen : Int32) (seenWord : Nat → Int32) (seenHour : Nat → Int32) (keeps : Int32) (kept : Nat → Int32) (x1 : Int32) (x2 : Int32) {o : Int32 × (Nat → Int32)} (h : jf_M_cutFor N kindOf st x1 x2 = some o) : hk_W p l e jr_M_cutFor s m args below meth c A (hk_Zi below args s D A o.1 (wM cI a text letters mowers cows ricks weathers says words weather kindOf thatch newMowers newCows newRicks newWeathers newSays newWords newWeather newKind newThatch o.2 pasts past aside seen seenWord seenHour keeps kept)) 5 D 0 0 (wM cI a text letters mowers cows ricks weathers says words weather kindOf thatch newMowers newCows newRicks newWeathers newSays newWords newWeather newKind newThatch st pasts past aside seen seenWord seenHour keeps kept) 0 [(0, .ref (a 0)), (1, .int x1), (2, .int x2)] [] := by
  delta jf_M_cutFor at h
  refine hk_aload_n hC jd_M_cutFor_0 0 rfl ?_
  refine hk_get hC jk_M 0 rfl 20 (by decide) jq_718 rfl jd_M_cutFor_1 ?_
  refine hk_bipush (v := 11) hC jd_M_cutFor_4 (by decide) ?_
  refine hk_iload_n hC jd_M_cutFor_6 2 rfl ?_
  refine hk_iadd hC jd_M_cutFor_7 ?_
  have hr1 := xr_in h
  replace h := xr_go h
  refine hk_iald hC 12 rfl hr1 jd_M_cutFor_8 ?_
  obtain ⟨v1, e_v1, h⟩ := xl_go h
  refine hk_istore_n hC (i := 3) (y := v1) (lv2 := [(3, .int v1), (0, .ref (a 0)), (1, .int x1), (2, .int x2)]) jd_M_cutFor_9 rfl e_v1 (by decide) rfl ?_
  refine hk_aload_n hC jd_M_cutFor_10 1 rfl ?_
  refine hk_get hC jk_M 0 rfl 9 (by decide) jq_707 rfl jd_M_cutFor_11 ?_
  refine hk_iload_n hC jd_M_cutFor_14 3 rfl ?_
  have hr2 := xr_in h
  replace h := xr_go h
  refine hk_iald hC 5 rfl hr2 jd_M_cutFor_15 ?_
  refine hk_aload_n hC jd_M_cutFor_16 1 rfl ?_
  refine hk_iload_n hC jd_M_cutFor_17 2 rfl ?_
  obtain ⟨q1, h_q1, h⟩ := xb_go h
  refine hk_callVWi hC (q0 := 0) (jc_M_top l D cI cF N a text letters mowers cows ricks weathers says words weather kindOf thatch newMowers newCows newRicks newWeathers newSays newWords newWeather newKind newThatch st pasts past aside seen seenWord seenHour keeps kept x1 h_q1) jl_M_top rfl rfl jq_883 jq_885 jq0_34 rfl ⟨by decide, by decide⟩ rfl rfl (Nat.le_of_ble_eq_true rfl) ⟨Nat.zero_le _, Nat.zero_le _⟩ jd_M_cutFor_18 ?_
  refine hk_iload_n hC jd_M_cutFor_21 0 rfl ?_
  obtain ⟨q2, h_q2, h⟩ := xb_go h
  refine hk_callS0i hC (jc_M_hears l D cI cF N (kindOf (Int32.toNatClampNeg x2)) q1 v1 h_q2) jl_M_hears jq_887 jq_888 rfl ⟨by decide, by decide⟩ rfl (Nat.le_of_ble_eq_true rfl) ⟨Nat.zero_le _, Nat.zero_le _⟩ jd_M_cutFor_22 ?_
  refine hk_istore hC (i := 4) (y := q2) (lv2 := [(4, .int q2), (3, .int v1), (0, .ref (a 0)), (1, .int x1), (2, .int x2)]) jd_M_cutFor_25 rfl (by decide) rfl ?_
  refine hk_aload_n hC jd_M_cutFor_27 2 rfl ?_
  refine hk_get hC jk_M 0 rfl 20 (by decide) jq_718 rfl jd_M_cutFor_28 ?_
  refine hk_bipush (v := 15) hC jd_M_cutFor_31 (by decide) ?_
  refine hk_iload_n hC jd_M_cutFor_33 3 rfl ?_
  refine hk_iadd hC jd_M_cutFor_34 ?_
  refine hk_dup2 hC jd_M_cutFor_35 rfl rfl ?_
  have hr3 := xr_in h
  replace h := xr_go h
  refine hk_iald hC 12 rfl hr3 jd_M_cutFor_36 ?_
  refine hk_iconst (v := 1) hC jd_M_cutFor_37 (by decide) ?_
  refine hk_isub hC jd_M_cutFor_38 ?_
  have hr4 := xr_in h
  replace h := xr_go h
  obtain ⟨z1, e_z1, h⟩ := xl_go h
  refine hk_iast hC 12 rfl hr4 e_z1 (ws2 := (wM cI a text letters mowers cows ricks weathers says words weather kindOf thatch newMowers newCows newRicks newWeathers newSays newWords newWeather newKind newThatch z1 pasts past aside seen seenWord seenHour keeps kept)) rfl jd_M_cutFor_39 ?_
  refine hk_aload_n hC jd_M_cutFor_40 2 rfl ?_
  refine hk_get hC jk_M 0 rfl 20 (by decide) jq_718 rfl jd_M_cutFor_41 ?_
  refine hk_bipush (v := 11) hC jd_M_cutFor_44 (by decide) ?_
  refine hk_iload_n hC jd_M_cutFor_46 4 rfl ?_
  refine hk_iadd hC jd_M_cutFor_47 ?_
  refine hk_iload_n hC jd_M_cutFor_48 1 rfl ?_
  refine hk_iload hC jd_M_cutFor_49 0 rfl ?_
  refine hk_ior hC jd_M_cutFor_51 ?_
  have hr5 := xr_in h
  replace h := xr_go h
  obtain ⟨z2, e_z2, h⟩ := xl_go h
  refine hk_iast hC 12 rfl hr5 e_z2 (ws2 := (wM cI a text letters mowers cows ricks weathers says words weather kindOf thatch newMowers newCows newRicks newWeathers newSays newWords newWeather newKind newThatch z2 pasts past aside seen seenWord seenHour keeps kept)) rfl jd_M_cutFor_52 ?_
  refine hk_iload hC jd_M_cutFor_53 0 rfl ?_
  refine hk_iload_n hC jd_M_cutFor_55 1 rfl ?_
  refine hk_iconst (v := -1) hC jd_M_cutFor_56 (by decide) ?_
  refine hk_ixor hC jd_M_cutFor_57 ?_
  refine hk_iand hC jd_M_cutFor_58 ?_
  obtain rfl := Option.some.inj h
  exact hk_iret hC hr jd_M_cutFor_59 rfl rfl
theorem jc_M_cutFor (l : Launch) (D : va_G) (cI cF : ClassId) (N : Nat) (a : Nat → Nat)  (text : Nat → Int32) (letters : Int32) (mowers : Int32) (cows : Int32) (ricks : Int32) (weathers : Int32) (says : Nat → Int32) (words : Nat → Int32) (weather : Nat → Int32) (kindOf : Nat → Int32) (thatch : Nat → Int32) (newMowers : Int32) (newCows : Int32) (newRicks : Int32) (newWeathers : Int32) (newSays : Nat → Int32) (newWords : Nat → Int32) (newWeather : Nat → Int32) (newKind : Nat → Int32) (newThatch : Nat → Int32) (st : Nat → Int32) (pasts : Int32) (past : Nat → Int32) (aside : Nat → Int32) (seen : Int32) (seenWord : Nat → Int32) (seenHour : Nat → Int32) (keeps : Int32) (kept : Nat → Int32) (x1 : Int32) (x2 : Int32) {o : Int32 × (Nat → Int32)} (h : jf_M_cutFor N kindOf st x1 x2 = some o) : hk_Mi l jy_M_cutFor jb_M_cutFor 5 (some .int) jr_M_cutFor D cI cF (wM cI a text letters mowers cows ricks weathers says words weather kindOf thatch newMowers newCows newRicks newWeathers newSays newWords newWeather newKind newThatch st pasts past aside seen seenWord seenHour keeps kept) [.ref (a 0), .int x1, .int x2] o.1 (wM cI a text letters mowers cows ricks weathers says words weather kindOf thatch newMowers newCows newRicks newWeathers newSays newWords newWeather newKind newThatch o.2 pasts past aside seen seenWord seenHour keeps kept) :=
  hk_metI (by decide) (Nat.le_of_ble_eq_true rfl) rfl rfl (fun p e s m args below meth c A hC hr => jw_M_cutFor hC hr N a text letters mowers cows ricks weathers says words weather kindOf thatch newMowers newCows newRicks newWeathers newSays newWords newWeather newKind newThatch st pasts past aside seen seenWord seenHour keeps kept x1 x2 h)
set_option maxHeartbeats 8000000 in
set_option maxRecDepth 100000 in
theorem jw_M_cut {p : Program} {l : Launch} {e : Env} {s : State} {m : MethodId} {args : Array Value} {below : List Frame} {meth : Method} {c : Code} {A : Nat → Prop} {D : va_G} {cI cF : ClassId} (hC : hk_ok p s m args meth c A 3 D cI cF "HayTalkModel" jb_M_cut) (hr : meth.sig.returnType = (some .int)) (N : Nat) (a : Nat → Nat)  (text : Nat → Int32) (letters : Int32) (mowers : Int32) (cows : Int32) (ricks : Int32) (weathers : Int32) (says : Nat → Int32) (words : Nat → Int32) (weather : Nat → Int32) (kindOf : Nat → Int32) (thatch : Nat → Int32) (newMowers : Int32) (newCows : Int32) (newRicks : Int32) (newWeathers : Int32) (newSays : Nat → Int32) (newWords : Nat → Int32) (newWeather : Nat → Int32) (newKind : Nat → Int32) (newThatch : Nat → Int32) (st : Nat → Int32) (pasts : Int32) (past : Nat → Int32) (aside : Nat → Int32) (seen : Int32) (seenWord : Nat → Int32) (seenHour : Nat → Int32) (keeps : Int32) (kept : Nat → Int32) (x1 : Int32) (x2 : Int32) {o : Int32 × (Nat → Int32) × Int32 × (Nat → Int32)} (h : jf_M_cut N cows ricks kindOf st pasts past x1 x2 = some o) : hk_W p l e jr_M_cut s m args below meth c A (hk_Zi below args s D A o.1 (wM cI a text letters mowers cows ricks weathers says words weather kindOf thatch newMowers newCows newRicks newWeathers newSays newWords newWeather newKind newThatch o.2.1 o.2.2.1 o.2.2.2 aside seen seenWord seenHour keeps kept)) 3 D 0 0 (wM cI a text letters mowers cows ricks weathers says words weather kindOf thatch newMowers newCows newRicks newWeathers newSays newWords newWeather newKind newThatch st pasts past aside seen seenWord seenHour keeps kept) 0 [(0, .ref (a 0)), (1, .int x1), (2, .int x2)] [] := by
  delta jf_M_cut at h
  refine hk_aload_n hC jd_M_cut_0 0 rfl ?_
  refine hk_iload_n hC jd_M_cut_1 1 rfl ?_
  obtain ⟨q1, h_q1, h⟩ := xb_go h
  refine hk_callVWi hC (q0 := 0) (jc_M_isRick l D cI cF N a text letters mowers cows ricks weathers says words weather kindOf thatch newMowers newCows newRicks newWeathers newSays newWords newWeather newKind newThatch st pasts past aside seen seenWord seenHour keeps kept x1 h_q1) jl_M_isRick rfl rfl jq_822 jq_824 jq0_24 rfl ⟨by decide, by decide⟩ rfl rfl (Nat.le_of_ble_eq_true rfl) ⟨Nat.zero_le _, Nat.zero_le _⟩ jd_M_cut_2 ?_
  refine hk_if_eq (tgt := 16) hC jd_M_cut_5 (by decide) (fun cc1 => ?_) (fun cc1 => ?_)
  · replace h := xi_t h cc1
    refine hk_iconst (v := -1) hC jd_M_cut_16 (by decide) ?_
    obtain rfl := Option.some.inj h
    exact hk_iret hC hr jd_M_cut_17 rfl rfl
  · replace h := xi_f h cc1
    refine hk_aload_n hC jd_M_cut_8 0 rfl ?_
    refine hk_iload_n hC jd_M_cut_9 2 rfl ?_
    obtain ⟨q2, h_q2, h⟩ := xb_go h
    refine hk_callVWi hC (q0 := 0) (jc_M_isCow l D cI cF N a text letters mowers cows ricks weathers says words weather kindOf thatch newMowers newCows newRicks newWeathers newSays newWords newWeather newKind newThatch st pasts past aside seen seenWord seenHour keeps kept x2 h_q2) jl_M_isCow rfl rfl jq_814 jq_816 jq0_23 rfl ⟨by decide, by decide⟩ rfl rfl (Nat.le_of_ble_eq_true rfl) ⟨Nat.zero_le _, Nat.zero_le _⟩ jd_M_cut_10 ?_
    refine hk_if_ne (tgt := 18) hC jd_M_cut_13 (by decide) (fun cc2 => ?_) (fun cc2 => ?_)
    · replace h := xi_f h cc2
      refine hk_aload_n hC jd_M_cut_18 0 rfl ?_
      refine hk_get hC jk_M 0 rfl 20 (by decide) jq_718 rfl jd_M_cut_19 ?_
      refine hk_bipush (v := 15) hC jd_M_cut_22 (by decide) ?_
      refine hk_iload_n hC jd_M_cut_24 1 rfl ?_
      refine hk_iadd hC jd_M_cut_25 ?_
      have hr1 := xr_in h
      replace h := xr_go h
      refine hk_iald hC 12 rfl hr1 jd_M_cut_26 ?_
      refine hk_if_ne (tgt := 33) hC jd_M_cut_27 (by decide) (fun cc3 => ?_) (fun cc3 => ?_)
      · replace h := xi_f h cc3
        refine hk_aload_n hC jd_M_cut_33 0 rfl ?_
        obtain ⟨q3, h_q3, h⟩ := xb_go h
        refine hk_callVWv hC (q0 := 0) (jc_M_note l D cI cF N a text letters mowers cows ricks weathers says words weather kindOf thatch newMowers newCows newRicks newWeathers newSays newWords newWeather newKind newThatch st pasts past aside seen seenWord seenHour keeps kept h_q3) jl_M_note rfl rfl jq_843 jq_845 jq0_26 rfl ⟨by decide, by decide⟩ rfl rfl (Nat.le_of_ble_eq_true rfl) ⟨Nat.zero_le _, Nat.zero_le _⟩ jd_M_cut_34 ?_
        refine hk_aload_n hC jd_M_cut_37 0 rfl ?_
        refine hk_iload_n hC jd_M_cut_38 1 rfl ?_
        refine hk_iload_n hC jd_M_cut_39 2 rfl ?_
        obtain ⟨q4, h_q4, h⟩ := xb_go h
        refine hk_callVWi hC (q0 := 0) (jc_M_cutFor l D cI cF N a text letters mowers cows ricks weathers says words weather kindOf thatch newMowers newCows newRicks newWeathers newSays newWords newWeather newKind newThatch st q3.1 q3.2 aside seen seenWord seenHour keeps kept x1 x2 h_q4) jl_M_cutFor rfl rfl jq_879 jq_881 jq0_33 rfl ⟨by decide, by decide⟩ rfl rfl (Nat.le_of_ble_eq_true rfl) ⟨Nat.zero_le _, Nat.zero_le _⟩ jd_M_cut_40 ?_
        obtain rfl := Option.some.inj h
        exact hk_iret hC hr jd_M_cut_43 rfl rfl
      · replace h := xi_t h cc3
        refine hk_bipush (v := -2) hC jd_M_cut_30 (by decide) ?_
        obtain rfl := Option.some.inj h
        exact hk_iret hC hr jd_M_cut_32 rfl rfl
    · replace h := xi_t h cc2
      refine hk_iconst (v := -1) hC jd_M_cut_16 (by decide) ?_
      obtain rfl := Option.some.inj h
      exact hk_iret hC hr jd_M_cut_17 rfl rfl
theorem jc_M_cut (l : Launch) (D : va_G) (cI cF : ClassId) (N : Nat) (a : Nat → Nat)  (text : Nat → Int32) (letters : Int32) (mowers : Int32) (cows : Int32) (ricks : Int32) (weathers : Int32) (says : Nat → Int32) (words : Nat → Int32) (weather : Nat → Int32) (kindOf : Nat → Int32) (thatch : Nat → Int32) (newMowers : Int32) (newCows : Int32) (newRicks : Int32) (newWeathers : Int32) (newSays : Nat → Int32) (newWords : Nat → Int32) (newWeather : Nat → Int32) (newKind : Nat → Int32) (newThatch : Nat → Int32) (st : Nat → Int32) (pasts : Int32) (past : Nat → Int32) (aside : Nat → Int32) (seen : Int32) (seenWord : Nat → Int32) (seenHour : Nat → Int32) (keeps : Int32) (kept : Nat → Int32) (x1 : Int32) (x2 : Int32) {o : Int32 × (Nat → Int32) × Int32 × (Nat → Int32)} (h : jf_M_cut N cows ricks kindOf st pasts past x1 x2 = some o) : hk_Mi l jy_M_cut jb_M_cut 3 (some .int) jr_M_cut D cI cF (wM cI a text letters mowers cows ricks weathers says words weather kindOf thatch newMowers newCows newRicks newWeathers newSays newWords newWeather newKind newThatch st pasts past aside seen seenWord seenHour keeps kept) [.ref (a 0), .int x1, .int x2] o.1 (wM cI a text letters mowers cows ricks weathers says words weather kindOf thatch newMowers newCows newRicks newWeathers newSays newWords newWeather newKind newThatch o.2.1 o.2.2.1 o.2.2.2 aside seen seenWord seenHour keeps kept) :=
  hk_metI (by decide) (Nat.le_of_ble_eq_true rfl) rfl rfl (fun p e s m args below meth c A hC hr => jw_M_cut hC hr N a text letters mowers cows ricks weathers says words weather kindOf thatch newMowers newCows newRicks newWeathers newSays newWords newWeather newKind newThatch st pasts past aside seen seenWord seenHour keeps kept x1 x2 h)
