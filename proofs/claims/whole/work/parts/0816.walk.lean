set_option maxHeartbeats 8000000 in
set_option maxRecDepth 100000 in
theorem jw_M_back {p : Program} {l : Launch} {e : Env} {s : State} {m : MethodId} {args : Array Value} {below : List Frame} {meth : Method} {c : Code} {A : Nat → Prop} {D : va_G} {cI cF : ClassId} (hC : hk_ok p s m args meth c A 2 D cI cF "HayTalkModel" jb_M_back) (hr : meth.sig.returnType = (some .int)) (N : Nat) (a : Nat → Nat)  (text : Nat → Int32) (letters : Int32) (mowers : Int32) (cows : Int32) (ricks : Int32) (weathers : Int32) (says : Nat → Int32) (words : Nat → Int32) (weather : Nat → Int32) (kindOf : Nat → Int32) (thatch : Nat → Int32) (newMowers : Int32) (newCows : Int32) (newRicks : Int32) (newWeathers : Int32) (newSays : Nat → Int32) (newWords : Nat → Int32) (newWeather : Nat → Int32) (newKind : Nat → Int32) (newThatch : Nat → Int32) (st : Nat → Int32) (pasts : Int32) (past : Nat → Int32) (aside : Nat → Int32) (seen : Int32) (seenWord : Nat → Int32) (seenHour : Nat → Int32) (keeps : Int32) (kept : Nat → Int32)  {o : Int32 × (Nat → Int32) × Int32 × Int32} (h : jf_M_back N st pasts keeps kept = some o) : hk_W p l e jr_M_back s m args below meth c A (hk_Zi below args s D A o.1 (wM cI a text letters mowers cows ricks weathers says words weather kindOf thatch newMowers newCows newRicks newWeathers newSays newWords newWeather newKind newThatch o.2.1 o.2.2.1 past aside seen seenWord seenHour o.2.2.2 kept)) 2 D 0 0 (wM cI a text letters mowers cows ricks weathers says words weather kindOf thatch newMowers newCows newRicks newWeathers newSays newWords newWeather newKind newThatch st pasts past aside seen seenWord seenHour keeps kept) 0 [(0, .ref (a 0))] [] := by
  have B_22 : ∀ (st : Nat → Int32) (pasts : Int32) (keeps : Int32) (kept : Nat → Int32) (x1 : Int32) (kh22 : ((Nat → Int32) × Int32) → Option (Int32 × (Nat → Int32) × Int32 × Int32)) (kx54 : ((Nat → Int32)) → Option (Int32 × (Nat → Int32) × Int32 × Int32)) (ihh22 : ∀ q, kh22 q = some o → hk_W p l e jr_M_back s m args below meth c A (hk_Zi below args s D A o.1 (wM cI a text letters mowers cows ricks weathers says words weather kindOf thatch newMowers newCows newRicks newWeathers newSays newWords newWeather newKind newThatch o.2.1 o.2.2.1 past aside seen seenWord seenHour o.2.2.2 kept)) 2 D 0 0 (wM cI a text letters mowers cows ricks weathers says words weather kindOf thatch newMowers newCows newRicks newWeathers newSays newWords newWeather newKind newThatch q.1 pasts past aside seen seenWord seenHour keeps kept) 22 [(0, .ref (a 0)), (1, .int q.2)] []) (ihx54 : ∀ q, kx54 q = some o → hk_W p l e jr_M_back s m args below meth c A (hk_Zi below args s D A o.1 (wM cI a text letters mowers cows ricks weathers says words weather kindOf thatch newMowers newCows newRicks newWeathers newSays newWords newWeather newKind newThatch o.2.1 o.2.2.1 past aside seen seenWord seenHour o.2.2.2 kept)) 2 D 0 0 (wM cI a text letters mowers cows ricks weathers says words weather kindOf thatch newMowers newCows newRicks newWeathers newSays newWords newWeather newKind newThatch q pasts past aside seen seenWord seenHour keeps kept) 54 [(0, .ref (a 0))] []) (_ : jf_M_back_22B N st pasts keeps kept x1 kh22 kx54 = some o), hk_W p l e jr_M_back s m args below meth c A (hk_Zi below args s D A o.1 (wM cI a text letters mowers cows ricks weathers says words weather kindOf thatch newMowers newCows newRicks newWeathers newSays newWords newWeather newKind newThatch o.2.1 o.2.2.1 past aside seen seenWord seenHour o.2.2.2 kept)) 2 D 0 0 (wM cI a text letters mowers cows ricks weathers says words weather kindOf thatch newMowers newCows newRicks newWeathers newSays newWords newWeather newKind newThatch st pasts past aside seen seenWord seenHour keeps kept) 22 [(0, .ref (a 0)), (1, .int x1)] [] := by
    intro st pasts keeps kept x1 kh22 kx54 ihh22 ihx54 h
    delta jf_M_back_22B at h
    refine hk_iload_n hC jd_M_back_22 1 rfl ?_
    refine hk_bipush (v := 93) hC jd_M_back_23 (by decide) ?_
    refine hk_icmp_ge (tgt := 54) hC jd_M_back_25 (by decide) (fun cc1 => ?_) (fun cc1 => ?_)
    · replace h := xi_t h cc1
      exact hk_lv [0] rfl (ihx54 st h)
    · replace h := xi_f h cc1
      refine hk_aload_n hC jd_M_back_28 0 rfl ?_
      refine hk_get hC jk_M 0 rfl 20 (by decide) jq_718 rfl jd_M_back_29 ?_
      refine hk_iload_n hC jd_M_back_32 1 rfl ?_
      refine hk_aload_n hC jd_M_back_33 0 rfl ?_
      refine hk_get hC jk_M 0 rfl 28 (by decide) jq_726 rfl jd_M_back_34 ?_
      refine hk_bipush (v := 93) hC jd_M_back_37 (by decide) ?_
      refine hk_aload_n hC jd_M_back_39 0 rfl ?_
      refine hk_get hC jk_M 0 rfl 27 (by decide) jq_725 rfl jd_M_back_40 ?_
      refine hk_imul hC jd_M_back_43 ?_
      refine hk_iload_n hC jd_M_back_44 1 rfl ?_
      refine hk_iadd hC jd_M_back_45 ?_
      have hr1 := xr_in h
      replace h := xr_go h
      refine hk_iald hC 17 rfl hr1 jd_M_back_46 ?_
      have hr2 := xr_in h
      replace h := xr_go h
      obtain ⟨z1, e_z1, h⟩ := xl_go h
      refine hk_iast hC 12 rfl hr2 e_z1 (ws2 := (wM cI a text letters mowers cows ricks weathers says words weather kindOf thatch newMowers newCows newRicks newWeathers newSays newWords newWeather newKind newThatch z1 pasts past aside seen seenWord seenHour keeps kept)) rfl jd_M_back_47 ?_
      obtain ⟨v1, e_v1, h⟩ := xl_go h
      refine hk_iinc hC (lv2 := [(1, .int v1), (0, .ref (a 0))]) jd_M_back_48 1 rfl e_v1 (by decide) rfl ?_
      refine hk_goto (tgt := 22) hC jd_M_back_51 (by decide) ?_
      exact hk_lv [1, 0] rfl (ihh22 (z1, v1) h)
  have L_22 : ∀ (st : Nat → Int32) (pasts : Int32) (keeps : Int32) (kept : Nat → Int32) (x1 : Int32) (kx54 : ((Nat → Int32)) → Option (Int32 × (Nat → Int32) × Int32 × Int32)) (ihx54 : ∀ q, kx54 q = some o → hk_W p l e jr_M_back s m args below meth c A (hk_Zi below args s D A o.1 (wM cI a text letters mowers cows ricks weathers says words weather kindOf thatch newMowers newCows newRicks newWeathers newSays newWords newWeather newKind newThatch o.2.1 o.2.2.1 past aside seen seenWord seenHour o.2.2.2 kept)) 2 D 0 0 (wM cI a text letters mowers cows ricks weathers says words weather kindOf thatch newMowers newCows newRicks newWeathers newSays newWords newWeather newKind newThatch q pasts past aside seen seenWord seenHour keeps kept) 54 [(0, .ref (a 0))] []) (_ : jf_M_back_22 N st pasts keeps kept x1 kx54 = some o), hk_W p l e jr_M_back s m args below meth c A (hk_Zi below args s D A o.1 (wM cI a text letters mowers cows ricks weathers says words weather kindOf thatch newMowers newCows newRicks newWeathers newSays newWords newWeather newKind newThatch o.2.1 o.2.2.1 past aside seen seenWord seenHour o.2.2.2 kept)) 2 D 0 0 (wM cI a text letters mowers cows ricks weathers says words weather kindOf thatch newMowers newCows newRicks newWeathers newSays newWords newWeather newKind newThatch st pasts past aside seen seenWord seenHour keeps kept) 22 [(0, .ref (a 0)), (1, .int x1)] [] := by
    intro st pasts keeps kept x1 kx54 ihx54 h
    exact xloopW (fun (q : (Nat → Int32) × Int32) => hk_W p l e jr_M_back s m args below meth c A (hk_Zi below args s D A o.1 (wM cI a text letters mowers cows ricks weathers says words weather kindOf thatch newMowers newCows newRicks newWeathers newSays newWords newWeather newKind newThatch o.2.1 o.2.2.1 past aside seen seenWord seenHour o.2.2.2 kept)) 2 D 0 0 (wM cI a text letters mowers cows ricks weathers says words weather kindOf thatch newMowers newCows newRicks newWeathers newSays newWords newWeather newKind newThatch q.1 pasts past aside seen seenWord seenHour keeps kept) 22 [(0, .ref (a 0)), (1, .int q.2)] []) (fun kh ih q h => B_22 q.1 pasts keeps kept q.2 kh kx54 ih ihx54 h) N (st, x1) h
  have B_54 : ∀ (st : Nat → Int32) (pasts : Int32) (keeps : Int32) (kept : Nat → Int32)   (_ : jf_M_back_54 N st pasts keeps kept  = some o), hk_W p l e jr_M_back s m args below meth c A (hk_Zi below args s D A o.1 (wM cI a text letters mowers cows ricks weathers says words weather kindOf thatch newMowers newCows newRicks newWeathers newSays newWords newWeather newKind newThatch o.2.1 o.2.2.1 past aside seen seenWord seenHour o.2.2.2 kept)) 2 D 0 0 (wM cI a text letters mowers cows ricks weathers says words weather kindOf thatch newMowers newCows newRicks newWeathers newSays newWords newWeather newKind newThatch st pasts past aside seen seenWord seenHour keeps kept) 54 [(0, .ref (a 0))] [] := by
    intro st pasts keeps kept   h
    delta jf_M_back_54 at h
    refine hk_aload_n hC jd_M_back_54 0 rfl ?_
    refine hk_iconst (v := 0) hC jd_M_back_55 (by decide) ?_
    refine hk_put hC jk_M 0 rfl 21 (by decide) jq_719 rfl rfl rfl (Nat.le_of_ble_eq_true rfl) (ws2 := (wM cI a text letters mowers cows ricks weathers says words weather kindOf thatch newMowers newCows newRicks newWeathers newSays newWords newWeather newKind newThatch st (0 : Int32) past aside seen seenWord seenHour keeps kept)) rfl jd_M_back_56 ?_
    refine hk_aload_n hC jd_M_back_59 0 rfl ?_
    refine hk_get hC jk_M 0 rfl 27 (by decide) jq_725 rfl jd_M_back_60 ?_
    obtain rfl := Option.some.inj h
    exact hk_iret hC hr jd_M_back_63 rfl rfl
  delta jf_M_back at h
  refine hk_aload_n hC jd_M_back_0 0 rfl ?_
  refine hk_get hC jk_M 0 rfl 27 (by decide) jq_725 rfl jd_M_back_1 ?_
  refine hk_if_ne (tgt := 10) hC jd_M_back_4 (by decide) (fun cc1 => ?_) (fun cc1 => ?_)
  · replace h := xi_f h cc1
    refine hk_aload_n hC jd_M_back_10 0 rfl ?_
    refine hk_dup hC jd_M_back_11 rfl ?_
    refine hk_get hC jk_M 0 rfl 27 (by decide) jq_725 rfl jd_M_back_12 ?_
    refine hk_iconst (v := 1) hC jd_M_back_15 (by decide) ?_
    refine hk_isub hC jd_M_back_16 ?_
    obtain ⟨v1, e_v1, h⟩ := xl_go h
    refine hk_topi e_v1 ?_
    refine hk_put hC jk_M 0 rfl 27 (by decide) jq_725 rfl rfl rfl (Nat.le_of_ble_eq_true rfl) (ws2 := (wM cI a text letters mowers cows ricks weathers says words weather kindOf thatch newMowers newCows newRicks newWeathers newSays newWords newWeather newKind newThatch st pasts past aside seen seenWord seenHour v1 kept)) rfl jd_M_back_17 ?_
    refine hk_iconst (v := 0) hC jd_M_back_20 (by decide) ?_
    refine hk_istore_n hC (i := 1) (y := (0 : Int32)) (lv2 := [(1, .int (0 : Int32)), (0, .ref (a 0))]) jd_M_back_21 rfl rfl (by decide) rfl ?_
    exact hk_lv [1, 0] rfl (L_22 st pasts v1 kept (0 : Int32) _ (fun q1 h => by exact (B_54 q1 pasts v1 kept   h)) h)
  · replace h := xi_t h cc1
    refine hk_bipush (v := -2) hC jd_M_back_7 (by decide) ?_
    obtain rfl := Option.some.inj h
    exact hk_iret hC hr jd_M_back_9 rfl rfl
theorem jc_M_back (l : Launch) (D : va_G) (cI cF : ClassId) (N : Nat) (a : Nat → Nat)  (text : Nat → Int32) (letters : Int32) (mowers : Int32) (cows : Int32) (ricks : Int32) (weathers : Int32) (says : Nat → Int32) (words : Nat → Int32) (weather : Nat → Int32) (kindOf : Nat → Int32) (thatch : Nat → Int32) (newMowers : Int32) (newCows : Int32) (newRicks : Int32) (newWeathers : Int32) (newSays : Nat → Int32) (newWords : Nat → Int32) (newWeather : Nat → Int32) (newKind : Nat → Int32) (newThatch : Nat → Int32) (st : Nat → Int32) (pasts : Int32) (past : Nat → Int32) (aside : Nat → Int32) (seen : Int32) (seenWord : Nat → Int32) (seenHour : Nat → Int32) (keeps : Int32) (kept : Nat → Int32)  {o : Int32 × (Nat → Int32) × Int32 × Int32} (h : jf_M_back N st pasts keeps kept = some o) : hk_Mi l jy_M_back jb_M_back 2 (some .int) jr_M_back D cI cF (wM cI a text letters mowers cows ricks weathers says words weather kindOf thatch newMowers newCows newRicks newWeathers newSays newWords newWeather newKind newThatch st pasts past aside seen seenWord seenHour keeps kept) [.ref (a 0)] o.1 (wM cI a text letters mowers cows ricks weathers says words weather kindOf thatch newMowers newCows newRicks newWeathers newSays newWords newWeather newKind newThatch o.2.1 o.2.2.1 past aside seen seenWord seenHour o.2.2.2 kept) :=
  hk_metI (by decide) (Nat.le_of_ble_eq_true rfl) rfl rfl (fun p e s m args below meth c A hC hr => jw_M_back hC hr N a text letters mowers cows ricks weathers says words weather kindOf thatch newMowers newCows newRicks newWeathers newSays newWords newWeather newKind newThatch st pasts past aside seen seenWord seenHour keeps kept h)
set_option maxHeartbeats 8000000 in
set_option maxRecDepth 100000 in
theorem jw_M_count {p : Program} {l : Launch} {e : Env} {s : State} {m : MethodId} {args : Array Value} {below : List Frame} {meth : Method} {c : Code} {A : Nat → Prop} {D : va_G} {cI cF : ClassId} (hC : hk_ok p s m args meth c A 2 D cI cF "HayTalkModel" jb_M_count) (hr : meth.sig.returnType = (some .int)) (N : Nat) (a : Nat → Nat)  (text : Nat → Int32) (letters : Int32) (mowers : Int32) (cows : Int32) (ricks : Int32) (weathers : Int32) (says : Nat → Int32) (words : Nat → Int32) (weather : Nat → Int32) (kindOf : Nat → Int32) (thatch : Nat → Int32) (newMowers : Int32) (newCows : Int32) (newRicks : Int32) (newWeathers : Int32) (newSays : Nat → Int32) (newWords : Nat → Int32) (newWeather : Nat → Int32) (newKind : Nat → Int32) (newThatch : Nat → Int32) (st : Nat → Int32) (pasts : Int32) (past : Nat → Int32) (aside : Nat → Int32) (seen : Int32) (seenWord : Nat → Int32) (seenHour : Nat → Int32) (keeps : Int32) (kept : Nat → Int32) (x1 : Int32) {o : Int32} (h : jf_M_count N letters mowers cows ricks st pasts seen keeps x1 = some o) : hk_W p l e jr_M_count s m args below meth c A (hk_Zi below args s D A o (wM cI a text letters mowers cows ricks weathers says words weather kindOf thatch newMowers newCows newRicks newWeathers newSays newWords newWeather newKind newThatch st pasts past aside seen seenWord seenHour keeps kept)) 2 D 0 0 (wM cI a text letters mowers cows ricks weathers says words weather kindOf thatch newMowers newCows newRicks newWeathers newSays newWords newWeather newKind newThatch st pasts past aside seen seenWord seenHour keeps kept) 0 [(0, .ref (a 0)), (1, .int x1)] [] := by
  delta jf_M_count at h
  refine hk_iload_n hC jd_M_count_0 1 rfl ?_
  by_cases cc1 : x1 = (0 : Int32)
  · replace h := xi_t h cc1
    refine hk_tabIn (tgt := 60) (off := 59) hC jd_M_count_1 (by rw [cc1]; decide) (by rw [cc1]; decide) (by rw [cc1]; rfl) (by decide) ?_
    refine hk_aload_n hC jd_M_count_60 0 rfl ?_
    refine hk_get hC jk_M 0 rfl 2 (by decide) jq_700 rfl jd_M_count_61 ?_
    obtain rfl := Option.some.inj h
    exact hk_iret hC hr jd_M_count_64 rfl rfl
  · replace h := xi_f h cc1
    by_cases cc2 : x1 = (1 : Int32)
    · replace h := xi_t h cc2
      refine hk_tabIn (tgt := 65) (off := 64) hC jd_M_count_1 (by rw [cc2]; decide) (by rw [cc2]; decide) (by rw [cc2]; rfl) (by decide) ?_
      refine hk_aload_n hC jd_M_count_65 0 rfl ?_
      refine hk_get hC jk_M 0 rfl 3 (by decide) jq_701 rfl jd_M_count_66 ?_
      obtain rfl := Option.some.inj h
      exact hk_iret hC hr jd_M_count_69 rfl rfl
    · replace h := xi_f h cc2
      by_cases cc3 : x1 = (2 : Int32)
      · replace h := xi_t h cc3
        refine hk_tabIn (tgt := 70) (off := 69) hC jd_M_count_1 (by rw [cc3]; decide) (by rw [cc3]; decide) (by rw [cc3]; rfl) (by decide) ?_
        refine hk_aload_n hC jd_M_count_70 0 rfl ?_
        refine hk_get hC jk_M 0 rfl 4 (by decide) jq_702 rfl jd_M_count_71 ?_
        obtain rfl := Option.some.inj h
        exact hk_iret hC hr jd_M_count_74 rfl rfl
      · replace h := xi_f h cc3
        by_cases cc4 : x1 = (3 : Int32)
        · replace h := xi_t h cc4
          refine hk_tabIn (tgt := 75) (off := 74) hC jd_M_count_1 (by rw [cc4]; decide) (by rw [cc4]; decide) (by rw [cc4]; rfl) (by decide) ?_
          refine hk_aload_n hC jd_M_count_75 0 rfl ?_
          refine hk_get hC jk_M 0 rfl 20 (by decide) jq_718 rfl jd_M_count_76 ?_
          refine hk_iconst (v := 0) hC jd_M_count_79 (by decide) ?_
          have hr1 := xr_in h
          replace h := xr_go h
          refine hk_iald hC 12 rfl hr1 jd_M_count_80 ?_
          obtain rfl := Option.some.inj h
          exact hk_iret hC hr jd_M_count_81 rfl rfl
        · replace h := xi_f h cc4
          by_cases cc5 : x1 = (4 : Int32)
          · replace h := xi_t h cc5
            refine hk_tabIn (tgt := 82) (off := 81) hC jd_M_count_1 (by rw [cc5]; decide) (by rw [cc5]; decide) (by rw [cc5]; rfl) (by decide) ?_
            refine hk_aload_n hC jd_M_count_82 0 rfl ?_
            refine hk_bipush (v := 15) hC jd_M_count_83 (by decide) ?_
            refine hk_iconst (v := 3) hC jd_M_count_85 (by decide) ?_
            obtain ⟨q1, h_q1, h⟩ := xb_go h
            refine hk_callVWi hC (q0 := 0) (jc_M_allOf l D cI cF N a text letters mowers cows ricks weathers says words weather kindOf thatch newMowers newCows newRicks newWeathers newSays newWords newWeather newKind newThatch st pasts past aside seen seenWord seenHour keeps kept (15 : Int32) (3 : Int32) h_q1) jl_M_allOf rfl rfl jq_974 jq_976 jq0_37 rfl ⟨by decide, by decide⟩ rfl rfl (Nat.le_of_ble_eq_true rfl) ⟨Nat.zero_le _, Nat.zero_le _⟩ jd_M_count_86 ?_
            obtain rfl := Option.some.inj h
            exact hk_iret hC hr jd_M_count_89 rfl rfl
          · replace h := xi_f h cc5
            by_cases cc6 : x1 = (5 : Int32)
            · replace h := xi_t h cc6
              refine hk_tabIn (tgt := 90) (off := 89) hC jd_M_count_1 (by rw [cc6]; decide) (by rw [cc6]; decide) (by rw [cc6]; rfl) (by decide) ?_
              refine hk_aload_n hC jd_M_count_90 0 rfl ?_
              refine hk_bipush (v := 18) hC jd_M_count_91 (by decide) ?_
              refine hk_iconst (v := 3) hC jd_M_count_93 (by decide) ?_
              obtain ⟨q2, h_q2, h⟩ := xb_go h
              refine hk_callVWi hC (q0 := 0) (jc_M_allOf l D cI cF N a text letters mowers cows ricks weathers says words weather kindOf thatch newMowers newCows newRicks newWeathers newSays newWords newWeather newKind newThatch st pasts past aside seen seenWord seenHour keeps kept (18 : Int32) (3 : Int32) h_q2) jl_M_allOf rfl rfl jq_974 jq_976 jq0_37 rfl ⟨by decide, by decide⟩ rfl rfl (Nat.le_of_ble_eq_true rfl) ⟨Nat.zero_le _, Nat.zero_le _⟩ jd_M_count_94 ?_
              obtain rfl := Option.some.inj h
              exact hk_iret hC hr jd_M_count_97 rfl rfl
            · replace h := xi_f h cc6
              by_cases cc7 : x1 = (6 : Int32)
              · replace h := xi_t h cc7
                refine hk_tabIn (tgt := 98) (off := 97) hC jd_M_count_1 (by rw [cc7]; decide) (by rw [cc7]; decide) (by rw [cc7]; rfl) (by decide) ?_
                refine hk_aload_n hC jd_M_count_98 0 rfl ?_
                obtain ⟨q3, h_q3, h⟩ := xb_go h
                refine hk_callVWi hC (q0 := 0) (jc_M_allTold l D cI cF N a text letters mowers cows ricks weathers says words weather kindOf thatch newMowers newCows newRicks newWeathers newSays newWords newWeather newKind newThatch st pasts past aside seen seenWord seenHour keeps kept h_q3) jl_M_allTold rfl rfl jq_985 jq_987 jq0_39 rfl ⟨by decide, by decide⟩ rfl rfl (Nat.le_of_ble_eq_true rfl) ⟨Nat.zero_le _, Nat.zero_le _⟩ jd_M_count_99 ?_
                obtain rfl := Option.some.inj h
                exact hk_iret hC hr jd_M_count_102 rfl rfl
              · replace h := xi_f h cc7
                by_cases cc8 : x1 = (7 : Int32)
                · replace h := xi_t h cc8
                  refine hk_tabIn (tgt := 103) (off := 102) hC jd_M_count_1 (by rw [cc8]; decide) (by rw [cc8]; decide) (by rw [cc8]; rfl) (by decide) ?_
                  refine hk_aload_n hC jd_M_count_103 0 rfl ?_
                  refine hk_get hC jk_M 0 rfl 24 (by decide) jq_722 rfl jd_M_count_104 ?_
                  obtain rfl := Option.some.inj h
                  exact hk_iret hC hr jd_M_count_107 rfl rfl
                · replace h := xi_f h cc8
                  by_cases cc9 : x1 = (8 : Int32)
                  · replace h := xi_t h cc9
                    refine hk_tabIn (tgt := 108) (off := 107) hC jd_M_count_1 (by rw [cc9]; decide) (by rw [cc9]; decide) (by rw [cc9]; rfl) (by decide) ?_
                    refine hk_aload_n hC jd_M_count_108 0 rfl ?_
                    refine hk_get hC jk_M 0 rfl 21 (by decide) jq_719 rfl jd_M_count_109 ?_
                    obtain rfl := Option.some.inj h
                    exact hk_iret hC hr jd_M_count_112 rfl rfl
                  · replace h := xi_f h cc9
                    by_cases cc10 : x1 = (9 : Int32)
                    · replace h := xi_t h cc10
                      refine hk_tabIn (tgt := 113) (off := 112) hC jd_M_count_1 (by rw [cc10]; decide) (by rw [cc10]; decide) (by rw [cc10]; rfl) (by decide) ?_
                      refine hk_aload_n hC jd_M_count_113 0 rfl ?_
                      refine hk_get hC jk_M 0 rfl 27 (by decide) jq_725 rfl jd_M_count_114 ?_
                      obtain rfl := Option.some.inj h
                      exact hk_iret hC hr jd_M_count_117 rfl rfl
                    · replace h := xi_f h cc10
                      by_cases cc11 : x1 = (10 : Int32)
                      · replace h := xi_t h cc11
                        refine hk_tabIn (tgt := 118) (off := 117) hC jd_M_count_1 (by rw [cc11]; decide) (by rw [cc11]; decide) (by rw [cc11]; rfl) (by decide) ?_
                        refine hk_aload_n hC jd_M_count_118 0 rfl ?_
                        refine hk_get hC jk_M 0 rfl 1 (by decide) jq_699 rfl jd_M_count_119 ?_
                        obtain rfl := Option.some.inj h
                        exact hk_iret hC hr jd_M_count_122 rfl rfl
                      · replace h := xi_f h cc11
                        refine hk_tabOut (tgt := 123) hC jd_M_count_1 (hk_tabX 11 (by decide) rfl (lt_s (lt_s (lt_s (lt_s (lt_s (lt_s (lt_s (lt_s (lt_s (lt_s (lt_s lt_0 cc1) cc2) cc3) cc4) cc5) cc6) cc7) cc8) cc9) cc10) cc11)) (by decide) ?_
                        refine hk_iconst (v := -1) hC jd_M_count_123 (by decide) ?_
                        obtain rfl := Option.some.inj h
                        exact hk_iret hC hr jd_M_count_124 rfl rfl
theorem jc_M_count (l : Launch) (D : va_G) (cI cF : ClassId) (N : Nat) (a : Nat → Nat)  (text : Nat → Int32) (letters : Int32) (mowers : Int32) (cows : Int32) (ricks : Int32) (weathers : Int32) (says : Nat → Int32) (words : Nat → Int32) (weather : Nat → Int32) (kindOf : Nat → Int32) (thatch : Nat → Int32) (newMowers : Int32) (newCows : Int32) (newRicks : Int32) (newWeathers : Int32) (newSays : Nat → Int32) (newWords : Nat → Int32) (newWeather : Nat → Int32) (newKind : Nat → Int32) (newThatch : Nat → Int32) (st : Nat → Int32) (pasts : Int32) (past : Nat → Int32) (aside : Nat → Int32) (seen : Int32) (seenWord : Nat → Int32) (seenHour : Nat → Int32) (keeps : Int32) (kept : Nat → Int32) (x1 : Int32) {o : Int32} (h : jf_M_count N letters mowers cows ricks st pasts seen keeps x1 = some o) : hk_Mi l jy_M_count jb_M_count 2 (some .int) jr_M_count D cI cF (wM cI a text letters mowers cows ricks weathers says words weather kindOf thatch newMowers newCows newRicks newWeathers newSays newWords newWeather newKind newThatch st pasts past aside seen seenWord seenHour keeps kept) [.ref (a 0), .int x1] o (wM cI a text letters mowers cows ricks weathers says words weather kindOf thatch newMowers newCows newRicks newWeathers newSays newWords newWeather newKind newThatch st pasts past aside seen seenWord seenHour keeps kept) :=
  hk_metI (by decide) (Nat.le_of_ble_eq_true rfl) rfl rfl (fun p e s m args below meth c A hC hr => jw_M_count hC hr N a text letters mowers cows ricks weathers says words weather kindOf thatch newMowers newCows newRicks newWeathers newSays newWords newWeather newKind newThatch st pasts past aside seen seenWord seenHour keeps kept x1 h)
