set_option maxHeartbeats 8000000 in
set_option maxRecDepth 100000 in
theorem jw_M_draw {p : Program} {l : Launch} {e : Env} {s : State} {m : MethodId} {args : Array Value} {below : List Frame} {meth : Method} {c : Code} {A : Nat → Prop} {D : va_G} {cI cF : ClassId} (hC : hk_ok p s m args meth c A 5 D cI cF "HayTalkModel" jb_M_draw) (hr : meth.sig.returnType = none) (N : Nat) (a : Nat → Nat)  (text : Nat → Int32) (letters : Int32) (mowers : Int32) (cows : Int32) (ricks : Int32) (weathers : Int32) (says : Nat → Int32) (words : Nat → Int32) (weather : Nat → Int32) (kindOf : Nat → Int32) (thatch : Nat → Int32) (newMowers : Int32) (newCows : Int32) (newRicks : Int32) (newWeathers : Int32) (newSays : Nat → Int32) (newWords : Nat → Int32) (newWeather : Nat → Int32) (newKind : Nat → Int32) (newThatch : Nat → Int32) (st : Nat → Int32) (pasts : Int32) (past : Nat → Int32) (aside : Nat → Int32) (seen : Int32) (seenWord : Nat → Int32) (seenHour : Nat → Int32) (keeps : Int32) (kept : Nat → Int32) (x1 : Int32) {o : (Nat → Int32)} (h : jf_M_draw N mowers cows ricks kindOf st x1 = some o) : hk_W p l e jr_M_draw s m args below meth c A (hk_Zv below args s D A (wM cI a text letters mowers cows ricks weathers says words weather kindOf thatch newMowers newCows newRicks newWeathers newSays newWords newWeather newKind newThatch o pasts past aside seen seenWord seenHour keeps kept)) 5 D 0 0 (wM cI a text letters mowers cows ricks weathers says words weather kindOf thatch newMowers newCows newRicks newWeathers newSays newWords newWeather newKind newThatch st pasts past aside seen seenWord seenHour keeps kept) 0 [(0, .ref (a 0)), (1, .int x1)] [] := by
  have B_106 : ∀ (mowers : Int32) (cows : Int32) (ricks : Int32) (kindOf : Nat → Int32) (st : Nat → Int32) (x2 : Int32) (x4 : Int32)   (_ : jf_M_draw_106 N mowers cows ricks kindOf st x2 x4  = some o), hk_W p l e jr_M_draw s m args below meth c A (hk_Zv below args s D A (wM cI a text letters mowers cows ricks weathers says words weather kindOf thatch newMowers newCows newRicks newWeathers newSays newWords newWeather newKind newThatch o pasts past aside seen seenWord seenHour keeps kept)) 5 D 0 0 (wM cI a text letters mowers cows ricks weathers says words weather kindOf thatch newMowers newCows newRicks newWeathers newSays newWords newWeather newKind newThatch st pasts past aside seen seenWord seenHour keeps kept) 106 [(0, .ref (a 0)), (2, .int x2), (4, .int x4)] [] := by
    intro mowers cows ricks kindOf st x2 x4   h
    delta jf_M_draw_106 at h
    refine hk_iload_n hC jd_M_draw_106 1 rfl ?_
    refine hk_iconst (v := 4) hC jd_M_draw_107 (by decide) ?_
    refine hk_icmp_ne (tgt := 122) hC jd_M_draw_108 (by decide) (fun cc1 => ?_) (fun cc1 => ?_)
    · replace h := xi_f h cc1
      obtain rfl := Option.some.inj h
      exact hk_vret hC hr jd_M_draw_122 rfl
    · replace h := xi_t h cc1
      refine hk_aload_n hC jd_M_draw_111 0 rfl ?_
      refine hk_get hC jk_M 0 rfl 20 (by decide) jq_718 rfl jd_M_draw_112 ?_
      refine hk_bipush (v := 6) hC jd_M_draw_115 (by decide) ?_
      refine hk_iload hC jd_M_draw_117 2 rfl ?_
      refine hk_iadd hC jd_M_draw_119 ?_
      refine hk_iconst (v := 0) hC jd_M_draw_120 (by decide) ?_
      have hr1 := xr_in h
      replace h := xr_go h
      obtain ⟨z1, e_z1, h⟩ := xl_go h
      refine hk_iast hC 12 rfl hr1 e_z1 (ws2 := (wM cI a text letters mowers cows ricks weathers says words weather kindOf thatch newMowers newCows newRicks newWeathers newSays newWords newWeather newKind newThatch z1 pasts past aside seen seenWord seenHour keeps kept)) rfl jd_M_draw_121 ?_
      obtain rfl := Option.some.inj h
      exact hk_vret hC hr jd_M_draw_122 rfl
  have B_76 : ∀ (mowers : Int32) (cows : Int32) (ricks : Int32) (kindOf : Nat → Int32) (st : Nat → Int32) (x1 : Int32) (x2 : Int32) (x3 : Int32) (x4 : Int32)   (_ : jf_M_draw_76 N mowers cows ricks kindOf st x1 x2 x3 x4  = some o), hk_W p l e jr_M_draw s m args below meth c A (hk_Zv below args s D A (wM cI a text letters mowers cows ricks weathers says words weather kindOf thatch newMowers newCows newRicks newWeathers newSays newWords newWeather newKind newThatch o pasts past aside seen seenWord seenHour keeps kept)) 5 D 0 0 (wM cI a text letters mowers cows ricks weathers says words weather kindOf thatch newMowers newCows newRicks newWeathers newSays newWords newWeather newKind newThatch st pasts past aside seen seenWord seenHour keeps kept) 76 [(0, .ref (a 0)), (1, .int x1), (2, .int x2), (3, .int x3), (4, .int x4)] [] := by
    intro mowers cows ricks kindOf st x1 x2 x3 x4   h
    delta jf_M_draw_76 at h
    refine hk_aload_n hC jd_M_draw_76 0 rfl ?_
    refine hk_get hC jk_M 0 rfl 20 (by decide) jq_718 rfl jd_M_draw_77 ?_
    refine hk_bipush (v := 15) hC jd_M_draw_80 (by decide) ?_
    refine hk_iload_n hC jd_M_draw_82 3 rfl ?_
    refine hk_iadd hC jd_M_draw_83 ?_
    have hr1 := xr_in h
    replace h := xr_go h
    refine hk_iald hC 12 rfl hr1 jd_M_draw_84 ?_
    refine hk_if_le (tgt := 106) hC jd_M_draw_85 (by decide) (fun cc1 => ?_) (fun cc1 => ?_)
    · replace h := xi_t h cc1
      exact hk_lv [0, 2, 4] rfl (B_106 mowers cows ricks kindOf st x2 x4   h)
    · replace h := xi_f h cc1
      refine hk_aload_n hC jd_M_draw_88 0 rfl ?_
      refine hk_iload_n hC jd_M_draw_89 3 rfl ?_
      refine hk_iload_n hC jd_M_draw_90 1 rfl ?_
      refine hk_bipush (v := 8) hC jd_M_draw_91 (by decide) ?_
      refine hk_idiv hC jd_M_draw_93 (by decide) ?_
      refine hk_aload_n hC jd_M_draw_94 0 rfl ?_
      refine hk_get hC jk_M 0 rfl 3 (by decide) jq_701 rfl jd_M_draw_95 ?_
      have hz1 := xz_in h
      replace h := xz_go h
      refine hk_irem hC jd_M_draw_98 hz1 ?_
      obtain ⟨q1, h_q1, h⟩ := xb_go h
      refine hk_callVWi hC (q0 := 0) (jc_M_cutFor l D cI cF N a text letters mowers cows ricks weathers says words weather kindOf thatch newMowers newCows newRicks newWeathers newSays newWords newWeather newKind newThatch st pasts past aside seen seenWord seenHour keeps kept x3 ((x1 / (8 : Int32)) - (x1 / (8 : Int32)) / cows * cows) h_q1) jl_M_cutFor rfl rfl jq_879 jq_881 jq0_33 rfl ⟨by decide, by decide⟩ rfl rfl (Nat.le_of_ble_eq_true rfl) ⟨Nat.zero_le _, Nat.zero_le _⟩ jd_M_draw_99 ?_
      refine hk_pop hC jd_M_draw_102 rfl ?_
      refine hk_goto (tgt := 122) hC jd_M_draw_103 (by decide) ?_
      obtain rfl := Option.some.inj h
      exact hk_vret hC hr jd_M_draw_122 rfl
  have B_66 : ∀ (mowers : Int32) (cows : Int32) (ricks : Int32) (kindOf : Nat → Int32) (st : Nat → Int32) (x1 : Int32) (x2 : Int32) (x3 : Int32) (x4 : Int32)   (_ : jf_M_draw_66 N mowers cows ricks kindOf st x1 x2 x3 x4  = some o), hk_W p l e jr_M_draw s m args below meth c A (hk_Zv below args s D A (wM cI a text letters mowers cows ricks weathers says words weather kindOf thatch newMowers newCows newRicks newWeathers newSays newWords newWeather newKind newThatch o pasts past aside seen seenWord seenHour keeps kept)) 5 D 0 0 (wM cI a text letters mowers cows ricks weathers says words weather kindOf thatch newMowers newCows newRicks newWeathers newSays newWords newWeather newKind newThatch st pasts past aside seen seenWord seenHour keeps kept) 66 [(0, .ref (a 0)), (1, .int x1), (2, .int x2), (3, .int x3), (4, .int x4)] [] := by
    intro mowers cows ricks kindOf st x1 x2 x3 x4   h
    delta jf_M_draw_66 at h
    refine hk_iload_n hC jd_M_draw_66 2 rfl ?_
    refine hk_iconst (v := 2) hC jd_M_draw_67 (by decide) ?_
    refine hk_icmp_eq (tgt := 76) hC jd_M_draw_68 (by decide) (fun cc1 => ?_) (fun cc1 => ?_)
    · replace h := xi_t h cc1
      exact (B_76 mowers cows ricks kindOf st x1 x2 x3 x4   h)
    · replace h := xi_f h cc1
      refine hk_iload_n hC jd_M_draw_71 2 rfl ?_
      refine hk_iconst (v := 3) hC jd_M_draw_72 (by decide) ?_
      refine hk_icmp_ne (tgt := 106) hC jd_M_draw_73 (by decide) (fun cc2 => ?_) (fun cc2 => ?_)
      · replace h := xi_f h cc2
        exact hk_lv [0, 2, 4] rfl (B_106 mowers cows ricks kindOf st x2 x4   h)
      · replace h := xi_t h cc2
        exact (B_76 mowers cows ricks kindOf st x1 x2 x3 x4   h)
  delta jf_M_draw at h
  refine hk_iload_n hC jd_M_draw_0 1 rfl ?_
  refine hk_bipush (v := 8) hC jd_M_draw_1 (by decide) ?_
  refine hk_irem hC jd_M_draw_3 (by decide) ?_
  obtain ⟨v1, e_v1, h⟩ := xl_go h
  refine hk_istore_n hC (i := 2) (y := v1) (lv2 := [(2, .int v1), (0, .ref (a 0)), (1, .int x1)]) jd_M_draw_4 rfl e_v1 (by decide) rfl ?_
  refine hk_iload_n hC jd_M_draw_5 2 rfl ?_
  refine hk_bipush (v := 64) hC jd_M_draw_6 (by decide) ?_
  refine hk_idiv hC jd_M_draw_8 (by decide) ?_
  refine hk_aload_n hC jd_M_draw_9 1 rfl ?_
  refine hk_get hC jk_M 0 rfl 4 (by decide) jq_702 rfl jd_M_draw_10 ?_
  have hz1 := xz_in h
  replace h := xz_go h
  refine hk_irem hC jd_M_draw_13 hz1 ?_
  obtain ⟨v2, e_v2, h⟩ := xl_go h
  refine hk_istore_n hC (i := 3) (y := v2) (lv2 := [(3, .int v2), (2, .int v1), (0, .ref (a 0)), (1, .int x1)]) jd_M_draw_14 rfl e_v2 (by decide) rfl ?_
  refine hk_iload_n hC jd_M_draw_15 3 rfl ?_
  refine hk_bipush (v := 8) hC jd_M_draw_16 (by decide) ?_
  refine hk_idiv hC jd_M_draw_18 (by decide) ?_
  refine hk_aload_n hC jd_M_draw_19 2 rfl ?_
  refine hk_get hC jk_M 0 rfl 2 (by decide) jq_700 rfl jd_M_draw_20 ?_
  have hz2 := xz_in h
  replace h := xz_go h
  refine hk_irem hC jd_M_draw_23 hz2 ?_
  obtain ⟨v3, e_v3, h⟩ := xl_go h
  refine hk_istore hC (i := 4) (y := v3) (lv2 := [(4, .int v3), (3, .int v2), (2, .int v1), (0, .ref (a 0)), (1, .int x1)]) jd_M_draw_24 e_v3 (by decide) rfl ?_
  refine hk_iload_n hC jd_M_draw_26 2 rfl ?_
  refine hk_iconst (v := 2) hC jd_M_draw_27 (by decide) ?_
  refine hk_icmp_ge (tgt := 66) hC jd_M_draw_28 (by decide) (fun cc1 => ?_) (fun cc1 => ?_)
  · replace h := xi_t h cc1
    exact hk_lv [3, 4, 2, 1, 0] rfl (B_66 mowers cows ricks kindOf st x1 v1 v2 v3   h)
  · replace h := xi_f h cc1
    refine hk_aload_n hC jd_M_draw_31 3 rfl ?_
    refine hk_iconst (v := 0) hC jd_M_draw_32 (by decide) ?_
    refine hk_iload hC jd_M_draw_33 0 rfl ?_
    obtain ⟨q1, h_q1, h⟩ := xb_go h
    refine hk_callVWi hC (q0 := 0) (jc_M_lying l D cI cF N a text letters mowers cows ricks weathers says words weather kindOf thatch newMowers newCows newRicks newWeathers newSays newWords newWeather newKind newThatch st pasts past aside seen seenWord seenHour keeps kept (0 : Int32) v3 h_q1) jl_M_lying rfl rfl jq_867 jq_869 jq0_31 rfl ⟨by decide, by decide⟩ rfl rfl (Nat.le_of_ble_eq_true rfl) ⟨Nat.zero_le _, Nat.zero_le _⟩ jd_M_draw_35 ?_
    refine hk_if_eq (tgt := 66) hC jd_M_draw_38 (by decide) (fun cc2 => ?_) (fun cc2 => ?_)
    · replace h := xi_t h cc2
      exact hk_lv [3, 4, 2, 1, 0] rfl (B_66 mowers cows ricks kindOf st x1 v1 v2 v3   h)
    · replace h := xi_f h cc2
      refine hk_aload_n hC jd_M_draw_41 3 rfl ?_
      refine hk_get hC jk_M 0 rfl 20 (by decide) jq_718 rfl jd_M_draw_42 ?_
      refine hk_bipush (v := 15) hC jd_M_draw_45 (by decide) ?_
      refine hk_iload_n hC jd_M_draw_47 1 rfl ?_
      refine hk_iadd hC jd_M_draw_48 ?_
      have hr1 := xr_in h
      replace h := xr_go h
      refine hk_iald hC 12 rfl hr1 jd_M_draw_49 ?_
      refine hk_bipush (v := 8) hC jd_M_draw_50 (by decide) ?_
      refine hk_icmp_ge (tgt := 66) hC jd_M_draw_52 (by decide) (fun cc3 => ?_) (fun cc3 => ?_)
      · replace h := xi_t h cc3
        exact hk_lv [3, 4, 2, 1, 0] rfl (B_66 mowers cows ricks kindOf st x1 v1 v2 v3   h)
      · replace h := xi_f h cc3
        refine hk_aload_n hC jd_M_draw_55 3 rfl ?_
        refine hk_iconst (v := 0) hC jd_M_draw_56 (by decide) ?_
        refine hk_iload hC jd_M_draw_57 0 rfl ?_
        refine hk_iload_n hC jd_M_draw_59 1 rfl ?_
        obtain ⟨q2, h_q2, h⟩ := xb_go h
        refine hk_callVWv hC (q0 := 0) (jc_M_rakeIn l D cI cF N a text letters mowers cows ricks weathers says words weather kindOf thatch newMowers newCows newRicks newWeathers newSays newWords newWeather newKind newThatch st pasts past aside seen seenWord seenHour keeps kept (0 : Int32) v3 v2 h_q2) jl_M_rakeIn rfl rfl jq_871 jq_873 jq0_32 rfl ⟨by decide, by decide⟩ rfl rfl (Nat.le_of_ble_eq_true rfl) ⟨Nat.zero_le _, Nat.zero_le _⟩ jd_M_draw_60 ?_
        refine hk_goto (tgt := 122) hC jd_M_draw_63 (by decide) ?_
        obtain rfl := Option.some.inj h
        exact hk_vret hC hr jd_M_draw_122 rfl
theorem jc_M_draw (l : Launch) (D : va_G) (cI cF : ClassId) (N : Nat) (a : Nat → Nat)  (text : Nat → Int32) (letters : Int32) (mowers : Int32) (cows : Int32) (ricks : Int32) (weathers : Int32) (says : Nat → Int32) (words : Nat → Int32) (weather : Nat → Int32) (kindOf : Nat → Int32) (thatch : Nat → Int32) (newMowers : Int32) (newCows : Int32) (newRicks : Int32) (newWeathers : Int32) (newSays : Nat → Int32) (newWords : Nat → Int32) (newWeather : Nat → Int32) (newKind : Nat → Int32) (newThatch : Nat → Int32) (st : Nat → Int32) (pasts : Int32) (past : Nat → Int32) (aside : Nat → Int32) (seen : Int32) (seenWord : Nat → Int32) (seenHour : Nat → Int32) (keeps : Int32) (kept : Nat → Int32) (x1 : Int32) {o : (Nat → Int32)} (h : jf_M_draw N mowers cows ricks kindOf st x1 = some o) : hk_Mv l jy_M_draw jb_M_draw 5 jr_M_draw D cI cF (wM cI a text letters mowers cows ricks weathers says words weather kindOf thatch newMowers newCows newRicks newWeathers newSays newWords newWeather newKind newThatch st pasts past aside seen seenWord seenHour keeps kept) [.ref (a 0), .int x1] (wM cI a text letters mowers cows ricks weathers says words weather kindOf thatch newMowers newCows newRicks newWeathers newSays newWords newWeather newKind newThatch o pasts past aside seen seenWord seenHour keeps kept) :=
  hk_metV (by decide) (Nat.le_of_ble_eq_true rfl) rfl rfl (fun p e s m args below meth c A hC hr => jw_M_draw hC hr N a text letters mowers cows ricks weathers says words weather kindOf thatch newMowers newCows newRicks newWeathers newSays newWords newWeather newKind newThatch st pasts past aside seen seenWord seenHour keeps kept x1 h)
set_option maxHeartbeats 8000000 in
set_option maxRecDepth 100000 in
theorem jw_M_allTold {p : Program} {l : Launch} {e : Env} {s : State} {m : MethodId} {args : Array Value} {below : List Frame} {meth : Method} {c : Code} {A : Nat → Prop} {D : va_G} {cI cF : ClassId} (hC : hk_ok p s m args meth c A 3 D cI cF "HayTalkModel" jb_M_allTold) (hr : meth.sig.returnType = (some .int)) (N : Nat) (a : Nat → Nat)  (text : Nat → Int32) (letters : Int32) (mowers : Int32) (cows : Int32) (ricks : Int32) (weathers : Int32) (says : Nat → Int32) (words : Nat → Int32) (weather : Nat → Int32) (kindOf : Nat → Int32) (thatch : Nat → Int32) (newMowers : Int32) (newCows : Int32) (newRicks : Int32) (newWeathers : Int32) (newSays : Nat → Int32) (newWords : Nat → Int32) (newWeather : Nat → Int32) (newKind : Nat → Int32) (newThatch : Nat → Int32) (st : Nat → Int32) (pasts : Int32) (past : Nat → Int32) (aside : Nat → Int32) (seen : Int32) (seenWord : Nat → Int32) (seenHour : Nat → Int32) (keeps : Int32) (kept : Nat → Int32)  {o : Int32} (h : jf_M_allTold N cows st = some o) : hk_W p l e jr_M_allTold s m args below meth c A (hk_Zi below args s D A o (wM cI a text letters mowers cows ricks weathers says words weather kindOf thatch newMowers newCows newRicks newWeathers newSays newWords newWeather newKind newThatch st pasts past aside seen seenWord seenHour keeps kept)) 3 D 0 0 (wM cI a text letters mowers cows ricks weathers says words weather kindOf thatch newMowers newCows newRicks newWeathers newSays newWords newWeather newKind newThatch st pasts past aside seen seenWord seenHour keeps kept) 0 [(0, .ref (a 0))] [] := by
  have B_4 : ∀ (cows : Int32) (st : Nat → Int32) (x1 : Int32) (x2 : Int32) (kh4 : (Int32 × Int32) → Option (Int32)) (ihh4 : ∀ q, kh4 q = some o → hk_W p l e jr_M_allTold s m args below meth c A (hk_Zi below args s D A o (wM cI a text letters mowers cows ricks weathers says words weather kindOf thatch newMowers newCows newRicks newWeathers newSays newWords newWeather newKind newThatch st pasts past aside seen seenWord seenHour keeps kept)) 3 D 0 0 (wM cI a text letters mowers cows ricks weathers says words weather kindOf thatch newMowers newCows newRicks newWeathers newSays newWords newWeather newKind newThatch st pasts past aside seen seenWord seenHour keeps kept) 4 [(0, .ref (a 0)), (1, .int q.1), (2, .int q.2)] []) (_ : jf_M_allTold_4B N cows st x1 x2 kh4 = some o), hk_W p l e jr_M_allTold s m args below meth c A (hk_Zi below args s D A o (wM cI a text letters mowers cows ricks weathers says words weather kindOf thatch newMowers newCows newRicks newWeathers newSays newWords newWeather newKind newThatch st pasts past aside seen seenWord seenHour keeps kept)) 3 D 0 0 (wM cI a text letters mowers cows ricks weathers says words weather kindOf thatch newMowers newCows newRicks newWeathers newSays newWords newWeather newKind newThatch st pasts past aside seen seenWord seenHour keeps kept) 4 [(0, .ref (a 0)), (1, .int x1), (2, .int x2)] [] := by
    intro cows st x1 x2 kh4 ihh4 h
    delta jf_M_allTold_4B at h
    refine hk_iload_n hC jd_M_allTold_4 2 rfl ?_
    refine hk_aload_n hC jd_M_allTold_5 0 rfl ?_
    refine hk_get hC jk_M 0 rfl 3 (by decide) jq_701 rfl jd_M_allTold_6 ?_
    refine hk_icmp_ge (tgt := 33) hC jd_M_allTold_9 (by decide) (fun cc1 => ?_) (fun cc1 => ?_)
    · replace h := xi_t h cc1
      refine hk_iload_n hC jd_M_allTold_33 1 rfl ?_
      obtain rfl := Option.some.inj h
      exact hk_iret hC hr jd_M_allTold_34 rfl rfl
    · replace h := xi_f h cc1
      refine hk_iload_n hC jd_M_allTold_12 1 rfl ?_
      refine hk_aload_n hC jd_M_allTold_13 0 rfl ?_
      refine hk_get hC jk_M 0 rfl 20 (by decide) jq_718 rfl jd_M_allTold_14 ?_
      refine hk_bipush (v := 11) hC jd_M_allTold_17 (by decide) ?_
      refine hk_iload_n hC jd_M_allTold_19 2 rfl ?_
      refine hk_iadd hC jd_M_allTold_20 ?_
      have hr1 := xr_in h
      replace h := xr_go h
      refine hk_iald hC 12 rfl hr1 jd_M_allTold_21 ?_
      obtain ⟨q1, h_q1, h⟩ := xb_go h
      refine hk_callS0i hC (jc_M_ones l D cI cF N (st (Int32.toNatClampNeg ((11 : Int32) + x2))) h_q1) jl_M_ones jq_920 jq_921 rfl ⟨by decide, by decide⟩ rfl (Nat.le_of_ble_eq_true rfl) ⟨Nat.zero_le _, Nat.zero_le _⟩ jd_M_allTold_22 ?_
      refine hk_iadd hC jd_M_allTold_25 ?_
      obtain ⟨v1, e_v1, h⟩ := xl_go h
      refine hk_istore_n hC (i := 1) (y := v1) (lv2 := [(1, .int v1), (0, .ref (a 0)), (2, .int x2)]) jd_M_allTold_26 rfl e_v1 (by decide) rfl ?_
      obtain ⟨v2, e_v2, h⟩ := xl_go h
      refine hk_iinc hC (lv2 := [(2, .int v2), (1, .int v1), (0, .ref (a 0))]) jd_M_allTold_27 2 rfl e_v2 (by decide) rfl ?_
      refine hk_goto (tgt := 4) hC jd_M_allTold_30 (by decide) ?_
      exact hk_lv [2, 1, 0] rfl (ihh4 (v1, v2) h)
  have L_4 : ∀ (cows : Int32) (st : Nat → Int32) (x1 : Int32) (x2 : Int32)   (_ : jf_M_allTold_4 N cows st x1 x2  = some o), hk_W p l e jr_M_allTold s m args below meth c A (hk_Zi below args s D A o (wM cI a text letters mowers cows ricks weathers says words weather kindOf thatch newMowers newCows newRicks newWeathers newSays newWords newWeather newKind newThatch st pasts past aside seen seenWord seenHour keeps kept)) 3 D 0 0 (wM cI a text letters mowers cows ricks weathers says words weather kindOf thatch newMowers newCows newRicks newWeathers newSays newWords newWeather newKind newThatch st pasts past aside seen seenWord seenHour keeps kept) 4 [(0, .ref (a 0)), (1, .int x1), (2, .int x2)] [] := by
    intro cows st x1 x2   h
    exact xloopW (fun (q : Int32 × Int32) => hk_W p l e jr_M_allTold s m args below meth c A (hk_Zi below args s D A o (wM cI a text letters mowers cows ricks weathers says words weather kindOf thatch newMowers newCows newRicks newWeathers newSays newWords newWeather newKind newThatch st pasts past aside seen seenWord seenHour keeps kept)) 3 D 0 0 (wM cI a text letters mowers cows ricks weathers says words weather kindOf thatch newMowers newCows newRicks newWeathers newSays newWords newWeather newKind newThatch st pasts past aside seen seenWord seenHour keeps kept) 4 [(0, .ref (a 0)), (1, .int q.1), (2, .int q.2)] []) (fun kh ih q h => B_4 cows st q.1 q.2 kh  ih  h) N (x1, x2) h
  delta jf_M_allTold at h
  refine hk_iconst (v := 0) hC jd_M_allTold_0 (by decide) ?_
  refine hk_istore_n hC (i := 1) (y := (0 : Int32)) (lv2 := [(1, .int (0 : Int32)), (0, .ref (a 0))]) jd_M_allTold_1 rfl rfl (by decide) rfl ?_
  refine hk_iconst (v := 0) hC jd_M_allTold_2 (by decide) ?_
  refine hk_istore_n hC (i := 2) (y := (0 : Int32)) (lv2 := [(2, .int (0 : Int32)), (1, .int (0 : Int32)), (0, .ref (a 0))]) jd_M_allTold_3 rfl rfl (by decide) rfl ?_
  exact hk_lv [2, 1, 0] rfl (L_4 cows st (0 : Int32) (0 : Int32)   h)
theorem jc_M_allTold (l : Launch) (D : va_G) (cI cF : ClassId) (N : Nat) (a : Nat → Nat)  (text : Nat → Int32) (letters : Int32) (mowers : Int32) (cows : Int32) (ricks : Int32) (weathers : Int32) (says : Nat → Int32) (words : Nat → Int32) (weather : Nat → Int32) (kindOf : Nat → Int32) (thatch : Nat → Int32) (newMowers : Int32) (newCows : Int32) (newRicks : Int32) (newWeathers : Int32) (newSays : Nat → Int32) (newWords : Nat → Int32) (newWeather : Nat → Int32) (newKind : Nat → Int32) (newThatch : Nat → Int32) (st : Nat → Int32) (pasts : Int32) (past : Nat → Int32) (aside : Nat → Int32) (seen : Int32) (seenWord : Nat → Int32) (seenHour : Nat → Int32) (keeps : Int32) (kept : Nat → Int32)  {o : Int32} (h : jf_M_allTold N cows st = some o) : hk_Mi l jy_M_allTold jb_M_allTold 3 (some .int) jr_M_allTold D cI cF (wM cI a text letters mowers cows ricks weathers says words weather kindOf thatch newMowers newCows newRicks newWeathers newSays newWords newWeather newKind newThatch st pasts past aside seen seenWord seenHour keeps kept) [.ref (a 0)] o (wM cI a text letters mowers cows ricks weathers says words weather kindOf thatch newMowers newCows newRicks newWeathers newSays newWords newWeather newKind newThatch st pasts past aside seen seenWord seenHour keeps kept) :=
  hk_metI (by decide) (Nat.le_of_ble_eq_true rfl) rfl rfl (fun p e s m args below meth c A hC hr => jw_M_allTold hC hr N a text letters mowers cows ricks weathers says words weather kindOf thatch newMowers newCows newRicks newWeathers newSays newWords newWeather newKind newThatch st pasts past aside seen seenWord seenHour keeps kept h)
set_option maxHeartbeats 8000000 in
set_option maxRecDepth 100000 in
theorem jw_M_february {p : Program} {l : Launch} {e : Env} {s : State} {m : MethodId} {args : Array Value} {below : List Frame} {meth : Method} {c : Code} {A : Nat → Prop} {D : va_G} {cI cF : ClassId} (hC : hk_ok p s m args meth c A 8 D cI cF "HayTalkModel" jb_M_february) (hr : meth.sig.returnType = (some .int)) (N : Nat) (a : Nat → Nat)  (text : Nat → Int32) (letters : Int32) (mowers : Int32) (cows : Int32) (ricks : Int32) (weathers : Int32) (says : Nat → Int32) (words : Nat → Int32) (weather : Nat → Int32) (kindOf : Nat → Int32) (thatch : Nat → Int32) (newMowers : Int32) (newCows : Int32) (newRicks : Int32) (newWeathers : Int32) (newSays : Nat → Int32) (newWords : Nat → Int32) (newWeather : Nat → Int32) (newKind : Nat → Int32) (newThatch : Nat → Int32) (st : Nat → Int32) (pasts : Int32) (past : Nat → Int32) (aside : Nat → Int32) (seen : Int32) (seenWord : Nat → Int32) (seenHour : Nat → Int32) (keeps : Int32) (kept : Nat → Int32) (x1 : Int32) (x2 : Int32) (x3 : Int32) {o : Int32 × (Nat → Int32) × (Nat → Int32)} (h : jf_M_february N mowers cows ricks weathers says words weather kindOf thatch st aside x1 x2 x3 = some o) : hk_W p l e jr_M_february s m args below meth c A (hk_Zi below args s D A o.1 (wM cI a text letters mowers cows ricks weathers says words weather kindOf thatch newMowers newCows newRicks newWeathers newSays newWords newWeather newKind newThatch o.2.1 pasts past o.2.2 seen seenWord seenHour keeps kept)) 8 D 0 0 (wM cI a text letters mowers cows ricks weathers says words weather kindOf thatch newMowers newCows newRicks newWeathers newSays newWords newWeather newKind newThatch st pasts past aside seen seenWord seenHour keeps kept) 0 [(0, .ref (a 0)), (1, .int x1), (2, .int x2), (3, .int x3)] [] := by
  have B_61 : ∀ (mowers : Int32) (cows : Int32) (ricks : Int32) (weathers : Int32) (says : Nat → Int32) (words : Nat → Int32) (weather : Nat → Int32) (kindOf : Nat → Int32) (thatch : Nat → Int32) (st : Nat → Int32) (aside : Nat → Int32) (x1 : Int32) (x2 : Int32) (x3 : Int32) (x4 : Int32) (x5 : Int32) (kh61 : ((Nat → Int32) × Int32) → Option (Int32 × (Nat → Int32) × (Nat → Int32))) (kx109 : ((Nat → Int32)) → Option (Int32 × (Nat → Int32) × (Nat → Int32))) (ihh61 : ∀ q, kh61 q = some o → hk_W p l e jr_M_february s m args below meth c A (hk_Zi below args s D A o.1 (wM cI a text letters mowers cows ricks weathers says words weather kindOf thatch newMowers newCows newRicks newWeathers newSays newWords newWeather newKind newThatch o.2.1 pasts past o.2.2 seen seenWord seenHour keeps kept)) 8 D 0 0 (wM cI a text letters mowers cows ricks weathers says words weather kindOf thatch newMowers newCows newRicks newWeathers newSays newWords newWeather newKind newThatch q.1 pasts past aside seen seenWord seenHour keeps kept) 61 [(0, .ref (a 0)), (1, .int x1), (2, .int x2), (3, .int x3), (4, .int x4), (5, .int q.2)] []) (ihx109 : ∀ q, kx109 q = some o → hk_W p l e jr_M_february s m args below meth c A (hk_Zi below args s D A o.1 (wM cI a text letters mowers cows ricks weathers says words weather kindOf thatch newMowers newCows newRicks newWeathers newSays newWords newWeather newKind newThatch o.2.1 pasts past o.2.2 seen seenWord seenHour keeps kept)) 8 D 0 0 (wM cI a text letters mowers cows ricks weathers says words weather kindOf thatch newMowers newCows newRicks newWeathers newSays newWords newWeather newKind newThatch q pasts past aside seen seenWord seenHour keeps kept) 109 [(0, .ref (a 0)), (3, .int x3), (4, .int x4)] []) (_ : jf_M_february_61B N mowers cows ricks weathers says words weather kindOf thatch st aside x1 x2 x3 x4 x5 kh61 kx109 = some o), hk_W p l e jr_M_february s m args below meth c A (hk_Zi below args s D A o.1 (wM cI a text letters mowers cows ricks weathers says words weather kindOf thatch newMowers newCows newRicks newWeathers newSays newWords newWeather newKind newThatch o.2.1 pasts past o.2.2 seen seenWord seenHour keeps kept)) 8 D 0 0 (wM cI a text letters mowers cows ricks weathers says words weather kindOf thatch newMowers newCows newRicks newWeathers newSays newWords newWeather newKind newThatch st pasts past aside seen seenWord seenHour keeps kept) 61 [(0, .ref (a 0)), (1, .int x1), (2, .int x2), (3, .int x3), (4, .int x4), (5, .int x5)] [] := by
    intro mowers cows ricks weathers says words weather kindOf thatch st aside x1 x2 x3 x4 x5 kh61 kx109 ihh61 ihx109 h
    delta jf_M_february_61B at h
    refine hk_iload hC jd_M_february_61 5 rfl ?_
    refine hk_iload_n hC jd_M_february_63 2 rfl ?_
    refine hk_icmp_ge (tgt := 109) hC jd_M_february_64 (by decide) (fun cc1 => ?_) (fun cc1 => ?_)
    · replace h := xi_t h cc1
      exact hk_lv [0, 3, 4] rfl (ihx109 st h)
    · replace h := xi_f h cc1
      refine hk_ldc2 hC jd_M_february_67 jq_978 ?_
      refine hk_iload_n hC jd_M_february_70 1 rfl ?_
      refine hk_i2l hC jd_M_february_71 ?_
      refine hk_lmul hC jd_M_february_72 ?_
      refine hk_ldc2 hC jd_M_february_73 jq_979 ?_
      refine hk_iload hC jd_M_february_76 5 rfl ?_
      refine hk_i2l hC jd_M_february_78 ?_
      refine hk_lmul hC jd_M_february_79 ?_
      refine hk_ladd hC jd_M_february_80 ?_
      refine hk_lconst (v := 1) hC jd_M_february_81 (by decide) ?_
      refine hk_ladd hC jd_M_february_82 ?_
      obtain ⟨v1, e_v1, h⟩ := xl_go h
      refine hk_lstore hC (i := 6) (y := v1) (lv2 := [(6, .long v1), (0, .ref (a 0)), (1, .int x1), (2, .int x2), (3, .int x3), (4, .int x4), (5, .int x5)]) jd_M_february_83 e_v1 (by decide) rfl ?_
      refine hk_aload_n hC jd_M_february_85 1 rfl ?_
      refine hk_lload hC jd_M_february_86 0 rfl ?_
      refine hk_lload hC jd_M_february_88 0 rfl ?_
      refine hk_lmul hC jd_M_february_90 ?_
      refine hk_ldc2 hC jd_M_february_91 jq_980 ?_
      refine hk_lrem hC jd_M_february_94 (by decide) ?_
      refine hk_l2i hC jd_M_february_95 ?_
      obtain ⟨q1, h_q1, h⟩ := xb_go h
      refine hk_callVWv hC (q0 := 0) (jc_M_draw l D cI cF N a text letters mowers cows ricks weathers says words weather kindOf thatch newMowers newCows newRicks newWeathers newSays newWords newWeather newKind newThatch st pasts past aside seen seenWord seenHour keeps kept (Int64.toInt32 ((v1 * v1) - (v1 * v1) / (65521 : Int64) * (65521 : Int64))) h_q1) jl_M_draw rfl rfl jq_981 jq_983 jq0_38 rfl ⟨by decide, by decide⟩ rfl rfl (Nat.le_of_ble_eq_true rfl) ⟨Nat.zero_le _, Nat.zero_le _⟩ jd_M_february_96 ?_
      refine hk_aload_n hC jd_M_february_99 1 rfl ?_
      obtain ⟨q2, h_q2, h⟩ := xb_go h
      refine hk_callVWv hC (q0 := 0) (jc_M_oneHour l D cI cF N a text letters mowers cows ricks weathers says words weather kindOf thatch newMowers newCows newRicks newWeathers newSays newWords newWeather newKind newThatch q1 pasts past aside seen seenWord seenHour keeps kept h_q2) jl_M_oneHour rfl rfl jq_847 jq_849 jq0_27 rfl ⟨by decide, by decide⟩ rfl rfl (Nat.le_of_ble_eq_true rfl) ⟨Nat.zero_le _, Nat.zero_le _⟩ jd_M_february_100 ?_
      obtain ⟨v2, e_v2, h⟩ := xl_go h
      refine hk_iinc hC (lv2 := [(5, .int v2), (6, .long v1), (0, .ref (a 0)), (1, .int x1), (2, .int x2), (3, .int x3), (4, .int x4)]) jd_M_february_103 6 rfl e_v2 (by decide) rfl ?_
      refine hk_goto (tgt := 61) hC jd_M_february_106 (by decide) ?_
      exact hk_lv [2, 3, 4, 5, 6, 0] rfl (ihh61 (q2, v2) h)
  have L_61 : ∀ (mowers : Int32) (cows : Int32) (ricks : Int32) (weathers : Int32) (says : Nat → Int32) (words : Nat → Int32) (weather : Nat → Int32) (kindOf : Nat → Int32) (thatch : Nat → Int32) (st : Nat → Int32) (aside : Nat → Int32) (x1 : Int32) (x2 : Int32) (x3 : Int32) (x4 : Int32) (x5 : Int32) (kx109 : ((Nat → Int32)) → Option (Int32 × (Nat → Int32) × (Nat → Int32))) (ihx109 : ∀ q, kx109 q = some o → hk_W p l e jr_M_february s m args below meth c A (hk_Zi below args s D A o.1 (wM cI a text letters mowers cows ricks weathers says words weather kindOf thatch newMowers newCows newRicks newWeathers newSays newWords newWeather newKind newThatch o.2.1 pasts past o.2.2 seen seenWord seenHour keeps kept)) 8 D 0 0 (wM cI a text letters mowers cows ricks weathers says words weather kindOf thatch newMowers newCows newRicks newWeathers newSays newWords newWeather newKind newThatch q pasts past aside seen seenWord seenHour keeps kept) 109 [(0, .ref (a 0)), (3, .int x3), (4, .int x4)] []) (_ : jf_M_february_61 N mowers cows ricks weathers says words weather kindOf thatch st aside x1 x2 x3 x4 x5 kx109 = some o), hk_W p l e jr_M_february s m args below meth c A (hk_Zi below args s D A o.1 (wM cI a text letters mowers cows ricks weathers says words weather kindOf thatch newMowers newCows newRicks newWeathers newSays newWords newWeather newKind newThatch o.2.1 pasts past o.2.2 seen seenWord seenHour keeps kept)) 8 D 0 0 (wM cI a text letters mowers cows ricks weathers says words weather kindOf thatch newMowers newCows newRicks newWeathers newSays newWords newWeather newKind newThatch st pasts past aside seen seenWord seenHour keeps kept) 61 [(0, .ref (a 0)), (1, .int x1), (2, .int x2), (3, .int x3), (4, .int x4), (5, .int x5)] [] := by
    intro mowers cows ricks weathers says words weather kindOf thatch st aside x1 x2 x3 x4 x5 kx109 ihx109 h
    exact xloopW (fun (q : (Nat → Int32) × Int32) => hk_W p l e jr_M_february s m args below meth c A (hk_Zi below args s D A o.1 (wM cI a text letters mowers cows ricks weathers says words weather kindOf thatch newMowers newCows newRicks newWeathers newSays newWords newWeather newKind newThatch o.2.1 pasts past o.2.2 seen seenWord seenHour keeps kept)) 8 D 0 0 (wM cI a text letters mowers cows ricks weathers says words weather kindOf thatch newMowers newCows newRicks newWeathers newSays newWords newWeather newKind newThatch q.1 pasts past aside seen seenWord seenHour keeps kept) 61 [(0, .ref (a 0)), (1, .int x1), (2, .int x2), (3, .int x3), (4, .int x4), (5, .int q.2)] []) (fun kh ih q h => B_61 mowers cows ricks weathers says words weather kindOf thatch q.1 aside x1 x2 x3 x4 q.2 kh kx109 ih ihx109 h) N (st, x5) h
  have B_145 : ∀ (mowers : Int32) (cows : Int32) (ricks : Int32) (weathers : Int32) (says : Nat → Int32) (words : Nat → Int32) (weather : Nat → Int32) (kindOf : Nat → Int32) (thatch : Nat → Int32) (st : Nat → Int32) (aside : Nat → Int32) (y0 : Int32)   (_ : jf_M_february_145 N mowers cows ricks weathers says words weather kindOf thatch st aside y0  = some o), hk_W p l e jr_M_february s m args below meth c A (hk_Zi below args s D A o.1 (wM cI a text letters mowers cows ricks weathers says words weather kindOf thatch newMowers newCows newRicks newWeathers newSays newWords newWeather newKind newThatch o.2.1 pasts past o.2.2 seen seenWord seenHour keeps kept)) 8 D 0 0 (wM cI a text letters mowers cows ricks weathers says words weather kindOf thatch newMowers newCows newRicks newWeathers newSays newWords newWeather newKind newThatch st pasts past aside seen seenWord seenHour keeps kept) 145 [(0, .ref (a 0))] [.int y0] := by
    intro mowers cows ricks weathers says words weather kindOf thatch st aside y0   h
    delta jf_M_february_145 at h
    refine hk_istore hC (i := 5) (y := y0) (lv2 := [(5, .int y0), (0, .ref (a 0))]) jd_M_february_145 rfl (by decide) rfl ?_
    refine hk_aload_n hC jd_M_february_147 1 rfl ?_
    refine hk_get hC jk_M 0 rfl 20 (by decide) jq_718 rfl jd_M_february_148 ?_
    refine hk_aload_n hC jd_M_february_151 1 rfl ?_
    refine hk_get hC jk_M 0 rfl 23 (by decide) jq_721 rfl jd_M_february_152 ?_
    obtain ⟨q1, h_q1, h⟩ := xb_go h
    refine hk_callSv hC (jc_M_take l D cI cF N (fun _ => (a 12)) (fun _ => (a 14)) 93 93 st aside h_q1) jl_M_take jq_695 jq_696 rfl ⟨by decide, by decide⟩ [12, 14] rfl (by decide) rfl (ws2 := (wM cI a text letters mowers cows ricks weathers says words weather kindOf thatch newMowers newCows newRicks newWeathers newSays newWords newWeather newKind newThatch q1 pasts past aside seen seenWord seenHour keeps kept)) rfl rfl (Nat.le_of_ble_eq_true rfl) ⟨Nat.zero_le _, Nat.zero_le _⟩ jd_M_february_155 ?_
    refine hk_iload hC jd_M_february_158 0 rfl ?_
    obtain rfl := Option.some.inj h
    exact hk_iret hC hr jd_M_february_160 rfl rfl
  have B_109 : ∀ (mowers : Int32) (cows : Int32) (ricks : Int32) (weathers : Int32) (says : Nat → Int32) (words : Nat → Int32) (weather : Nat → Int32) (kindOf : Nat → Int32) (thatch : Nat → Int32) (st : Nat → Int32) (aside : Nat → Int32) (x3 : Int32) (x4 : Int32)   (_ : jf_M_february_109 N mowers cows ricks weathers says words weather kindOf thatch st aside x3 x4  = some o), hk_W p l e jr_M_february s m args below meth c A (hk_Zi below args s D A o.1 (wM cI a text letters mowers cows ricks weathers says words weather kindOf thatch newMowers newCows newRicks newWeathers newSays newWords newWeather newKind newThatch o.2.1 pasts past o.2.2 seen seenWord seenHour keeps kept)) 8 D 0 0 (wM cI a text letters mowers cows ricks weathers says words weather kindOf thatch newMowers newCows newRicks newWeathers newSays newWords newWeather newKind newThatch st pasts past aside seen seenWord seenHour keeps kept) 109 [(0, .ref (a 0)), (3, .int x3), (4, .int x4)] [] := by
    intro mowers cows ricks weathers says words weather kindOf thatch st aside x3 x4   h
    delta jf_M_february_109 at h
    refine hk_iload_n hC jd_M_february_109 1 rfl ?_
    refine hk_if_ne (tgt := 120) hC jd_M_february_110 (by decide) (fun cc1 => ?_) (fun cc1 => ?_)
    · replace h := xi_f h cc1
      refine hk_iload_n hC jd_M_february_120 1 rfl ?_
      refine hk_iconst (v := 1) hC jd_M_february_121 (by decide) ?_
      refine hk_icmp_ne (tgt := 135) hC jd_M_february_122 (by decide) (fun cc2 => ?_) (fun cc2 => ?_)
      · replace h := xi_f h cc2
        refine hk_aload_n hC jd_M_february_135 0 rfl ?_
        refine hk_bipush (v := 18) hC jd_M_february_136 (by decide) ?_
        refine hk_iconst (v := 3) hC jd_M_february_138 (by decide) ?_
        obtain ⟨q1, h_q1, h⟩ := xb_go h
        refine hk_callVWi hC (q0 := 0) (jc_M_allOf l D cI cF N a text letters mowers cows ricks weathers says words weather kindOf thatch newMowers newCows newRicks newWeathers newSays newWords newWeather newKind newThatch st pasts past aside seen seenWord seenHour keeps kept (18 : Int32) (3 : Int32) h_q1) jl_M_allOf rfl rfl jq_974 jq_976 jq0_37 rfl ⟨by decide, by decide⟩ rfl rfl (Nat.le_of_ble_eq_true rfl) ⟨Nat.zero_le _, Nat.zero_le _⟩ jd_M_february_139 ?_
        refine hk_iload hC jd_M_february_142 2 rfl ?_
        refine hk_isub hC jd_M_february_144 ?_
        exact hk_lv [0] rfl (B_145 mowers cows ricks weathers says words weather kindOf thatch st aside (q1 - x4)   h)
      · replace h := xi_t h cc2
        refine hk_aload_n hC jd_M_february_125 0 rfl ?_
        refine hk_bipush (v := 15) hC jd_M_february_126 (by decide) ?_
        refine hk_iconst (v := 3) hC jd_M_february_128 (by decide) ?_
        obtain ⟨q2, h_q2, h⟩ := xb_go h
        refine hk_callVWi hC (q0 := 0) (jc_M_allOf l D cI cF N a text letters mowers cows ricks weathers says words weather kindOf thatch newMowers newCows newRicks newWeathers newSays newWords newWeather newKind newThatch st pasts past aside seen seenWord seenHour keeps kept (15 : Int32) (3 : Int32) h_q2) jl_M_allOf rfl rfl jq_974 jq_976 jq0_37 rfl ⟨by decide, by decide⟩ rfl rfl (Nat.le_of_ble_eq_true rfl) ⟨Nat.zero_le _, Nat.zero_le _⟩ jd_M_february_129 ?_
        refine hk_goto (tgt := 145) hC jd_M_february_132 (by decide) ?_
        exact hk_lv [0] rfl (B_145 mowers cows ricks weathers says words weather kindOf thatch st aside q2   h)
    · replace h := xi_t h cc1
      refine hk_aload_n hC jd_M_february_113 0 rfl ?_
      obtain ⟨q3, h_q3, h⟩ := xb_go h
      refine hk_callVWi hC (q0 := 0) (jc_M_allTold l D cI cF N a text letters mowers cows ricks weathers says words weather kindOf thatch newMowers newCows newRicks newWeathers newSays newWords newWeather newKind newThatch st pasts past aside seen seenWord seenHour keeps kept h_q3) jl_M_allTold rfl rfl jq_985 jq_987 jq0_39 rfl ⟨by decide, by decide⟩ rfl rfl (Nat.le_of_ble_eq_true rfl) ⟨Nat.zero_le _, Nat.zero_le _⟩ jd_M_february_114 ?_
      refine hk_goto (tgt := 145) hC jd_M_february_117 (by decide) ?_
      exact hk_lv [0] rfl (B_145 mowers cows ricks weathers says words weather kindOf thatch st aside q3   h)
  delta jf_M_february at h
  refine hk_iload_n hC jd_M_february_0 1 rfl ?_
  refine hk_i2l hC jd_M_february_1 ?_
  refine hk_lconst (v := 0) hC jd_M_february_2 (by decide) ?_
  refine hk_ldc2 hC jd_M_february_3 jq_972 ?_
  obtain ⟨q1, h_q1, h⟩ := xb_go h
  refine hk_callS0i hC (jc_M_in l D cI cF N (Int32.toInt64 x1) (0 : Int64) (9999 : Int64) h_q1) jl_M_in jq_673 jq_674 rfl ⟨by decide, by decide⟩ rfl (Nat.le_of_ble_eq_true rfl) ⟨Nat.zero_le _, Nat.zero_le _⟩ jd_M_february_6 ?_
  refine hk_if_eq (tgt := 36) hC jd_M_february_9 (by decide) (fun cc1 => ?_) (fun cc1 => ?_)
  · replace h := xi_t h cc1
    refine hk_iconst (v := -1) hC jd_M_february_36 (by decide) ?_
    obtain rfl := Option.some.inj h
    exact hk_iret hC hr jd_M_february_37 rfl rfl
  · replace h := xi_f h cc1
    refine hk_iload_n hC jd_M_february_12 2 rfl ?_
    refine hk_i2l hC jd_M_february_13 ?_
    refine hk_lconst (v := 1) hC jd_M_february_14 (by decide) ?_
    refine hk_ldc2 hC jd_M_february_15 jq_973 ?_
    obtain ⟨q2, h_q2, h⟩ := xb_go h
    refine hk_callS0i hC (jc_M_in l D cI cF N (Int32.toInt64 x2) (1 : Int64) (60 : Int64) h_q2) jl_M_in jq_673 jq_674 rfl ⟨by decide, by decide⟩ rfl (Nat.le_of_ble_eq_true rfl) ⟨Nat.zero_le _, Nat.zero_le _⟩ jd_M_february_18 ?_
    refine hk_if_eq (tgt := 36) hC jd_M_february_21 (by decide) (fun cc2 => ?_) (fun cc2 => ?_)
    · replace h := xi_t h cc2
      refine hk_iconst (v := -1) hC jd_M_february_36 (by decide) ?_
      obtain rfl := Option.some.inj h
      exact hk_iret hC hr jd_M_february_37 rfl rfl
    · replace h := xi_f h cc2
      refine hk_iload_n hC jd_M_february_24 3 rfl ?_
      refine hk_i2l hC jd_M_february_25 ?_
      refine hk_lconst (v := 0) hC jd_M_february_26 (by decide) ?_
      refine hk_ldc2 hC jd_M_february_27 jq_689 ?_
      obtain ⟨q3, h_q3, h⟩ := xb_go h
      refine hk_callS0i hC (jc_M_in l D cI cF N (Int32.toInt64 x3) (0 : Int64) (2 : Int64) h_q3) jl_M_in jq_673 jq_674 rfl ⟨by decide, by decide⟩ rfl (Nat.le_of_ble_eq_true rfl) ⟨Nat.zero_le _, Nat.zero_le _⟩ jd_M_february_30 ?_
      refine hk_if_ne (tgt := 38) hC jd_M_february_33 (by decide) (fun cc3 => ?_) (fun cc3 => ?_)
      · replace h := xi_f h cc3
        refine hk_aload_n hC jd_M_february_38 0 rfl ?_
        refine hk_get hC jk_M 0 rfl 23 (by decide) jq_721 rfl jd_M_february_39 ?_
        refine hk_aload_n hC jd_M_february_42 0 rfl ?_
        refine hk_get hC jk_M 0 rfl 20 (by decide) jq_718 rfl jd_M_february_43 ?_
        obtain ⟨q4, h_q4, h⟩ := xb_go h
        refine hk_callSv hC (jc_M_take l D cI cF N (fun _ => (a 14)) (fun _ => (a 12)) 93 93 aside st h_q4) jl_M_take jq_695 jq_696 rfl ⟨by decide, by decide⟩ [14, 12] rfl (by decide) rfl (ws2 := (wM cI a text letters mowers cows ricks weathers says words weather kindOf thatch newMowers newCows newRicks newWeathers newSays newWords newWeather newKind newThatch st pasts past q4 seen seenWord seenHour keeps kept)) rfl rfl (Nat.le_of_ble_eq_true rfl) ⟨Nat.zero_le _, Nat.zero_le _⟩ jd_M_february_46 ?_
        refine hk_aload_n hC jd_M_february_49 0 rfl ?_
        refine hk_bipush (v := 18) hC jd_M_february_50 (by decide) ?_
        refine hk_iconst (v := 3) hC jd_M_february_52 (by decide) ?_
        obtain ⟨q5, h_q5, h⟩ := xb_go h
        refine hk_callVWi hC (q0 := 0) (jc_M_allOf l D cI cF N a text letters mowers cows ricks weathers says words weather kindOf thatch newMowers newCows newRicks newWeathers newSays newWords newWeather newKind newThatch st pasts past q4 seen seenWord seenHour keeps kept (18 : Int32) (3 : Int32) h_q5) jl_M_allOf rfl rfl jq_974 jq_976 jq0_37 rfl ⟨by decide, by decide⟩ rfl rfl (Nat.le_of_ble_eq_true rfl) ⟨Nat.zero_le _, Nat.zero_le _⟩ jd_M_february_53 ?_
        refine hk_istore hC (i := 4) (y := q5) (lv2 := [(4, .int q5), (0, .ref (a 0)), (1, .int x1), (2, .int x2), (3, .int x3)]) jd_M_february_56 rfl (by decide) rfl ?_
        refine hk_iconst (v := 0) hC jd_M_february_58 (by decide) ?_
        refine hk_istore hC (i := 5) (y := (0 : Int32)) (lv2 := [(5, .int (0 : Int32)), (4, .int q5), (0, .ref (a 0)), (1, .int x1), (2, .int x2), (3, .int x3)]) jd_M_february_59 rfl (by decide) rfl ?_
        exact hk_lv [2, 3, 4, 5, 1, 0] rfl (L_61 mowers cows ricks weathers says words weather kindOf thatch st q4 x1 x2 x3 q5 (0 : Int32) _ (fun q6 h => by exact (B_109 mowers cows ricks weathers says words weather kindOf thatch q6 q4 x3 q5   h)) h)
      · replace h := xi_t h cc3
        refine hk_iconst (v := -1) hC jd_M_february_36 (by decide) ?_
        obtain rfl := Option.some.inj h
        exact hk_iret hC hr jd_M_february_37 rfl rfl
theorem jc_M_february (l : Launch) (D : va_G) (cI cF : ClassId) (N : Nat) (a : Nat → Nat)  (text : Nat → Int32) (letters : Int32) (mowers : Int32) (cows : Int32) (ricks : Int32) (weathers : Int32) (says : Nat → Int32) (words : Nat → Int32) (weather : Nat → Int32) (kindOf : Nat → Int32) (thatch : Nat → Int32) (newMowers : Int32) (newCows : Int32) (newRicks : Int32) (newWeathers : Int32) (newSays : Nat → Int32) (newWords : Nat → Int32) (newWeather : Nat → Int32) (newKind : Nat → Int32) (newThatch : Nat → Int32) (st : Nat → Int32) (pasts : Int32) (past : Nat → Int32) (aside : Nat → Int32) (seen : Int32) (seenWord : Nat → Int32) (seenHour : Nat → Int32) (keeps : Int32) (kept : Nat → Int32) (x1 : Int32) (x2 : Int32) (x3 : Int32) {o : Int32 × (Nat → Int32) × (Nat → Int32)} (h : jf_M_february N mowers cows ricks weathers says words weather kindOf thatch st aside x1 x2 x3 = some o) : hk_Mi l jy_M_february jb_M_february 8 (some .int) jr_M_february D cI cF (wM cI a text letters mowers cows ricks weathers says words weather kindOf thatch newMowers newCows newRicks newWeathers newSays newWords newWeather newKind newThatch st pasts past aside seen seenWord seenHour keeps kept) [.ref (a 0), .int x1, .int x2, .int x3] o.1 (wM cI a text letters mowers cows ricks weathers says words weather kindOf thatch newMowers newCows newRicks newWeathers newSays newWords newWeather newKind newThatch o.2.1 pasts past o.2.2 seen seenWord seenHour keeps kept) :=
  hk_metI (by decide) (Nat.le_of_ble_eq_true rfl) rfl rfl (fun p e s m args below meth c A hC hr => jw_M_february hC hr N a text letters mowers cows ricks weathers says words weather kindOf thatch newMowers newCows newRicks newWeathers newSays newWords newWeather newKind newThatch st pasts past aside seen seenWord seenHour keeps kept x1 x2 x3 h)
set_option maxHeartbeats 8000000 in
set_option maxRecDepth 100000 in
theorem jw_M_keep {p : Program} {l : Launch} {e : Env} {s : State} {m : MethodId} {args : Array Value} {below : List Frame} {meth : Method} {c : Code} {A : Nat → Prop} {D : va_G} {cI cF : ClassId} (hC : hk_ok p s m args meth c A 2 D cI cF "HayTalkModel" jb_M_keep) (hr : meth.sig.returnType = (some .int)) (N : Nat) (a : Nat → Nat)  (text : Nat → Int32) (letters : Int32) (mowers : Int32) (cows : Int32) (ricks : Int32) (weathers : Int32) (says : Nat → Int32) (words : Nat → Int32) (weather : Nat → Int32) (kindOf : Nat → Int32) (thatch : Nat → Int32) (newMowers : Int32) (newCows : Int32) (newRicks : Int32) (newWeathers : Int32) (newSays : Nat → Int32) (newWords : Nat → Int32) (newWeather : Nat → Int32) (newKind : Nat → Int32) (newThatch : Nat → Int32) (st : Nat → Int32) (pasts : Int32) (past : Nat → Int32) (aside : Nat → Int32) (seen : Int32) (seenWord : Nat → Int32) (seenHour : Nat → Int32) (keeps : Int32) (kept : Nat → Int32)  {o : Int32 × Int32 × (Nat → Int32)} (h : jf_M_keep N st keeps kept = some o) : hk_W p l e jr_M_keep s m args below meth c A (hk_Zi below args s D A o.1 (wM cI a text letters mowers cows ricks weathers says words weather kindOf thatch newMowers newCows newRicks newWeathers newSays newWords newWeather newKind newThatch st pasts past aside seen seenWord seenHour o.2.1 o.2.2)) 2 D 0 0 (wM cI a text letters mowers cows ricks weathers says words weather kindOf thatch newMowers newCows newRicks newWeathers newSays newWords newWeather newKind newThatch st pasts past aside seen seenWord seenHour keeps kept) 0 [(0, .ref (a 0))] [] := by
  have B_13 : ∀ (st : Nat → Int32) (keeps : Int32) (kept : Nat → Int32) (x1 : Int32) (kh13 : ((Nat → Int32) × Int32) → Option (Int32 × Int32 × (Nat → Int32))) (kx45 : ((Nat → Int32)) → Option (Int32 × Int32 × (Nat → Int32))) (ihh13 : ∀ q, kh13 q = some o → hk_W p l e jr_M_keep s m args below meth c A (hk_Zi below args s D A o.1 (wM cI a text letters mowers cows ricks weathers says words weather kindOf thatch newMowers newCows newRicks newWeathers newSays newWords newWeather newKind newThatch st pasts past aside seen seenWord seenHour o.2.1 o.2.2)) 2 D 0 0 (wM cI a text letters mowers cows ricks weathers says words weather kindOf thatch newMowers newCows newRicks newWeathers newSays newWords newWeather newKind newThatch st pasts past aside seen seenWord seenHour keeps q.1) 13 [(0, .ref (a 0)), (1, .int q.2)] []) (ihx45 : ∀ q, kx45 q = some o → hk_W p l e jr_M_keep s m args below meth c A (hk_Zi below args s D A o.1 (wM cI a text letters mowers cows ricks weathers says words weather kindOf thatch newMowers newCows newRicks newWeathers newSays newWords newWeather newKind newThatch st pasts past aside seen seenWord seenHour o.2.1 o.2.2)) 2 D 0 0 (wM cI a text letters mowers cows ricks weathers says words weather kindOf thatch newMowers newCows newRicks newWeathers newSays newWords newWeather newKind newThatch st pasts past aside seen seenWord seenHour keeps q) 45 [(0, .ref (a 0))] []) (_ : jf_M_keep_13B N st keeps kept x1 kh13 kx45 = some o), hk_W p l e jr_M_keep s m args below meth c A (hk_Zi below args s D A o.1 (wM cI a text letters mowers cows ricks weathers says words weather kindOf thatch newMowers newCows newRicks newWeathers newSays newWords newWeather newKind newThatch st pasts past aside seen seenWord seenHour o.2.1 o.2.2)) 2 D 0 0 (wM cI a text letters mowers cows ricks weathers says words weather kindOf thatch newMowers newCows newRicks newWeathers newSays newWords newWeather newKind newThatch st pasts past aside seen seenWord seenHour keeps kept) 13 [(0, .ref (a 0)), (1, .int x1)] [] := by
    intro st keeps kept x1 kh13 kx45 ihh13 ihx45 h
    delta jf_M_keep_13B at h
    refine hk_iload_n hC jd_M_keep_13 1 rfl ?_
    refine hk_bipush (v := 93) hC jd_M_keep_14 (by decide) ?_
    refine hk_icmp_ge (tgt := 45) hC jd_M_keep_16 (by decide) (fun cc1 => ?_) (fun cc1 => ?_)
    · replace h := xi_t h cc1
      exact hk_lv [0] rfl (ihx45 kept h)
    · replace h := xi_f h cc1
      refine hk_aload_n hC jd_M_keep_19 0 rfl ?_
      refine hk_get hC jk_M 0 rfl 28 (by decide) jq_726 rfl jd_M_keep_20 ?_
      refine hk_bipush (v := 93) hC jd_M_keep_23 (by decide) ?_
      refine hk_aload_n hC jd_M_keep_25 0 rfl ?_
      refine hk_get hC jk_M 0 rfl 27 (by decide) jq_725 rfl jd_M_keep_26 ?_
      refine hk_imul hC jd_M_keep_29 ?_
      refine hk_iload_n hC jd_M_keep_30 1 rfl ?_
      refine hk_iadd hC jd_M_keep_31 ?_
      refine hk_aload_n hC jd_M_keep_32 0 rfl ?_
      refine hk_get hC jk_M 0 rfl 20 (by decide) jq_718 rfl jd_M_keep_33 ?_
      refine hk_iload_n hC jd_M_keep_36 1 rfl ?_
      have hr1 := xr_in h
      replace h := xr_go h
      refine hk_iald hC 12 rfl hr1 jd_M_keep_37 ?_
      have hr2 := xr_in h
      replace h := xr_go h
      obtain ⟨z1, e_z1, h⟩ := xl_go h
      refine hk_iast hC 17 rfl hr2 e_z1 (ws2 := (wM cI a text letters mowers cows ricks weathers says words weather kindOf thatch newMowers newCows newRicks newWeathers newSays newWords newWeather newKind newThatch st pasts past aside seen seenWord seenHour keeps z1)) rfl jd_M_keep_38 ?_
      obtain ⟨v1, e_v1, h⟩ := xl_go h
      refine hk_iinc hC (lv2 := [(1, .int v1), (0, .ref (a 0))]) jd_M_keep_39 1 rfl e_v1 (by decide) rfl ?_
      refine hk_goto (tgt := 13) hC jd_M_keep_42 (by decide) ?_
      exact hk_lv [1, 0] rfl (ihh13 (z1, v1) h)
  have L_13 : ∀ (st : Nat → Int32) (keeps : Int32) (kept : Nat → Int32) (x1 : Int32) (kx45 : ((Nat → Int32)) → Option (Int32 × Int32 × (Nat → Int32))) (ihx45 : ∀ q, kx45 q = some o → hk_W p l e jr_M_keep s m args below meth c A (hk_Zi below args s D A o.1 (wM cI a text letters mowers cows ricks weathers says words weather kindOf thatch newMowers newCows newRicks newWeathers newSays newWords newWeather newKind newThatch st pasts past aside seen seenWord seenHour o.2.1 o.2.2)) 2 D 0 0 (wM cI a text letters mowers cows ricks weathers says words weather kindOf thatch newMowers newCows newRicks newWeathers newSays newWords newWeather newKind newThatch st pasts past aside seen seenWord seenHour keeps q) 45 [(0, .ref (a 0))] []) (_ : jf_M_keep_13 N st keeps kept x1 kx45 = some o), hk_W p l e jr_M_keep s m args below meth c A (hk_Zi below args s D A o.1 (wM cI a text letters mowers cows ricks weathers says words weather kindOf thatch newMowers newCows newRicks newWeathers newSays newWords newWeather newKind newThatch st pasts past aside seen seenWord seenHour o.2.1 o.2.2)) 2 D 0 0 (wM cI a text letters mowers cows ricks weathers says words weather kindOf thatch newMowers newCows newRicks newWeathers newSays newWords newWeather newKind newThatch st pasts past aside seen seenWord seenHour keeps kept) 13 [(0, .ref (a 0)), (1, .int x1)] [] := by
    intro st keeps kept x1 kx45 ihx45 h
    exact xloopW (fun (q : (Nat → Int32) × Int32) => hk_W p l e jr_M_keep s m args below meth c A (hk_Zi below args s D A o.1 (wM cI a text letters mowers cows ricks weathers says words weather kindOf thatch newMowers newCows newRicks newWeathers newSays newWords newWeather newKind newThatch st pasts past aside seen seenWord seenHour o.2.1 o.2.2)) 2 D 0 0 (wM cI a text letters mowers cows ricks weathers says words weather kindOf thatch newMowers newCows newRicks newWeathers newSays newWords newWeather newKind newThatch st pasts past aside seen seenWord seenHour keeps q.1) 13 [(0, .ref (a 0)), (1, .int q.2)] []) (fun kh ih q h => B_13 st keeps q.1 q.2 kh kx45 ih ihx45 h) N (kept, x1) h
  have B_45 : ∀ (st : Nat → Int32) (keeps : Int32) (kept : Nat → Int32)   (_ : jf_M_keep_45 N st keeps kept  = some o), hk_W p l e jr_M_keep s m args below meth c A (hk_Zi below args s D A o.1 (wM cI a text letters mowers cows ricks weathers says words weather kindOf thatch newMowers newCows newRicks newWeathers newSays newWords newWeather newKind newThatch st pasts past aside seen seenWord seenHour o.2.1 o.2.2)) 2 D 0 0 (wM cI a text letters mowers cows ricks weathers says words weather kindOf thatch newMowers newCows newRicks newWeathers newSays newWords newWeather newKind newThatch st pasts past aside seen seenWord seenHour keeps kept) 45 [(0, .ref (a 0))] [] := by
    intro st keeps kept   h
    delta jf_M_keep_45 at h
    refine hk_aload_n hC jd_M_keep_45 0 rfl ?_
    refine hk_dup hC jd_M_keep_46 rfl ?_
    refine hk_get hC jk_M 0 rfl 27 (by decide) jq_725 rfl jd_M_keep_47 ?_
    refine hk_iconst (v := 1) hC jd_M_keep_50 (by decide) ?_
    refine hk_iadd hC jd_M_keep_51 ?_
    obtain ⟨v1, e_v1, h⟩ := xl_go h
    refine hk_topi e_v1 ?_
    refine hk_put hC jk_M 0 rfl 27 (by decide) jq_725 rfl rfl rfl (Nat.le_of_ble_eq_true rfl) (ws2 := (wM cI a text letters mowers cows ricks weathers says words weather kindOf thatch newMowers newCows newRicks newWeathers newSays newWords newWeather newKind newThatch st pasts past aside seen seenWord seenHour v1 kept)) rfl jd_M_keep_52 ?_
    refine hk_aload_n hC jd_M_keep_55 0 rfl ?_
    refine hk_get hC jk_M 0 rfl 27 (by decide) jq_725 rfl jd_M_keep_56 ?_
    obtain rfl := Option.some.inj h
    exact hk_iret hC hr jd_M_keep_59 rfl rfl
  delta jf_M_keep at h
  refine hk_aload_n hC jd_M_keep_0 0 rfl ?_
  refine hk_get hC jk_M 0 rfl 27 (by decide) jq_725 rfl jd_M_keep_1 ?_
  refine hk_iconst (v := 2) hC jd_M_keep_4 (by decide) ?_
  refine hk_icmp_ne (tgt := 11) hC jd_M_keep_5 (by decide) (fun cc1 => ?_) (fun cc1 => ?_)
  · replace h := xi_f h cc1
    refine hk_iconst (v := 0) hC jd_M_keep_11 (by decide) ?_
    refine hk_istore_n hC (i := 1) (y := (0 : Int32)) (lv2 := [(1, .int (0 : Int32)), (0, .ref (a 0))]) jd_M_keep_12 rfl rfl (by decide) rfl ?_
    exact hk_lv [1, 0] rfl (L_13 st keeps kept (0 : Int32) _ (fun q1 h => by exact (B_45 st keeps q1   h)) h)
  · replace h := xi_t h cc1
    refine hk_bipush (v := -3) hC jd_M_keep_8 (by decide) ?_
    obtain rfl := Option.some.inj h
    exact hk_iret hC hr jd_M_keep_10 rfl rfl
theorem jc_M_keep (l : Launch) (D : va_G) (cI cF : ClassId) (N : Nat) (a : Nat → Nat)  (text : Nat → Int32) (letters : Int32) (mowers : Int32) (cows : Int32) (ricks : Int32) (weathers : Int32) (says : Nat → Int32) (words : Nat → Int32) (weather : Nat → Int32) (kindOf : Nat → Int32) (thatch : Nat → Int32) (newMowers : Int32) (newCows : Int32) (newRicks : Int32) (newWeathers : Int32) (newSays : Nat → Int32) (newWords : Nat → Int32) (newWeather : Nat → Int32) (newKind : Nat → Int32) (newThatch : Nat → Int32) (st : Nat → Int32) (pasts : Int32) (past : Nat → Int32) (aside : Nat → Int32) (seen : Int32) (seenWord : Nat → Int32) (seenHour : Nat → Int32) (keeps : Int32) (kept : Nat → Int32)  {o : Int32 × Int32 × (Nat → Int32)} (h : jf_M_keep N st keeps kept = some o) : hk_Mi l jy_M_keep jb_M_keep 2 (some .int) jr_M_keep D cI cF (wM cI a text letters mowers cows ricks weathers says words weather kindOf thatch newMowers newCows newRicks newWeathers newSays newWords newWeather newKind newThatch st pasts past aside seen seenWord seenHour keeps kept) [.ref (a 0)] o.1 (wM cI a text letters mowers cows ricks weathers says words weather kindOf thatch newMowers newCows newRicks newWeathers newSays newWords newWeather newKind newThatch st pasts past aside seen seenWord seenHour o.2.1 o.2.2) :=
  hk_metI (by decide) (Nat.le_of_ble_eq_true rfl) rfl rfl (fun p e s m args below meth c A hC hr => jw_M_keep hC hr N a text letters mowers cows ricks weathers says words weather kindOf thatch newMowers newCows newRicks newWeathers newSays newWords newWeather newKind newThatch st pasts past aside seen seenWord seenHour keeps kept h)
