set_option maxHeartbeats 8000000 in
set_option maxRecDepth 100000 in
theorem jw_M_heat {p : Program} {l : Launch} {e : Env} {s : State} {m : MethodId} {args : Array Value} {below : List Frame} {meth : Method} {c : Code} {A : Nat → Prop} {D : va_G} {cI cF : ClassId} (hC : hk_ok p s m args meth c A 4 D cI cF "HayTalkModel" jb_M_heat) (hr : meth.sig.returnType = none) (N : Nat) (a : Nat → Nat)  (text : Nat → Int32) (letters : Int32) (mowers : Int32) (cows : Int32) (ricks : Int32) (weathers : Int32) (says : Nat → Int32) (words : Nat → Int32) (weather : Nat → Int32) (kindOf : Nat → Int32) (thatch : Nat → Int32) (newMowers : Int32) (newCows : Int32) (newRicks : Int32) (newWeathers : Int32) (newSays : Nat → Int32) (newWords : Nat → Int32) (newWeather : Nat → Int32) (newKind : Nat → Int32) (newThatch : Nat → Int32) (st : Nat → Int32) (pasts : Int32) (past : Nat → Int32) (aside : Nat → Int32) (seen : Int32) (seenWord : Nat → Int32) (seenHour : Nat → Int32) (keeps : Int32) (kept : Nat → Int32) (x1 : Int32) {o : (Nat → Int32)} (h : jf_M_heat N thatch st x1 = some o) : hk_W p l e jr_M_heat s m args below meth c A (hk_Zv below args s D A (wM cI a text letters mowers cows ricks weathers says words weather kindOf thatch newMowers newCows newRicks newWeathers newSays newWords newWeather newKind newThatch o pasts past aside seen seenWord seenHour keeps kept)) 4 D 0 0 (wM cI a text letters mowers cows ricks weathers says words weather kindOf thatch newMowers newCows newRicks newWeathers newSays newWords newWeather newKind newThatch st pasts past aside seen seenWord seenHour keeps kept) 0 [(0, .ref (a 0)), (1, .int x1)] [] := by
  have B_61 : ∀ (thatch : Nat → Int32) (st : Nat → Int32) (x1 : Int32) (x2 : Int32) (y1 : Int32) (y2 : Int32) (y3 : Int32) (kh2 : ((Nat → Int32) × Int32) → Option ((Nat → Int32))) (kx69 : ((Nat → Int32)) → Option ((Nat → Int32))) (ihh2 : ∀ q, kh2 q = some o → hk_W p l e jr_M_heat s m args below meth c A (hk_Zv below args s D A (wM cI a text letters mowers cows ricks weathers says words weather kindOf thatch newMowers newCows newRicks newWeathers newSays newWords newWeather newKind newThatch o pasts past aside seen seenWord seenHour keeps kept)) 4 D 0 0 (wM cI a text letters mowers cows ricks weathers says words weather kindOf thatch newMowers newCows newRicks newWeathers newSays newWords newWeather newKind newThatch q.1 pasts past aside seen seenWord seenHour keeps kept) 2 [(0, .ref (a 0)), (1, .int x1), (2, .int q.2)] []) (ihx69 : ∀ q, kx69 q = some o → hk_W p l e jr_M_heat s m args below meth c A (hk_Zv below args s D A (wM cI a text letters mowers cows ricks weathers says words weather kindOf thatch newMowers newCows newRicks newWeathers newSays newWords newWeather newKind newThatch o pasts past aside seen seenWord seenHour keeps kept)) 4 D 0 0 (wM cI a text letters mowers cows ricks weathers says words weather kindOf thatch newMowers newCows newRicks newWeathers newSays newWords newWeather newKind newThatch q pasts past aside seen seenWord seenHour keeps kept) 69 [(0, .ref (a 0)), (1, .int x1)] []) (_ : jf_M_heat_61 N thatch st x1 x2 y1 y2 y3 kh2 kx69 = some o), hk_W p l e jr_M_heat s m args below meth c A (hk_Zv below args s D A (wM cI a text letters mowers cows ricks weathers says words weather kindOf thatch newMowers newCows newRicks newWeathers newSays newWords newWeather newKind newThatch o pasts past aside seen seenWord seenHour keeps kept)) 4 D 0 0 (wM cI a text letters mowers cows ricks weathers says words weather kindOf thatch newMowers newCows newRicks newWeathers newSays newWords newWeather newKind newThatch st pasts past aside seen seenWord seenHour keeps kept) 61 [(0, .ref (a 0)), (1, .int x1), (2, .int x2)] [.int y3, .int y2, .int y1, .ref (a 12)] := by
    intro thatch st x1 x2 y1 y2 y3 kh2 kx69 ihh2 ihx69 h
    delta jf_M_heat_61 at h
    refine hk_iadd hC jd_M_heat_61 ?_
    have hr1 := xr_in h
    replace h := xr_go h
    obtain ⟨z1, e_z1, h⟩ := xl_go h
    refine hk_iast hC 12 rfl hr1 e_z1 (ws2 := (wM cI a text letters mowers cows ricks weathers says words weather kindOf thatch newMowers newCows newRicks newWeathers newSays newWords newWeather newKind newThatch z1 pasts past aside seen seenWord seenHour keeps kept)) rfl jd_M_heat_62 ?_
    obtain ⟨v1, e_v1, h⟩ := xl_go h
    refine hk_iinc hC (lv2 := [(2, .int v1), (0, .ref (a 0)), (1, .int x1)]) jd_M_heat_63 2 rfl e_v1 (by decide) rfl ?_
    refine hk_goto (tgt := 2) hC jd_M_heat_66 (by decide) ?_
    exact hk_lv [1, 2, 0] rfl (ihh2 (z1, v1) h)
  have B_2 : ∀ (thatch : Nat → Int32) (st : Nat → Int32) (x1 : Int32) (x2 : Int32) (kh2 : ((Nat → Int32) × Int32) → Option ((Nat → Int32))) (kx69 : ((Nat → Int32)) → Option ((Nat → Int32))) (ihh2 : ∀ q, kh2 q = some o → hk_W p l e jr_M_heat s m args below meth c A (hk_Zv below args s D A (wM cI a text letters mowers cows ricks weathers says words weather kindOf thatch newMowers newCows newRicks newWeathers newSays newWords newWeather newKind newThatch o pasts past aside seen seenWord seenHour keeps kept)) 4 D 0 0 (wM cI a text letters mowers cows ricks weathers says words weather kindOf thatch newMowers newCows newRicks newWeathers newSays newWords newWeather newKind newThatch q.1 pasts past aside seen seenWord seenHour keeps kept) 2 [(0, .ref (a 0)), (1, .int x1), (2, .int q.2)] []) (ihx69 : ∀ q, kx69 q = some o → hk_W p l e jr_M_heat s m args below meth c A (hk_Zv below args s D A (wM cI a text letters mowers cows ricks weathers says words weather kindOf thatch newMowers newCows newRicks newWeathers newSays newWords newWeather newKind newThatch o pasts past aside seen seenWord seenHour keeps kept)) 4 D 0 0 (wM cI a text letters mowers cows ricks weathers says words weather kindOf thatch newMowers newCows newRicks newWeathers newSays newWords newWeather newKind newThatch q pasts past aside seen seenWord seenHour keeps kept) 69 [(0, .ref (a 0)), (1, .int x1)] []) (_ : jf_M_heat_2B N thatch st x1 x2 kh2 kx69 = some o), hk_W p l e jr_M_heat s m args below meth c A (hk_Zv below args s D A (wM cI a text letters mowers cows ricks weathers says words weather kindOf thatch newMowers newCows newRicks newWeathers newSays newWords newWeather newKind newThatch o pasts past aside seen seenWord seenHour keeps kept)) 4 D 0 0 (wM cI a text letters mowers cows ricks weathers says words weather kindOf thatch newMowers newCows newRicks newWeathers newSays newWords newWeather newKind newThatch st pasts past aside seen seenWord seenHour keeps kept) 2 [(0, .ref (a 0)), (1, .int x1), (2, .int x2)] [] := by
    intro thatch st x1 x2 kh2 kx69 ihh2 ihx69 h
    delta jf_M_heat_2B at h
    refine hk_iload_n hC jd_M_heat_2 2 rfl ?_
    refine hk_aload_n hC jd_M_heat_3 0 rfl ?_
    refine hk_get hC jk_M 0 rfl 20 (by decide) jq_718 rfl jd_M_heat_4 ?_
    refine hk_bipush (v := 15) hC jd_M_heat_7 (by decide) ?_
    refine hk_iload_n hC jd_M_heat_9 1 rfl ?_
    refine hk_iadd hC jd_M_heat_10 ?_
    have hr1 := xr_in h
    replace h := xr_go h
    refine hk_iald hC 12 rfl hr1 jd_M_heat_11 ?_
    refine hk_icmp_ge (tgt := 69) hC jd_M_heat_12 (by decide) (fun cc1 => ?_) (fun cc1 => ?_)
    · replace h := xi_t h cc1
      exact hk_lv [0, 1] rfl (ihx69 st h)
    · replace h := xi_f h cc1
      refine hk_aload_n hC jd_M_heat_15 0 rfl ?_
      refine hk_get hC jk_M 0 rfl 20 (by decide) jq_718 rfl jd_M_heat_16 ?_
      refine hk_bipush (v := 45) hC jd_M_heat_19 (by decide) ?_
      refine hk_bipush (v := 8) hC jd_M_heat_21 (by decide) ?_
      refine hk_iload_n hC jd_M_heat_23 1 rfl ?_
      refine hk_imul hC jd_M_heat_24 ?_
      refine hk_iadd hC jd_M_heat_25 ?_
      refine hk_iload_n hC jd_M_heat_26 2 rfl ?_
      refine hk_iadd hC jd_M_heat_27 ?_
      have hr2 := xr_in h
      replace h := xr_go h
      refine hk_iald hC 12 rfl hr2 jd_M_heat_28 ?_
      refine hk_aload_n hC jd_M_heat_29 0 rfl ?_
      refine hk_get hC jk_M 0 rfl 10 (by decide) jq_708 rfl jd_M_heat_30 ?_
      refine hk_iload_n hC jd_M_heat_33 1 rfl ?_
      have hr3 := xr_in h
      replace h := xr_go h
      refine hk_iald hC 6 rfl hr3 jd_M_heat_34 ?_
      refine hk_isub hC jd_M_heat_35 ?_
      obtain ⟨v1, e_v1, h⟩ := xl_go h
      refine hk_istore_n hC (i := 3) (y := v1) (lv2 := [(3, .int v1), (0, .ref (a 0)), (1, .int x1), (2, .int x2)]) jd_M_heat_36 rfl e_v1 (by decide) rfl ?_
      refine hk_aload_n hC jd_M_heat_37 1 rfl ?_
      refine hk_get hC jk_M 0 rfl 20 (by decide) jq_718 rfl jd_M_heat_38 ?_
      refine hk_bipush (v := 69) hC jd_M_heat_41 (by decide) ?_
      refine hk_bipush (v := 8) hC jd_M_heat_43 (by decide) ?_
      refine hk_iload_n hC jd_M_heat_45 2 rfl ?_
      refine hk_imul hC jd_M_heat_46 ?_
      refine hk_iadd hC jd_M_heat_47 ?_
      refine hk_iload_n hC jd_M_heat_48 3 rfl ?_
      refine hk_iadd hC jd_M_heat_49 ?_
      refine hk_dup2 hC jd_M_heat_50 rfl rfl ?_
      have hr4 := xr_in h
      replace h := xr_go h
      refine hk_iald hC 12 rfl hr4 jd_M_heat_51 ?_
      refine hk_iload_n hC jd_M_heat_52 0 rfl ?_
      refine hk_if_le (tgt := 60) hC jd_M_heat_53 (by decide) (fun cc2 => ?_) (fun cc2 => ?_)
      · replace h := xi_t h cc2
        refine hk_iconst (v := 0) hC jd_M_heat_60 (by decide) ?_
        exact hk_lv [1, 2, 3] rfl (B_61 thatch st x1 x2 (((69 : Int32) + ((8 : Int32) * x1)) + x2) (st (Int32.toNatClampNeg (((69 : Int32) + ((8 : Int32) * x1)) + x2))) (0 : Int32) kh2 kx69 ihh2 ihx69 h)
      · replace h := xi_f h cc2
        refine hk_iload_n hC jd_M_heat_56 0 rfl ?_
        refine hk_goto (tgt := 61) hC jd_M_heat_57 (by decide) ?_
        exact hk_lv [1, 2, 3] rfl (B_61 thatch st x1 x2 (((69 : Int32) + ((8 : Int32) * x1)) + x2) (st (Int32.toNatClampNeg (((69 : Int32) + ((8 : Int32) * x1)) + x2))) v1 kh2 kx69 ihh2 ihx69 h)
  have L_2 : ∀ (thatch : Nat → Int32) (st : Nat → Int32) (x1 : Int32) (x2 : Int32) (kx69 : ((Nat → Int32)) → Option ((Nat → Int32))) (ihx69 : ∀ q, kx69 q = some o → hk_W p l e jr_M_heat s m args below meth c A (hk_Zv below args s D A (wM cI a text letters mowers cows ricks weathers says words weather kindOf thatch newMowers newCows newRicks newWeathers newSays newWords newWeather newKind newThatch o pasts past aside seen seenWord seenHour keeps kept)) 4 D 0 0 (wM cI a text letters mowers cows ricks weathers says words weather kindOf thatch newMowers newCows newRicks newWeathers newSays newWords newWeather newKind newThatch q pasts past aside seen seenWord seenHour keeps kept) 69 [(0, .ref (a 0)), (1, .int x1)] []) (_ : jf_M_heat_2 N thatch st x1 x2 kx69 = some o), hk_W p l e jr_M_heat s m args below meth c A (hk_Zv below args s D A (wM cI a text letters mowers cows ricks weathers says words weather kindOf thatch newMowers newCows newRicks newWeathers newSays newWords newWeather newKind newThatch o pasts past aside seen seenWord seenHour keeps kept)) 4 D 0 0 (wM cI a text letters mowers cows ricks weathers says words weather kindOf thatch newMowers newCows newRicks newWeathers newSays newWords newWeather newKind newThatch st pasts past aside seen seenWord seenHour keeps kept) 2 [(0, .ref (a 0)), (1, .int x1), (2, .int x2)] [] := by
    intro thatch st x1 x2 kx69 ihx69 h
    exact xloopW (fun (q : (Nat → Int32) × Int32) => hk_W p l e jr_M_heat s m args below meth c A (hk_Zv below args s D A (wM cI a text letters mowers cows ricks weathers says words weather kindOf thatch newMowers newCows newRicks newWeathers newSays newWords newWeather newKind newThatch o pasts past aside seen seenWord seenHour keeps kept)) 4 D 0 0 (wM cI a text letters mowers cows ricks weathers says words weather kindOf thatch newMowers newCows newRicks newWeathers newSays newWords newWeather newKind newThatch q.1 pasts past aside seen seenWord seenHour keeps kept) 2 [(0, .ref (a 0)), (1, .int x1), (2, .int q.2)] []) (fun kh ih q h => B_2 thatch q.1 x1 q.2 kh kx69 ih ihx69 h) N (st, x2) h
  have B_69 : ∀ (thatch : Nat → Int32) (st : Nat → Int32) (x1 : Int32)   (_ : jf_M_heat_69 N thatch st x1  = some o), hk_W p l e jr_M_heat s m args below meth c A (hk_Zv below args s D A (wM cI a text letters mowers cows ricks weathers says words weather kindOf thatch newMowers newCows newRicks newWeathers newSays newWords newWeather newKind newThatch o pasts past aside seen seenWord seenHour keeps kept)) 4 D 0 0 (wM cI a text letters mowers cows ricks weathers says words weather kindOf thatch newMowers newCows newRicks newWeathers newSays newWords newWeather newKind newThatch st pasts past aside seen seenWord seenHour keeps kept) 69 [(0, .ref (a 0)), (1, .int x1)] [] := by
    intro thatch st x1   h
    delta jf_M_heat_69 at h
    refine hk_aload_n hC jd_M_heat_69 0 rfl ?_
    refine hk_iload_n hC jd_M_heat_70 1 rfl ?_
    obtain ⟨q1, h_q1, h⟩ := xb_go h
    refine hk_callVWi hC (q0 := 0) (jc_M_hottest l D cI cF N a text letters mowers cows ricks weathers says words weather kindOf thatch newMowers newCows newRicks newWeathers newSays newWords newWeather newKind newThatch st pasts past aside seen seenWord seenHour keeps kept x1 h_q1) jl_M_hottest rfl rfl jq_826 jq_828 jq0_25 rfl ⟨by decide, by decide⟩ rfl rfl (Nat.le_of_ble_eq_true rfl) ⟨Nat.zero_le _, Nat.zero_le _⟩ jd_M_heat_71 ?_
    refine hk_bipush (v := 40) hC jd_M_heat_74 (by decide) ?_
    refine hk_icmp_lt (tgt := 102) hC jd_M_heat_76 (by decide) (fun cc1 => ?_) (fun cc1 => ?_)
    · replace h := xi_t h cc1
      obtain rfl := Option.some.inj h
      exact hk_vret hC hr jd_M_heat_102 rfl
    · replace h := xi_f h cc1
      refine hk_aload_n hC jd_M_heat_79 0 rfl ?_
      refine hk_get hC jk_M 0 rfl 20 (by decide) jq_718 rfl jd_M_heat_80 ?_
      refine hk_bipush (v := 15) hC jd_M_heat_83 (by decide) ?_
      refine hk_iload_n hC jd_M_heat_85 1 rfl ?_
      refine hk_iadd hC jd_M_heat_86 ?_
      refine hk_iconst (v := 0) hC jd_M_heat_87 (by decide) ?_
      have hr1 := xr_in h
      replace h := xr_go h
      obtain ⟨z1, e_z1, h⟩ := xl_go h
      refine hk_iast hC 12 rfl hr1 e_z1 (ws2 := (wM cI a text letters mowers cows ricks weathers says words weather kindOf thatch newMowers newCows newRicks newWeathers newSays newWords newWeather newKind newThatch z1 pasts past aside seen seenWord seenHour keeps kept)) rfl jd_M_heat_88 ?_
      refine hk_aload_n hC jd_M_heat_89 0 rfl ?_
      refine hk_get hC jk_M 0 rfl 20 (by decide) jq_718 rfl jd_M_heat_90 ?_
      refine hk_bipush (v := 18) hC jd_M_heat_93 (by decide) ?_
      refine hk_iload_n hC jd_M_heat_95 1 rfl ?_
      refine hk_iadd hC jd_M_heat_96 ?_
      refine hk_dup2 hC jd_M_heat_97 rfl rfl ?_
      have hr2 := xr_in h
      replace h := xr_go h
      refine hk_iald hC 12 rfl hr2 jd_M_heat_98 ?_
      refine hk_iconst (v := 1) hC jd_M_heat_99 (by decide) ?_
      refine hk_iadd hC jd_M_heat_100 ?_
      have hr3 := xr_in h
      replace h := xr_go h
      obtain ⟨z2, e_z2, h⟩ := xl_go h
      refine hk_iast hC 12 rfl hr3 e_z2 (ws2 := (wM cI a text letters mowers cows ricks weathers says words weather kindOf thatch newMowers newCows newRicks newWeathers newSays newWords newWeather newKind newThatch z2 pasts past aside seen seenWord seenHour keeps kept)) rfl jd_M_heat_101 ?_
      obtain rfl := Option.some.inj h
      exact hk_vret hC hr jd_M_heat_102 rfl
  delta jf_M_heat at h
  refine hk_iconst (v := 0) hC jd_M_heat_0 (by decide) ?_
  refine hk_istore_n hC (i := 2) (y := (0 : Int32)) (lv2 := [(2, .int (0 : Int32)), (0, .ref (a 0)), (1, .int x1)]) jd_M_heat_1 rfl rfl (by decide) rfl ?_
  exact hk_lv [1, 2, 0] rfl (L_2 thatch st x1 (0 : Int32) _ (fun q1 h => by exact (B_69 thatch q1 x1   h)) h)
theorem jc_M_heat (l : Launch) (D : va_G) (cI cF : ClassId) (N : Nat) (a : Nat → Nat)  (text : Nat → Int32) (letters : Int32) (mowers : Int32) (cows : Int32) (ricks : Int32) (weathers : Int32) (says : Nat → Int32) (words : Nat → Int32) (weather : Nat → Int32) (kindOf : Nat → Int32) (thatch : Nat → Int32) (newMowers : Int32) (newCows : Int32) (newRicks : Int32) (newWeathers : Int32) (newSays : Nat → Int32) (newWords : Nat → Int32) (newWeather : Nat → Int32) (newKind : Nat → Int32) (newThatch : Nat → Int32) (st : Nat → Int32) (pasts : Int32) (past : Nat → Int32) (aside : Nat → Int32) (seen : Int32) (seenWord : Nat → Int32) (seenHour : Nat → Int32) (keeps : Int32) (kept : Nat → Int32) (x1 : Int32) {o : (Nat → Int32)} (h : jf_M_heat N thatch st x1 = some o) : hk_Mv l jy_M_heat jb_M_heat 4 jr_M_heat D cI cF (wM cI a text letters mowers cows ricks weathers says words weather kindOf thatch newMowers newCows newRicks newWeathers newSays newWords newWeather newKind newThatch st pasts past aside seen seenWord seenHour keeps kept) [.ref (a 0), .int x1] (wM cI a text letters mowers cows ricks weathers says words weather kindOf thatch newMowers newCows newRicks newWeathers newSays newWords newWeather newKind newThatch o pasts past aside seen seenWord seenHour keeps kept) :=
  hk_metV (by decide) (Nat.le_of_ble_eq_true rfl) rfl rfl (fun p e s m args below meth c A hC hr => jw_M_heat hC hr N a text letters mowers cows ricks weathers says words weather kindOf thatch newMowers newCows newRicks newWeathers newSays newWords newWeather newKind newThatch st pasts past aside seen seenWord seenHour keeps kept x1 h)
set_option maxHeartbeats 8000000 in
set_option maxRecDepth 100000 in
theorem jw_M_rains {p : Program} {l : Launch} {e : Env} {s : State} {m : MethodId} {args : Array Value} {below : List Frame} {meth : Method} {c : Code} {A : Nat → Prop} {D : va_G} {cI cF : ClassId} (hC : hk_ok p s m args meth c A 2 D cI cF "HayTalkModel" jb_M_rains) (hr : meth.sig.returnType = (some .int)) (N : Nat) (a : Nat → Nat)  (text : Nat → Int32) (letters : Int32) (mowers : Int32) (cows : Int32) (ricks : Int32) (weathers : Int32) (says : Nat → Int32) (words : Nat → Int32) (weather : Nat → Int32) (kindOf : Nat → Int32) (thatch : Nat → Int32) (newMowers : Int32) (newCows : Int32) (newRicks : Int32) (newWeathers : Int32) (newSays : Nat → Int32) (newWords : Nat → Int32) (newWeather : Nat → Int32) (newKind : Nat → Int32) (newThatch : Nat → Int32) (st : Nat → Int32) (pasts : Int32) (past : Nat → Int32) (aside : Nat → Int32) (seen : Int32) (seenWord : Nat → Int32) (seenHour : Nat → Int32) (keeps : Int32) (kept : Nat → Int32) (x1 : Int32) {o : Int32} (h : jf_M_rains N weathers weather x1 = some o) : hk_W p l e jr_M_rains s m args below meth c A (hk_Zi below args s D A o (wM cI a text letters mowers cows ricks weathers says words weather kindOf thatch newMowers newCows newRicks newWeathers newSays newWords newWeather newKind newThatch st pasts past aside seen seenWord seenHour keeps kept)) 2 D 0 0 (wM cI a text letters mowers cows ricks weathers says words weather kindOf thatch newMowers newCows newRicks newWeathers newSays newWords newWeather newKind newThatch st pasts past aside seen seenWord seenHour keeps kept) 0 [(0, .ref (a 0)), (1, .int x1)] [] := by
  delta jf_M_rains at h
  refine hk_aload_n hC jd_M_rains_0 0 rfl ?_
  refine hk_get hC jk_M 0 rfl 8 (by decide) jq_706 rfl jd_M_rains_1 ?_
  refine hk_iload_n hC jd_M_rains_4 1 rfl ?_
  refine hk_aload_n hC jd_M_rains_5 0 rfl ?_
  refine hk_get hC jk_M 0 rfl 5 (by decide) jq_703 rfl jd_M_rains_6 ?_
  have hz1 := xz_in h
  replace h := xz_go h
  refine hk_irem hC jd_M_rains_9 hz1 ?_
  have hr1 := xr_in h
  replace h := xr_go h
  refine hk_iald hC 4 rfl hr1 jd_M_rains_10 ?_
  obtain rfl := Option.some.inj h
  exact hk_iret hC hr jd_M_rains_11 rfl rfl
theorem jc_M_rains (l : Launch) (D : va_G) (cI cF : ClassId) (N : Nat) (a : Nat → Nat)  (text : Nat → Int32) (letters : Int32) (mowers : Int32) (cows : Int32) (ricks : Int32) (weathers : Int32) (says : Nat → Int32) (words : Nat → Int32) (weather : Nat → Int32) (kindOf : Nat → Int32) (thatch : Nat → Int32) (newMowers : Int32) (newCows : Int32) (newRicks : Int32) (newWeathers : Int32) (newSays : Nat → Int32) (newWords : Nat → Int32) (newWeather : Nat → Int32) (newKind : Nat → Int32) (newThatch : Nat → Int32) (st : Nat → Int32) (pasts : Int32) (past : Nat → Int32) (aside : Nat → Int32) (seen : Int32) (seenWord : Nat → Int32) (seenHour : Nat → Int32) (keeps : Int32) (kept : Nat → Int32) (x1 : Int32) {o : Int32} (h : jf_M_rains N weathers weather x1 = some o) : hk_Mi l jy_M_rains jb_M_rains 2 (some .int) jr_M_rains D cI cF (wM cI a text letters mowers cows ricks weathers says words weather kindOf thatch newMowers newCows newRicks newWeathers newSays newWords newWeather newKind newThatch st pasts past aside seen seenWord seenHour keeps kept) [.ref (a 0), .int x1] o (wM cI a text letters mowers cows ricks weathers says words weather kindOf thatch newMowers newCows newRicks newWeathers newSays newWords newWeather newKind newThatch st pasts past aside seen seenWord seenHour keeps kept) :=
  hk_metI (by decide) (Nat.le_of_ble_eq_true rfl) rfl rfl (fun p e s m args below meth c A hC hr => jw_M_rains hC hr N a text letters mowers cows ricks weathers says words weather kindOf thatch newMowers newCows newRicks newWeathers newSays newWords newWeather newKind newThatch st pasts past aside seen seenWord seenHour keeps kept x1 h)
set_option maxHeartbeats 8000000 in
set_option maxRecDepth 100000 in
theorem jw_M_wetter {p : Program} {l : Launch} {e : Env} {s : State} {m : MethodId} {args : Array Value} {below : List Frame} {meth : Method} {c : Code} {A : Nat → Prop} {D : va_G} {cI cF : ClassId} (hC : hk_ok p s m args meth c A 3 D cI cF "HayTalkModel" jb_M_wetter) (hr : meth.sig.returnType = (some .int)) (N : Nat) (a : Nat → Nat)  (text : Nat → Int32) (letters : Int32) (mowers : Int32) (cows : Int32) (ricks : Int32) (weathers : Int32) (says : Nat → Int32) (words : Nat → Int32) (weather : Nat → Int32) (kindOf : Nat → Int32) (thatch : Nat → Int32) (newMowers : Int32) (newCows : Int32) (newRicks : Int32) (newWeathers : Int32) (newSays : Nat → Int32) (newWords : Nat → Int32) (newWeather : Nat → Int32) (newKind : Nat → Int32) (newThatch : Nat → Int32) (st : Nat → Int32) (pasts : Int32) (past : Nat → Int32) (aside : Nat → Int32) (seen : Int32) (seenWord : Nat → Int32) (seenHour : Nat → Int32) (keeps : Int32) (kept : Nat → Int32) (x1 : Int32) (x2 : Int32) {o : Int32} (h : jf_M_wetter N x1 x2 = some o) : hk_W p l e jr_M_wetter s m args below meth c A (hk_Zi below args s D A o (wM cI a text letters mowers cows ricks weathers says words weather kindOf thatch newMowers newCows newRicks newWeathers newSays newWords newWeather newKind newThatch st pasts past aside seen seenWord seenHour keeps kept)) 3 D 0 0 (wM cI a text letters mowers cows ricks weathers says words weather kindOf thatch newMowers newCows newRicks newWeathers newSays newWords newWeather newKind newThatch st pasts past aside seen seenWord seenHour keeps kept) 0 [(0, .ref (a 0)), (1, .int x1), (2, .int x2)] [] := by
  delta jf_M_wetter at h
  refine hk_iload_n hC jd_M_wetter_0 1 rfl ?_
  refine hk_iload_n hC jd_M_wetter_1 2 rfl ?_
  refine hk_iadd hC jd_M_wetter_2 ?_
  refine hk_bipush (v := 99) hC jd_M_wetter_3 (by decide) ?_
  refine hk_icmp_le (tgt := 13) hC jd_M_wetter_5 (by decide) (fun cc1 => ?_) (fun cc1 => ?_)
  · replace h := xi_t h cc1
    refine hk_iload_n hC jd_M_wetter_13 1 rfl ?_
    refine hk_iload_n hC jd_M_wetter_14 2 rfl ?_
    refine hk_iadd hC jd_M_wetter_15 ?_
    obtain rfl := Option.some.inj h
    exact hk_iret hC hr jd_M_wetter_16 rfl rfl
  · replace h := xi_f h cc1
    refine hk_bipush (v := 99) hC jd_M_wetter_8 (by decide) ?_
    refine hk_goto (tgt := 16) hC jd_M_wetter_10 (by decide) ?_
    obtain rfl := Option.some.inj h
    exact hk_iret hC hr jd_M_wetter_16 rfl rfl
theorem jc_M_wetter (l : Launch) (D : va_G) (cI cF : ClassId) (N : Nat) (a : Nat → Nat)  (text : Nat → Int32) (letters : Int32) (mowers : Int32) (cows : Int32) (ricks : Int32) (weathers : Int32) (says : Nat → Int32) (words : Nat → Int32) (weather : Nat → Int32) (kindOf : Nat → Int32) (thatch : Nat → Int32) (newMowers : Int32) (newCows : Int32) (newRicks : Int32) (newWeathers : Int32) (newSays : Nat → Int32) (newWords : Nat → Int32) (newWeather : Nat → Int32) (newKind : Nat → Int32) (newThatch : Nat → Int32) (st : Nat → Int32) (pasts : Int32) (past : Nat → Int32) (aside : Nat → Int32) (seen : Int32) (seenWord : Nat → Int32) (seenHour : Nat → Int32) (keeps : Int32) (kept : Nat → Int32) (x1 : Int32) (x2 : Int32) {o : Int32} (h : jf_M_wetter N x1 x2 = some o) : hk_Mi l jy_M_wetter jb_M_wetter 3 (some .int) jr_M_wetter D cI cF (wM cI a text letters mowers cows ricks weathers says words weather kindOf thatch newMowers newCows newRicks newWeathers newSays newWords newWeather newKind newThatch st pasts past aside seen seenWord seenHour keeps kept) [.ref (a 0), .int x1, .int x2] o (wM cI a text letters mowers cows ricks weathers says words weather kindOf thatch newMowers newCows newRicks newWeathers newSays newWords newWeather newKind newThatch st pasts past aside seen seenWord seenHour keeps kept) :=
  hk_metI (by decide) (Nat.le_of_ble_eq_true rfl) rfl rfl (fun p e s m args below meth c A hC hr => jw_M_wetter hC hr N a text letters mowers cows ricks weathers says words weather kindOf thatch newMowers newCows newRicks newWeathers newSays newWords newWeather newKind newThatch st pasts past aside seen seenWord seenHour keeps kept x1 x2 h)
set_option maxHeartbeats 8000000 in
set_option maxRecDepth 100000 in
theorem jw_M_oneHour {p : Program} {l : Launch} {e : Env} {s : State} {m : MethodId} {args : Array Value} {below : List Frame} {meth : Method} {c : Code} {A : Nat → Prop} {D : va_G} {cI cF : ClassId} (hC : hk_ok p s m args meth c A 2 D cI cF "HayTalkModel" jb_M_oneHour) (hr : meth.sig.returnType = none) (N : Nat) (a : Nat → Nat)  (text : Nat → Int32) (letters : Int32) (mowers : Int32) (cows : Int32) (ricks : Int32) (weathers : Int32) (says : Nat → Int32) (words : Nat → Int32) (weather : Nat → Int32) (kindOf : Nat → Int32) (thatch : Nat → Int32) (newMowers : Int32) (newCows : Int32) (newRicks : Int32) (newWeathers : Int32) (newSays : Nat → Int32) (newWords : Nat → Int32) (newWeather : Nat → Int32) (newKind : Nat → Int32) (newThatch : Nat → Int32) (st : Nat → Int32) (pasts : Int32) (past : Nat → Int32) (aside : Nat → Int32) (seen : Int32) (seenWord : Nat → Int32) (seenHour : Nat → Int32) (keeps : Int32) (kept : Nat → Int32)  {o : (Nat → Int32)} (h : jf_M_oneHour N mowers ricks weathers says words weather thatch st = some o) : hk_W p l e jr_M_oneHour s m args below meth c A (hk_Zv below args s D A (wM cI a text letters mowers cows ricks weathers says words weather kindOf thatch newMowers newCows newRicks newWeathers newSays newWords newWeather newKind newThatch o pasts past aside seen seenWord seenHour keeps kept)) 2 D 0 0 (wM cI a text letters mowers cows ricks weathers says words weather kindOf thatch newMowers newCows newRicks newWeathers newSays newWords newWeather newKind newThatch st pasts past aside seen seenWord seenHour keeps kept) 0 [(0, .ref (a 0))] [] := by
  have B_2 : ∀ (mowers : Int32) (ricks : Int32) (weathers : Int32) (says : Nat → Int32) (words : Nat → Int32) (weather : Nat → Int32) (thatch : Nat → Int32) (st : Nat → Int32) (x1 : Int32) (kh2 : ((Nat → Int32) × Int32) → Option ((Nat → Int32))) (kx21 : ((Nat → Int32)) → Option ((Nat → Int32))) (ihh2 : ∀ q, kh2 q = some o → hk_W p l e jr_M_oneHour s m args below meth c A (hk_Zv below args s D A (wM cI a text letters mowers cows ricks weathers says words weather kindOf thatch newMowers newCows newRicks newWeathers newSays newWords newWeather newKind newThatch o pasts past aside seen seenWord seenHour keeps kept)) 2 D 0 0 (wM cI a text letters mowers cows ricks weathers says words weather kindOf thatch newMowers newCows newRicks newWeathers newSays newWords newWeather newKind newThatch q.1 pasts past aside seen seenWord seenHour keeps kept) 2 [(0, .ref (a 0)), (1, .int q.2)] []) (ihx21 : ∀ q, kx21 q = some o → hk_W p l e jr_M_oneHour s m args below meth c A (hk_Zv below args s D A (wM cI a text letters mowers cows ricks weathers says words weather kindOf thatch newMowers newCows newRicks newWeathers newSays newWords newWeather newKind newThatch o pasts past aside seen seenWord seenHour keeps kept)) 2 D 0 0 (wM cI a text letters mowers cows ricks weathers says words weather kindOf thatch newMowers newCows newRicks newWeathers newSays newWords newWeather newKind newThatch q pasts past aside seen seenWord seenHour keeps kept) 21 [(0, .ref (a 0))] []) (_ : jf_M_oneHour_2B N mowers ricks weathers says words weather thatch st x1 kh2 kx21 = some o), hk_W p l e jr_M_oneHour s m args below meth c A (hk_Zv below args s D A (wM cI a text letters mowers cows ricks weathers says words weather kindOf thatch newMowers newCows newRicks newWeathers newSays newWords newWeather newKind newThatch o pasts past aside seen seenWord seenHour keeps kept)) 2 D 0 0 (wM cI a text letters mowers cows ricks weathers says words weather kindOf thatch newMowers newCows newRicks newWeathers newSays newWords newWeather newKind newThatch st pasts past aside seen seenWord seenHour keeps kept) 2 [(0, .ref (a 0)), (1, .int x1)] [] := by
    intro mowers ricks weathers says words weather thatch st x1 kh2 kx21 ihh2 ihx21 h
    delta jf_M_oneHour_2B at h
    refine hk_iload_n hC jd_M_oneHour_2 1 rfl ?_
    refine hk_aload_n hC jd_M_oneHour_3 0 rfl ?_
    refine hk_get hC jk_M 0 rfl 4 (by decide) jq_702 rfl jd_M_oneHour_4 ?_
    refine hk_icmp_ge (tgt := 21) hC jd_M_oneHour_7 (by decide) (fun cc1 => ?_) (fun cc1 => ?_)
    · replace h := xi_t h cc1
      exact hk_lv [0] rfl (ihx21 st h)
    · replace h := xi_f h cc1
      refine hk_aload_n hC jd_M_oneHour_10 0 rfl ?_
      refine hk_iload_n hC jd_M_oneHour_11 1 rfl ?_
      obtain ⟨q1, h_q1, h⟩ := xb_go h
      refine hk_callVWv hC (q0 := 0) (jc_M_heat l D cI cF N a text letters mowers cows ricks weathers says words weather kindOf thatch newMowers newCows newRicks newWeathers newSays newWords newWeather newKind newThatch st pasts past aside seen seenWord seenHour keeps kept x1 h_q1) jl_M_heat rfl rfl jq_851 jq_853 jq0_28 rfl ⟨by decide, by decide⟩ rfl rfl (Nat.le_of_ble_eq_true rfl) ⟨Nat.zero_le _, Nat.zero_le _⟩ jd_M_oneHour_12 ?_
      obtain ⟨v1, e_v1, h⟩ := xl_go h
      refine hk_iinc hC (lv2 := [(1, .int v1), (0, .ref (a 0))]) jd_M_oneHour_15 1 rfl e_v1 (by decide) rfl ?_
      refine hk_goto (tgt := 2) hC jd_M_oneHour_18 (by decide) ?_
      exact hk_lv [1, 0] rfl (ihh2 (q1, v1) h)
  have L_2 : ∀ (mowers : Int32) (ricks : Int32) (weathers : Int32) (says : Nat → Int32) (words : Nat → Int32) (weather : Nat → Int32) (thatch : Nat → Int32) (st : Nat → Int32) (x1 : Int32) (kx21 : ((Nat → Int32)) → Option ((Nat → Int32))) (ihx21 : ∀ q, kx21 q = some o → hk_W p l e jr_M_oneHour s m args below meth c A (hk_Zv below args s D A (wM cI a text letters mowers cows ricks weathers says words weather kindOf thatch newMowers newCows newRicks newWeathers newSays newWords newWeather newKind newThatch o pasts past aside seen seenWord seenHour keeps kept)) 2 D 0 0 (wM cI a text letters mowers cows ricks weathers says words weather kindOf thatch newMowers newCows newRicks newWeathers newSays newWords newWeather newKind newThatch q pasts past aside seen seenWord seenHour keeps kept) 21 [(0, .ref (a 0))] []) (_ : jf_M_oneHour_2 N mowers ricks weathers says words weather thatch st x1 kx21 = some o), hk_W p l e jr_M_oneHour s m args below meth c A (hk_Zv below args s D A (wM cI a text letters mowers cows ricks weathers says words weather kindOf thatch newMowers newCows newRicks newWeathers newSays newWords newWeather newKind newThatch o pasts past aside seen seenWord seenHour keeps kept)) 2 D 0 0 (wM cI a text letters mowers cows ricks weathers says words weather kindOf thatch newMowers newCows newRicks newWeathers newSays newWords newWeather newKind newThatch st pasts past aside seen seenWord seenHour keeps kept) 2 [(0, .ref (a 0)), (1, .int x1)] [] := by
    intro mowers ricks weathers says words weather thatch st x1 kx21 ihx21 h
    exact xloopW (fun (q : (Nat → Int32) × Int32) => hk_W p l e jr_M_oneHour s m args below meth c A (hk_Zv below args s D A (wM cI a text letters mowers cows ricks weathers says words weather kindOf thatch newMowers newCows newRicks newWeathers newSays newWords newWeather newKind newThatch o pasts past aside seen seenWord seenHour keeps kept)) 2 D 0 0 (wM cI a text letters mowers cows ricks weathers says words weather kindOf thatch newMowers newCows newRicks newWeathers newSays newWords newWeather newKind newThatch q.1 pasts past aside seen seenWord seenHour keeps kept) 2 [(0, .ref (a 0)), (1, .int q.2)] []) (fun kh ih q h => B_2 mowers ricks weathers says words weather thatch q.1 q.2 kh kx21 ih ihx21 h) N (st, x1) h
  have B_23 : ∀ (mowers : Int32) (ricks : Int32) (weathers : Int32) (says : Nat → Int32) (words : Nat → Int32) (weather : Nat → Int32) (thatch : Nat → Int32) (st : Nat → Int32) (x1 : Int32) (kh23 : ((Nat → Int32) × Int32) → Option ((Nat → Int32))) (kx93 : ((Nat → Int32)) → Option ((Nat → Int32))) (ihh23 : ∀ q, kh23 q = some o → hk_W p l e jr_M_oneHour s m args below meth c A (hk_Zv below args s D A (wM cI a text letters mowers cows ricks weathers says words weather kindOf thatch newMowers newCows newRicks newWeathers newSays newWords newWeather newKind newThatch o pasts past aside seen seenWord seenHour keeps kept)) 2 D 0 0 (wM cI a text letters mowers cows ricks weathers says words weather kindOf thatch newMowers newCows newRicks newWeathers newSays newWords newWeather newKind newThatch q.1 pasts past aside seen seenWord seenHour keeps kept) 23 [(0, .ref (a 0)), (1, .int q.2)] []) (ihx93 : ∀ q, kx93 q = some o → hk_W p l e jr_M_oneHour s m args below meth c A (hk_Zv below args s D A (wM cI a text letters mowers cows ricks weathers says words weather kindOf thatch newMowers newCows newRicks newWeathers newSays newWords newWeather newKind newThatch o pasts past aside seen seenWord seenHour keeps kept)) 2 D 0 0 (wM cI a text letters mowers cows ricks weathers says words weather kindOf thatch newMowers newCows newRicks newWeathers newSays newWords newWeather newKind newThatch q pasts past aside seen seenWord seenHour keeps kept) 93 [(0, .ref (a 0))] []) (_ : jf_M_oneHour_23B N mowers ricks weathers says words weather thatch st x1 kh23 kx93 = some o), hk_W p l e jr_M_oneHour s m args below meth c A (hk_Zv below args s D A (wM cI a text letters mowers cows ricks weathers says words weather kindOf thatch newMowers newCows newRicks newWeathers newSays newWords newWeather newKind newThatch o pasts past aside seen seenWord seenHour keeps kept)) 2 D 0 0 (wM cI a text letters mowers cows ricks weathers says words weather kindOf thatch newMowers newCows newRicks newWeathers newSays newWords newWeather newKind newThatch st pasts past aside seen seenWord seenHour keeps kept) 23 [(0, .ref (a 0)), (1, .int x1)] [] := by
    intro mowers ricks weathers says words weather thatch st x1 kh23 kx93 ihh23 ihx93 h
    delta jf_M_oneHour_23B at h
    refine hk_iload_n hC jd_M_oneHour_23 1 rfl ?_
    refine hk_aload_n hC jd_M_oneHour_24 0 rfl ?_
    refine hk_get hC jk_M 0 rfl 2 (by decide) jq_700 rfl jd_M_oneHour_25 ?_
    refine hk_icmp_ge (tgt := 93) hC jd_M_oneHour_28 (by decide) (fun cc1 => ?_) (fun cc1 => ?_)
    · replace h := xi_t h cc1
      exact hk_lv [0] rfl (ihx93 st h)
    · replace h := xi_f h cc1
      refine hk_aload_n hC jd_M_oneHour_31 0 rfl ?_
      refine hk_get hC jk_M 0 rfl 20 (by decide) jq_718 rfl jd_M_oneHour_32 ?_
      refine hk_iconst (v := 1) hC jd_M_oneHour_35 (by decide) ?_
      refine hk_iload_n hC jd_M_oneHour_36 1 rfl ?_
      refine hk_iadd hC jd_M_oneHour_37 ?_
      refine hk_dup2 hC jd_M_oneHour_38 rfl rfl ?_
      have hr1 := xr_in h
      replace h := xr_go h
      refine hk_iald hC 12 rfl hr1 jd_M_oneHour_39 ?_
      refine hk_iconst (v := 1) hC jd_M_oneHour_40 (by decide) ?_
      refine hk_aload_n hC jd_M_oneHour_41 0 rfl ?_
      refine hk_iload_n hC jd_M_oneHour_42 1 rfl ?_
      refine hk_aload_n hC jd_M_oneHour_43 0 rfl ?_
      refine hk_get hC jk_M 0 rfl 20 (by decide) jq_718 rfl jd_M_oneHour_44 ?_
      refine hk_iconst (v := 0) hC jd_M_oneHour_47 (by decide) ?_
      have hr2 := xr_in h
      replace h := xr_go h
      refine hk_iald hC 12 rfl hr2 jd_M_oneHour_48 ?_
      obtain ⟨q1, h_q1, h⟩ := xb_go h
      refine hk_callVWi hC (q0 := 0) (jc_M_nextWord l D cI cF N a text letters mowers cows ricks weathers says words weather kindOf thatch newMowers newCows newRicks newWeathers newSays newWords newWeather newKind newThatch st pasts past aside seen seenWord seenHour keeps kept x1 (st (Int32.toNatClampNeg (0 : Int32))) h_q1) jl_M_nextWord rfl rfl jq_806 jq_808 jq0_22 rfl ⟨by decide, by decide⟩ rfl rfl (Nat.le_of_ble_eq_true rfl) ⟨Nat.zero_le _, Nat.zero_le _⟩ jd_M_oneHour_49 ?_
      refine hk_ishl hC jd_M_oneHour_52 ?_
      refine hk_ior hC jd_M_oneHour_53 ?_
      have hr3 := xr_in h
      replace h := xr_go h
      obtain ⟨z1, e_z1, h⟩ := xl_go h
      refine hk_iast hC 12 rfl hr3 e_z1 (ws2 := (wM cI a text letters mowers cows ricks weathers says words weather kindOf thatch newMowers newCows newRicks newWeathers newSays newWords newWeather newKind newThatch z1 pasts past aside seen seenWord seenHour keeps kept)) rfl jd_M_oneHour_54 ?_
      refine hk_aload_n hC jd_M_oneHour_55 0 rfl ?_
      refine hk_get hC jk_M 0 rfl 20 (by decide) jq_718 rfl jd_M_oneHour_56 ?_
      refine hk_bipush (v := 6) hC jd_M_oneHour_59 (by decide) ?_
      refine hk_iload_n hC jd_M_oneHour_61 1 rfl ?_
      refine hk_iadd hC jd_M_oneHour_62 ?_
      refine hk_aload_n hC jd_M_oneHour_63 0 rfl ?_
      refine hk_aload_n hC jd_M_oneHour_64 0 rfl ?_
      refine hk_get hC jk_M 0 rfl 20 (by decide) jq_718 rfl jd_M_oneHour_65 ?_
      refine hk_bipush (v := 6) hC jd_M_oneHour_68 (by decide) ?_
      refine hk_iload_n hC jd_M_oneHour_70 1 rfl ?_
      refine hk_iadd hC jd_M_oneHour_71 ?_
      have hr4 := xr_in h
      replace h := xr_go h
      refine hk_iald hC 12 rfl hr4 jd_M_oneHour_72 ?_
      refine hk_aload_n hC jd_M_oneHour_73 0 rfl ?_
      refine hk_aload_n hC jd_M_oneHour_74 0 rfl ?_
      refine hk_get hC jk_M 0 rfl 20 (by decide) jq_718 rfl jd_M_oneHour_75 ?_
      refine hk_iconst (v := 0) hC jd_M_oneHour_78 (by decide) ?_
      have hr5 := xr_in h
      replace h := xr_go h
      refine hk_iald hC 12 rfl hr5 jd_M_oneHour_79 ?_
      obtain ⟨q2, h_q2, h⟩ := xb_go h
      refine hk_callVWi hC (q0 := 0) (jc_M_rains l D cI cF N a text letters mowers cows ricks weathers says words weather kindOf thatch newMowers newCows newRicks newWeathers newSays newWords newWeather newKind newThatch z1 pasts past aside seen seenWord seenHour keeps kept (z1 (Int32.toNatClampNeg (0 : Int32))) h_q2) jl_M_rains rfl rfl jq_855 jq_857 jq0_29 rfl ⟨by decide, by decide⟩ rfl rfl (Nat.le_of_ble_eq_true rfl) ⟨Nat.zero_le _, Nat.zero_le _⟩ jd_M_oneHour_80 ?_
      obtain ⟨q3, h_q3, h⟩ := xb_go h
      refine hk_callVWi hC (q0 := 0) (jc_M_wetter l D cI cF N a text letters mowers cows ricks weathers says words weather kindOf thatch newMowers newCows newRicks newWeathers newSays newWords newWeather newKind newThatch z1 pasts past aside seen seenWord seenHour keeps kept (z1 (Int32.toNatClampNeg ((6 : Int32) + x1))) q2 h_q3) jl_M_wetter rfl rfl jq_859 jq_861 jq0_30 rfl ⟨by decide, by decide⟩ rfl rfl (Nat.le_of_ble_eq_true rfl) ⟨Nat.zero_le _, Nat.zero_le _⟩ jd_M_oneHour_83 ?_
      have hr6 := xr_in h
      replace h := xr_go h
      obtain ⟨z2, e_z2, h⟩ := xl_go h
      refine hk_iast hC 12 rfl hr6 e_z2 (ws2 := (wM cI a text letters mowers cows ricks weathers says words weather kindOf thatch newMowers newCows newRicks newWeathers newSays newWords newWeather newKind newThatch z2 pasts past aside seen seenWord seenHour keeps kept)) rfl jd_M_oneHour_86 ?_
      obtain ⟨v1, e_v1, h⟩ := xl_go h
      refine hk_iinc hC (lv2 := [(1, .int v1), (0, .ref (a 0))]) jd_M_oneHour_87 1 rfl e_v1 (by decide) rfl ?_
      refine hk_goto (tgt := 23) hC jd_M_oneHour_90 (by decide) ?_
      exact hk_lv [1, 0] rfl (ihh23 (z2, v1) h)
  have L_23 : ∀ (mowers : Int32) (ricks : Int32) (weathers : Int32) (says : Nat → Int32) (words : Nat → Int32) (weather : Nat → Int32) (thatch : Nat → Int32) (st : Nat → Int32) (x1 : Int32) (kx93 : ((Nat → Int32)) → Option ((Nat → Int32))) (ihx93 : ∀ q, kx93 q = some o → hk_W p l e jr_M_oneHour s m args below meth c A (hk_Zv below args s D A (wM cI a text letters mowers cows ricks weathers says words weather kindOf thatch newMowers newCows newRicks newWeathers newSays newWords newWeather newKind newThatch o pasts past aside seen seenWord seenHour keeps kept)) 2 D 0 0 (wM cI a text letters mowers cows ricks weathers says words weather kindOf thatch newMowers newCows newRicks newWeathers newSays newWords newWeather newKind newThatch q pasts past aside seen seenWord seenHour keeps kept) 93 [(0, .ref (a 0))] []) (_ : jf_M_oneHour_23 N mowers ricks weathers says words weather thatch st x1 kx93 = some o), hk_W p l e jr_M_oneHour s m args below meth c A (hk_Zv below args s D A (wM cI a text letters mowers cows ricks weathers says words weather kindOf thatch newMowers newCows newRicks newWeathers newSays newWords newWeather newKind newThatch o pasts past aside seen seenWord seenHour keeps kept)) 2 D 0 0 (wM cI a text letters mowers cows ricks weathers says words weather kindOf thatch newMowers newCows newRicks newWeathers newSays newWords newWeather newKind newThatch st pasts past aside seen seenWord seenHour keeps kept) 23 [(0, .ref (a 0)), (1, .int x1)] [] := by
    intro mowers ricks weathers says words weather thatch st x1 kx93 ihx93 h
    exact xloopW (fun (q : (Nat → Int32) × Int32) => hk_W p l e jr_M_oneHour s m args below meth c A (hk_Zv below args s D A (wM cI a text letters mowers cows ricks weathers says words weather kindOf thatch newMowers newCows newRicks newWeathers newSays newWords newWeather newKind newThatch o pasts past aside seen seenWord seenHour keeps kept)) 2 D 0 0 (wM cI a text letters mowers cows ricks weathers says words weather kindOf thatch newMowers newCows newRicks newWeathers newSays newWords newWeather newKind newThatch q.1 pasts past aside seen seenWord seenHour keeps kept) 23 [(0, .ref (a 0)), (1, .int q.2)] []) (fun kh ih q h => B_23 mowers ricks weathers says words weather thatch q.1 q.2 kh kx93 ih ihx93 h) N (st, x1) h
  have B_93 : ∀ (mowers : Int32) (ricks : Int32) (weathers : Int32) (says : Nat → Int32) (words : Nat → Int32) (weather : Nat → Int32) (thatch : Nat → Int32) (st : Nat → Int32)   (_ : jf_M_oneHour_93 N mowers ricks weathers says words weather thatch st  = some o), hk_W p l e jr_M_oneHour s m args below meth c A (hk_Zv below args s D A (wM cI a text letters mowers cows ricks weathers says words weather kindOf thatch newMowers newCows newRicks newWeathers newSays newWords newWeather newKind newThatch o pasts past aside seen seenWord seenHour keeps kept)) 2 D 0 0 (wM cI a text letters mowers cows ricks weathers says words weather kindOf thatch newMowers newCows newRicks newWeathers newSays newWords newWeather newKind newThatch st pasts past aside seen seenWord seenHour keeps kept) 93 [(0, .ref (a 0))] [] := by
    intro mowers ricks weathers says words weather thatch st   h
    delta jf_M_oneHour_93 at h
    refine hk_aload_n hC jd_M_oneHour_93 0 rfl ?_
    refine hk_get hC jk_M 0 rfl 20 (by decide) jq_718 rfl jd_M_oneHour_94 ?_
    refine hk_iconst (v := 0) hC jd_M_oneHour_97 (by decide) ?_
    refine hk_dup2 hC jd_M_oneHour_98 rfl rfl ?_
    have hr1 := xr_in h
    replace h := xr_go h
    refine hk_iald hC 12 rfl hr1 jd_M_oneHour_99 ?_
    refine hk_iconst (v := 1) hC jd_M_oneHour_100 (by decide) ?_
    refine hk_iadd hC jd_M_oneHour_101 ?_
    have hr2 := xr_in h
    replace h := xr_go h
    obtain ⟨z1, e_z1, h⟩ := xl_go h
    refine hk_iast hC 12 rfl hr2 e_z1 (ws2 := (wM cI a text letters mowers cows ricks weathers says words weather kindOf thatch newMowers newCows newRicks newWeathers newSays newWords newWeather newKind newThatch z1 pasts past aside seen seenWord seenHour keeps kept)) rfl jd_M_oneHour_102 ?_
    obtain rfl := Option.some.inj h
    exact hk_vret hC hr jd_M_oneHour_103 rfl
  have B_21 : ∀ (mowers : Int32) (ricks : Int32) (weathers : Int32) (says : Nat → Int32) (words : Nat → Int32) (weather : Nat → Int32) (thatch : Nat → Int32) (st : Nat → Int32)   (_ : jf_M_oneHour_21 N mowers ricks weathers says words weather thatch st  = some o), hk_W p l e jr_M_oneHour s m args below meth c A (hk_Zv below args s D A (wM cI a text letters mowers cows ricks weathers says words weather kindOf thatch newMowers newCows newRicks newWeathers newSays newWords newWeather newKind newThatch o pasts past aside seen seenWord seenHour keeps kept)) 2 D 0 0 (wM cI a text letters mowers cows ricks weathers says words weather kindOf thatch newMowers newCows newRicks newWeathers newSays newWords newWeather newKind newThatch st pasts past aside seen seenWord seenHour keeps kept) 21 [(0, .ref (a 0))] [] := by
    intro mowers ricks weathers says words weather thatch st   h
    delta jf_M_oneHour_21 at h
    refine hk_iconst (v := 0) hC jd_M_oneHour_21 (by decide) ?_
    refine hk_istore_n hC (i := 1) (y := (0 : Int32)) (lv2 := [(1, .int (0 : Int32)), (0, .ref (a 0))]) jd_M_oneHour_22 rfl rfl (by decide) rfl ?_
    exact hk_lv [1, 0] rfl (L_23 mowers ricks weathers says words weather thatch st (0 : Int32) _ (fun q1 h => by exact (B_93 mowers ricks weathers says words weather thatch q1   h)) h)
  delta jf_M_oneHour at h
  refine hk_iconst (v := 0) hC jd_M_oneHour_0 (by decide) ?_
  refine hk_istore_n hC (i := 1) (y := (0 : Int32)) (lv2 := [(1, .int (0 : Int32)), (0, .ref (a 0))]) jd_M_oneHour_1 rfl rfl (by decide) rfl ?_
  exact hk_lv [1, 0] rfl (L_2 mowers ricks weathers says words weather thatch st (0 : Int32) _ (fun q1 h => by exact (B_21 mowers ricks weathers says words weather thatch q1   h)) h)
theorem jc_M_oneHour (l : Launch) (D : va_G) (cI cF : ClassId) (N : Nat) (a : Nat → Nat)  (text : Nat → Int32) (letters : Int32) (mowers : Int32) (cows : Int32) (ricks : Int32) (weathers : Int32) (says : Nat → Int32) (words : Nat → Int32) (weather : Nat → Int32) (kindOf : Nat → Int32) (thatch : Nat → Int32) (newMowers : Int32) (newCows : Int32) (newRicks : Int32) (newWeathers : Int32) (newSays : Nat → Int32) (newWords : Nat → Int32) (newWeather : Nat → Int32) (newKind : Nat → Int32) (newThatch : Nat → Int32) (st : Nat → Int32) (pasts : Int32) (past : Nat → Int32) (aside : Nat → Int32) (seen : Int32) (seenWord : Nat → Int32) (seenHour : Nat → Int32) (keeps : Int32) (kept : Nat → Int32)  {o : (Nat → Int32)} (h : jf_M_oneHour N mowers ricks weathers says words weather thatch st = some o) : hk_Mv l jy_M_oneHour jb_M_oneHour 2 jr_M_oneHour D cI cF (wM cI a text letters mowers cows ricks weathers says words weather kindOf thatch newMowers newCows newRicks newWeathers newSays newWords newWeather newKind newThatch st pasts past aside seen seenWord seenHour keeps kept) [.ref (a 0)] (wM cI a text letters mowers cows ricks weathers says words weather kindOf thatch newMowers newCows newRicks newWeathers newSays newWords newWeather newKind newThatch o pasts past aside seen seenWord seenHour keeps kept) :=
  hk_metV (by decide) (Nat.le_of_ble_eq_true rfl) rfl rfl (fun p e s m args below meth c A hC hr => jw_M_oneHour hC hr N a text letters mowers cows ricks weathers says words weather kindOf thatch newMowers newCows newRicks newWeathers newSays newWords newWeather newKind newThatch st pasts past aside seen seenWord seenHour keeps kept h)
