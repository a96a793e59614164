set_option maxHeartbeats 8000000 in
set_option maxRecDepth 100000 in
theorem jw_M_toldBy {p : Program} {l : Launch} {e : Env} {s : State} {m : MethodId} {args : Array Value} {below : List Frame} {meth : Method} {c : Code} {A : Nat → Prop} {D : va_G} {cI cF : ClassId} (hC : hk_ok p s m args meth c A 9 D cI cF "HayTalkModel" jb_M_toldBy) (hr : meth.sig.returnType = (some .int)) (N : Nat) (a : Nat → Nat)  (text : Nat → Int32) (letters : Int32) (mowers : Int32) (cows : Int32) (ricks : Int32) (weathers : Int32) (says : Nat → Int32) (words : Nat → Int32) (weather : Nat → Int32) (kindOf : Nat → Int32) (thatch : Nat → Int32) (newMowers : Int32) (newCows : Int32) (newRicks : Int32) (newWeathers : Int32) (newSays : Nat → Int32) (newWords : Nat → Int32) (newWeather : Nat → Int32) (newKind : Nat → Int32) (newThatch : Nat → Int32) (st : Nat → Int32) (pasts : Int32) (past : Nat → Int32) (aside : Nat → Int32) (seen : Int32) (seenWord : Nat → Int32) (seenHour : Nat → Int32) (keeps : Int32) (kept : Nat → Int32) (x1 : Int32) (x2 : Int32) (x3 : Int32) (x4 : Int32) {o : Int32} (h : jf_M_toldBy N ricks kindOf st x1 x2 x3 x4 = some o) : hk_W p l e jr_M_toldBy s m args below meth c A (hk_Zi below args s D A o (wM cI a text letters mowers cows ricks weathers says words weather kindOf thatch newMowers newCows newRicks newWeathers newSays newWords newWeather newKind newThatch st pasts past aside seen seenWord seenHour keeps kept)) 9 D 0 0 (wM cI a text letters mowers cows ricks weathers says words weather kindOf thatch newMowers newCows newRicks newWeathers newSays newWords newWeather newKind newThatch st pasts past aside seen seenWord seenHour keeps kept) 0 [(0, .ref (a 0)), (1, .int x1), (2, .int x2), (3, .int x3), (4, .int x4)] [] := by
  have B_49 : ∀ (ricks : Int32) (kindOf : Nat → Int32) (st : Nat → Int32) (x1 : Int32) (x2 : Int32) (x3 : Int32) (x4 : Int32) (x5 : Int32) (x6 : Int32) (x7 : Int32) (x8 : Int32) (kh49 : (Int32 × Int32) → Option (Int32)) (kx107 : (Int32) → Option (Int32)) (ihh49 : ∀ q, kh49 q = some o → hk_W p l e jr_M_toldBy s m args below meth c A (hk_Zi below args s D A o (wM cI a text letters mowers cows ricks weathers says words weather kindOf thatch newMowers newCows newRicks newWeathers newSays newWords newWeather newKind newThatch st pasts past aside seen seenWord seenHour keeps kept)) 9 D 0 0 (wM cI a text letters mowers cows ricks weathers says words weather kindOf thatch newMowers newCows newRicks newWeathers newSays newWords newWeather newKind newThatch st pasts past aside seen seenWord seenHour keeps kept) 49 [(0, .ref (a 0)), (1, .int x1), (2, .int x2), (3, .int x3), (4, .int x4), (5, .int q.1), (6, .int x6), (7, .int x7), (8, .int q.2)] []) (ihx107 : ∀ q, kx107 q = some o → hk_W p l e jr_M_toldBy s m args below meth c A (hk_Zi below args s D A o (wM cI a text letters mowers cows ricks weathers says words weather kindOf thatch newMowers newCows newRicks newWeathers newSays newWords newWeather newKind newThatch st pasts past aside seen seenWord seenHour keeps kept)) 9 D 0 0 (wM cI a text letters mowers cows ricks weathers says words weather kindOf thatch newMowers newCows newRicks newWeathers newSays newWords newWeather newKind newThatch st pasts past aside seen seenWord seenHour keeps kept) 107 [(0, .ref (a 0)), (1, .int x1), (2, .int x2), (3, .int x3), (4, .int x4), (5, .int q), (6, .int x6)] []) (_ : jf_M_toldBy_49B N ricks kindOf st x1 x2 x3 x4 x5 x6 x7 x8 kh49 kx107 = some o), hk_W p l e jr_M_toldBy s m args below meth c A (hk_Zi below args s D A o (wM cI a text letters mowers cows ricks weathers says words weather kindOf thatch newMowers newCows newRicks newWeathers newSays newWords newWeather newKind newThatch st pasts past aside seen seenWord seenHour keeps kept)) 9 D 0 0 (wM cI a text letters mowers cows ricks weathers says words weather kindOf thatch newMowers newCows newRicks newWeathers newSays newWords newWeather newKind newThatch st pasts past aside seen seenWord seenHour keeps kept) 49 [(0, .ref (a 0)), (1, .int x1), (2, .int x2), (3, .int x3), (4, .int x4), (5, .int x5), (6, .int x6), (7, .int x7), (8, .int x8)] [] := by
    intro ricks kindOf st x1 x2 x3 x4 x5 x6 x7 x8 kh49 kx107 ihh49 ihx107 h
    delta jf_M_toldBy_49B at h
    refine hk_iload hC jd_M_toldBy_49 8 rfl ?_
    refine hk_iload hC jd_M_toldBy_51 7 rfl ?_
    refine hk_icmp_ge (tgt := 107) hC jd_M_toldBy_53 (by decide) (fun cc1 => ?_) (fun cc1 => ?_)
    · replace h := xi_t h cc1
      exact hk_lv [0, 1, 2, 3, 4, 5, 6] rfl (ihx107 x5 h)
    · replace h := xi_f h cc1
      refine hk_iload hC jd_M_toldBy_56 5 rfl ?_
      refine hk_aload_n hC jd_M_toldBy_58 0 rfl ?_
      refine hk_get hC jk_M 0 rfl 9 (by decide) jq_707 rfl jd_M_toldBy_59 ?_
      refine hk_iload_n hC jd_M_toldBy_62 1 rfl ?_
      have hr1 := xr_in h
      replace h := xr_go h
      refine hk_iald hC 5 rfl hr1 jd_M_toldBy_63 ?_
      refine hk_aload_n hC jd_M_toldBy_64 0 rfl ?_
      refine hk_get hC jk_M 0 rfl 20 (by decide) jq_718 rfl jd_M_toldBy_65 ?_
      refine hk_bipush (v := 21) hC jd_M_toldBy_68 (by decide) ?_
      refine hk_bipush (v := 8) hC jd_M_toldBy_70 (by decide) ?_
      refine hk_iload hC jd_M_toldBy_72 6 rfl ?_
      refine hk_imul hC jd_M_toldBy_74 ?_
      refine hk_iadd hC jd_M_toldBy_75 ?_
      refine hk_aload_n hC jd_M_toldBy_76 0 rfl ?_
      refine hk_get hC jk_M 0 rfl 20 (by decide) jq_718 rfl jd_M_toldBy_77 ?_
      refine hk_bipush (v := 15) hC jd_M_toldBy_80 (by decide) ?_
      refine hk_iload hC jd_M_toldBy_82 6 rfl ?_
      refine hk_iadd hC jd_M_toldBy_84 ?_
      have hr2 := xr_in h
      replace h := xr_go h
      refine hk_iald hC 12 rfl hr2 jd_M_toldBy_85 ?_
      refine hk_iadd hC jd_M_toldBy_86 ?_
      refine hk_iconst (v := 1) hC jd_M_toldBy_87 (by decide) ?_
      refine hk_isub hC jd_M_toldBy_88 ?_
      refine hk_iload hC jd_M_toldBy_89 8 rfl ?_
      refine hk_isub hC jd_M_toldBy_91 ?_
      have hr3 := xr_in h
      replace h := xr_go h
      refine hk_iald hC 12 rfl hr3 jd_M_toldBy_92 ?_
      refine hk_iload hC jd_M_toldBy_93 5 rfl ?_
      obtain ⟨q1, h_q1, h⟩ := xb_go h
      refine hk_callS0i hC (jc_M_hears l D cI cF N (kindOf (Int32.toNatClampNeg x1)) (st (Int32.toNatClampNeg (((((21 : Int32) + ((8 : Int32) * x6)) + (st (Int32.toNatClampNeg ((15 : Int32) + x6)))) - (1 : Int32)) - x8))) x5 h_q1) jl_M_hears jq_887 jq_888 rfl ⟨by decide, by decide⟩ rfl (Nat.le_of_ble_eq_true rfl) ⟨Nat.zero_le _, Nat.zero_le _⟩ jd_M_toldBy_95 ?_
      refine hk_ior hC jd_M_toldBy_98 ?_
      obtain ⟨v1, e_v1, h⟩ := xl_go h
      refine hk_istore hC (i := 5) (y := v1) (lv2 := [(5, .int v1), (0, .ref (a 0)), (1, .int x1), (2, .int x2), (3, .int x3), (4, .int x4), (6, .int x6), (7, .int x7), (8, .int x8)]) jd_M_toldBy_99 e_v1 (by decide) rfl ?_
      obtain ⟨v2, e_v2, h⟩ := xl_go h
      refine hk_iinc hC (lv2 := [(8, .int v2), (5, .int v1), (0, .ref (a 0)), (1, .int x1), (2, .int x2), (3, .int x3), (4, .int x4), (6, .int x6), (7, .int x7)]) jd_M_toldBy_101 8 rfl e_v2 (by decide) rfl ?_
      refine hk_goto (tgt := 49) hC jd_M_toldBy_104 (by decide) ?_
      exact hk_lv [2, 3, 4, 5, 6, 1, 7, 8, 0] rfl (ihh49 (v1, v2) h)
  have L_49 : ∀ (ricks : Int32) (kindOf : Nat → Int32) (st : Nat → Int32) (x1 : Int32) (x2 : Int32) (x3 : Int32) (x4 : Int32) (x5 : Int32) (x6 : Int32) (x7 : Int32) (x8 : Int32) (kx107 : (Int32) → Option (Int32)) (ihx107 : ∀ q, kx107 q = some o → hk_W p l e jr_M_toldBy s m args below meth c A (hk_Zi below args s D A o (wM cI a text letters mowers cows ricks weathers says words weather kindOf thatch newMowers newCows newRicks newWeathers newSays newWords newWeather newKind newThatch st pasts past aside seen seenWord seenHour keeps kept)) 9 D 0 0 (wM cI a text letters mowers cows ricks weathers says words weather kindOf thatch newMowers newCows newRicks newWeathers newSays newWords newWeather newKind newThatch st pasts past aside seen seenWord seenHour keeps kept) 107 [(0, .ref (a 0)), (1, .int x1), (2, .int x2), (3, .int x3), (4, .int x4), (5, .int q), (6, .int x6)] []) (_ : jf_M_toldBy_49 N ricks kindOf st x1 x2 x3 x4 x5 x6 x7 x8 kx107 = some o), hk_W p l e jr_M_toldBy s m args below meth c A (hk_Zi below args s D A o (wM cI a text letters mowers cows ricks weathers says words weather kindOf thatch newMowers newCows newRicks newWeathers newSays newWords newWeather newKind newThatch st pasts past aside seen seenWord seenHour keeps kept)) 9 D 0 0 (wM cI a text letters mowers cows ricks weathers says words weather kindOf thatch newMowers newCows newRicks newWeathers newSays newWords newWeather newKind newThatch st pasts past aside seen seenWord seenHour keeps kept) 49 [(0, .ref (a 0)), (1, .int x1), (2, .int x2), (3, .int x3), (4, .int x4), (5, .int x5), (6, .int x6), (7, .int x7), (8, .int x8)] [] := by
    intro ricks kindOf st x1 x2 x3 x4 x5 x6 x7 x8 kx107 ihx107 h
    exact xloopW (fun (q : Int32 × Int32) => hk_W p l e jr_M_toldBy s m args below meth c A (hk_Zi below args s D A o (wM cI a text letters mowers cows ricks weathers says words weather kindOf thatch newMowers newCows newRicks newWeathers newSays newWords newWeather newKind newThatch st pasts past aside seen seenWord seenHour keeps kept)) 9 D 0 0 (wM cI a text letters mowers cows ricks weathers says words weather kindOf thatch newMowers newCows newRicks newWeathers newSays newWords newWeather newKind newThatch st pasts past aside seen seenWord seenHour keeps kept) 49 [(0, .ref (a 0)), (1, .int x1), (2, .int x2), (3, .int x3), (4, .int x4), (5, .int q.1), (6, .int x6), (7, .int x7), (8, .int q.2)] []) (fun kh ih q h => B_49 ricks kindOf st x1 x2 x3 x4 q.1 x6 x7 q.2 kh kx107 ih ihx107 h) N (x5, x8) h
  have B_107 : ∀ (ricks : Int32) (kindOf : Nat → Int32) (st : Nat → Int32) (x1 : Int32) (x2 : Int32) (x3 : Int32) (x4 : Int32) (x5 : Int32) (x6 : Int32) (kh14 : (Int32 × Int32) → Option (Int32)) (ihh14 : ∀ q, kh14 q = some o → hk_W p l e jr_M_toldBy s m args below meth c A (hk_Zi below args s D A o (wM cI a text letters mowers cows ricks weathers says words weather kindOf thatch newMowers newCows newRicks newWeathers newSays newWords newWeather newKind newThatch st pasts past aside seen seenWord seenHour keeps kept)) 9 D 0 0 (wM cI a text letters mowers cows ricks weathers says words weather kindOf thatch newMowers newCows newRicks newWeathers newSays newWords newWeather newKind newThatch st pasts past aside seen seenWord seenHour keeps kept) 14 [(0, .ref (a 0)), (1, .int x1), (2, .int x2), (3, .int x3), (4, .int x4), (5, .int q.1), (6, .int q.2)] []) (_ : jf_M_toldBy_107 N ricks kindOf st x1 x2 x3 x4 x5 x6 kh14 = some o), hk_W p l e jr_M_toldBy s m args below meth c A (hk_Zi below args s D A o (wM cI a text letters mowers cows ricks weathers says words weather kindOf thatch newMowers newCows newRicks newWeathers newSays newWords newWeather newKind newThatch st pasts past aside seen seenWord seenHour keeps kept)) 9 D 0 0 (wM cI a text letters mowers cows ricks weathers says words weather kindOf thatch newMowers newCows newRicks newWeathers newSays newWords newWeather newKind newThatch st pasts past aside seen seenWord seenHour keeps kept) 107 [(0, .ref (a 0)), (1, .int x1), (2, .int x2), (3, .int x3), (4, .int x4), (5, .int x5), (6, .int x6)] [] := by
    intro ricks kindOf st x1 x2 x3 x4 x5 x6 kh14 ihh14 h
    delta jf_M_toldBy_107 at h
    obtain ⟨v1, e_v1, h⟩ := xl_go h
    refine hk_iinc hC (lv2 := [(6, .int v1), (0, .ref (a 0)), (1, .int x1), (2, .int x2), (3, .int x3), (4, .int x4), (5, .int x5)]) jd_M_toldBy_107 6 rfl e_v1 (by decide) rfl ?_
    refine hk_goto (tgt := 14) hC jd_M_toldBy_110 (by decide) ?_
    exact hk_lv [1, 2, 3, 4, 5, 6, 0] rfl (ihh14 (x5, v1) h)
  have B_44 : ∀ (ricks : Int32) (kindOf : Nat → Int32) (st : Nat → Int32) (x1 : Int32) (x2 : Int32) (x3 : Int32) (x4 : Int32) (x5 : Int32) (x6 : Int32) (y0 : Int32) (kh14 : (Int32 × Int32) → Option (Int32)) (ihh14 : ∀ q, kh14 q = some o → hk_W p l e jr_M_toldBy s m args below meth c A (hk_Zi below args s D A o (wM cI a text letters mowers cows ricks weathers says words weather kindOf thatch newMowers newCows newRicks newWeathers newSays newWords newWeather newKind newThatch st pasts past aside seen seenWord seenHour keeps kept)) 9 D 0 0 (wM cI a text letters mowers cows ricks weathers says words weather kindOf thatch newMowers newCows newRicks newWeathers newSays newWords newWeather newKind newThatch st pasts past aside seen seenWord seenHour keeps kept) 14 [(0, .ref (a 0)), (1, .int x1), (2, .int x2), (3, .int x3), (4, .int x4), (5, .int q.1), (6, .int q.2)] []) (_ : jf_M_toldBy_44 N ricks kindOf st x1 x2 x3 x4 x5 x6 y0 kh14 = some o), hk_W p l e jr_M_toldBy s m args below meth c A (hk_Zi below args s D A o (wM cI a text letters mowers cows ricks weathers says words weather kindOf thatch newMowers newCows newRicks newWeathers newSays newWords newWeather newKind newThatch st pasts past aside seen seenWord seenHour keeps kept)) 9 D 0 0 (wM cI a text letters mowers cows ricks weathers says words weather kindOf thatch newMowers newCows newRicks newWeathers newSays newWords newWeather newKind newThatch st pasts past aside seen seenWord seenHour keeps kept) 44 [(0, .ref (a 0)), (1, .int x1), (2, .int x2), (3, .int x3), (4, .int x4), (5, .int x5), (6, .int x6)] [.int y0] := by
    intro ricks kindOf st x1 x2 x3 x4 x5 x6 y0 kh14 ihh14 h
    delta jf_M_toldBy_44 at h
    refine hk_istore hC (i := 7) (y := y0) (lv2 := [(7, .int y0), (0, .ref (a 0)), (1, .int x1), (2, .int x2), (3, .int x3), (4, .int x4), (5, .int x5), (6, .int x6)]) jd_M_toldBy_44 rfl (by decide) rfl ?_
    refine hk_iconst (v := 0) hC jd_M_toldBy_46 (by decide) ?_
    refine hk_istore hC (i := 8) (y := (0 : Int32)) (lv2 := [(8, .int (0 : Int32)), (7, .int y0), (0, .ref (a 0)), (1, .int x1), (2, .int x2), (3, .int x3), (4, .int x4), (5, .int x5), (6, .int x6)]) jd_M_toldBy_47 rfl (by decide) rfl ?_
    exact hk_lv [2, 3, 4, 5, 6, 7, 8, 1, 0] rfl (L_49 ricks kindOf st x1 x2 x3 x4 x5 x6 y0 (0 : Int32) _ (fun q1 h => by exact (B_107 ricks kindOf st x1 x2 x3 x4 q1 x6 kh14 ihh14 h)) h)
  have B_14 : ∀ (ricks : Int32) (kindOf : Nat → Int32) (st : Nat → Int32) (x1 : Int32) (x2 : Int32) (x3 : Int32) (x4 : Int32) (x5 : Int32) (x6 : Int32) (kh14 : (Int32 × Int32) → Option (Int32)) (ihh14 : ∀ q, kh14 q = some o → hk_W p l e jr_M_toldBy s m args below meth c A (hk_Zi below args s D A o (wM cI a text letters mowers cows ricks weathers says words weather kindOf thatch newMowers newCows newRicks newWeathers newSays newWords newWeather newKind newThatch st pasts past aside seen seenWord seenHour keeps kept)) 9 D 0 0 (wM cI a text letters mowers cows ricks weathers says words weather kindOf thatch newMowers newCows newRicks newWeathers newSays newWords newWeather newKind newThatch st pasts past aside seen seenWord seenHour keeps kept) 14 [(0, .ref (a 0)), (1, .int x1), (2, .int x2), (3, .int x3), (4, .int x4), (5, .int q.1), (6, .int q.2)] []) (_ : jf_M_toldBy_14B N ricks kindOf st x1 x2 x3 x4 x5 x6 kh14 = some o), hk_W p l e jr_M_toldBy s m args below meth c A (hk_Zi below args s D A o (wM cI a text letters mowers cows ricks weathers says words weather kindOf thatch newMowers newCows newRicks newWeathers newSays newWords newWeather newKind newThatch st pasts past aside seen seenWord seenHour keeps kept)) 9 D 0 0 (wM cI a text letters mowers cows ricks weathers says words weather kindOf thatch newMowers newCows newRicks newWeathers newSays newWords newWeather newKind newThatch st pasts past aside seen seenWord seenHour keeps kept) 14 [(0, .ref (a 0)), (1, .int x1), (2, .int x2), (3, .int x3), (4, .int x4), (5, .int x5), (6, .int x6)] [] := by
    intro ricks kindOf st x1 x2 x3 x4 x5 x6 kh14 ihh14 h
    delta jf_M_toldBy_14B at h
    refine hk_iload hC jd_M_toldBy_14 6 rfl ?_
    refine hk_aload_n hC jd_M_toldBy_16 0 rfl ?_
    refine hk_get hC jk_M 0 rfl 4 (by decide) jq_702 rfl jd_M_toldBy_17 ?_
    refine hk_icmp_ge (tgt := 113) hC jd_M_toldBy_20 (by decide) (fun cc1 => ?_) (fun cc1 => ?_)
    · replace h := xi_t h cc1
      refine hk_iload hC jd_M_toldBy_113 5 rfl ?_
      obtain rfl := Option.some.inj h
      exact hk_iret hC hr jd_M_toldBy_115 rfl rfl
    · replace h := xi_f h cc1
      refine hk_iload hC jd_M_toldBy_23 6 rfl ?_
      refine hk_if_ne (tgt := 32) hC jd_M_toldBy_25 (by decide) (fun cc2 => ?_) (fun cc2 => ?_)
      · replace h := xi_f h cc2
        refine hk_iload hC jd_M_toldBy_32 6 rfl ?_
        refine hk_iconst (v := 1) hC jd_M_toldBy_34 (by decide) ?_
        refine hk_icmp_ne (tgt := 42) hC jd_M_toldBy_35 (by decide) (fun cc3 => ?_) (fun cc3 => ?_)
        · replace h := xi_f h cc3
          refine hk_iload hC jd_M_toldBy_42 4 rfl ?_
          exact (B_44 ricks kindOf st x1 x2 x3 x4 x5 x6 x4 kh14 ihh14 h)
        · replace h := xi_t h cc3
          refine hk_iload_n hC jd_M_toldBy_38 3 rfl ?_
          refine hk_goto (tgt := 44) hC jd_M_toldBy_39 (by decide) ?_
          exact (B_44 ricks kindOf st x1 x2 x3 x4 x5 x6 x3 kh14 ihh14 h)
      · replace h := xi_t h cc2
        refine hk_iload_n hC jd_M_toldBy_28 2 rfl ?_
        refine hk_goto (tgt := 44) hC jd_M_toldBy_29 (by decide) ?_
        exact (B_44 ricks kindOf st x1 x2 x3 x4 x5 x6 x2 kh14 ihh14 h)
  have L_14 : ∀ (ricks : Int32) (kindOf : Nat → Int32) (st : Nat → Int32) (x1 : Int32) (x2 : Int32) (x3 : Int32) (x4 : Int32) (x5 : Int32) (x6 : Int32)   (_ : jf_M_toldBy_14 N ricks kindOf st x1 x2 x3 x4 x5 x6  = some o), hk_W p l e jr_M_toldBy s m args below meth c A (hk_Zi below args s D A o (wM cI a text letters mowers cows ricks weathers says words weather kindOf thatch newMowers newCows newRicks newWeathers newSays newWords newWeather newKind newThatch st pasts past aside seen seenWord seenHour keeps kept)) 9 D 0 0 (wM cI a text letters mowers cows ricks weathers says words weather kindOf thatch newMowers newCows newRicks newWeathers newSays newWords newWeather newKind newThatch st pasts past aside seen seenWord seenHour keeps kept) 14 [(0, .ref (a 0)), (1, .int x1), (2, .int x2), (3, .int x3), (4, .int x4), (5, .int x5), (6, .int x6)] [] := by
    intro ricks kindOf st x1 x2 x3 x4 x5 x6   h
    exact xloopW (fun (q : Int32 × Int32) => hk_W p l e jr_M_toldBy s m args below meth c A (hk_Zi below args s D A o (wM cI a text letters mowers cows ricks weathers says words weather kindOf thatch newMowers newCows newRicks newWeathers newSays newWords newWeather newKind newThatch st pasts past aside seen seenWord seenHour keeps kept)) 9 D 0 0 (wM cI a text letters mowers cows ricks weathers says words weather kindOf thatch newMowers newCows newRicks newWeathers newSays newWords newWeather newKind newThatch st pasts past aside seen seenWord seenHour keeps kept) 14 [(0, .ref (a 0)), (1, .int x1), (2, .int x2), (3, .int x3), (4, .int x4), (5, .int q.1), (6, .int q.2)] []) (fun kh ih q h => B_14 ricks kindOf st x1 x2 x3 x4 q.1 q.2 kh  ih  h) N (x5, x6) h
  delta jf_M_toldBy at h
  refine hk_aload_n hC jd_M_toldBy_0 0 rfl ?_
  refine hk_get hC jk_M 0 rfl 20 (by decide) jq_718 rfl jd_M_toldBy_1 ?_
  refine hk_bipush (v := 11) hC jd_M_toldBy_4 (by decide) ?_
  refine hk_iload_n hC jd_M_toldBy_6 1 rfl ?_
  refine hk_iadd hC jd_M_toldBy_7 ?_
  have hr1 := xr_in h
  replace h := xr_go h
  refine hk_iald hC 12 rfl hr1 jd_M_toldBy_8 ?_
  obtain ⟨v1, e_v1, h⟩ := xl_go h
  refine hk_istore hC (i := 5) (y := v1) (lv2 := [(5, .int v1), (0, .ref (a 0)), (1, .int x1), (2, .int x2), (3, .int x3), (4, .int x4)]) jd_M_toldBy_9 e_v1 (by decide) rfl ?_
  refine hk_iconst (v := 0) hC jd_M_toldBy_11 (by decide) ?_
  refine hk_istore hC (i := 6) (y := (0 : Int32)) (lv2 := [(6, .int (0 : Int32)), (5, .int v1), (0, .ref (a 0)), (1, .int x1), (2, .int x2), (3, .int x3), (4, .int x4)]) jd_M_toldBy_12 rfl (by decide) rfl ?_
  exact hk_lv [2, 3, 4, 5, 6, 1, 0] rfl (L_14 ricks kindOf st x1 x2 x3 x4 v1 (0 : Int32)   h)
theorem jc_M_toldBy (l : Launch) (D : va_G) (cI cF : ClassId) (N : Nat) (a : Nat → Nat)  (text : Nat → Int32) (letters : Int32) (mowers : Int32) (cows : Int32) (ricks : Int32) (weathers : Int32) (says : Nat → Int32) (words : Nat → Int32) (weather : Nat → Int32) (kindOf : Nat → Int32) (thatch : Nat → Int32) (newMowers : Int32) (newCows : Int32) (newRicks : Int32) (newWeathers : Int32) (newSays : Nat → Int32) (newWords : Nat → Int32) (newWeather : Nat → Int32) (newKind : Nat → Int32) (newThatch : Nat → Int32) (st : Nat → Int32) (pasts : Int32) (past : Nat → Int32) (aside : Nat → Int32) (seen : Int32) (seenWord : Nat → Int32) (seenHour : Nat → Int32) (keeps : Int32) (kept : Nat → Int32) (x1 : Int32) (x2 : Int32) (x3 : Int32) (x4 : Int32) {o : Int32} (h : jf_M_toldBy N ricks kindOf st x1 x2 x3 x4 = some o) : hk_Mi l jy_M_toldBy jb_M_toldBy 9 (some .int) jr_M_toldBy D cI cF (wM cI a text letters mowers cows ricks weathers says words weather kindOf thatch newMowers newCows newRicks newWeathers newSays newWords newWeather newKind newThatch st pasts past aside seen seenWord seenHour keeps kept) [.ref (a 0), .int x1, .int x2, .int x3, .int x4] o (wM cI a text letters mowers cows ricks weathers says words weather kindOf thatch newMowers newCows newRicks newWeathers newSays newWords newWeather newKind newThatch st pasts past aside seen seenWord seenHour keeps kept) :=
  hk_metI (by decide) (Nat.le_of_ble_eq_true rfl) rfl rfl (fun p e s m args below meth c A hC hr => jw_M_toldBy hC hr N a text letters mowers cows ricks weathers says words weather kindOf thatch newMowers newCows newRicks newWeathers newSays newWords newWeather newKind newThatch st pasts past aside seen seenWord seenHour keeps kept x1 x2 x3 x4 h)
set_option maxHeartbeats 8000000 in
set_option maxRecDepth 100000 in
theorem jw_M_tell {p : Program} {l : Launch} {e : Env} {s : State} {m : MethodId} {args : Array Value} {below : List Frame} {meth : Method} {c : Code} {A : Nat → Prop} {D : va_G} {cI cF : ClassId} (hC : hk_ok p s m args meth c A 9 D cI cF "HayTalkModel" jb_M_tell) (hr : meth.sig.returnType = (some .int)) (N : Nat) (a : Nat → Nat)  (text : Nat → Int32) (letters : Int32) (mowers : Int32) (cows : Int32) (ricks : Int32) (weathers : Int32) (says : Nat → Int32) (words : Nat → Int32) (weather : Nat → Int32) (kindOf : Nat → Int32) (thatch : Nat → Int32) (newMowers : Int32) (newCows : Int32) (newRicks : Int32) (newWeathers : Int32) (newSays : Nat → Int32) (newWords : Nat → Int32) (newWeather : Nat → Int32) (newKind : Nat → Int32) (newThatch : Nat → Int32) (st : Nat → Int32) (pasts : Int32) (past : Nat → Int32) (aside : Nat → Int32) (seen : Int32) (seenWord : Nat → Int32) (seenHour : Nat → Int32) (keeps : Int32) (kept : Nat → Int32) (x1 : Int32) (x2 : Int32) (x3 : Int32) {o : Int32} (h : jf_M_tell N cows ricks kindOf st x1 x2 x3 = some o) : hk_W p l e jr_M_tell s m args below meth c A (hk_Zi below args s D A o (wM cI a text letters mowers cows ricks weathers says words weather kindOf thatch newMowers newCows newRicks newWeathers newSays newWords newWeather newKind newThatch st pasts past aside seen seenWord seenHour keeps kept)) 9 D 0 0 (wM cI a text letters mowers cows ricks weathers says words weather kindOf thatch newMowers newCows newRicks newWeathers newSays newWords newWeather newKind newThatch st pasts past aside seen seenWord seenHour keeps kept) 0 [(0, .ref (a 0)), (1, .int x1), (2, .int x2), (3, .int x3)] [] := by
  have B_159 : ∀ (cows : Int32) (ricks : Int32) (kindOf : Nat → Int32) (st : Nat → Int32) (x1 : Int32) (x2 : Int32) (x3 : Int32) (x4 : Int32) (x5 : Int32) (x6 : Int32) (x7 : Int32) (x8 : Int32) (kh80 : (Int32 × Int32 × Int32) → Option (Int32)) (kx165 : (Int32 × Int32) → Option (Int32)) (ihh80 : ∀ q, kh80 q = some o → hk_W p l e jr_M_tell s m args below meth c A (hk_Zi below args s D A o (wM cI a text letters mowers cows ricks weathers says words weather kindOf thatch newMowers newCows newRicks newWeathers newSays newWords newWeather newKind newThatch st pasts past aside seen seenWord seenHour keeps kept)) 9 D 0 0 (wM cI a text letters mowers cows ricks weathers says words weather kindOf thatch newMowers newCows newRicks newWeathers newSays newWords newWeather newKind newThatch st pasts past aside seen seenWord seenHour keeps kept) 80 [(0, .ref (a 0)), (1, .int x1), (2, .int x2), (3, .int x3), (4, .int q.1), (5, .int q.2.1), (6, .int x6), (7, .int x7), (8, .int q.2.2)] []) (ihx165 : ∀ q, kx165 q = some o → hk_W p l e jr_M_tell s m args below meth c A (hk_Zi below args s D A o (wM cI a text letters mowers cows ricks weathers says words weather kindOf thatch newMowers newCows newRicks newWeathers newSays newWords newWeather newKind newThatch st pasts past aside seen seenWord seenHour keeps kept)) 9 D 0 0 (wM cI a text letters mowers cows ricks weathers says words weather kindOf thatch newMowers newCows newRicks newWeathers newSays newWords newWeather newKind newThatch st pasts past aside seen seenWord seenHour keeps kept) 165 [(0, .ref (a 0)), (1, .int x1), (2, .int x2), (3, .int x3), (4, .int q.1), (5, .int q.2), (6, .int x6), (7, .int x7)] []) (_ : jf_M_tell_159 N cows ricks kindOf st x1 x2 x3 x4 x5 x6 x7 x8 kh80 kx165 = some o), hk_W p l e jr_M_tell s m args below meth c A (hk_Zi below args s D A o (wM cI a text letters mowers cows ricks weathers says words weather kindOf thatch newMowers newCows newRicks newWeathers newSays newWords newWeather newKind newThatch st pasts past aside seen seenWord seenHour keeps kept)) 9 D 0 0 (wM cI a text letters mowers cows ricks weathers says words weather kindOf thatch newMowers newCows newRicks newWeathers newSays newWords newWeather newKind newThatch st pasts past aside seen seenWord seenHour keeps kept) 159 [(0, .ref (a 0)), (1, .int x1), (2, .int x2), (3, .int x3), (4, .int x4), (5, .int x5), (6, .int x6), (7, .int x7), (8, .int x8)] [] := by
    intro cows ricks kindOf st x1 x2 x3 x4 x5 x6 x7 x8 kh80 kx165 ihh80 ihx165 h
    delta jf_M_tell_159 at h
    obtain ⟨v1, e_v1, h⟩ := xl_go h
    refine hk_iinc hC (lv2 := [(8, .int v1), (0, .ref (a 0)), (1, .int x1), (2, .int x2), (3, .int x3), (4, .int x4), (5, .int x5), (6, .int x6), (7, .int x7)]) jd_M_tell_159 8 rfl e_v1 (by decide) rfl ?_
    refine hk_goto (tgt := 80) hC jd_M_tell_162 (by decide) ?_
    exact hk_lv [1, 2, 3, 4, 5, 6, 7, 8, 0] rfl (ihh80 (x4, x5, v1) h)
  have B_157 : ∀ (cows : Int32) (ricks : Int32) (kindOf : Nat → Int32) (st : Nat → Int32) (x1 : Int32) (x2 : Int32) (x3 : Int32) (x5 : Int32) (x6 : Int32) (x7 : Int32) (x8 : Int32) (y0 : Int32) (kh80 : (Int32 × Int32 × Int32) → Option (Int32)) (kx165 : (Int32 × Int32) → Option (Int32)) (ihh80 : ∀ q, kh80 q = some o → hk_W p l e jr_M_tell s m args below meth c A (hk_Zi below args s D A o (wM cI a text letters mowers cows ricks weathers says words weather kindOf thatch newMowers newCows newRicks newWeathers newSays newWords newWeather newKind newThatch st pasts past aside seen seenWord seenHour keeps kept)) 9 D 0 0 (wM cI a text letters mowers cows ricks weathers says words weather kindOf thatch newMowers newCows newRicks newWeathers newSays newWords newWeather newKind newThatch st pasts past aside seen seenWord seenHour keeps kept) 80 [(0, .ref (a 0)), (1, .int x1), (2, .int x2), (3, .int x3), (4, .int q.1), (5, .int q.2.1), (6, .int x6), (7, .int x7), (8, .int q.2.2)] []) (ihx165 : ∀ q, kx165 q = some o → hk_W p l e jr_M_tell s m args below meth c A (hk_Zi below args s D A o (wM cI a text letters mowers cows ricks weathers says words weather kindOf thatch newMowers newCows newRicks newWeathers newSays newWords newWeather newKind newThatch st pasts past aside seen seenWord seenHour keeps kept)) 9 D 0 0 (wM cI a text letters mowers cows ricks weathers says words weather kindOf thatch newMowers newCows newRicks newWeathers newSays newWords newWeather newKind newThatch st pasts past aside seen seenWord seenHour keeps kept) 165 [(0, .ref (a 0)), (1, .int x1), (2, .int x2), (3, .int x3), (4, .int q.1), (5, .int q.2), (6, .int x6), (7, .int x7)] []) (_ : jf_M_tell_157 N cows ricks kindOf st x1 x2 x3 x5 x6 x7 x8 y0 kh80 kx165 = some o), hk_W p l e jr_M_tell s m args below meth c A (hk_Zi below args s D A o (wM cI a text letters mowers cows ricks weathers says words weather kindOf thatch newMowers newCows newRicks newWeathers newSays newWords newWeather newKind newThatch st pasts past aside seen seenWord seenHour keeps kept)) 9 D 0 0 (wM cI a text letters mowers cows ricks weathers says words weather kindOf thatch newMowers newCows newRicks newWeathers newSays newWords newWeather newKind newThatch st pasts past aside seen seenWord seenHour keeps kept) 157 [(0, .ref (a 0)), (1, .int x1), (2, .int x2), (3, .int x3), (5, .int x5), (6, .int x6), (7, .int x7), (8, .int x8)] [.int y0] := by
    intro cows ricks kindOf st x1 x2 x3 x5 x6 x7 x8 y0 kh80 kx165 ihh80 ihx165 h
    delta jf_M_tell_157 at h
    refine hk_istore hC (i := 4) (y := y0) (lv2 := [(4, .int y0), (0, .ref (a 0)), (1, .int x1), (2, .int x2), (3, .int x3), (5, .int x5), (6, .int x6), (7, .int x7), (8, .int x8)]) jd_M_tell_157 rfl (by decide) rfl ?_
    exact hk_lv [1, 2, 3, 4, 0, 5, 6, 7, 8] rfl (B_159 cows ricks kindOf st x1 x2 x3 y0 x5 x6 x7 x8 kh80 kx165 ihh80 ihx165 h)
  have B_80 : ∀ (cows : Int32) (ricks : Int32) (kindOf : Nat → Int32) (st : Nat → Int32) (x1 : Int32) (x2 : Int32) (x3 : Int32) (x4 : Int32) (x5 : Int32) (x6 : Int32) (x7 : Int32) (x8 : Int32) (kh80 : (Int32 × Int32 × Int32) → Option (Int32)) (kx165 : (Int32 × Int32) → Option (Int32)) (ihh80 : ∀ q, kh80 q = some o → hk_W p l e jr_M_tell s m args below meth c A (hk_Zi below args s D A o (wM cI a text letters mowers cows ricks weathers says words weather kindOf thatch newMowers newCows newRicks newWeathers newSays newWords newWeather newKind newThatch st pasts past aside seen seenWord seenHour keeps kept)) 9 D 0 0 (wM cI a text letters mowers cows ricks weathers says words weather kindOf thatch newMowers newCows newRicks newWeathers newSays newWords newWeather newKind newThatch st pasts past aside seen seenWord seenHour keeps kept) 80 [(0, .ref (a 0)), (1, .int x1), (2, .int x2), (3, .int x3), (4, .int q.1), (5, .int q.2.1), (6, .int x6), (7, .int x7), (8, .int q.2.2)] []) (ihx165 : ∀ q, kx165 q = some o → hk_W p l e jr_M_tell s m args below meth c A (hk_Zi below args s D A o (wM cI a text letters mowers cows ricks weathers says words weather kindOf thatch newMowers newCows newRicks newWeathers newSays newWords newWeather newKind newThatch st pasts past aside seen seenWord seenHour keeps kept)) 9 D 0 0 (wM cI a text letters mowers cows ricks weathers says words weather kindOf thatch newMowers newCows newRicks newWeathers newSays newWords newWeather newKind newThatch st pasts past aside seen seenWord seenHour keeps kept) 165 [(0, .ref (a 0)), (1, .int x1), (2, .int x2), (3, .int x3), (4, .int q.1), (5, .int q.2), (6, .int x6), (7, .int x7)] []) (_ : jf_M_tell_80B N cows ricks kindOf st x1 x2 x3 x4 x5 x6 x7 x8 kh80 kx165 = some o), hk_W p l e jr_M_tell s m args below meth c A (hk_Zi below args s D A o (wM cI a text letters mowers cows ricks weathers says words weather kindOf thatch newMowers newCows newRicks newWeathers newSays newWords newWeather newKind newThatch st pasts past aside seen seenWord seenHour keeps kept)) 9 D 0 0 (wM cI a text letters mowers cows ricks weathers says words weather kindOf thatch newMowers newCows newRicks newWeathers newSays newWords newWeather newKind newThatch st pasts past aside seen seenWord seenHour keeps kept) 80 [(0, .ref (a 0)), (1, .int x1), (2, .int x2), (3, .int x3), (4, .int x4), (5, .int x5), (6, .int x6), (7, .int x7), (8, .int x8)] [] := by
    intro cows ricks kindOf st x1 x2 x3 x4 x5 x6 x7 x8 kh80 kx165 ihh80 ihx165 h
    delta jf_M_tell_80B at h
    refine hk_iload hC jd_M_tell_80 8 rfl ?_
    refine hk_if_lt (tgt := 165) hC jd_M_tell_82 (by decide) (fun cc1 => ?_) (fun cc1 => ?_)
    · replace h := xi_t h cc1
      exact hk_lv [0, 1, 2, 3, 4, 5, 6, 7] rfl (ihx165 (x4, x5) h)
    · replace h := xi_f h cc1
      refine hk_iload hC jd_M_tell_85 6 rfl ?_
      refine hk_iload hC jd_M_tell_87 7 rfl ?_
      refine hk_iadd hC jd_M_tell_89 ?_
      refine hk_iload hC jd_M_tell_90 8 rfl ?_
      refine hk_iadd hC jd_M_tell_92 ?_
      refine hk_iload hC jd_M_tell_93 5 rfl ?_
      refine hk_icmp_ge (tgt := 159) hC jd_M_tell_95 (by decide) (fun cc2 => ?_) (fun cc2 => ?_)
      · replace h := xi_t h cc2
        exact (B_159 cows ricks kindOf st x1 x2 x3 x4 x5 x6 x7 x8 kh80 kx165 ihh80 ihx165 h)
      · replace h := xi_f h cc2
        refine hk_iload_n hC jd_M_tell_98 2 rfl ?_
        refine hk_aload_n hC jd_M_tell_99 0 rfl ?_
        refine hk_iload_n hC jd_M_tell_100 1 rfl ?_
        refine hk_iload hC jd_M_tell_101 6 rfl ?_
        refine hk_iload hC jd_M_tell_103 7 rfl ?_
        refine hk_iload hC jd_M_tell_105 8 rfl ?_
        obtain ⟨q1, h_q1, h⟩ := xb_go h
        refine hk_callVWi hC (q0 := 0) (jc_M_toldBy l D cI cF N a text letters mowers cows ricks weathers says words weather kindOf thatch newMowers newCows newRicks newWeathers newSays newWords newWeather newKind newThatch st pasts past aside seen seenWord seenHour keeps kept x1 x6 x7 x8 h_q1) jl_M_toldBy rfl rfl jq_912 jq_914 jq0_35 rfl ⟨by decide, by decide⟩ rfl rfl (Nat.le_of_ble_eq_true rfl) ⟨Nat.zero_le _, Nat.zero_le _⟩ jd_M_tell_107 ?_
        refine hk_iconst (v := -1) hC jd_M_tell_110 (by decide) ?_
        refine hk_ixor hC jd_M_tell_111 ?_
        refine hk_iand hC jd_M_tell_112 ?_
        refine hk_if_ne (tgt := 159) hC jd_M_tell_113 (by decide) (fun cc3 => ?_) (fun cc3 => ?_)
        · replace h := xi_f h cc3
          exact (B_159 cows ricks kindOf st x1 x2 x3 x4 x5 x6 x7 x8 kh80 kx165 ihh80 ihx165 h)
        · replace h := xi_t h cc3
          refine hk_iload hC jd_M_tell_116 6 rfl ?_
          refine hk_iload hC jd_M_tell_118 7 rfl ?_
          refine hk_iadd hC jd_M_tell_120 ?_
          refine hk_iload hC jd_M_tell_121 8 rfl ?_
          refine hk_iadd hC jd_M_tell_123 ?_
          obtain ⟨v1, e_v1, h⟩ := xl_go h
          refine hk_istore hC (i := 5) (y := v1) (lv2 := [(5, .int v1), (0, .ref (a 0)), (1, .int x1), (2, .int x2), (3, .int x3), (4, .int x4), (6, .int x6), (7, .int x7), (8, .int x8)]) jd_M_tell_124 e_v1 (by decide) rfl ?_
          refine hk_iload_n hC jd_M_tell_126 4 rfl ?_
          refine hk_iconst (v := -1) hC jd_M_tell_127 (by decide) ?_
          refine hk_icmp_ne (tgt := 136) hC jd_M_tell_128 (by decide) (fun cc4 => ?_) (fun cc4 => ?_)
          · replace h := xi_f h cc4
            refine hk_iload_n hC jd_M_tell_136 4 rfl ?_
            refine hk_if_ne (tgt := 145) hC jd_M_tell_137 (by decide) (fun cc5 => ?_) (fun cc5 => ?_)
            · replace h := xi_f h cc5
              refine hk_iload_n hC jd_M_tell_145 4 rfl ?_
              refine hk_iconst (v := 1) hC jd_M_tell_146 (by decide) ?_
              refine hk_icmp_ne (tgt := 155) hC jd_M_tell_147 (by decide) (fun cc6 => ?_) (fun cc6 => ?_)
              · replace h := xi_f h cc6
                refine hk_iload hC jd_M_tell_155 8 rfl ?_
                exact hk_lv [1, 2, 3, 4, 0, 6, 7, 8] rfl (B_157 cows ricks kindOf st x1 x2 x3 v1 x6 x7 x8 x8 kh80 kx165 ihh80 ihx165 h)
              · replace h := xi_t h cc6
                refine hk_iload hC jd_M_tell_150 7 rfl ?_
                refine hk_goto (tgt := 157) hC jd_M_tell_152 (by decide) ?_
                exact hk_lv [1, 2, 3, 4, 0, 6, 7, 8] rfl (B_157 cows ricks kindOf st x1 x2 x3 v1 x6 x7 x8 x7 kh80 kx165 ihh80 ihx165 h)
            · replace h := xi_t h cc5
              refine hk_iload hC jd_M_tell_140 6 rfl ?_
              refine hk_goto (tgt := 157) hC jd_M_tell_142 (by decide) ?_
              exact hk_lv [1, 2, 3, 4, 0, 6, 7, 8] rfl (B_157 cows ricks kindOf st x1 x2 x3 v1 x6 x7 x8 x6 kh80 kx165 ihh80 ihx165 h)
          · replace h := xi_t h cc4
            refine hk_iload hC jd_M_tell_131 0 rfl ?_
            refine hk_goto (tgt := 157) hC jd_M_tell_133 (by decide) ?_
            exact hk_lv [1, 2, 3, 4, 0, 6, 7, 8] rfl (B_157 cows ricks kindOf st x1 x2 x3 v1 x6 x7 x8 v1 kh80 kx165 ihh80 ihx165 h)
  have L_80 : ∀ (cows : Int32) (ricks : Int32) (kindOf : Nat → Int32) (st : Nat → Int32) (x1 : Int32) (x2 : Int32) (x3 : Int32) (x4 : Int32) (x5 : Int32) (x6 : Int32) (x7 : Int32) (x8 : Int32) (kx165 : (Int32 × Int32) → Option (Int32)) (ihx165 : ∀ q, kx165 q = some o → hk_W p l e jr_M_tell s m args below meth c A (hk_Zi below args s D A o (wM cI a text letters mowers cows ricks weathers says words weather kindOf thatch newMowers newCows newRicks newWeathers newSays newWords newWeather newKind newThatch st pasts past aside seen seenWord seenHour keeps kept)) 9 D 0 0 (wM cI a text letters mowers cows ricks weathers says words weather kindOf thatch newMowers newCows newRicks newWeathers newSays newWords newWeather newKind newThatch st pasts past aside seen seenWord seenHour keeps kept) 165 [(0, .ref (a 0)), (1, .int x1), (2, .int x2), (3, .int x3), (4, .int q.1), (5, .int q.2), (6, .int x6), (7, .int x7)] []) (_ : jf_M_tell_80 N cows ricks kindOf st x1 x2 x3 x4 x5 x6 x7 x8 kx165 = some o), hk_W p l e jr_M_tell s m args below meth c A (hk_Zi below args s D A o (wM cI a text letters mowers cows ricks weathers says words weather kindOf thatch newMowers newCows newRicks newWeathers newSays newWords newWeather newKind newThatch st pasts past aside seen seenWord seenHour keeps kept)) 9 D 0 0 (wM cI a text letters mowers cows ricks weathers says words weather kindOf thatch newMowers newCows newRicks newWeathers newSays newWords newWeather newKind newThatch st pasts past aside seen seenWord seenHour keeps kept) 80 [(0, .ref (a 0)), (1, .int x1), (2, .int x2), (3, .int x3), (4, .int x4), (5, .int x5), (6, .int x6), (7, .int x7), (8, .int x8)] [] := by
    intro cows ricks kindOf st x1 x2 x3 x4 x5 x6 x7 x8 kx165 ihx165 h
    exact xloopW (fun (q : Int32 × Int32 × Int32) => hk_W p l e jr_M_tell s m args below meth c A (hk_Zi below args s D A o (wM cI a text letters mowers cows ricks weathers says words weather kindOf thatch newMowers newCows newRicks newWeathers newSays newWords newWeather newKind newThatch st pasts past aside seen seenWord seenHour keeps kept)) 9 D 0 0 (wM cI a text letters mowers cows ricks weathers says words weather kindOf thatch newMowers newCows newRicks newWeathers newSays newWords newWeather newKind newThatch st pasts past aside seen seenWord seenHour keeps kept) 80 [(0, .ref (a 0)), (1, .int x1), (2, .int x2), (3, .int x3), (4, .int q.1), (5, .int q.2.1), (6, .int x6), (7, .int x7), (8, .int q.2.2)] []) (fun kh ih q h => B_80 cows ricks kindOf st x1 x2 x3 q.1 q.2.1 x6 x7 q.2.2 kh kx165 ih ihx165 h) N (x4, x5, x8) h
  have B_165 : ∀ (cows : Int32) (ricks : Int32) (kindOf : Nat → Int32) (st : Nat → Int32) (x1 : Int32) (x2 : Int32) (x3 : Int32) (x4 : Int32) (x5 : Int32) (x6 : Int32) (x7 : Int32) (kh66 : (Int32 × Int32 × Int32) → Option (Int32)) (kx171 : (Int32 × Int32) → Option (Int32)) (ihh66 : ∀ q, kh66 q = some o → hk_W p l e jr_M_tell s m args below meth c A (hk_Zi below args s D A o (wM cI a text letters mowers cows ricks weathers says words weather kindOf thatch newMowers newCows newRicks newWeathers newSays newWords newWeather newKind newThatch st pasts past aside seen seenWord seenHour keeps kept)) 9 D 0 0 (wM cI a text letters mowers cows ricks weathers says words weather kindOf thatch newMowers newCows newRicks newWeathers newSays newWords newWeather newKind newThatch st pasts past aside seen seenWord seenHour keeps kept) 66 [(0, .ref (a 0)), (1, .int x1), (2, .int x2), (3, .int x3), (4, .int q.1), (5, .int q.2.1), (6, .int x6), (7, .int q.2.2)] []) (ihx171 : ∀ q, kx171 q = some o → hk_W p l e jr_M_tell s m args below meth c A (hk_Zi below args s D A o (wM cI a text letters mowers cows ricks weathers says words weather kindOf thatch newMowers newCows newRicks newWeathers newSays newWords newWeather newKind newThatch st pasts past aside seen seenWord seenHour keeps kept)) 9 D 0 0 (wM cI a text letters mowers cows ricks weathers says words weather kindOf thatch newMowers newCows newRicks newWeathers newSays newWords newWeather newKind newThatch st pasts past aside seen seenWord seenHour keeps kept) 171 [(0, .ref (a 0)), (1, .int x1), (2, .int x2), (3, .int x3), (4, .int q.1), (5, .int q.2), (6, .int x6)] []) (_ : jf_M_tell_165 N cows ricks kindOf st x1 x2 x3 x4 x5 x6 x7 kh66 kx171 = some o), hk_W p l e jr_M_tell s m args below meth c A (hk_Zi below args s D A o (wM cI a text letters mowers cows ricks weathers says words weather kindOf thatch newMowers newCows newRicks newWeathers newSays newWords newWeather newKind newThatch st pasts past aside seen seenWord seenHour keeps kept)) 9 D 0 0 (wM cI a text letters mowers cows ricks weathers says words weather kindOf thatch newMowers newCows newRicks newWeathers newSays newWords newWeather newKind newThatch st pasts past aside seen seenWord seenHour keeps kept) 165 [(0, .ref (a 0)), (1, .int x1), (2, .int x2), (3, .int x3), (4, .int x4), (5, .int x5), (6, .int x6), (7, .int x7)] [] := by
    intro cows ricks kindOf st x1 x2 x3 x4 x5 x6 x7 kh66 kx171 ihh66 ihx171 h
    delta jf_M_tell_165 at h
    obtain ⟨v1, e_v1, h⟩ := xl_go h
    refine hk_iinc hC (lv2 := [(7, .int v1), (0, .ref (a 0)), (1, .int x1), (2, .int x2), (3, .int x3), (4, .int x4), (5, .int x5), (6, .int x6)]) jd_M_tell_165 7 rfl e_v1 (by decide) rfl ?_
    refine hk_goto (tgt := 66) hC jd_M_tell_168 (by decide) ?_
    exact hk_lv [1, 2, 3, 4, 5, 6, 7, 0] rfl (ihh66 (x4, x5, v1) h)
  have B_66 : ∀ (cows : Int32) (ricks : Int32) (kindOf : Nat → Int32) (st : Nat → Int32) (x1 : Int32) (x2 : Int32) (x3 : Int32) (x4 : Int32) (x5 : Int32) (x6 : Int32) (x7 : Int32) (kh66 : (Int32 × Int32 × Int32) → Option (Int32)) (kx171 : (Int32 × Int32) → Option (Int32)) (ihh66 : ∀ q, kh66 q = some o → hk_W p l e jr_M_tell s m args below meth c A (hk_Zi below args s D A o (wM cI a text letters mowers cows ricks weathers says words weather kindOf thatch newMowers newCows newRicks newWeathers newSays newWords newWeather newKind newThatch st pasts past aside seen seenWord seenHour keeps kept)) 9 D 0 0 (wM cI a text letters mowers cows ricks weathers says words weather kindOf thatch newMowers newCows newRicks newWeathers newSays newWords newWeather newKind newThatch st pasts past aside seen seenWord seenHour keeps kept) 66 [(0, .ref (a 0)), (1, .int x1), (2, .int x2), (3, .int x3), (4, .int q.1), (5, .int q.2.1), (6, .int x6), (7, .int q.2.2)] []) (ihx171 : ∀ q, kx171 q = some o → hk_W p l e jr_M_tell s m args below meth c A (hk_Zi below args s D A o (wM cI a text letters mowers cows ricks weathers says words weather kindOf thatch newMowers newCows newRicks newWeathers newSays newWords newWeather newKind newThatch st pasts past aside seen seenWord seenHour keeps kept)) 9 D 0 0 (wM cI a text letters mowers cows ricks weathers says words weather kindOf thatch newMowers newCows newRicks newWeathers newSays newWords newWeather newKind newThatch st pasts past aside seen seenWord seenHour keeps kept) 171 [(0, .ref (a 0)), (1, .int x1), (2, .int x2), (3, .int x3), (4, .int q.1), (5, .int q.2), (6, .int x6)] []) (_ : jf_M_tell_66B N cows ricks kindOf st x1 x2 x3 x4 x5 x6 x7 kh66 kx171 = some o), hk_W p l e jr_M_tell s m args below meth c A (hk_Zi below args s D A o (wM cI a text letters mowers cows ricks weathers says words weather kindOf thatch newMowers newCows newRicks newWeathers newSays newWords newWeather newKind newThatch st pasts past aside seen seenWord seenHour keeps kept)) 9 D 0 0 (wM cI a text letters mowers cows ricks weathers says words weather kindOf thatch newMowers newCows newRicks newWeathers newSays newWords newWeather newKind newThatch st pasts past aside seen seenWord seenHour keeps kept) 66 [(0, .ref (a 0)), (1, .int x1), (2, .int x2), (3, .int x3), (4, .int x4), (5, .int x5), (6, .int x6), (7, .int x7)] [] := by
    intro cows ricks kindOf st x1 x2 x3 x4 x5 x6 x7 kh66 kx171 ihh66 ihx171 h
    delta jf_M_tell_66B at h
    refine hk_iload hC jd_M_tell_66 7 rfl ?_
    refine hk_if_lt (tgt := 171) hC jd_M_tell_68 (by decide) (fun cc1 => ?_) (fun cc1 => ?_)
    · replace h := xi_t h cc1
      exact hk_lv [0, 1, 2, 3, 4, 5, 6] rfl (ihx171 (x4, x5) h)
    · replace h := xi_f h cc1
      refine hk_aload_n hC jd_M_tell_71 0 rfl ?_
      refine hk_get hC jk_M 0 rfl 20 (by decide) jq_718 rfl jd_M_tell_72 ?_
      refine hk_bipush (v := 17) hC jd_M_tell_75 (by decide) ?_
      have hr1 := xr_in h
      replace h := xr_go h
      refine hk_iald hC 12 rfl hr1 jd_M_tell_77 ?_
      obtain ⟨v1, e_v1, h⟩ := xl_go h
      refine hk_istore hC (i := 8) (y := v1) (lv2 := [(8, .int v1), (0, .ref (a 0)), (1, .int x1), (2, .int x2), (3, .int x3), (4, .int x4), (5, .int x5), (6, .int x6), (7, .int x7)]) jd_M_tell_78 e_v1 (by decide) rfl ?_
      exact hk_lv [1, 2, 3, 4, 5, 6, 7, 8, 0] rfl (L_80 cows ricks kindOf st x1 x2 x3 x4 x5 x6 x7 v1 _ (fun q1 h => by exact (B_165 cows ricks kindOf st x1 x2 x3 q1.1 q1.2 x6 x7 kh66 kx171 ihh66 ihx171 h)) h)
  have L_66 : ∀ (cows : Int32) (ricks : Int32) (kindOf : Nat → Int32) (st : Nat → Int32) (x1 : Int32) (x2 : Int32) (x3 : Int32) (x4 : Int32) (x5 : Int32) (x6 : Int32) (x7 : Int32) (kx171 : (Int32 × Int32) → Option (Int32)) (ihx171 : ∀ q, kx171 q = some o → hk_W p l e jr_M_tell s m args below meth c A (hk_Zi below args s D A o (wM cI a text letters mowers cows ricks weathers says words weather kindOf thatch newMowers newCows newRicks newWeathers newSays newWords newWeather newKind newThatch st pasts past aside seen seenWord seenHour keeps kept)) 9 D 0 0 (wM cI a text letters mowers cows ricks weathers says words weather kindOf thatch newMowers newCows newRicks newWeathers newSays newWords newWeather newKind newThatch st pasts past aside seen seenWord seenHour keeps kept) 171 [(0, .ref (a 0)), (1, .int x1), (2, .int x2), (3, .int x3), (4, .int q.1), (5, .int q.2), (6, .int x6)] []) (_ : jf_M_tell_66 N cows ricks kindOf st x1 x2 x3 x4 x5 x6 x7 kx171 = some o), hk_W p l e jr_M_tell s m args below meth c A (hk_Zi below args s D A o (wM cI a text letters mowers cows ricks weathers says words weather kindOf thatch newMowers newCows newRicks newWeathers newSays newWords newWeather newKind newThatch st pasts past aside seen seenWord seenHour keeps kept)) 9 D 0 0 (wM cI a text letters mowers cows ricks weathers says words weather kindOf thatch newMowers newCows newRicks newWeathers newSays newWords newWeather newKind newThatch st pasts past aside seen seenWord seenHour keeps kept) 66 [(0, .ref (a 0)), (1, .int x1), (2, .int x2), (3, .int x3), (4, .int x4), (5, .int x5), (6, .int x6), (7, .int x7)] [] := by
    intro cows ricks kindOf st x1 x2 x3 x4 x5 x6 x7 kx171 ihx171 h
    exact xloopW (fun (q : Int32 × Int32 × Int32) => hk_W p l e jr_M_tell s m args below meth c A (hk_Zi below args s D A o (wM cI a text letters mowers cows ricks weathers says words weather kindOf thatch newMowers newCows newRicks newWeathers newSays newWords newWeather newKind newThatch st pasts past aside seen seenWord seenHour keeps kept)) 9 D 0 0 (wM cI a text letters mowers cows ricks weathers says words weather kindOf thatch newMowers newCows newRicks newWeathers newSays newWords newWeather newKind newThatch st pasts past aside seen seenWord seenHour keeps kept) 66 [(0, .ref (a 0)), (1, .int x1), (2, .int x2), (3, .int x3), (4, .int q.1), (5, .int q.2.1), (6, .int x6), (7, .int q.2.2)] []) (fun kh ih q h => B_66 cows ricks kindOf st x1 x2 x3 q.1 q.2.1 x6 q.2.2 kh kx171 ih ihx171 h) N (x4, x5, x7) h
  have B_171 : ∀ (cows : Int32) (ricks : Int32) (kindOf : Nat → Int32) (st : Nat → Int32) (x1 : Int32) (x2 : Int32) (x3 : Int32) (x4 : Int32) (x5 : Int32) (x6 : Int32) (kh52 : (Int32 × Int32 × Int32) → Option (Int32)) (ihh52 : ∀ q, kh52 q = some o → hk_W p l e jr_M_tell s m args below meth c A (hk_Zi below args s D A o (wM cI a text letters mowers cows ricks weathers says words weather kindOf thatch newMowers newCows newRicks newWeathers newSays newWords newWeather newKind newThatch st pasts past aside seen seenWord seenHour keeps kept)) 9 D 0 0 (wM cI a text letters mowers cows ricks weathers says words weather kindOf thatch newMowers newCows newRicks newWeathers newSays newWords newWeather newKind newThatch st pasts past aside seen seenWord seenHour keeps kept) 52 [(0, .ref (a 0)), (1, .int x1), (2, .int x2), (3, .int x3), (4, .int q.1), (5, .int q.2.1), (6, .int q.2.2)] []) (_ : jf_M_tell_171 N cows ricks kindOf st x1 x2 x3 x4 x5 x6 kh52 = some o), hk_W p l e jr_M_tell s m args below meth c A (hk_Zi below args s D A o (wM cI a text letters mowers cows ricks weathers says words weather kindOf thatch newMowers newCows newRicks newWeathers newSays newWords newWeather newKind newThatch st pasts past aside seen seenWord seenHour keeps kept)) 9 D 0 0 (wM cI a text letters mowers cows ricks weathers says words weather kindOf thatch newMowers newCows newRicks newWeathers newSays newWords newWeather newKind newThatch st pasts past aside seen seenWord seenHour keeps kept) 171 [(0, .ref (a 0)), (1, .int x1), (2, .int x2), (3, .int x3), (4, .int x4), (5, .int x5), (6, .int x6)] [] := by
    intro cows ricks kindOf st x1 x2 x3 x4 x5 x6 kh52 ihh52 h
    delta jf_M_tell_171 at h
    obtain ⟨v1, e_v1, h⟩ := xl_go h
    refine hk_iinc hC (lv2 := [(6, .int v1), (0, .ref (a 0)), (1, .int x1), (2, .int x2), (3, .int x3), (4, .int x4), (5, .int x5)]) jd_M_tell_171 6 rfl e_v1 (by decide) rfl ?_
    refine hk_goto (tgt := 52) hC jd_M_tell_174 (by decide) ?_
    exact hk_lv [1, 2, 3, 4, 5, 6, 0] rfl (ihh52 (x4, x5, v1) h)
  have B_52 : ∀ (cows : Int32) (ricks : Int32) (kindOf : Nat → Int32) (st : Nat → Int32) (x1 : Int32) (x2 : Int32) (x3 : Int32) (x4 : Int32) (x5 : Int32) (x6 : Int32) (kh52 : (Int32 × Int32 × Int32) → Option (Int32)) (ihh52 : ∀ q, kh52 q = some o → hk_W p l e jr_M_tell s m args below meth c A (hk_Zi below args s D A o (wM cI a text letters mowers cows ricks weathers says words weather kindOf thatch newMowers newCows newRicks newWeathers newSays newWords newWeather newKind newThatch st pasts past aside seen seenWord seenHour keeps kept)) 9 D 0 0 (wM cI a text letters mowers cows ricks weathers says words weather kindOf thatch newMowers newCows newRicks newWeathers newSays newWords newWeather newKind newThatch st pasts past aside seen seenWord seenHour keeps kept) 52 [(0, .ref (a 0)), (1, .int x1), (2, .int x2), (3, .int x3), (4, .int q.1), (5, .int q.2.1), (6, .int q.2.2)] []) (_ : jf_M_tell_52B N cows ricks kindOf st x1 x2 x3 x4 x5 x6 kh52 = some o), hk_W p l e jr_M_tell s m args below meth c A (hk_Zi below args s D A o (wM cI a text letters mowers cows ricks weathers says words weather kindOf thatch newMowers newCows newRicks newWeathers newSays newWords newWeather newKind newThatch st pasts past aside seen seenWord seenHour keeps kept)) 9 D 0 0 (wM cI a text letters mowers cows ricks weathers says words weather kindOf thatch newMowers newCows newRicks newWeathers newSays newWords newWeather newKind newThatch st pasts past aside seen seenWord seenHour keeps kept) 52 [(0, .ref (a 0)), (1, .int x1), (2, .int x2), (3, .int x3), (4, .int x4), (5, .int x5), (6, .int x6)] [] := by
    intro cows ricks kindOf st x1 x2 x3 x4 x5 x6 kh52 ihh52 h
    delta jf_M_tell_52B at h
    refine hk_iload hC jd_M_tell_52 6 rfl ?_
    refine hk_if_lt (tgt := 177) hC jd_M_tell_54 (by decide) (fun cc1 => ?_) (fun cc1 => ?_)
    · replace h := xi_t h cc1
      refine hk_iload hC jd_M_tell_177 4 rfl ?_
      obtain rfl := Option.some.inj h
      exact hk_iret hC hr jd_M_tell_179 rfl rfl
    · replace h := xi_f h cc1
      refine hk_aload_n hC jd_M_tell_57 0 rfl ?_
      refine hk_get hC jk_M 0 rfl 20 (by decide) jq_718 rfl jd_M_tell_58 ?_
      refine hk_bipush (v := 16) hC jd_M_tell_61 (by decide) ?_
      have hr1 := xr_in h
      replace h := xr_go h
      refine hk_iald hC 12 rfl hr1 jd_M_tell_63 ?_
      obtain ⟨v1, e_v1, h⟩ := xl_go h
      refine hk_istore hC (i := 7) (y := v1) (lv2 := [(7, .int v1), (0, .ref (a 0)), (1, .int x1), (2, .int x2), (3, .int x3), (4, .int x4), (5, .int x5), (6, .int x6)]) jd_M_tell_64 e_v1 (by decide) rfl ?_
      exact hk_lv [1, 2, 3, 4, 5, 6, 7, 0] rfl (L_66 cows ricks kindOf st x1 x2 x3 x4 x5 x6 v1 _ (fun q1 h => by exact (B_171 cows ricks kindOf st x1 x2 x3 q1.1 q1.2 x6 kh52 ihh52 h)) h)
  have L_52 : ∀ (cows : Int32) (ricks : Int32) (kindOf : Nat → Int32) (st : Nat → Int32) (x1 : Int32) (x2 : Int32) (x3 : Int32) (x4 : Int32) (x5 : Int32) (x6 : Int32)   (_ : jf_M_tell_52 N cows ricks kindOf st x1 x2 x3 x4 x5 x6  = some o), hk_W p l e jr_M_tell s m args below meth c A (hk_Zi below args s D A o (wM cI a text letters mowers cows ricks weathers says words weather kindOf thatch newMowers newCows newRicks newWeathers newSays newWords newWeather newKind newThatch st pasts past aside seen seenWord seenHour keeps kept)) 9 D 0 0 (wM cI a text letters mowers cows ricks weathers says words weather kindOf thatch newMowers newCows newRicks newWeathers newSays newWords newWeather newKind newThatch st pasts past aside seen seenWord seenHour keeps kept) 52 [(0, .ref (a 0)), (1, .int x1), (2, .int x2), (3, .int x3), (4, .int x4), (5, .int x5), (6, .int x6)] [] := by
    intro cows ricks kindOf st x1 x2 x3 x4 x5 x6   h
    exact xloopW (fun (q : Int32 × Int32 × Int32) => hk_W p l e jr_M_tell s m args below meth c A (hk_Zi below args s D A o (wM cI a text letters mowers cows ricks weathers says words weather kindOf thatch newMowers newCows newRicks newWeathers newSays newWords newWeather newKind newThatch st pasts past aside seen seenWord seenHour keeps kept)) 9 D 0 0 (wM cI a text letters mowers cows ricks weathers says words weather kindOf thatch newMowers newCows newRicks newWeathers newSays newWords newWeather newKind newThatch st pasts past aside seen seenWord seenHour keeps kept) 52 [(0, .ref (a 0)), (1, .int x1), (2, .int x2), (3, .int x3), (4, .int q.1), (5, .int q.2.1), (6, .int q.2.2)] []) (fun kh ih q h => B_52 cows ricks kindOf st x1 x2 x3 q.1 q.2.1 q.2.2 kh  ih  h) N (x4, x5, x6) h
  have B_35 : ∀ (cows : Int32) (ricks : Int32) (kindOf : Nat → Int32) (st : Nat → Int32) (x1 : Int32) (x2 : Int32) (x3 : Int32)   (_ : jf_M_tell_35 N cows ricks kindOf st x1 x2 x3  = some o), hk_W p l e jr_M_tell s m args below meth c A (hk_Zi below args s D A o (wM cI a text letters mowers cows ricks weathers says words weather kindOf thatch newMowers newCows newRicks newWeathers newSays newWords newWeather newKind newThatch st pasts past aside seen seenWord seenHour keeps kept)) 9 D 0 0 (wM cI a text letters mowers cows ricks weathers says words weather kindOf thatch newMowers newCows newRicks newWeathers newSays newWords newWeather newKind newThatch st pasts past aside seen seenWord seenHour keeps kept) 35 [(0, .ref (a 0)), (1, .int x1), (2, .int x2), (3, .int x3)] [] := by
    intro cows ricks kindOf st x1 x2 x3   h
    delta jf_M_tell_35 at h
    refine hk_bipush (v := -4) hC jd_M_tell_35 (by decide) ?_
    refine hk_istore hC (i := 4) (y := (-4 : Int32)) (lv2 := [(4, .int (-4 : Int32)), (0, .ref (a 0)), (1, .int x1), (2, .int x2), (3, .int x3)]) jd_M_tell_37 rfl (by decide) rfl ?_
    refine hk_bipush (v := 100) hC jd_M_tell_39 (by decide) ?_
    refine hk_istore hC (i := 5) (y := (100 : Int32)) (lv2 := [(5, .int (100 : Int32)), (4, .int (-4 : Int32)), (0, .ref (a 0)), (1, .int x1), (2, .int x2), (3, .int x3)]) jd_M_tell_41 rfl (by decide) rfl ?_
    refine hk_aload_n hC jd_M_tell_43 2 rfl ?_
    refine hk_get hC jk_M 0 rfl 20 (by decide) jq_718 rfl jd_M_tell_44 ?_
    refine hk_bipush (v := 15) hC jd_M_tell_47 (by decide) ?_
    have hr1 := xr_in h
    replace h := xr_go h
    refine hk_iald hC 12 rfl hr1 jd_M_tell_49 ?_
    obtain ⟨v1, e_v1, h⟩ := xl_go h
    refine hk_istore hC (i := 6) (y := v1) (lv2 := [(6, .int v1), (5, .int (100 : Int32)), (4, .int (-4 : Int32)), (0, .ref (a 0)), (1, .int x1), (2, .int x2), (3, .int x3)]) jd_M_tell_50 e_v1 (by decide) rfl ?_
    exact hk_lv [3, 4, 5, 6, 2, 1, 0] rfl (L_52 cows ricks kindOf st x1 x2 x3 (-4 : Int32) (100 : Int32) v1   h)
  delta jf_M_tell at h
  refine hk_aload_n hC jd_M_tell_0 0 rfl ?_
  refine hk_iload_n hC jd_M_tell_1 1 rfl ?_
  obtain ⟨q1, h_q1, h⟩ := xb_go h
  refine hk_callVWi hC (q0 := 0) (jc_M_isCow l D cI cF N a text letters mowers cows ricks weathers says words weather kindOf thatch newMowers newCows newRicks newWeathers newSays newWords newWeather newKind newThatch st pasts past aside seen seenWord seenHour keeps kept x1 h_q1) jl_M_isCow rfl rfl jq_814 jq_816 jq0_23 rfl ⟨by decide, by decide⟩ rfl rfl (Nat.le_of_ble_eq_true rfl) ⟨Nat.zero_le _, Nat.zero_le _⟩ jd_M_tell_2 ?_
  refine hk_if_eq (tgt := 33) hC jd_M_tell_5 (by decide) (fun cc1 => ?_) (fun cc1 => ?_)
  · replace h := xi_t h cc1
    refine hk_iconst (v := -1) hC jd_M_tell_33 (by decide) ?_
    obtain rfl := Option.some.inj h
    exact hk_iret hC hr jd_M_tell_34 rfl rfl
  · replace h := xi_f h cc1
    refine hk_iload_n hC jd_M_tell_8 2 rfl ?_
    refine hk_i2l hC jd_M_tell_9 ?_
    refine hk_lconst (v := 1) hC jd_M_tell_10 (by decide) ?_
    refine hk_ldc2 hC jd_M_tell_11 jq_911 ?_
    obtain ⟨q2, h_q2, h⟩ := xb_go h
    refine hk_callS0i hC (jc_M_in l D cI cF N (Int32.toInt64 x2) (1 : Int64) (1023 : Int64) h_q2) jl_M_in jq_673 jq_674 rfl ⟨by decide, by decide⟩ rfl (Nat.le_of_ble_eq_true rfl) ⟨Nat.zero_le _, Nat.zero_le _⟩ jd_M_tell_14 ?_
    refine hk_if_eq (tgt := 33) hC jd_M_tell_17 (by decide) (fun cc2 => ?_) (fun cc2 => ?_)
    · replace h := xi_t h cc2
      refine hk_iconst (v := -1) hC jd_M_tell_33 (by decide) ?_
      obtain rfl := Option.some.inj h
      exact hk_iret hC hr jd_M_tell_34 rfl rfl
    · replace h := xi_f h cc2
      refine hk_iload_n hC jd_M_tell_20 3 rfl ?_
      refine hk_iconst (v := -1) hC jd_M_tell_21 (by decide) ?_
      refine hk_icmp_eq (tgt := 35) hC jd_M_tell_22 (by decide) (fun cc3 => ?_) (fun cc3 => ?_)
      · replace h := xi_t h cc3
        exact (B_35 cows ricks kindOf st x1 x2 x3   h)
      · replace h := xi_f h cc3
        refine hk_aload_n hC jd_M_tell_25 0 rfl ?_
        refine hk_iload_n hC jd_M_tell_26 3 rfl ?_
        obtain ⟨q3, h_q3, h⟩ := xb_go h
        refine hk_callVWi hC (q0 := 0) (jc_M_isRick l D cI cF N a text letters mowers cows ricks weathers says words weather kindOf thatch newMowers newCows newRicks newWeathers newSays newWords newWeather newKind newThatch st pasts past aside seen seenWord seenHour keeps kept x3 h_q3) jl_M_isRick rfl rfl jq_822 jq_824 jq0_24 rfl ⟨by decide, by decide⟩ rfl rfl (Nat.le_of_ble_eq_true rfl) ⟨Nat.zero_le _, Nat.zero_le _⟩ jd_M_tell_27 ?_
        refine hk_if_ne (tgt := 35) hC jd_M_tell_30 (by decide) (fun cc4 => ?_) (fun cc4 => ?_)
        · replace h := xi_f h cc4
          exact (B_35 cows ricks kindOf st x1 x2 x3   h)
        · replace h := xi_t h cc4
          refine hk_iconst (v := -1) hC jd_M_tell_33 (by decide) ?_
          obtain rfl := Option.some.inj h
          exact hk_iret hC hr jd_M_tell_34 rfl rfl
theorem jc_M_tell (l : Launch) (D : va_G) (cI cF : ClassId) (N : Nat) (a : Nat → Nat)  (text : Nat → Int32) (letters : Int32) (mowers : Int32) (cows : Int32) (ricks : Int32) (weathers : Int32) (says : Nat → Int32) (words : Nat → Int32) (weather : Nat → Int32) (kindOf : Nat → Int32) (thatch : Nat → Int32) (newMowers : Int32) (newCows : Int32) (newRicks : Int32) (newWeathers : Int32) (newSays : Nat → Int32) (newWords : Nat → Int32) (newWeather : Nat → Int32) (newKind : Nat → Int32) (newThatch : Nat → Int32) (st : Nat → Int32) (pasts : Int32) (past : Nat → Int32) (aside : Nat → Int32) (seen : Int32) (seenWord : Nat → Int32) (seenHour : Nat → Int32) (keeps : Int32) (kept : Nat → Int32) (x1 : Int32) (x2 : Int32) (x3 : Int32) {o : Int32} (h : jf_M_tell N cows ricks kindOf st x1 x2 x3 = some o) : hk_Mi l jy_M_tell jb_M_tell 9 (some .int) jr_M_tell D cI cF (wM cI a text letters mowers cows ricks weathers says words weather kindOf thatch newMowers newCows newRicks newWeathers newSays newWords newWeather newKind newThatch st pasts past aside seen seenWord seenHour keeps kept) [.ref (a 0), .int x1, .int x2, .int x3] o (wM cI a text letters mowers cows ricks weathers says words weather kindOf thatch newMowers newCows newRicks newWeathers newSays newWords newWeather newKind newThatch st pasts past aside seen seenWord seenHour keeps kept) :=
  hk_metI (by decide) (Nat.le_of_ble_eq_true rfl) rfl rfl (fun p e s m args below meth c A hC hr => jw_M_tell hC hr N a text letters mowers cows ricks weathers says words weather kindOf thatch newMowers newCows newRicks newWeathers newSays newWords newWeather newKind newThatch st pasts past aside seen seenWord seenHour keeps kept x1 x2 x3 h)
set_option maxHeartbeats 8000000 in
set_option maxRecDepth 100000 in
theorem jw_M_ones {p : Program} {l : Launch} {e : Env} {s : State} {m : MethodId} {args : Array Value} {below : List Frame} {meth : Method} {c : Code} {A : Nat → Prop} {D : va_G} {cI cF : ClassId} (hC : hk_ok p s m args meth c A 3 D cI cF "HayTalkModel" jb_M_ones) (hr : meth.sig.returnType = (some .int)) (N : Nat)    (x0 : Int32) {o : Int32} (h : jf_M_ones N x0 = some o) : hk_W p l e jr_M_ones s m args below meth c A (hk_Zi below args s D A o ([] : va_W)) 3 D 0 0 ([] : va_W) 0 [(0, .int x0)] [] := by
  have B_4 : ∀ (x1 : Int32) (x2 : Int32) (kh4 : (Int32 × Int32) → Option (Int32)) (ihh4 : ∀ q, kh4 q = some o → hk_W p l e jr_M_ones s m args below meth c A (hk_Zi below args s D A o ([] : va_W)) 3 D 0 0 ([] : va_W) 4 [(1, .int q.1), (2, .int q.2)] []) (_ : jf_M_ones_4B N x1 x2 kh4 = some o), hk_W p l e jr_M_ones s m args below meth c A (hk_Zi below args s D A o ([] : va_W)) 3 D 0 0 ([] : va_W) 4 [(1, .int x1), (2, .int x2)] [] := by
    intro x1 x2 kh4 ihh4 h
    delta jf_M_ones_4B at h
    refine hk_iload_n hC jd_M_ones_4 1 rfl ?_
    refine hk_if_eq (tgt := 20) hC jd_M_ones_5 (by decide) (fun cc1 => ?_) (fun cc1 => ?_)
    · replace h := xi_t h cc1
      refine hk_iload_n hC jd_M_ones_20 0 rfl ?_
      obtain rfl := Option.some.inj h
      exact hk_iret hC hr jd_M_ones_21 rfl rfl
    · replace h := xi_f h cc1
      obtain ⟨v1, e_v1, h⟩ := xl_go h
      refine hk_iinc hC (lv2 := [(1, .int v1), (2, .int x2)]) jd_M_ones_8 0 rfl e_v1 (by decide) rfl ?_
      refine hk_iload_n hC jd_M_ones_11 1 rfl ?_
      refine hk_iload_n hC jd_M_ones_12 1 rfl ?_
      refine hk_iconst (v := 1) hC jd_M_ones_13 (by decide) ?_
      refine hk_isub hC jd_M_ones_14 ?_
      refine hk_iand hC jd_M_ones_15 ?_
      obtain ⟨v2, e_v2, h⟩ := xl_go h
      refine hk_istore_n hC (i := 2) (y := v2) (lv2 := [(2, .int v2), (1, .int v1)]) jd_M_ones_16 rfl e_v2 (by decide) rfl ?_
      refine hk_goto (tgt := 4) hC jd_M_ones_17 (by decide) ?_
      exact hk_lv [1, 0] rfl (ihh4 (v1, v2) h)
  have L_4 : ∀ (x1 : Int32) (x2 : Int32)   (_ : jf_M_ones_4 N x1 x2  = some o), hk_W p l e jr_M_ones s m args below meth c A (hk_Zi below args s D A o ([] : va_W)) 3 D 0 0 ([] : va_W) 4 [(1, .int x1), (2, .int x2)] [] := by
    intro x1 x2   h
    exact xloopW (fun (q : Int32 × Int32) => hk_W p l e jr_M_ones s m args below meth c A (hk_Zi below args s D A o ([] : va_W)) 3 D 0 0 ([] : va_W) 4 [(1, .int q.1), (2, .int q.2)] []) (fun kh ih q h => B_4 q.1 q.2 kh  ih  h) N (x1, x2) h
  delta jf_M_ones at h
  refine hk_iconst (v := 0) hC jd_M_ones_0 (by decide) ?_
  refine hk_istore_n hC (i := 1) (y := (0 : Int32)) (lv2 := [(1, .int (0 : Int32)), (0, .int x0)]) jd_M_ones_1 rfl rfl (by decide) rfl ?_
  refine hk_iload_n hC jd_M_ones_2 1 rfl ?_
  refine hk_istore_n hC (i := 2) (y := x0) (lv2 := [(2, .int x0), (1, .int (0 : Int32)), (0, .int x0)]) jd_M_ones_3 rfl rfl (by decide) rfl ?_
  exact hk_lv [1, 0] rfl (L_4 (0 : Int32) x0   h)
theorem jc_M_ones (l : Launch) (D : va_G) (cI cF : ClassId) (N : Nat)    (x0 : Int32) {o : Int32} (h : jf_M_ones N x0 = some o) : hk_Mi l jy_M_ones jb_M_ones 3 (some .int) jr_M_ones D cI cF ([] : va_W) [.int x0] o ([] : va_W) :=
  hk_metI (by decide) (Nat.le_of_ble_eq_true rfl) rfl rfl (fun p e s m args below meth c A hC hr => jw_M_ones hC hr N x0 h)
set_option maxHeartbeats 8000000 in
set_option maxRecDepth 100000 in
theorem jw_M_rakes {p : Program} {l : Launch} {e : Env} {s : State} {m : MethodId} {args : Array Value} {below : List Frame} {meth : Method} {c : Code} {A : Nat → Prop} {D : va_G} {cI cF : ClassId} (hC : hk_ok p s m args meth c A 7 D cI cF "HayTalkModel" jb_M_rakes) (hr : meth.sig.returnType = (some .int)) (N : Nat) (a : Nat → Nat)  (text : Nat → Int32) (letters : Int32) (mowers : Int32) (cows : Int32) (ricks : Int32) (weathers : Int32) (says : Nat → Int32) (words : Nat → Int32) (weather : Nat → Int32) (kindOf : Nat → Int32) (thatch : Nat → Int32) (newMowers : Int32) (newCows : Int32) (newRicks : Int32) (newWeathers : Int32) (newSays : Nat → Int32) (newWords : Nat → Int32) (newWeather : Nat → Int32) (newKind : Nat → Int32) (newThatch : Nat → Int32) (st : Nat → Int32) (pasts : Int32) (past : Nat → Int32) (aside : Nat → Int32) (seen : Int32) (seenWord : Nat → Int32) (seenHour : Nat → Int32) (keeps : Int32) (kept : Nat → Int32) (x1 : Int32) {o : Int32} (h : jf_M_rakes N mowers st x1 = some o) : hk_W p l e jr_M_rakes s m args below meth c A (hk_Zi below args s D A o (wM cI a text letters mowers cows ricks weathers says words weather kindOf thatch newMowers newCows newRicks newWeathers newSays newWords newWeather newKind newThatch st pasts past aside seen seenWord seenHour keeps kept)) 7 D 0 0 (wM cI a text letters mowers cows ricks weathers says words weather kindOf thatch newMowers newCows newRicks newWeathers newSays newWords newWeather newKind newThatch st pasts past aside seen seenWord seenHour keeps kept) 0 [(0, .ref (a 0)), (1, .int x1)] [] := by
  have B_95 : ∀ (mowers : Int32) (st : Nat → Int32) (x1 : Int32) (x2 : Int32) (x3 : Int32) (x4 : Int32) (x5 : Int32) (kh36 : (Int32 × Int32 × Int32) → Option (Int32)) (kx101 : (Int32 × Int32) → Option (Int32)) (ihh36 : ∀ q, kh36 q = some o → hk_W p l e jr_M_rakes s m args below meth c A (hk_Zi below args s D A o (wM cI a text letters mowers cows ricks weathers says words weather kindOf thatch newMowers newCows newRicks newWeathers newSays newWords newWeather newKind newThatch st pasts past aside seen seenWord seenHour keeps kept)) 7 D 0 0 (wM cI a text letters mowers cows ricks weathers says words weather kindOf thatch newMowers newCows newRicks newWeathers newSays newWords newWeather newKind newThatch st pasts past aside seen seenWord seenHour keeps kept) 36 [(0, .ref (a 0)), (1, .int x1), (2, .int q.1), (3, .int q.2.1), (4, .int x4), (5, .int q.2.2)] []) (ihx101 : ∀ q, kx101 q = some o → hk_W p l e jr_M_rakes s m args below meth c A (hk_Zi below args s D A o (wM cI a text letters mowers cows ricks weathers says words weather kindOf thatch newMowers newCows newRicks newWeathers newSays newWords newWeather newKind newThatch st pasts past aside seen seenWord seenHour keeps kept)) 7 D 0 0 (wM cI a text letters mowers cows ricks weathers says words weather kindOf thatch newMowers newCows newRicks newWeathers newSays newWords newWeather newKind newThatch st pasts past aside seen seenWord seenHour keeps kept) 101 [(0, .ref (a 0)), (1, .int x1), (2, .int q.1), (3, .int q.2), (4, .int x4)] []) (_ : jf_M_rakes_95 N mowers st x1 x2 x3 x4 x5 kh36 kx101 = some o), hk_W p l e jr_M_rakes s m args below meth c A (hk_Zi below args s D A o (wM cI a text letters mowers cows ricks weathers says words weather kindOf thatch newMowers newCows newRicks newWeathers newSays newWords newWeather newKind newThatch st pasts past aside seen seenWord seenHour keeps kept)) 7 D 0 0 (wM cI a text letters mowers cows ricks weathers says words weather kindOf thatch newMowers newCows newRicks newWeathers newSays newWords newWeather newKind newThatch st pasts past aside seen seenWord seenHour keeps kept) 95 [(0, .ref (a 0)), (1, .int x1), (2, .int x2), (3, .int x3), (4, .int x4), (5, .int x5)] [] := by
    intro mowers st x1 x2 x3 x4 x5 kh36 kx101 ihh36 ihx101 h
    delta jf_M_rakes_95 at h
    obtain ⟨v1, e_v1, h⟩ := xl_go h
    refine hk_iinc hC (lv2 := [(5, .int v1), (0, .ref (a 0)), (1, .int x1), (2, .int x2), (3, .int x3), (4, .int x4)]) jd_M_rakes_95 5 rfl e_v1 (by decide) rfl ?_
    refine hk_goto (tgt := 36) hC jd_M_rakes_98 (by decide) ?_
    exact hk_lv [1, 2, 3, 4, 5, 0] rfl (ihh36 (x2, x3, v1) h)
  have B_36 : ∀ (mowers : Int32) (st : Nat → Int32) (x1 : Int32) (x2 : Int32) (x3 : Int32) (x4 : Int32) (x5 : Int32) (kh36 : (Int32 × Int32 × Int32) → Option (Int32)) (kx101 : (Int32 × Int32) → Option (Int32)) (ihh36 : ∀ q, kh36 q = some o → hk_W p l e jr_M_rakes s m args below meth c A (hk_Zi below args s D A o (wM cI a text letters mowers cows ricks weathers says words weather kindOf thatch newMowers newCows newRicks newWeathers newSays newWords newWeather newKind newThatch st pasts past aside seen seenWord seenHour keeps kept)) 7 D 0 0 (wM cI a text letters mowers cows ricks weathers says words weather kindOf thatch newMowers newCows newRicks newWeathers newSays newWords newWeather newKind newThatch st pasts past aside seen seenWord seenHour keeps kept) 36 [(0, .ref (a 0)), (1, .int x1), (2, .int q.1), (3, .int q.2.1), (4, .int x4), (5, .int q.2.2)] []) (ihx101 : ∀ q, kx101 q = some o → hk_W p l e jr_M_rakes s m args below meth c A (hk_Zi below args s D A o (wM cI a text letters mowers cows ricks weathers says words weather kindOf thatch newMowers newCows newRicks newWeathers newSays newWords newWeather newKind newThatch st pasts past aside seen seenWord seenHour keeps kept)) 7 D 0 0 (wM cI a text letters mowers cows ricks weathers says words weather kindOf thatch newMowers newCows newRicks newWeathers newSays newWords newWeather newKind newThatch st pasts past aside seen seenWord seenHour keeps kept) 101 [(0, .ref (a 0)), (1, .int x1), (2, .int q.1), (3, .int q.2), (4, .int x4)] []) (_ : jf_M_rakes_36B N mowers st x1 x2 x3 x4 x5 kh36 kx101 = some o), hk_W p l e jr_M_rakes s m args below meth c A (hk_Zi below args s D A o (wM cI a text letters mowers cows ricks weathers says words weather kindOf thatch newMowers newCows newRicks newWeathers newSays newWords newWeather newKind newThatch st pasts past aside seen seenWord seenHour keeps kept)) 7 D 0 0 (wM cI a text letters mowers cows ricks weathers says words weather kindOf thatch newMowers newCows newRicks newWeathers newSays newWords newWeather newKind newThatch st pasts past aside seen seenWord seenHour keeps kept) 36 [(0, .ref (a 0)), (1, .int x1), (2, .int x2), (3, .int x3), (4, .int x4), (5, .int x5)] [] := by
    intro mowers st x1 x2 x3 x4 x5 kh36 kx101 ihh36 ihx101 h
    delta jf_M_rakes_36B at h
    refine hk_iload hC jd_M_rakes_36 5 rfl ?_
    refine hk_aload_n hC jd_M_rakes_38 0 rfl ?_
    refine hk_get hC jk_M 0 rfl 2 (by decide) jq_700 rfl jd_M_rakes_39 ?_
    refine hk_icmp_ge (tgt := 101) hC jd_M_rakes_42 (by decide) (fun cc1 => ?_) (fun cc1 => ?_)
    · replace h := xi_t h cc1
      exact hk_lv [0, 1, 2, 3, 4] rfl (ihx101 (x2, x3) h)
    · replace h := xi_f h cc1
      refine hk_aload_n hC jd_M_rakes_45 0 rfl ?_
      refine hk_iload hC jd_M_rakes_46 4 rfl ?_
      refine hk_iload hC jd_M_rakes_48 5 rfl ?_
      obtain ⟨q1, h_q1, h⟩ := xb_go h
      refine hk_callVWi hC (q0 := 0) (jc_M_lying l D cI cF N a text letters mowers cows ricks weathers says words weather kindOf thatch newMowers newCows newRicks newWeathers newSays newWords newWeather newKind newThatch st pasts past aside seen seenWord seenHour keeps kept x4 x5 h_q1) jl_M_lying rfl rfl jq_867 jq_869 jq0_31 rfl ⟨by decide, by decide⟩ rfl rfl (Nat.le_of_ble_eq_true rfl) ⟨Nat.zero_le _, Nat.zero_le _⟩ jd_M_rakes_50 ?_
      refine hk_iload_n hC jd_M_rakes_53 1 rfl ?_
      refine hk_iconst (v := -1) hC jd_M_rakes_54 (by decide) ?_
      refine hk_ixor hC jd_M_rakes_55 ?_
      refine hk_iand hC jd_M_rakes_56 ?_
      obtain ⟨q2, h_q2, h⟩ := xb_go h
      refine hk_callS0i hC (jc_M_ones l D cI cF N (q1 &&& (x1 ^^^ (-1 : Int32))) h_q2) jl_M_ones jq_920 jq_921 rfl ⟨by decide, by decide⟩ rfl (Nat.le_of_ble_eq_true rfl) ⟨Nat.zero_le _, Nat.zero_le _⟩ jd_M_rakes_57 ?_
      refine hk_istore hC (i := 6) (y := q2) (lv2 := [(6, .int q2), (0, .ref (a 0)), (1, .int x1), (2, .int x2), (3, .int x3), (4, .int x4), (5, .int x5)]) jd_M_rakes_60 rfl (by decide) rfl ?_
      refine hk_iload_n hC jd_M_rakes_62 2 rfl ?_
      refine hk_aload_n hC jd_M_rakes_63 1 rfl ?_
      refine hk_iload hC jd_M_rakes_64 5 rfl ?_
      refine hk_iload hC jd_M_rakes_66 6 rfl ?_
      obtain ⟨q3, h_q3, h⟩ := xb_go h
      refine hk_callVWi hC (q0 := 0) (jc_M_lying l D cI cF N a text letters mowers cows ricks weathers says words weather kindOf thatch newMowers newCows newRicks newWeathers newSays newWords newWeather newKind newThatch st pasts past aside seen seenWord seenHour keeps kept x4 x5 h_q3) jl_M_lying rfl rfl jq_867 jq_869 jq0_31 rfl ⟨by decide, by decide⟩ rfl rfl (Nat.le_of_ble_eq_true rfl) ⟨Nat.zero_le _, Nat.zero_le _⟩ jd_M_rakes_68 ?_
      refine hk_iconst (v := -1) hC jd_M_rakes_71 (by decide) ?_
      refine hk_ixor hC jd_M_rakes_72 ?_
      refine hk_iand hC jd_M_rakes_73 ?_
      refine hk_if_ne (tgt := 95) hC jd_M_rakes_74 (by decide) (fun cc2 => ?_) (fun cc2 => ?_)
      · replace h := xi_f h cc2
        exact hk_lv [1, 2, 3, 4, 5, 6] rfl (B_95 mowers st x1 x2 x3 x4 x5 kh36 kx101 ihh36 ihx101 h)
      · replace h := xi_t h cc2
        refine hk_iload hC jd_M_rakes_77 0 rfl ?_
        refine hk_iload_n hC jd_M_rakes_79 4 rfl ?_
        refine hk_icmp_ge (tgt := 95) hC jd_M_rakes_80 (by decide) (fun cc3 => ?_) (fun cc3 => ?_)
        · replace h := xi_t h cc3
          exact hk_lv [1, 2, 3, 4, 5, 6] rfl (B_95 mowers st x1 x2 x3 x4 x5 kh36 kx101 ihh36 ihx101 h)
        · replace h := xi_f h cc3
          refine hk_bipush (v := 10) hC jd_M_rakes_83 (by decide) ?_
          refine hk_iload hC jd_M_rakes_85 5 rfl ?_
          refine hk_imul hC jd_M_rakes_87 ?_
          refine hk_iload hC jd_M_rakes_88 6 rfl ?_
          refine hk_iadd hC jd_M_rakes_90 ?_
          obtain ⟨v1, e_v1, h⟩ := xl_go h
          refine hk_istore_n hC (i := 2) (y := v1) (lv2 := [(2, .int v1), (6, .int q2), (0, .ref (a 0)), (1, .int x1), (3, .int x3), (4, .int x4), (5, .int x5)]) jd_M_rakes_91 rfl e_v1 (by decide) rfl ?_
          refine hk_iload hC jd_M_rakes_92 1 rfl ?_
          refine hk_istore_n hC (i := 3) (y := q2) (lv2 := [(3, .int q2), (2, .int v1), (6, .int q2), (0, .ref (a 0)), (1, .int x1), (4, .int x4), (5, .int x5)]) jd_M_rakes_94 rfl rfl (by decide) rfl ?_
          exact hk_lv [3, 4, 1, 0, 5, 6] rfl (B_95 mowers st x1 v1 q2 x4 x5 kh36 kx101 ihh36 ihx101 h)
  have L_36 : ∀ (mowers : Int32) (st : Nat → Int32) (x1 : Int32) (x2 : Int32) (x3 : Int32) (x4 : Int32) (x5 : Int32) (kx101 : (Int32 × Int32) → Option (Int32)) (ihx101 : ∀ q, kx101 q = some o → hk_W p l e jr_M_rakes s m args below meth c A (hk_Zi below args s D A o (wM cI a text letters mowers cows ricks weathers says words weather kindOf thatch newMowers newCows newRicks newWeathers newSays newWords newWeather newKind newThatch st pasts past aside seen seenWord seenHour keeps kept)) 7 D 0 0 (wM cI a text letters mowers cows ricks weathers says words weather kindOf thatch newMowers newCows newRicks newWeathers newSays newWords newWeather newKind newThatch st pasts past aside seen seenWord seenHour keeps kept) 101 [(0, .ref (a 0)), (1, .int x1), (2, .int q.1), (3, .int q.2), (4, .int x4)] []) (_ : jf_M_rakes_36 N mowers st x1 x2 x3 x4 x5 kx101 = some o), hk_W p l e jr_M_rakes s m args below meth c A (hk_Zi below args s D A o (wM cI a text letters mowers cows ricks weathers says words weather kindOf thatch newMowers newCows newRicks newWeathers newSays newWords newWeather newKind newThatch st pasts past aside seen seenWord seenHour keeps kept)) 7 D 0 0 (wM cI a text letters mowers cows ricks weathers says words weather kindOf thatch newMowers newCows newRicks newWeathers newSays newWords newWeather newKind newThatch st pasts past aside seen seenWord seenHour keeps kept) 36 [(0, .ref (a 0)), (1, .int x1), (2, .int x2), (3, .int x3), (4, .int x4), (5, .int x5)] [] := by
    intro mowers st x1 x2 x3 x4 x5 kx101 ihx101 h
    exact xloopW (fun (q : Int32 × Int32 × Int32) => hk_W p l e jr_M_rakes s m args below meth c A (hk_Zi below args s D A o (wM cI a text letters mowers cows ricks weathers says words weather kindOf thatch newMowers newCows newRicks newWeathers newSays newWords newWeather newKind newThatch st pasts past aside seen seenWord seenHour keeps kept)) 7 D 0 0 (wM cI a text letters mowers cows ricks weathers says words weather kindOf thatch newMowers newCows newRicks newWeathers newSays newWords newWeather newKind newThatch st pasts past aside seen seenWord seenHour keeps kept) 36 [(0, .ref (a 0)), (1, .int x1), (2, .int q.1), (3, .int q.2.1), (4, .int x4), (5, .int q.2.2)] []) (fun kh ih q h => B_36 mowers st x1 q.1 q.2.1 x4 q.2.2 kh kx101 ih ihx101 h) N (x2, x3, x5) h
  have B_101 : ∀ (mowers : Int32) (st : Nat → Int32) (x1 : Int32) (x2 : Int32) (x3 : Int32) (x4 : Int32) (kh23 : (Int32 × Int32 × Int32) → Option (Int32)) (ihh23 : ∀ q, kh23 q = some o → hk_W p l e jr_M_rakes s m args below meth c A (hk_Zi below args s D A o (wM cI a text letters mowers cows ricks weathers says words weather kindOf thatch newMowers newCows newRicks newWeathers newSays newWords newWeather newKind newThatch st pasts past aside seen seenWord seenHour keeps kept)) 7 D 0 0 (wM cI a text letters mowers cows ricks weathers says words weather kindOf thatch newMowers newCows newRicks newWeathers newSays newWords newWeather newKind newThatch st pasts past aside seen seenWord seenHour keeps kept) 23 [(0, .ref (a 0)), (1, .int x1), (2, .int q.1), (3, .int q.2.1), (4, .int q.2.2)] []) (_ : jf_M_rakes_101 N mowers st x1 x2 x3 x4 kh23 = some o), hk_W p l e jr_M_rakes s m args below meth c A (hk_Zi below args s D A o (wM cI a text letters mowers cows ricks weathers says words weather kindOf thatch newMowers newCows newRicks newWeathers newSays newWords newWeather newKind newThatch st pasts past aside seen seenWord seenHour keeps kept)) 7 D 0 0 (wM cI a text letters mowers cows ricks weathers says words weather kindOf thatch newMowers newCows newRicks newWeathers newSays newWords newWeather newKind newThatch st pasts past aside seen seenWord seenHour keeps kept) 101 [(0, .ref (a 0)), (1, .int x1), (2, .int x2), (3, .int x3), (4, .int x4)] [] := by
    intro mowers st x1 x2 x3 x4 kh23 ihh23 h
    delta jf_M_rakes_101 at h
    obtain ⟨v1, e_v1, h⟩ := xl_go h
    refine hk_iinc hC (lv2 := [(4, .int v1), (0, .ref (a 0)), (1, .int x1), (2, .int x2), (3, .int x3)]) jd_M_rakes_101 4 rfl e_v1 (by decide) rfl ?_
    refine hk_goto (tgt := 23) hC jd_M_rakes_104 (by decide) ?_
    exact hk_lv [1, 2, 3, 4, 0] rfl (ihh23 (x2, x3, v1) h)
  have B_23 : ∀ (mowers : Int32) (st : Nat → Int32) (x1 : Int32) (x2 : Int32) (x3 : Int32) (x4 : Int32) (kh23 : (Int32 × Int32 × Int32) → Option (Int32)) (ihh23 : ∀ q, kh23 q = some o → hk_W p l e jr_M_rakes s m args below meth c A (hk_Zi below args s D A o (wM cI a text letters mowers cows ricks weathers says words weather kindOf thatch newMowers newCows newRicks newWeathers newSays newWords newWeather newKind newThatch st pasts past aside seen seenWord seenHour keeps kept)) 7 D 0 0 (wM cI a text letters mowers cows ricks weathers says words weather kindOf thatch newMowers newCows newRicks newWeathers newSays newWords newWeather newKind newThatch st pasts past aside seen seenWord seenHour keeps kept) 23 [(0, .ref (a 0)), (1, .int x1), (2, .int q.1), (3, .int q.2.1), (4, .int q.2.2)] []) (_ : jf_M_rakes_23B N mowers st x1 x2 x3 x4 kh23 = some o), hk_W p l e jr_M_rakes s m args below meth c A (hk_Zi below args s D A o (wM cI a text letters mowers cows ricks weathers says words weather kindOf thatch newMowers newCows newRicks newWeathers newSays newWords newWeather newKind newThatch st pasts past aside seen seenWord seenHour keeps kept)) 7 D 0 0 (wM cI a text letters mowers cows ricks weathers says words weather kindOf thatch newMowers newCows newRicks newWeathers newSays newWords newWeather newKind newThatch st pasts past aside seen seenWord seenHour keeps kept) 23 [(0, .ref (a 0)), (1, .int x1), (2, .int x2), (3, .int x3), (4, .int x4)] [] := by
    intro mowers st x1 x2 x3 x4 kh23 ihh23 h
    delta jf_M_rakes_23B at h
    refine hk_iload hC jd_M_rakes_23 4 rfl ?_
    refine hk_aload_n hC jd_M_rakes_25 0 rfl ?_
    refine hk_get hC jk_M 0 rfl 2 (by decide) jq_700 rfl jd_M_rakes_26 ?_
    refine hk_icmp_ge (tgt := 107) hC jd_M_rakes_29 (by decide) (fun cc1 => ?_) (fun cc1 => ?_)
    · replace h := xi_t h cc1
      refine hk_iload_n hC jd_M_rakes_107 2 rfl ?_
      obtain rfl := Option.some.inj h
      exact hk_iret hC hr jd_M_rakes_108 rfl rfl
    · replace h := xi_f h cc1
      refine hk_iload hC jd_M_rakes_32 4 rfl ?_
      refine hk_istore hC (i := 5) (y := x4) (lv2 := [(5, .int x4), (0, .ref (a 0)), (1, .int x1), (2, .int x2), (3, .int x3), (4, .int x4)]) jd_M_rakes_34 rfl (by decide) rfl ?_
      exact hk_lv [1, 2, 3, 4, 5, 0] rfl (L_36 mowers st x1 x2 x3 x4 x4 _ (fun q1 h => by exact (B_101 mowers st x1 q1.1 q1.2 x4 kh23 ihh23 h)) h)
  have L_23 : ∀ (mowers : Int32) (st : Nat → Int32) (x1 : Int32) (x2 : Int32) (x3 : Int32) (x4 : Int32)   (_ : jf_M_rakes_23 N mowers st x1 x2 x3 x4  = some o), hk_W p l e jr_M_rakes s m args below meth c A (hk_Zi below args s D A o (wM cI a text letters mowers cows ricks weathers says words weather kindOf thatch newMowers newCows newRicks newWeathers newSays newWords newWeather newKind newThatch st pasts past aside seen seenWord seenHour keeps kept)) 7 D 0 0 (wM cI a text letters mowers cows ricks weathers says words weather kindOf thatch newMowers newCows newRicks newWeathers newSays newWords newWeather newKind newThatch st pasts past aside seen seenWord seenHour keeps kept) 23 [(0, .ref (a 0)), (1, .int x1), (2, .int x2), (3, .int x3), (4, .int x4)] [] := by
    intro mowers st x1 x2 x3 x4   h
    exact xloopW (fun (q : Int32 × Int32 × Int32) => hk_W p l e jr_M_rakes s m args below meth c A (hk_Zi below args s D A o (wM cI a text letters mowers cows ricks weathers says words weather kindOf thatch newMowers newCows newRicks newWeathers newSays newWords newWeather newKind newThatch st pasts past aside seen seenWord seenHour keeps kept)) 7 D 0 0 (wM cI a text letters mowers cows ricks weathers says words weather kindOf thatch newMowers newCows newRicks newWeathers newSays newWords newWeather newKind newThatch st pasts past aside seen seenWord seenHour keeps kept) 23 [(0, .ref (a 0)), (1, .int x1), (2, .int q.1), (3, .int q.2.1), (4, .int q.2.2)] []) (fun kh ih q h => B_23 mowers st x1 q.1 q.2.1 q.2.2 kh  ih  h) N (x2, x3, x4) h
  delta jf_M_rakes at h
  refine hk_iload_n hC jd_M_rakes_0 1 rfl ?_
  refine hk_i2l hC jd_M_rakes_1 ?_
  refine hk_lconst (v := 1) hC jd_M_rakes_2 (by decide) ?_
  refine hk_ldc2 hC jd_M_rakes_3 jq_911 ?_
  obtain ⟨q1, h_q1, h⟩ := xb_go h
  refine hk_callS0i hC (jc_M_in l D cI cF N (Int32.toInt64 x1) (1 : Int64) (1023 : Int64) h_q1) jl_M_in jq_673 jq_674 rfl ⟨by decide, by decide⟩ rfl (Nat.le_of_ble_eq_true rfl) ⟨Nat.zero_le _, Nat.zero_le _⟩ jd_M_rakes_6 ?_
  refine hk_if_ne (tgt := 14) hC jd_M_rakes_9 (by decide) (fun cc1 => ?_) (fun cc1 => ?_)
  · replace h := xi_f h cc1
    refine hk_bipush (v := -4) hC jd_M_rakes_14 (by decide) ?_
    refine hk_istore_n hC (i := 2) (y := (-4 : Int32)) (lv2 := [(2, .int (-4 : Int32)), (0, .ref (a 0)), (1, .int x1)]) jd_M_rakes_16 rfl rfl (by decide) rfl ?_
    refine hk_bipush (v := 100) hC jd_M_rakes_17 (by decide) ?_
    refine hk_istore_n hC (i := 3) (y := (100 : Int32)) (lv2 := [(3, .int (100 : Int32)), (2, .int (-4 : Int32)), (0, .ref (a 0)), (1, .int x1)]) jd_M_rakes_19 rfl rfl (by decide) rfl ?_
    refine hk_iconst (v := 0) hC jd_M_rakes_20 (by decide) ?_
    refine hk_istore hC (i := 4) (y := (0 : Int32)) (lv2 := [(4, .int (0 : Int32)), (3, .int (100 : Int32)), (2, .int (-4 : Int32)), (0, .ref (a 0)), (1, .int x1)]) jd_M_rakes_21 rfl (by decide) rfl ?_
    exact hk_lv [3, 4, 2, 1, 0] rfl (L_23 mowers st x1 (-4 : Int32) (100 : Int32) (0 : Int32)   h)
  · replace h := xi_t h cc1
    refine hk_iconst (v := -1) hC jd_M_rakes_12 (by decide) ?_
    obtain rfl := Option.some.inj h
    exact hk_iret hC hr jd_M_rakes_13 rfl rfl
theorem jc_M_rakes (l : Launch) (D : va_G) (cI cF : ClassId) (N : Nat) (a : Nat → Nat)  (text : Nat → Int32) (letters : Int32) (mowers : Int32) (cows : Int32) (ricks : Int32) (weathers : Int32) (says : Nat → Int32) (words : Nat → Int32) (weather : Nat → Int32) (kindOf : Nat → Int32) (thatch : Nat → Int32) (newMowers : Int32) (newCows : Int32) (newRicks : Int32) (newWeathers : Int32) (newSays : Nat → Int32) (newWords : Nat → Int32) (newWeather : Nat → Int32) (newKind : Nat → Int32) (newThatch : Nat → Int32) (st : Nat → Int32) (pasts : Int32) (past : Nat → Int32) (aside : Nat → Int32) (seen : Int32) (seenWord : Nat → Int32) (seenHour : Nat → Int32) (keeps : Int32) (kept : Nat → Int32) (x1 : Int32) {o : Int32} (h : jf_M_rakes N mowers st x1 = some o) : hk_Mi l jy_M_rakes jb_M_rakes 7 (some .int) jr_M_rakes D cI cF (wM cI a text letters mowers cows ricks weathers says words weather kindOf thatch newMowers newCows newRicks newWeathers newSays newWords newWeather newKind newThatch st pasts past aside seen seenWord seenHour keeps kept) [.ref (a 0), .int x1] o (wM cI a text letters mowers cows ricks weathers says words weather kindOf thatch newMowers newCows newRicks newWeathers newSays newWords newWeather newKind newThatch st pasts past aside seen seenWord seenHour keeps kept) :=
  hk_metI (by decide) (Nat.le_of_ble_eq_true rfl) rfl rfl (fun p e s m args below meth c A hC hr => jw_M_rakes hC hr N a text letters mowers cows ricks weathers says words weather kindOf thatch newMowers newCows newRicks newWeathers newSays newWords newWeather newKind newThatch st pasts past aside seen seenWord seenHour keeps kept x1 h)
