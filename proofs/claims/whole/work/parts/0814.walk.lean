set_option maxHeartbeats 8000000 in
set_option maxRecDepth 100000 in
theorem jw_M_which {p : Program} {l : Launch} {e : Env} {s : State} {m : MethodId} {args : Array Value} {below : List Frame} {meth : Method} {c : Code} {A : Nat → Prop} {D : va_G} {cI cF : ClassId} (hC : hk_ok p s m args meth c A 5 D cI cF "HayTalkModel" jb_M_which) (hr : meth.sig.returnType = (some .int)) (N : Nat) (a : Nat → Nat)  (text : Nat → Int32) (letters : Int32) (mowers : Int32) (cows : Int32) (ricks : Int32) (weathers : Int32) (says : Nat → Int32) (words : Nat → Int32) (weather : Nat → Int32) (kindOf : Nat → Int32) (thatch : Nat → Int32) (newMowers : Int32) (newCows : Int32) (newRicks : Int32) (newWeathers : Int32) (newSays : Nat → Int32) (newWords : Nat → Int32) (newWeather : Nat → Int32) (newKind : Nat → Int32) (newThatch : Nat → Int32) (st : Nat → Int32) (pasts : Int32) (past : Nat → Int32) (aside : Nat → Int32) (seen : Int32) (seenWord : Nat → Int32) (seenHour : Nat → Int32) (keeps : Int32) (kept : Nat → Int32)  {o : Int32} (h : jf_M_which N mowers says words seen seenWord seenHour = some o) : hk_W p l e jr_M_which s m args below meth c A (hk_Zi below args s D A o (wM cI a text letters mowers cows ricks weathers says words weather kindOf thatch newMowers newCows newRicks newWeathers newSays newWords newWeather newKind newThatch st pasts past aside seen seenWord seenHour keeps kept)) 5 D 0 0 (wM cI a text letters mowers cows ricks weathers says words weather kindOf thatch newMowers newCows newRicks newWeathers newSays newWords newWeather newKind newThatch st pasts past aside seen seenWord seenHour keeps kept) 0 [(0, .ref (a 0))] [] := by
  have B_57 : ∀ (mowers : Int32) (says : Nat → Int32) (words : Nat → Int32) (seen : Int32) (seenWord : Nat → Int32) (seenHour : Nat → Int32) (x1 : Int32) (x2 : Int32) (x4 : Int32) (y0 : Int32) (kh17 : (Int32 × Int32) → Option (Int32)) (kx64 : (Int32) → Option (Int32)) (ihh17 : ∀ q, kh17 q = some o → hk_W p l e jr_M_which s m args below meth c A (hk_Zi below args s D A o (wM cI a text letters mowers cows ricks weathers says words weather kindOf thatch newMowers newCows newRicks newWeathers newSays newWords newWeather newKind newThatch st pasts past aside seen seenWord seenHour keeps kept)) 5 D 0 0 (wM cI a text letters mowers cows ricks weathers says words weather kindOf thatch newMowers newCows newRicks newWeathers newSays newWords newWeather newKind newThatch st pasts past aside seen seenWord seenHour keeps kept) 17 [(0, .ref (a 0)), (1, .int x1), (2, .int x2), (3, .int q.1), (4, .int q.2)] []) (ihx64 : ∀ q, kx64 q = some o → hk_W p l e jr_M_which s m args below meth c A (hk_Zi below args s D A o (wM cI a text letters mowers cows ricks weathers says words weather kindOf thatch newMowers newCows newRicks newWeathers newSays newWords newWeather newKind newThatch st pasts past aside seen seenWord seenHour keeps kept)) 5 D 0 0 (wM cI a text letters mowers cows ricks weathers says words weather kindOf thatch newMowers newCows newRicks newWeathers newSays newWords newWeather newKind newThatch st pasts past aside seen seenWord seenHour keeps kept) 64 [(0, .ref (a 0)), (1, .int x1), (2, .int x2), (3, .int q)] []) (_ : jf_M_which_57 N mowers says words seen seenWord seenHour x1 x2 x4 y0 kh17 kx64 = some o), hk_W p l e jr_M_which s m args below meth c A (hk_Zi below args s D A o (wM cI a text letters mowers cows ricks weathers says words weather kindOf thatch newMowers newCows newRicks newWeathers newSays newWords newWeather newKind newThatch st pasts past aside seen seenWord seenHour keeps kept)) 5 D 0 0 (wM cI a text letters mowers cows ricks weathers says words weather kindOf thatch newMowers newCows newRicks newWeathers newSays newWords newWeather newKind newThatch st pasts past aside seen seenWord seenHour keeps kept) 57 [(0, .ref (a 0)), (1, .int x1), (2, .int x2), (4, .int x4)] [.int y0] := by
    intro mowers says words seen seenWord seenHour x1 x2 x4 y0 kh17 kx64 ihh17 ihx64 h
    delta jf_M_which_57 at h
    refine hk_istore_n hC (i := 3) (y := y0) (lv2 := [(3, .int y0), (0, .ref (a 0)), (1, .int x1), (2, .int x2), (4, .int x4)]) jd_M_which_57 rfl rfl (by decide) rfl ?_
    obtain ⟨v1, e_v1, h⟩ := xl_go h
    refine hk_iinc hC (lv2 := [(4, .int v1), (3, .int y0), (0, .ref (a 0)), (1, .int x1), (2, .int x2)]) jd_M_which_58 4 rfl e_v1 (by decide) rfl ?_
    refine hk_goto (tgt := 17) hC jd_M_which_61 (by decide) ?_
    exact hk_lv [2, 3, 4, 1, 0] rfl (ihh17 (y0, v1) h)
  have B_56 : ∀ (mowers : Int32) (says : Nat → Int32) (words : Nat → Int32) (seen : Int32) (seenWord : Nat → Int32) (seenHour : Nat → Int32) (x1 : Int32) (x2 : Int32) (x4 : Int32) (kh17 : (Int32 × Int32) → Option (Int32)) (kx64 : (Int32) → Option (Int32)) (ihh17 : ∀ q, kh17 q = some o → hk_W p l e jr_M_which s m args below meth c A (hk_Zi below args s D A o (wM cI a text letters mowers cows ricks weathers says words weather kindOf thatch newMowers newCows newRicks newWeathers newSays newWords newWeather newKind newThatch st pasts past aside seen seenWord seenHour keeps kept)) 5 D 0 0 (wM cI a text letters mowers cows ricks weathers says words weather kindOf thatch newMowers newCows newRicks newWeathers newSays newWords newWeather newKind newThatch st pasts past aside seen seenWord seenHour keeps kept) 17 [(0, .ref (a 0)), (1, .int x1), (2, .int x2), (3, .int q.1), (4, .int q.2)] []) (ihx64 : ∀ q, kx64 q = some o → hk_W p l e jr_M_which s m args below meth c A (hk_Zi below args s D A o (wM cI a text letters mowers cows ricks weathers says words weather kindOf thatch newMowers newCows newRicks newWeathers newSays newWords newWeather newKind newThatch st pasts past aside seen seenWord seenHour keeps kept)) 5 D 0 0 (wM cI a text letters mowers cows ricks weathers says words weather kindOf thatch newMowers newCows newRicks newWeathers newSays newWords newWeather newKind newThatch st pasts past aside seen seenWord seenHour keeps kept) 64 [(0, .ref (a 0)), (1, .int x1), (2, .int x2), (3, .int q)] []) (_ : jf_M_which_56 N mowers says words seen seenWord seenHour x1 x2 x4 kh17 kx64 = some o), hk_W p l e jr_M_which s m args below meth c A (hk_Zi below args s D A o (wM cI a text letters mowers cows ricks weathers says words weather kindOf thatch newMowers newCows newRicks newWeathers newSays newWords newWeather newKind newThatch st pasts past aside seen seenWord seenHour keeps kept)) 5 D 0 0 (wM cI a text letters mowers cows ricks weathers says words weather kindOf thatch newMowers newCows newRicks newWeathers newSays newWords newWeather newKind newThatch st pasts past aside seen seenWord seenHour keeps kept) 56 [(0, .ref (a 0)), (1, .int x1), (2, .int x2), (4, .int x4)] [] := by
    intro mowers says words seen seenWord seenHour x1 x2 x4 kh17 kx64 ihh17 ihx64 h
    delta jf_M_which_56 at h
    refine hk_iconst (v := 0) hC jd_M_which_56 (by decide) ?_
    exact (B_57 mowers says words seen seenWord seenHour x1 x2 x4 (0 : Int32) kh17 kx64 ihh17 ihx64 h)
  have B_17 : ∀ (mowers : Int32) (says : Nat → Int32) (words : Nat → Int32) (seen : Int32) (seenWord : Nat → Int32) (seenHour : Nat → Int32) (x1 : Int32) (x2 : Int32) (x3 : Int32) (x4 : Int32) (kh17 : (Int32 × Int32) → Option (Int32)) (kx64 : (Int32) → Option (Int32)) (ihh17 : ∀ q, kh17 q = some o → hk_W p l e jr_M_which s m args below meth c A (hk_Zi below args s D A o (wM cI a text letters mowers cows ricks weathers says words weather kindOf thatch newMowers newCows newRicks newWeathers newSays newWords newWeather newKind newThatch st pasts past aside seen seenWord seenHour keeps kept)) 5 D 0 0 (wM cI a text letters mowers cows ricks weathers says words weather kindOf thatch newMowers newCows newRicks newWeathers newSays newWords newWeather newKind newThatch st pasts past aside seen seenWord seenHour keeps kept) 17 [(0, .ref (a 0)), (1, .int x1), (2, .int x2), (3, .int q.1), (4, .int q.2)] []) (ihx64 : ∀ q, kx64 q = some o → hk_W p l e jr_M_which s m args below meth c A (hk_Zi below args s D A o (wM cI a text letters mowers cows ricks weathers says words weather kindOf thatch newMowers newCows newRicks newWeathers newSays newWords newWeather newKind newThatch st pasts past aside seen seenWord seenHour keeps kept)) 5 D 0 0 (wM cI a text letters mowers cows ricks weathers says words weather kindOf thatch newMowers newCows newRicks newWeathers newSays newWords newWeather newKind newThatch st pasts past aside seen seenWord seenHour keeps kept) 64 [(0, .ref (a 0)), (1, .int x1), (2, .int x2), (3, .int q)] []) (_ : jf_M_which_17B N mowers says words seen seenWord seenHour x1 x2 x3 x4 kh17 kx64 = some o), hk_W p l e jr_M_which s m args below meth c A (hk_Zi below args s D A o (wM cI a text letters mowers cows ricks weathers says words weather kindOf thatch newMowers newCows newRicks newWeathers newSays newWords newWeather newKind newThatch st pasts past aside seen seenWord seenHour keeps kept)) 5 D 0 0 (wM cI a text letters mowers cows ricks weathers says words weather kindOf thatch newMowers newCows newRicks newWeathers newSays newWords newWeather newKind newThatch st pasts past aside seen seenWord seenHour keeps kept) 17 [(0, .ref (a 0)), (1, .int x1), (2, .int x2), (3, .int x3), (4, .int x4)] [] := by
    intro mowers says words seen seenWord seenHour x1 x2 x3 x4 kh17 kx64 ihh17 ihx64 h
    delta jf_M_which_17B at h
    refine hk_iload hC jd_M_which_17 4 rfl ?_
    refine hk_aload_n hC jd_M_which_19 0 rfl ?_
    refine hk_get hC jk_M 0 rfl 24 (by decide) jq_722 rfl jd_M_which_20 ?_
    refine hk_icmp_ge (tgt := 64) hC jd_M_which_23 (by decide) (fun cc1 => ?_) (fun cc1 => ?_)
    · replace h := xi_t h cc1
      exact hk_lv [0, 1, 2, 3] rfl (ihx64 x3 h)
    · replace h := xi_f h cc1
      refine hk_iload_n hC jd_M_which_26 3 rfl ?_
      refine hk_if_eq (tgt := 56) hC jd_M_which_27 (by decide) (fun cc2 => ?_) (fun cc2 => ?_)
      · replace h := xi_t h cc2
        exact hk_lv [0, 1, 2, 4] rfl (B_56 mowers says words seen seenWord seenHour x1 x2 x4 kh17 kx64 ihh17 ihx64 h)
      · replace h := xi_f h cc2
        refine hk_aload_n hC jd_M_which_30 0 rfl ?_
        refine hk_iload_n hC jd_M_which_31 2 rfl ?_
        refine hk_aload_n hC jd_M_which_32 0 rfl ?_
        refine hk_get hC jk_M 0 rfl 26 (by decide) jq_724 rfl jd_M_which_33 ?_
        refine hk_iload hC jd_M_which_36 4 rfl ?_
        have hr1 := xr_in h
        replace h := xr_go h
        refine hk_iald hC 16 rfl hr1 jd_M_which_38 ?_
        obtain ⟨q1, h_q1, h⟩ := xb_go h
        refine hk_callVWi hC (q0 := 0) (jc_M_nextWord l D cI cF N a text letters mowers cows ricks weathers says words weather kindOf thatch newMowers newCows newRicks newWeathers newSays newWords newWeather newKind newThatch st pasts past aside seen seenWord seenHour keeps kept x2 (seenHour (Int32.toNatClampNeg x4)) h_q1) jl_M_nextWord rfl rfl jq_806 jq_808 jq0_22 rfl ⟨by decide, by decide⟩ rfl rfl (Nat.le_of_ble_eq_true rfl) ⟨Nat.zero_le _, Nat.zero_le _⟩ jd_M_which_39 ?_
        refine hk_aload_n hC jd_M_which_42 0 rfl ?_
        refine hk_get hC jk_M 0 rfl 25 (by decide) jq_723 rfl jd_M_which_43 ?_
        refine hk_iload hC jd_M_which_46 4 rfl ?_
        have hr2 := xr_in h
        replace h := xr_go h
        refine hk_iald hC 15 rfl hr2 jd_M_which_48 ?_
        refine hk_icmp_ne (tgt := 56) hC jd_M_which_49 (by decide) (fun cc3 => ?_) (fun cc3 => ?_)
        · replace h := xi_f h cc3
          exact hk_lv [0, 1, 2, 4] rfl (B_56 mowers says words seen seenWord seenHour x1 x2 x4 kh17 kx64 ihh17 ihx64 h)
        · replace h := xi_t h cc3
          refine hk_iconst (v := 1) hC jd_M_which_52 (by decide) ?_
          refine hk_goto (tgt := 57) hC jd_M_which_53 (by decide) ?_
          exact hk_lv [0, 1, 2, 4] rfl (B_57 mowers says words seen seenWord seenHour x1 x2 x4 (1 : Int32) kh17 kx64 ihh17 ihx64 h)
  have L_17 : ∀ (mowers : Int32) (says : Nat → Int32) (words : Nat → Int32) (seen : Int32) (seenWord : Nat → Int32) (seenHour : Nat → Int32) (x1 : Int32) (x2 : Int32) (x3 : Int32) (x4 : Int32) (kx64 : (Int32) → Option (Int32)) (ihx64 : ∀ q, kx64 q = some o → hk_W p l e jr_M_which s m args below meth c A (hk_Zi below args s D A o (wM cI a text letters mowers cows ricks weathers says words weather kindOf thatch newMowers newCows newRicks newWeathers newSays newWords newWeather newKind newThatch st pasts past aside seen seenWord seenHour keeps kept)) 5 D 0 0 (wM cI a text letters mowers cows ricks weathers says words weather kindOf thatch newMowers newCows newRicks newWeathers newSays newWords newWeather newKind newThatch st pasts past aside seen seenWord seenHour keeps kept) 64 [(0, .ref (a 0)), (1, .int x1), (2, .int x2), (3, .int q)] []) (_ : jf_M_which_17 N mowers says words seen seenWord seenHour x1 x2 x3 x4 kx64 = some o), hk_W p l e jr_M_which s m args below meth c A (hk_Zi below args s D A o (wM cI a text letters mowers cows ricks weathers says words weather kindOf thatch newMowers newCows newRicks newWeathers newSays newWords newWeather newKind newThatch st pasts past aside seen seenWord seenHour keeps kept)) 5 D 0 0 (wM cI a text letters mowers cows ricks weathers says words weather kindOf thatch newMowers newCows newRicks newWeathers newSays newWords newWeather newKind newThatch st pasts past aside seen seenWord seenHour keeps kept) 17 [(0, .ref (a 0)), (1, .int x1), (2, .int x2), (3, .int x3), (4, .int x4)] [] := by
    intro mowers says words seen seenWord seenHour x1 x2 x3 x4 kx64 ihx64 h
    exact xloopW (fun (q : Int32 × Int32) => hk_W p l e jr_M_which s m args below meth c A (hk_Zi below args s D A o (wM cI a text letters mowers cows ricks weathers says words weather kindOf thatch newMowers newCows newRicks newWeathers newSays newWords newWeather newKind newThatch st pasts past aside seen seenWord seenHour keeps kept)) 5 D 0 0 (wM cI a text letters mowers cows ricks weathers says words weather kindOf thatch newMowers newCows newRicks newWeathers newSays newWords newWeather newKind newThatch st pasts past aside seen seenWord seenHour keeps kept) 17 [(0, .ref (a 0)), (1, .int x1), (2, .int x2), (3, .int q.1), (4, .int q.2)] []) (fun kh ih q h => B_17 mowers says words seen seenWord seenHour x1 x2 q.1 q.2 kh kx64 ih ihx64 h) N (x3, x4) h
  have B_76 : ∀ (mowers : Int32) (says : Nat → Int32) (words : Nat → Int32) (seen : Int32) (seenWord : Nat → Int32) (seenHour : Nat → Int32) (x2 : Int32) (y0 : Int32) (y1 : Int32) (kh4 : (Int32 × Int32) → Option (Int32)) (ihh4 : ∀ q, kh4 q = some o → hk_W p l e jr_M_which s m args below meth c A (hk_Zi below args s D A o (wM cI a text letters mowers cows ricks weathers says words weather kindOf thatch newMowers newCows newRicks newWeathers newSays newWords newWeather newKind newThatch st pasts past aside seen seenWord seenHour keeps kept)) 5 D 0 0 (wM cI a text letters mowers cows ricks weathers says words weather kindOf thatch newMowers newCows newRicks newWeathers newSays newWords newWeather newKind newThatch st pasts past aside seen seenWord seenHour keeps kept) 4 [(0, .ref (a 0)), (1, .int q.1), (2, .int q.2)] []) (_ : jf_M_which_76 N mowers says words seen seenWord seenHour x2 y0 y1 kh4 = some o), hk_W p l e jr_M_which s m args below meth c A (hk_Zi below args s D A o (wM cI a text letters mowers cows ricks weathers says words weather kindOf thatch newMowers newCows newRicks newWeathers newSays newWords newWeather newKind newThatch st pasts past aside seen seenWord seenHour keeps kept)) 5 D 0 0 (wM cI a text letters mowers cows ricks weathers says words weather kindOf thatch newMowers newCows newRicks newWeathers newSays newWords newWeather newKind newThatch st pasts past aside seen seenWord seenHour keeps kept) 76 [(0, .ref (a 0)), (2, .int x2)] [.int y1, .int y0] := by
    intro mowers says words seen seenWord seenHour x2 y0 y1 kh4 ihh4 h
    delta jf_M_which_76 at h
    refine hk_ior hC jd_M_which_76 ?_
    obtain ⟨v1, e_v1, h⟩ := xl_go h
    refine hk_istore_n hC (i := 1) (y := v1) (lv2 := [(1, .int v1), (0, .ref (a 0)), (2, .int x2)]) jd_M_which_77 rfl e_v1 (by decide) rfl ?_
    obtain ⟨v2, e_v2, h⟩ := xl_go h
    refine hk_iinc hC (lv2 := [(2, .int v2), (1, .int v1), (0, .ref (a 0))]) jd_M_which_78 2 rfl e_v2 (by decide) rfl ?_
    refine hk_goto (tgt := 4) hC jd_M_which_81 (by decide) ?_
    exact hk_lv [2, 1, 0] rfl (ihh4 (v1, v2) h)
  have B_64 : ∀ (mowers : Int32) (says : Nat → Int32) (words : Nat → Int32) (seen : Int32) (seenWord : Nat → Int32) (seenHour : Nat → Int32) (x1 : Int32) (x2 : Int32) (x3 : Int32) (kh4 : (Int32 × Int32) → Option (Int32)) (ihh4 : ∀ q, kh4 q = some o → hk_W p l e jr_M_which s m args below meth c A (hk_Zi below args s D A o (wM cI a text letters mowers cows ricks weathers says words weather kindOf thatch newMowers newCows newRicks newWeathers newSays newWords newWeather newKind newThatch st pasts past aside seen seenWord seenHour keeps kept)) 5 D 0 0 (wM cI a text letters mowers cows ricks weathers says words weather kindOf thatch newMowers newCows newRicks newWeathers newSays newWords newWeather newKind newThatch st pasts past aside seen seenWord seenHour keeps kept) 4 [(0, .ref (a 0)), (1, .int q.1), (2, .int q.2)] []) (_ : jf_M_which_64 N mowers says words seen seenWord seenHour x1 x2 x3 kh4 = some o), hk_W p l e jr_M_which s m args below meth c A (hk_Zi below args s D A o (wM cI a text letters mowers cows ricks weathers says words weather kindOf thatch newMowers newCows newRicks newWeathers newSays newWords newWeather newKind newThatch st pasts past aside seen seenWord seenHour keeps kept)) 5 D 0 0 (wM cI a text letters mowers cows ricks weathers says words weather kindOf thatch newMowers newCows newRicks newWeathers newSays newWords newWeather newKind newThatch st pasts past aside seen seenWord seenHour keeps kept) 64 [(0, .ref (a 0)), (1, .int x1), (2, .int x2), (3, .int x3)] [] := by
    intro mowers says words seen seenWord seenHour x1 x2 x3 kh4 ihh4 h
    delta jf_M_which_64 at h
    refine hk_iload_n hC jd_M_which_64 1 rfl ?_
    refine hk_iload_n hC jd_M_which_65 3 rfl ?_
    refine hk_if_eq (tgt := 75) hC jd_M_which_66 (by decide) (fun cc1 => ?_) (fun cc1 => ?_)
    · replace h := xi_t h cc1
      refine hk_iconst (v := 0) hC jd_M_which_75 (by decide) ?_
      exact hk_lv [0, 2] rfl (B_76 mowers says words seen seenWord seenHour x2 x1 (0 : Int32) kh4 ihh4 h)
    · replace h := xi_f h cc1
      refine hk_iconst (v := 1) hC jd_M_which_69 (by decide) ?_
      refine hk_iload_n hC jd_M_which_70 2 rfl ?_
      refine hk_ishl hC jd_M_which_71 ?_
      refine hk_goto (tgt := 76) hC jd_M_which_72 (by decide) ?_
      exact hk_lv [0, 2] rfl (B_76 mowers says words seen seenWord seenHour x2 x1 ((1 : Int32) <<< (x2 &&& 31)) kh4 ihh4 h)
  have B_4 : ∀ (mowers : Int32) (says : Nat → Int32) (words : Nat → Int32) (seen : Int32) (seenWord : Nat → Int32) (seenHour : Nat → Int32) (x1 : Int32) (x2 : Int32) (kh4 : (Int32 × Int32) → Option (Int32)) (ihh4 : ∀ q, kh4 q = some o → hk_W p l e jr_M_which s m args below meth c A (hk_Zi below args s D A o (wM cI a text letters mowers cows ricks weathers says words weather kindOf thatch newMowers newCows newRicks newWeathers newSays newWords newWeather newKind newThatch st pasts past aside seen seenWord seenHour keeps kept)) 5 D 0 0 (wM cI a text letters mowers cows ricks weathers says words weather kindOf thatch newMowers newCows newRicks newWeathers newSays newWords newWeather newKind newThatch st pasts past aside seen seenWord seenHour keeps kept) 4 [(0, .ref (a 0)), (1, .int q.1), (2, .int q.2)] []) (_ : jf_M_which_4B N mowers says words seen seenWord seenHour x1 x2 kh4 = some o), hk_W p l e jr_M_which s m args below meth c A (hk_Zi below args s D A o (wM cI a text letters mowers cows ricks weathers says words weather kindOf thatch newMowers newCows newRicks newWeathers newSays newWords newWeather newKind newThatch st pasts past aside seen seenWord seenHour keeps kept)) 5 D 0 0 (wM cI a text letters mowers cows ricks weathers says words weather kindOf thatch newMowers newCows newRicks newWeathers newSays newWords newWeather newKind newThatch st pasts past aside seen seenWord seenHour keeps kept) 4 [(0, .ref (a 0)), (1, .int x1), (2, .int x2)] [] := by
    intro mowers says words seen seenWord seenHour x1 x2 kh4 ihh4 h
    delta jf_M_which_4B at h
    refine hk_iload_n hC jd_M_which_4 2 rfl ?_
    refine hk_aload_n hC jd_M_which_5 0 rfl ?_
    refine hk_get hC jk_M 0 rfl 2 (by decide) jq_700 rfl jd_M_which_6 ?_
    refine hk_icmp_ge (tgt := 84) hC jd_M_which_9 (by decide) (fun cc1 => ?_) (fun cc1 => ?_)
    · replace h := xi_t h cc1
      refine hk_iload_n hC jd_M_which_84 1 rfl ?_
      obtain rfl := Option.some.inj h
      exact hk_iret hC hr jd_M_which_85 rfl rfl
    · replace h := xi_f h cc1
      refine hk_iconst (v := 1) hC jd_M_which_12 (by decide) ?_
      refine hk_istore_n hC (i := 3) (y := (1 : Int32)) (lv2 := [(3, .int (1 : Int32)), (0, .ref (a 0)), (1, .int x1), (2, .int x2)]) jd_M_which_13 rfl rfl (by decide) rfl ?_
      refine hk_iconst (v := 0) hC jd_M_which_14 (by decide) ?_
      refine hk_istore hC (i := 4) (y := (0 : Int32)) (lv2 := [(4, .int (0 : Int32)), (3, .int (1 : Int32)), (0, .ref (a 0)), (1, .int x1), (2, .int x2)]) jd_M_which_15 rfl (by decide) rfl ?_
      exact hk_lv [2, 3, 4, 1, 0] rfl (L_17 mowers says words seen seenWord seenHour x1 x2 (1 : Int32) (0 : Int32) _ (fun q1 h => by exact (B_64 mowers says words seen seenWord seenHour x1 x2 q1 kh4 ihh4 h)) h)
  have L_4 : ∀ (mowers : Int32) (says : Nat → Int32) (words : Nat → Int32) (seen : Int32) (seenWord : Nat → Int32) (seenHour : Nat → Int32) (x1 : Int32) (x2 : Int32)   (_ : jf_M_which_4 N mowers says words seen seenWord seenHour x1 x2  = some o), hk_W p l e jr_M_which s m args below meth c A (hk_Zi below args s D A o (wM cI a text letters mowers cows ricks weathers says words weather kindOf thatch newMowers newCows newRicks newWeathers newSays newWords newWeather newKind newThatch st pasts past aside seen seenWord seenHour keeps kept)) 5 D 0 0 (wM cI a text letters mowers cows ricks weathers says words weather kindOf thatch newMowers newCows newRicks newWeathers newSays newWords newWeather newKind newThatch st pasts past aside seen seenWord seenHour keeps kept) 4 [(0, .ref (a 0)), (1, .int x1), (2, .int x2)] [] := by
    intro mowers says words seen seenWord seenHour x1 x2   h
    exact xloopW (fun (q : Int32 × Int32) => hk_W p l e jr_M_which s m args below meth c A (hk_Zi below args s D A o (wM cI a text letters mowers cows ricks weathers says words weather kindOf thatch newMowers newCows newRicks newWeathers newSays newWords newWeather newKind newThatch st pasts past aside seen seenWord seenHour keeps kept)) 5 D 0 0 (wM cI a text letters mowers cows ricks weathers says words weather kindOf thatch newMowers newCows newRicks newWeathers newSays newWords newWeather newKind newThatch st pasts past aside seen seenWord seenHour keeps kept) 4 [(0, .ref (a 0)), (1, .int q.1), (2, .int q.2)] []) (fun kh ih q h => B_4 mowers says words seen seenWord seenHour q.1 q.2 kh  ih  h) N (x1, x2) h
  delta jf_M_which at h
  refine hk_iconst (v := 0) hC jd_M_which_0 (by decide) ?_
  refine hk_istore_n hC (i := 1) (y := (0 : Int32)) (lv2 := [(1, .int (0 : Int32)), (0, .ref (a 0))]) jd_M_which_1 rfl rfl (by decide) rfl ?_
  refine hk_iconst (v := 0) hC jd_M_which_2 (by decide) ?_
  refine hk_istore_n hC (i := 2) (y := (0 : Int32)) (lv2 := [(2, .int (0 : Int32)), (1, .int (0 : Int32)), (0, .ref (a 0))]) jd_M_which_3 rfl rfl (by decide) rfl ?_
  exact hk_lv [2, 1, 0] rfl (L_4 mowers says words seen seenWord seenHour (0 : Int32) (0 : Int32)   h)
theorem jc_M_which (l : Launch) (D : va_G) (cI cF : ClassId) (N : Nat) (a : Nat → Nat)  (text : Nat → Int32) (letters : Int32) (mowers : Int32) (cows : Int32) (ricks : Int32) (weathers : Int32) (says : Nat → Int32) (words : Nat → Int32) (weather : Nat → Int32) (kindOf : Nat → Int32) (thatch : Nat → Int32) (newMowers : Int32) (newCows : Int32) (newRicks : Int32) (newWeathers : Int32) (newSays : Nat → Int32) (newWords : Nat → Int32) (newWeather : Nat → Int32) (newKind : Nat → Int32) (newThatch : Nat → Int32) (st : Nat → Int32) (pasts : Int32) (past : Nat → Int32) (aside : Nat → Int32) (seen : Int32) (seenWord : Nat → Int32) (seenHour : Nat → Int32) (keeps : Int32) (kept : Nat → Int32)  {o : Int32} (h : jf_M_which N mowers says words seen seenWord seenHour = some o) : hk_Mi l jy_M_which jb_M_which 5 (some .int) jr_M_which D cI cF (wM cI a text letters mowers cows ricks weathers says words weather kindOf thatch newMowers newCows newRicks newWeathers newSays newWords newWeather newKind newThatch st pasts past aside seen seenWord seenHour keeps kept) [.ref (a 0)] o (wM cI a text letters mowers cows ricks weathers says words weather kindOf thatch newMowers newCows newRicks newWeathers newSays newWords newWeather newKind newThatch st pasts past aside seen seenWord seenHour keeps kept) :=
  hk_metI (by decide) (Nat.le_of_ble_eq_true rfl) rfl rfl (fun p e s m args below meth c A hC hr => jw_M_which hC hr N a text letters mowers cows ricks weathers says words weather kindOf thatch newMowers newCows newRicks newWeathers newSays newWords newWeather newKind newThatch st pasts past aside seen seenWord seenHour keeps kept h)
set_option maxHeartbeats 8000000 in
set_option maxRecDepth 100000 in
theorem jw_M_kinds {p : Program} {l : Launch} {e : Env} {s : State} {m : MethodId} {args : Array Value} {below : List Frame} {meth : Method} {c : Code} {A : Nat → Prop} {D : va_G} {cI cF : ClassId} (hC : hk_ok p s m args meth c A 5 D cI cF "HayTalkModel" jb_M_kinds) (hr : meth.sig.returnType = (some .int)) (N : Nat) (a : Nat → Nat)  (text : Nat → Int32) (letters : Int32) (mowers : Int32) (cows : Int32) (ricks : Int32) (weathers : Int32) (says : Nat → Int32) (words : Nat → Int32) (weather : Nat → Int32) (kindOf : Nat → Int32) (thatch : Nat → Int32) (newMowers : Int32) (newCows : Int32) (newRicks : Int32) (newWeathers : Int32) (newSays : Nat → Int32) (newWords : Nat → Int32) (newWeather : Nat → Int32) (newKind : Nat → Int32) (newThatch : Nat → Int32) (st : Nat → Int32) (pasts : Int32) (past : Nat → Int32) (aside : Nat → Int32) (seen : Int32) (seenWord : Nat → Int32) (seenHour : Nat → Int32) (keeps : Int32) (kept : Nat → Int32) (x1 : Int32) (x2 : Int32) {o : Int32} (h : jf_M_kinds N x1 x2 = some o) : hk_W p l e jr_M_kinds s m args below meth c A (hk_Zi below args s D A o (wM cI a text letters mowers cows ricks weathers says words weather kindOf thatch newMowers newCows newRicks newWeathers newSays newWords newWeather newKind newThatch st pasts past aside seen seenWord seenHour keeps kept)) 5 D 0 0 (wM cI a text letters mowers cows ricks weathers says words weather kindOf thatch newMowers newCows newRicks newWeathers newSays newWords newWeather newKind newThatch st pasts past aside seen seenWord seenHour keeps kept) 0 [(0, .ref (a 0)), (1, .int x1), (2, .int x2)] [] := by
  have B_57 : ∀ (x1 : Int32) (x2 : Int32) (x4 : Int32) (y0 : Int32) (y1 : Int32) (kh31 : (Int32 × Int32) → Option (Int32)) (ihh31 : ∀ q, kh31 q = some o → hk_W p l e jr_M_kinds s m args below meth c A (hk_Zi below args s D A o (wM cI a text letters mowers cows ricks weathers says words weather kindOf thatch newMowers newCows newRicks newWeathers newSays newWords newWeather newKind newThatch st pasts past aside seen seenWord seenHour keeps kept)) 5 D 0 0 (wM cI a text letters mowers cows ricks weathers says words weather kindOf thatch newMowers newCows newRicks newWeathers newSays newWords newWeather newKind newThatch st pasts past aside seen seenWord seenHour keeps kept) 31 [(1, .int x1), (2, .int x2), (3, .int q.1), (4, .int q.2)] []) (_ : jf_M_kinds_57 N x1 x2 x4 y0 y1 kh31 = some o), hk_W p l e jr_M_kinds s m args below meth c A (hk_Zi below args s D A o (wM cI a text letters mowers cows ricks weathers says words weather kindOf thatch newMowers newCows newRicks newWeathers newSays newWords newWeather newKind newThatch st pasts past aside seen seenWord seenHour keeps kept)) 5 D 0 0 (wM cI a text letters mowers cows ricks weathers says words weather kindOf thatch newMowers newCows newRicks newWeathers newSays newWords newWeather newKind newThatch st pasts past aside seen seenWord seenHour keeps kept) 57 [(1, .int x1), (2, .int x2), (4, .int x4)] [.int y1, .int y0] := by
    intro x1 x2 x4 y0 y1 kh31 ihh31 h
    delta jf_M_kinds_57 at h
    refine hk_ior hC jd_M_kinds_57 ?_
    obtain ⟨v1, e_v1, h⟩ := xl_go h
    refine hk_istore_n hC (i := 3) (y := v1) (lv2 := [(3, .int v1), (1, .int x1), (2, .int x2), (4, .int x4)]) jd_M_kinds_58 rfl e_v1 (by decide) rfl ?_
    obtain ⟨v2, e_v2, h⟩ := xl_go h
    refine hk_iinc hC (lv2 := [(4, .int v2), (3, .int v1), (1, .int x1), (2, .int x2)]) jd_M_kinds_59 3 rfl e_v2 (by decide) rfl ?_
    refine hk_goto (tgt := 31) hC jd_M_kinds_62 (by decide) ?_
    exact hk_lv [2, 3, 1, 0] rfl (ihh31 (v1, v2) h)
  have B_31 : ∀ (x1 : Int32) (x2 : Int32) (x3 : Int32) (x4 : Int32) (kh31 : (Int32 × Int32) → Option (Int32)) (ihh31 : ∀ q, kh31 q = some o → hk_W p l e jr_M_kinds s m args below meth c A (hk_Zi below args s D A o (wM cI a text letters mowers cows ricks weathers says words weather kindOf thatch newMowers newCows newRicks newWeathers newSays newWords newWeather newKind newThatch st pasts past aside seen seenWord seenHour keeps kept)) 5 D 0 0 (wM cI a text letters mowers cows ricks weathers says words weather kindOf thatch newMowers newCows newRicks newWeathers newSays newWords newWeather newKind newThatch st pasts past aside seen seenWord seenHour keeps kept) 31 [(1, .int x1), (2, .int x2), (3, .int q.1), (4, .int q.2)] []) (_ : jf_M_kinds_31B N x1 x2 x3 x4 kh31 = some o), hk_W p l e jr_M_kinds s m args below meth c A (hk_Zi below args s D A o (wM cI a text letters mowers cows ricks weathers says words weather kindOf thatch newMowers newCows newRicks newWeathers newSays newWords newWeather newKind newThatch st pasts past aside seen seenWord seenHour keeps kept)) 5 D 0 0 (wM cI a text letters mowers cows ricks weathers says words weather kindOf thatch newMowers newCows newRicks newWeathers newSays newWords newWeather newKind newThatch st pasts past aside seen seenWord seenHour keeps kept) 31 [(1, .int x1), (2, .int x2), (3, .int x3), (4, .int x4)] [] := by
    intro x1 x2 x3 x4 kh31 ihh31 h
    delta jf_M_kinds_31B at h
    refine hk_iload hC jd_M_kinds_31 3 rfl ?_
    refine hk_iconst (v := 3) hC jd_M_kinds_33 (by decide) ?_
    refine hk_icmp_gt (tgt := 65) hC jd_M_kinds_34 (by decide) (fun cc1 => ?_) (fun cc1 => ?_)
    · replace h := xi_t h cc1
      refine hk_iload_n hC jd_M_kinds_65 2 rfl ?_
      obtain rfl := Option.some.inj h
      exact hk_iret hC hr jd_M_kinds_66 rfl rfl
    · replace h := xi_f h cc1
      refine hk_iload_n hC jd_M_kinds_37 2 rfl ?_
      refine hk_iload hC jd_M_kinds_38 3 rfl ?_
      refine hk_iload_n hC jd_M_kinds_40 0 rfl ?_
      refine hk_iconst (v := 0) hC jd_M_kinds_41 (by decide) ?_
      obtain ⟨q1, h_q1, h⟩ := xb_go h
      refine hk_callS0i hC (jc_M_hears l D cI cF N x4 x1 (0 : Int32) h_q1) jl_M_hears jq_887 jq_888 rfl ⟨by decide, by decide⟩ rfl (Nat.le_of_ble_eq_true rfl) ⟨Nat.zero_le _, Nat.zero_le _⟩ jd_M_kinds_42 ?_
      refine hk_iload_n hC jd_M_kinds_45 1 rfl ?_
      refine hk_icmp_ne (tgt := 56) hC jd_M_kinds_46 (by decide) (fun cc2 => ?_) (fun cc2 => ?_)
      · replace h := xi_f h cc2
        refine hk_iconst (v := 0) hC jd_M_kinds_56 (by decide) ?_
        exact hk_lv [0, 1, 3] rfl (B_57 x1 x2 x4 x3 (0 : Int32) kh31 ihh31 h)
      · replace h := xi_t h cc2
        refine hk_iconst (v := 1) hC jd_M_kinds_49 (by decide) ?_
        refine hk_iload hC jd_M_kinds_50 3 rfl ?_
        refine hk_ishl hC jd_M_kinds_52 ?_
        refine hk_goto (tgt := 57) hC jd_M_kinds_53 (by decide) ?_
        exact hk_lv [0, 1, 3] rfl (B_57 x1 x2 x4 x3 ((1 : Int32) <<< (x4 &&& 31)) kh31 ihh31 h)
  have L_31 : ∀ (x1 : Int32) (x2 : Int32) (x3 : Int32) (x4 : Int32)   (_ : jf_M_kinds_31 N x1 x2 x3 x4  = some o), hk_W p l e jr_M_kinds s m args below meth c A (hk_Zi below args s D A o (wM cI a text letters mowers cows ricks weathers says words weather kindOf thatch newMowers newCows newRicks newWeathers newSays newWords newWeather newKind newThatch st pasts past aside seen seenWord seenHour keeps kept)) 5 D 0 0 (wM cI a text letters mowers cows ricks weathers says words weather kindOf thatch newMowers newCows newRicks newWeathers newSays newWords newWeather newKind newThatch st pasts past aside seen seenWord seenHour keeps kept) 31 [(1, .int x1), (2, .int x2), (3, .int x3), (4, .int x4)] [] := by
    intro x1 x2 x3 x4   h
    exact xloopW (fun (q : Int32 × Int32) => hk_W p l e jr_M_kinds s m args below meth c A (hk_Zi below args s D A o (wM cI a text letters mowers cows ricks weathers says words weather kindOf thatch newMowers newCows newRicks newWeathers newSays newWords newWeather newKind newThatch st pasts past aside seen seenWord seenHour keeps kept)) 5 D 0 0 (wM cI a text letters mowers cows ricks weathers says words weather kindOf thatch newMowers newCows newRicks newWeathers newSays newWords newWeather newKind newThatch st pasts past aside seen seenWord seenHour keeps kept) 31 [(1, .int x1), (2, .int x2), (3, .int q.1), (4, .int q.2)] []) (fun kh ih q h => B_31 x1 x2 q.1 q.2 kh  ih  h) N (x3, x4) h
  delta jf_M_kinds at h
  refine hk_iload_n hC jd_M_kinds_0 1 rfl ?_
  refine hk_i2l hC jd_M_kinds_1 ?_
  refine hk_lconst (v := 0) hC jd_M_kinds_2 (by decide) ?_
  refine hk_ldc2 hC jd_M_kinds_3 jq_911 ?_
  obtain ⟨q1, h_q1, h⟩ := xb_go h
  refine hk_callS0i hC (jc_M_in l D cI cF N (Int32.toInt64 x1) (0 : Int64) (1023 : Int64) h_q1) jl_M_in jq_673 jq_674 rfl ⟨by decide, by decide⟩ rfl (Nat.le_of_ble_eq_true rfl) ⟨Nat.zero_le _, Nat.zero_le _⟩ jd_M_kinds_6 ?_
  refine hk_if_eq (tgt := 24) hC jd_M_kinds_9 (by decide) (fun cc1 => ?_) (fun cc1 => ?_)
  · replace h := xi_t h cc1
    refine hk_iconst (v := -1) hC jd_M_kinds_24 (by decide) ?_
    obtain rfl := Option.some.inj h
    exact hk_iret hC hr jd_M_kinds_25 rfl rfl
  · replace h := xi_f h cc1
    refine hk_iload_n hC jd_M_kinds_12 2 rfl ?_
    refine hk_i2l hC jd_M_kinds_13 ?_
    refine hk_lconst (v := 0) hC jd_M_kinds_14 (by decide) ?_
    refine hk_ldc2 hC jd_M_kinds_15 jq_911 ?_
    obtain ⟨q2, h_q2, h⟩ := xb_go h
    refine hk_callS0i hC (jc_M_in l D cI cF N (Int32.toInt64 x2) (0 : Int64) (1023 : Int64) h_q2) jl_M_in jq_673 jq_674 rfl ⟨by decide, by decide⟩ rfl (Nat.le_of_ble_eq_true rfl) ⟨Nat.zero_le _, Nat.zero_le _⟩ jd_M_kinds_18 ?_
    refine hk_if_ne (tgt := 26) hC jd_M_kinds_21 (by decide) (fun cc2 => ?_) (fun cc2 => ?_)
    · replace h := xi_f h cc2
      refine hk_iconst (v := 0) hC jd_M_kinds_26 (by decide) ?_
      refine hk_istore_n hC (i := 3) (y := (0 : Int32)) (lv2 := [(3, .int (0 : Int32)), (0, .ref (a 0)), (1, .int x1), (2, .int x2)]) jd_M_kinds_27 rfl rfl (by decide) rfl ?_
      refine hk_iconst (v := 0) hC jd_M_kinds_28 (by decide) ?_
      refine hk_istore hC (i := 4) (y := (0 : Int32)) (lv2 := [(4, .int (0 : Int32)), (3, .int (0 : Int32)), (0, .ref (a 0)), (1, .int x1), (2, .int x2)]) jd_M_kinds_29 rfl (by decide) rfl ?_
      exact hk_lv [3, 4, 1, 0] rfl (L_31 x1 x2 (0 : Int32) (0 : Int32)   h)
    · replace h := xi_t h cc2
      refine hk_iconst (v := -1) hC jd_M_kinds_24 (by decide) ?_
      obtain rfl := Option.some.inj h
      exact hk_iret hC hr jd_M_kinds_25 rfl rfl
theorem jc_M_kinds (l : Launch) (D : va_G) (cI cF : ClassId) (N : Nat) (a : Nat → Nat)  (text : Nat → Int32) (letters : Int32) (mowers : Int32) (cows : Int32) (ricks : Int32) (weathers : Int32) (says : Nat → Int32) (words : Nat → Int32) (weather : Nat → Int32) (kindOf : Nat → Int32) (thatch : Nat → Int32) (newMowers : Int32) (newCows : Int32) (newRicks : Int32) (newWeathers : Int32) (newSays : Nat → Int32) (newWords : Nat → Int32) (newWeather : Nat → Int32) (newKind : Nat → Int32) (newThatch : Nat → Int32) (st : Nat → Int32) (pasts : Int32) (past : Nat → Int32) (aside : Nat → Int32) (seen : Int32) (seenWord : Nat → Int32) (seenHour : Nat → Int32) (keeps : Int32) (kept : Nat → Int32) (x1 : Int32) (x2 : Int32) {o : Int32} (h : jf_M_kinds N x1 x2 = some o) : hk_Mi l jy_M_kinds jb_M_kinds 5 (some .int) jr_M_kinds D cI cF (wM cI a text letters mowers cows ricks weathers says words weather kindOf thatch newMowers newCows newRicks newWeathers newSays newWords newWeather newKind newThatch st pasts past aside seen seenWord seenHour keeps kept) [.ref (a 0), .int x1, .int x2] o (wM cI a text letters mowers cows ricks weathers says words weather kindOf thatch newMowers newCows newRicks newWeathers newSays newWords newWeather newKind newThatch st pasts past aside seen seenWord seenHour keeps kept) :=
  hk_metI (by decide) (Nat.le_of_ble_eq_true rfl) rfl rfl (fun p e s m args below meth c A hC hr => jw_M_kinds hC hr N a text letters mowers cows ricks weathers says words weather kindOf thatch newMowers newCows newRicks newWeathers newSays newWords newWeather newKind newThatch st pasts past aside seen seenWord seenHour keeps kept x1 x2 h)
set_option maxHeartbeats 8000000 in
set_option maxRecDepth 100000 in
theorem jw_M_rain {p : Program} {l : Launch} {e : Env} {s : State} {m : MethodId} {args : Array Value} {below : List Frame} {meth : Method} {c : Code} {A : Nat → Prop} {D : va_G} {cI cF : ClassId} (hC : hk_ok p s m args meth c A 12 D cI cF "HayTalkModel" jb_M_rain) (hr : meth.sig.returnType = (some .int)) (N : Nat) (a : Nat → Nat)  (text : Nat → Int32) (letters : Int32) (mowers : Int32) (cows : Int32) (ricks : Int32) (weathers : Int32) (says : Nat → Int32) (words : Nat → Int32) (weather : Nat → Int32) (kindOf : Nat → Int32) (thatch : Nat → Int32) (newMowers : Int32) (newCows : Int32) (newRicks : Int32) (newWeathers : Int32) (newSays : Nat → Int32) (newWords : Nat → Int32) (newWeather : Nat → Int32) (newKind : Nat → Int32) (newThatch : Nat → Int32) (st : Nat → Int32) (pasts : Int32) (past : Nat → Int32) (aside : Nat → Int32) (seen : Int32) (seenWord : Nat → Int32) (seenHour : Nat → Int32) (keeps : Int32) (kept : Nat → Int32) (x1 : Int32) (x2 : Int32) (x3 : Int32) (x4 : Int32) (x5 : Int32) {o : Int32} (h : jf_M_rain N mowers weathers weather st x1 x2 x3 x4 x5 = some o) : hk_W p l e jr_M_rain s m args below meth c A (hk_Zi below args s D A o (wM cI a text letters mowers cows ricks weathers says words weather kindOf thatch newMowers newCows newRicks newWeathers newSays newWords newWeather newKind newThatch st pasts past aside seen seenWord seenHour keeps kept)) 12 D 0 0 (wM cI a text letters mowers cows ricks weathers says words weather kindOf thatch newMowers newCows newRicks newWeathers newSays newWords newWeather newKind newThatch st pasts past aside seen seenWord seenHour keeps kept) 0 [(0, .ref (a 0)), (1, .int x1), (2, .int x2), (3, .int x3), (4, .int x4), (5, .int x5)] [] := by
  have B_67 : ∀ (mowers : Int32) (weathers : Int32) (weather : Nat → Int32) (st : Nat → Int32) (x1 : Int32) (x2 : Int32) (x3 : Int32) (x4 : Int32) (x5 : Int32) (x6 : Int32) (x7 : Int32) (x8 : Int32) (kh67 : (Int32 × Int32) → Option (Int32)) (kx86 : (Int32) → Option (Int32)) (ihh67 : ∀ q, kh67 q = some o → hk_W p l e jr_M_rain s m args below meth c A (hk_Zi below args s D A o (wM cI a text letters mowers cows ricks weathers says words weather kindOf thatch newMowers newCows newRicks newWeathers newSays newWords newWeather newKind newThatch st pasts past aside seen seenWord seenHour keeps kept)) 12 D 0 0 (wM cI a text letters mowers cows ricks weathers says words weather kindOf thatch newMowers newCows newRicks newWeathers newSays newWords newWeather newKind newThatch st pasts past aside seen seenWord seenHour keeps kept) 67 [(0, .ref (a 0)), (1, .int x1), (2, .int x2), (3, .int x3), (4, .int x4), (5, .int x5), (6, .int x6), (7, .int q.1), (8, .int q.2)] []) (ihx86 : ∀ q, kx86 q = some o → hk_W p l e jr_M_rain s m args below meth c A (hk_Zi below args s D A o (wM cI a text letters mowers cows ricks weathers says words weather kindOf thatch newMowers newCows newRicks newWeathers newSays newWords newWeather newKind newThatch st pasts past aside seen seenWord seenHour keeps kept)) 12 D 0 0 (wM cI a text letters mowers cows ricks weathers says words weather kindOf thatch newMowers newCows newRicks newWeathers newSays newWords newWeather newKind newThatch st pasts past aside seen seenWord seenHour keeps kept) 86 [(0, .ref (a 0)), (1, .int x1), (2, .int x2), (3, .int x3), (4, .int x4), (5, .int x5), (6, .int x6), (7, .int q)] []) (_ : jf_M_rain_67B N mowers weathers weather st x1 x2 x3 x4 x5 x6 x7 x8 kh67 kx86 = some o), hk_W p l e jr_M_rain s m args below meth c A (hk_Zi below args s D A o (wM cI a text letters mowers cows ricks weathers says words weather kindOf thatch newMowers newCows newRicks newWeathers newSays newWords newWeather newKind newThatch st pasts past aside seen seenWord seenHour keeps kept)) 12 D 0 0 (wM cI a text letters mowers cows ricks weathers says words weather kindOf thatch newMowers newCows newRicks newWeathers newSays newWords newWeather newKind newThatch st pasts past aside seen seenWord seenHour keeps kept) 67 [(0, .ref (a 0)), (1, .int x1), (2, .int x2), (3, .int x3), (4, .int x4), (5, .int x5), (6, .int x6), (7, .int x7), (8, .int x8)] [] := by
    intro mowers weathers weather st x1 x2 x3 x4 x5 x6 x7 x8 kh67 kx86 ihh67 ihx86 h
    delta jf_M_rain_67B at h
    refine hk_iload hC jd_M_rain_67 8 rfl ?_
    refine hk_iload_n hC jd_M_rain_69 2 rfl ?_
    refine hk_icmp_ge (tgt := 86) hC jd_M_rain_70 (by decide) (fun cc1 => ?_) (fun cc1 => ?_)
    · replace h := xi_t h cc1
      exact hk_lv [0, 1, 2, 3, 4, 5, 6, 7] rfl (ihx86 x7 h)
    · replace h := xi_f h cc1
      refine hk_iload hC jd_M_rain_73 7 rfl ?_
      refine hk_bipush (v := 10) hC jd_M_rain_75 (by decide) ?_
      refine hk_imul hC jd_M_rain_77 ?_
      obtain ⟨v1, e_v1, h⟩ := xl_go h
      refine hk_istore hC (i := 7) (y := v1) (lv2 := [(7, .int v1), (0, .ref (a 0)), (1, .int x1), (2, .int x2), (3, .int x3), (4, .int x4), (5, .int x5), (6, .int x6), (8, .int x8)]) jd_M_rain_78 e_v1 (by decide) rfl ?_
      obtain ⟨v2, e_v2, h⟩ := xl_go h
      refine hk_iinc hC (lv2 := [(8, .int v2), (7, .int v1), (0, .ref (a 0)), (1, .int x1), (2, .int x2), (3, .int x3), (4, .int x4), (5, .int x5), (6, .int x6)]) jd_M_rain_80 8 rfl e_v2 (by decide) rfl ?_
      refine hk_goto (tgt := 67) hC jd_M_rain_83 (by decide) ?_
      exact hk_lv [2, 3, 4, 5, 6, 7, 8, 1, 0] rfl (ihh67 (v1, v2) h)
  have L_67 : ∀ (mowers : Int32) (weathers : Int32) (weather : Nat → Int32) (st : Nat → Int32) (x1 : Int32) (x2 : Int32) (x3 : Int32) (x4 : Int32) (x5 : Int32) (x6 : Int32) (x7 : Int32) (x8 : Int32) (kx86 : (Int32) → Option (Int32)) (ihx86 : ∀ q, kx86 q = some o → hk_W p l e jr_M_rain s m args below meth c A (hk_Zi below args s D A o (wM cI a text letters mowers cows ricks weathers says words weather kindOf thatch newMowers newCows newRicks newWeathers newSays newWords newWeather newKind newThatch st pasts past aside seen seenWord seenHour keeps kept)) 12 D 0 0 (wM cI a text letters mowers cows ricks weathers says words weather kindOf thatch newMowers newCows newRicks newWeathers newSays newWords newWeather newKind newThatch st pasts past aside seen seenWord seenHour keeps kept) 86 [(0, .ref (a 0)), (1, .int x1), (2, .int x2), (3, .int x3), (4, .int x4), (5, .int x5), (6, .int x6), (7, .int q)] []) (_ : jf_M_rain_67 N mowers weathers weather st x1 x2 x3 x4 x5 x6 x7 x8 kx86 = some o), hk_W p l e jr_M_rain s m args below meth c A (hk_Zi below args s D A o (wM cI a text letters mowers cows ricks weathers says words weather kindOf thatch newMowers newCows newRicks newWeathers newSays newWords newWeather newKind newThatch st pasts past aside seen seenWord seenHour keeps kept)) 12 D 0 0 (wM cI a text letters mowers cows ricks weathers says words weather kindOf thatch newMowers newCows newRicks newWeathers newSays newWords newWeather newKind newThatch st pasts past aside seen seenWord seenHour keeps kept) 67 [(0, .ref (a 0)), (1, .int x1), (2, .int x2), (3, .int x3), (4, .int x4), (5, .int x5), (6, .int x6), (7, .int x7), (8, .int x8)] [] := by
    intro mowers weathers weather st x1 x2 x3 x4 x5 x6 x7 x8 kx86 ihx86 h
    exact xloopW (fun (q : Int32 × Int32) => hk_W p l e jr_M_rain s m args below meth c A (hk_Zi below args s D A o (wM cI a text letters mowers cows ricks weathers says words weather kindOf thatch newMowers newCows newRicks newWeathers newSays newWords newWeather newKind newThatch st pasts past aside seen seenWord seenHour keeps kept)) 12 D 0 0 (wM cI a text letters mowers cows ricks weathers says words weather kindOf thatch newMowers newCows newRicks newWeathers newSays newWords newWeather newKind newThatch st pasts past aside seen seenWord seenHour keeps kept) 67 [(0, .ref (a 0)), (1, .int x1), (2, .int x2), (3, .int x3), (4, .int x4), (5, .int x5), (6, .int x6), (7, .int q.1), (8, .int q.2)] []) (fun kh ih q h => B_67 mowers weathers weather st x1 x2 x3 x4 x5 x6 q.1 q.2 kh kx86 ih ihx86 h) N (x7, x8) h
  have B_174 : ∀ (mowers : Int32) (weathers : Int32) (weather : Nat → Int32) (st : Nat → Int32) (x1 : Int32) (x2 : Int32) (x3 : Int32) (x4 : Int32) (x5 : Int32) (x6 : Int32) (x7 : Int32) (x8 : Int32) (x9 : Int32) (x11 : Int32) (y1 : Int32) (y2 : Int32) (y3 : Int32) (kh114 : (Int32 × Int32 × Int32) → Option (Int32)) (kx186 : (Int32 × Int32) → Option (Int32)) (ihh114 : ∀ q, kh114 q = some o → hk_W p l e jr_M_rain s m args below meth c A (hk_Zi below args s D A o (wM cI a text letters mowers cows ricks weathers says words weather kindOf thatch newMowers newCows newRicks newWeathers newSays newWords newWeather newKind newThatch st pasts past aside seen seenWord seenHour keeps kept)) 12 D 0 0 (wM cI a text letters mowers cows ricks weathers says words weather kindOf thatch newMowers newCows newRicks newWeathers newSays newWords newWeather newKind newThatch st pasts past aside seen seenWord seenHour keeps kept) 114 [(0, .ref (a 0)), (1, .int x1), (2, .int x2), (3, .int x3), (4, .int x4), (5, .int x5), (6, .int x6), (7, .int x7), (8, .int x8), (9, .int q.1), (10, .int q.2.1), (11, .int q.2.2)] []) (ihx186 : ∀ q, kx186 q = some o → hk_W p l e jr_M_rain s m args below meth c A (hk_Zi below args s D A o (wM cI a text letters mowers cows ricks weathers says words weather kindOf thatch newMowers newCows newRicks newWeathers newSays newWords newWeather newKind newThatch st pasts past aside seen seenWord seenHour keeps kept)) 12 D 0 0 (wM cI a text letters mowers cows ricks weathers says words weather kindOf thatch newMowers newCows newRicks newWeathers newSays newWords newWeather newKind newThatch st pasts past aside seen seenWord seenHour keeps kept) 186 [(0, .ref (a 0)), (1, .int x1), (2, .int x2), (3, .int x3), (4, .int x4), (5, .int x5), (6, .int x6), (7, .int x7), (8, .int x8), (9, .int q.1), (10, .int q.2)] []) (_ : jf_M_rain_174 N mowers weathers weather st x1 x2 x3 x4 x5 x6 x7 x8 x9 x11 y1 y2 y3 kh114 kx186 = some o), hk_W p l e jr_M_rain s m args below meth c A (hk_Zi below args s D A o (wM cI a text letters mowers cows ricks weathers says words weather kindOf thatch newMowers newCows newRicks newWeathers newSays newWords newWeather newKind newThatch st pasts past aside seen seenWord seenHour keeps kept)) 12 D 0 0 (wM cI a text letters mowers cows ricks weathers says words weather kindOf thatch newMowers newCows newRicks newWeathers newSays newWords newWeather newKind newThatch st pasts past aside seen seenWord seenHour keeps kept) 174 [(0, .ref (a 0)), (1, .int x1), (2, .int x2), (3, .int x3), (4, .int x4), (5, .int x5), (6, .int x6), (7, .int x7), (8, .int x8), (9, .int x9), (11, .int x11)] [.int y3, .int y2, .int y1, .ref (a 0)] := by
    intro mowers weathers weather st x1 x2 x3 x4 x5 x6 x7 x8 x9 x11 y1 y2 y3 kh114 kx186 ihh114 ihx186 h
    delta jf_M_rain_174 at h
    refine hk_iadd hC jd_M_rain_174 ?_
    obtain ⟨q1, h_q1, h⟩ := xb_go h
    refine hk_callVWi hC (q0 := 0) (jc_M_wetter l D cI cF N a text letters mowers cows ricks weathers says words weather kindOf thatch newMowers newCows newRicks newWeathers newSays newWords newWeather newKind newThatch st pasts past aside seen seenWord seenHour keeps kept y1 (y2 + y3) h_q1) jl_M_wetter rfl rfl jq_859 jq_861 jq0_30 rfl ⟨by decide, by decide⟩ rfl rfl (Nat.le_of_ble_eq_true rfl) ⟨Nat.zero_le _, Nat.zero_le _⟩ jd_M_rain_175 ?_
    refine hk_istore hC (i := 10) (y := q1) (lv2 := [(10, .int q1), (0, .ref (a 0)), (1, .int x1), (2, .int x2), (3, .int x3), (4, .int x4), (5, .int x5), (6, .int x6), (7, .int x7), (8, .int x8), (9, .int x9), (11, .int x11)]) jd_M_rain_178 rfl (by decide) rfl ?_
    obtain ⟨v1, e_v1, h⟩ := xl_go h
    refine hk_iinc hC (lv2 := [(11, .int v1), (10, .int q1), (0, .ref (a 0)), (1, .int x1), (2, .int x2), (3, .int x3), (4, .int x4), (5, .int x5), (6, .int x6), (7, .int x7), (8, .int x8), (9, .int x9)]) jd_M_rain_180 11 rfl e_v1 (by decide) rfl ?_
    refine hk_goto (tgt := 114) hC jd_M_rain_183 (by decide) ?_
    exact hk_lv [2, 3, 4, 5, 6, 7, 8, 9, 10, 11, 1, 0] rfl (ihh114 (x9, q1, v1) h)
  have B_140 : ∀ (mowers : Int32) (weathers : Int32) (weather : Nat → Int32) (st : Nat → Int32) (x1 : Int32) (x2 : Int32) (x3 : Int32) (x4 : Int32) (x5 : Int32) (x6 : Int32) (x7 : Int32) (x8 : Int32) (x10 : Int32) (x11 : Int32) (y0 : Int32) (y1 : Int32) (kh114 : (Int32 × Int32 × Int32) → Option (Int32)) (kx186 : (Int32 × Int32) → Option (Int32)) (ihh114 : ∀ q, kh114 q = some o → hk_W p l e jr_M_rain s m args below meth c A (hk_Zi below args s D A o (wM cI a text letters mowers cows ricks weathers says words weather kindOf thatch newMowers newCows newRicks newWeathers newSays newWords newWeather newKind newThatch st pasts past aside seen seenWord seenHour keeps kept)) 12 D 0 0 (wM cI a text letters mowers cows ricks weathers says words weather kindOf thatch newMowers newCows newRicks newWeathers newSays newWords newWeather newKind newThatch st pasts past aside seen seenWord seenHour keeps kept) 114 [(0, .ref (a 0)), (1, .int x1), (2, .int x2), (3, .int x3), (4, .int x4), (5, .int x5), (6, .int x6), (7, .int x7), (8, .int x8), (9, .int q.1), (10, .int q.2.1), (11, .int q.2.2)] []) (ihx186 : ∀ q, kx186 q = some o → hk_W p l e jr_M_rain s m args below meth c A (hk_Zi below args s D A o (wM cI a text letters mowers cows ricks weathers says words weather kindOf thatch newMowers newCows newRicks newWeathers newSays newWords newWeather newKind newThatch st pasts past aside seen seenWord seenHour keeps kept)) 12 D 0 0 (wM cI a text letters mowers cows ricks weathers says words weather kindOf thatch newMowers newCows newRicks newWeathers newSays newWords newWeather newKind newThatch st pasts past aside seen seenWord seenHour keeps kept) 186 [(0, .ref (a 0)), (1, .int x1), (2, .int x2), (3, .int x3), (4, .int x4), (5, .int x5), (6, .int x6), (7, .int x7), (8, .int x8), (9, .int q.1), (10, .int q.2)] []) (_ : jf_M_rain_140 N mowers weathers weather st x1 x2 x3 x4 x5 x6 x7 x8 x10 x11 y0 y1 kh114 kx186 = some o), hk_W p l e jr_M_rain s m args below meth c A (hk_Zi below args s D A o (wM cI a text letters mowers cows ricks weathers says words weather kindOf thatch newMowers newCows newRicks newWeathers newSays newWords newWeather newKind newThatch st pasts past aside seen seenWord seenHour keeps kept)) 12 D 0 0 (wM cI a text letters mowers cows ricks weathers says words weather kindOf thatch newMowers newCows newRicks newWeathers newSays newWords newWeather newKind newThatch st pasts past aside seen seenWord seenHour keeps kept) 140 [(0, .ref (a 0)), (1, .int x1), (2, .int x2), (3, .int x3), (4, .int x4), (5, .int x5), (6, .int x6), (7, .int x7), (8, .int x8), (10, .int x10), (11, .int x11)] [.int y1, .int y0] := by
    intro mowers weathers weather st x1 x2 x3 x4 x5 x6 x7 x8 x10 x11 y0 y1 kh114 kx186 ihh114 ihx186 h
    delta jf_M_rain_140 at h
    refine hk_imul hC jd_M_rain_140 ?_
    obtain ⟨v1, e_v1, h⟩ := xl_go h
    refine hk_istore hC (i := 9) (y := v1) (lv2 := [(9, .int v1), (0, .ref (a 0)), (1, .int x1), (2, .int x2), (3, .int x3), (4, .int x4), (5, .int x5), (6, .int x6), (7, .int x7), (8, .int x8), (10, .int x10), (11, .int x11)]) jd_M_rain_141 e_v1 (by decide) rfl ?_
    refine hk_aload_n hC jd_M_rain_143 1 rfl ?_
    refine hk_iload hC jd_M_rain_144 10 rfl ?_
    refine hk_aload_n hC jd_M_rain_146 1 rfl ?_
    refine hk_aload_n hC jd_M_rain_147 1 rfl ?_
    refine hk_get hC jk_M 0 rfl 20 (by decide) jq_718 rfl jd_M_rain_148 ?_
    refine hk_iconst (v := 0) hC jd_M_rain_151 (by decide) ?_
    have hr1 := xr_in h
    replace h := xr_go h
    refine hk_iald hC 12 rfl hr1 jd_M_rain_152 ?_
    refine hk_iload hC jd_M_rain_153 11 rfl ?_
    refine hk_iadd hC jd_M_rain_155 ?_
    obtain ⟨q1, h_q1, h⟩ := xb_go h
    refine hk_callVWi hC (q0 := 0) (jc_M_rains l D cI cF N a text letters mowers cows ricks weathers says words weather kindOf thatch newMowers newCows newRicks newWeathers newSays newWords newWeather newKind newThatch st pasts past aside seen seenWord seenHour keeps kept ((st (Int32.toNatClampNeg (0 : Int32))) + x11) h_q1) jl_M_rains rfl rfl jq_855 jq_857 jq0_29 rfl ⟨by decide, by decide⟩ rfl rfl (Nat.le_of_ble_eq_true rfl) ⟨Nat.zero_le _, Nat.zero_le _⟩ jd_M_rain_156 ?_
    refine hk_iload hC jd_M_rain_159 9 rfl ?_
    refine hk_iload hC jd_M_rain_161 11 rfl ?_
    obtain ⟨q2, h_q2, h⟩ := xb_go h
    refine hk_callS0i hC (jc_M_has l D cI cF N x8 x11 h_q2) jl_M_has jq_939 jq_940 rfl ⟨by decide, by decide⟩ rfl (Nat.le_of_ble_eq_true rfl) ⟨Nat.zero_le _, Nat.zero_le _⟩ jd_M_rain_163 ?_
    refine hk_if_eq (tgt := 173) hC jd_M_rain_166 (by decide) (fun cc1 => ?_) (fun cc1 => ?_)
    · replace h := xi_t h cc1
      refine hk_iconst (v := 0) hC jd_M_rain_173 (by decide) ?_
      exact hk_lv [1, 2, 3, 4, 5, 6, 7, 8, 9, 0, 11] rfl (B_174 mowers weathers weather st x1 x2 x3 x4 x5 x6 x7 x8 v1 x11 x10 q1 (0 : Int32) kh114 kx186 ihh114 ihx186 h)
    · replace h := xi_f h cc1
      refine hk_iconst (v := 3) hC jd_M_rain_169 (by decide) ?_
      refine hk_goto (tgt := 174) hC jd_M_rain_170 (by decide) ?_
      exact hk_lv [1, 2, 3, 4, 5, 6, 7, 8, 9, 0, 11] rfl (B_174 mowers weathers weather st x1 x2 x3 x4 x5 x6 x7 x8 v1 x11 x10 q1 (3 : Int32) kh114 kx186 ihh114 ihx186 h)
  have B_114 : ∀ (mowers : Int32) (weathers : Int32) (weather : Nat → Int32) (st : Nat → Int32) (x1 : Int32) (x2 : Int32) (x3 : Int32) (x4 : Int32) (x5 : Int32) (x6 : Int32) (x7 : Int32) (x8 : Int32) (x9 : Int32) (x10 : Int32) (x11 : Int32) (kh114 : (Int32 × Int32 × Int32) → Option (Int32)) (kx186 : (Int32 × Int32) → Option (Int32)) (ihh114 : ∀ q, kh114 q = some o → hk_W p l e jr_M_rain s m args below meth c A (hk_Zi below args s D A o (wM cI a text letters mowers cows ricks weathers says words weather kindOf thatch newMowers newCows newRicks newWeathers newSays newWords newWeather newKind newThatch st pasts past aside seen seenWord seenHour keeps kept)) 12 D 0 0 (wM cI a text letters mowers cows ricks weathers says words weather kindOf thatch newMowers newCows newRicks newWeathers newSays newWords newWeather newKind newThatch st pasts past aside seen seenWord seenHour keeps kept) 114 [(0, .ref (a 0)), (1, .int x1), (2, .int x2), (3, .int x3), (4, .int x4), (5, .int x5), (6, .int x6), (7, .int x7), (8, .int x8), (9, .int q.1), (10, .int q.2.1), (11, .int q.2.2)] []) (ihx186 : ∀ q, kx186 q = some o → hk_W p l e jr_M_rain s m args below meth c A (hk_Zi below args s D A o (wM cI a text letters mowers cows ricks weathers says words weather kindOf thatch newMowers newCows newRicks newWeathers newSays newWords newWeather newKind newThatch st pasts past aside seen seenWord seenHour keeps kept)) 12 D 0 0 (wM cI a text letters mowers cows ricks weathers says words weather kindOf thatch newMowers newCows newRicks newWeathers newSays newWords newWeather newKind newThatch st pasts past aside seen seenWord seenHour keeps kept) 186 [(0, .ref (a 0)), (1, .int x1), (2, .int x2), (3, .int x3), (4, .int x4), (5, .int x5), (6, .int x6), (7, .int x7), (8, .int x8), (9, .int q.1), (10, .int q.2)] []) (_ : jf_M_rain_114B N mowers weathers weather st x1 x2 x3 x4 x5 x6 x7 x8 x9 x10 x11 kh114 kx186 = some o), hk_W p l e jr_M_rain s m args below meth c A (hk_Zi below args s D A o (wM cI a text letters mowers cows ricks weathers says words weather kindOf thatch newMowers newCows newRicks newWeathers newSays newWords newWeather newKind newThatch st pasts past aside seen seenWord seenHour keeps kept)) 12 D 0 0 (wM cI a text letters mowers cows ricks weathers says words weather kindOf thatch newMowers newCows newRicks newWeathers newSays newWords newWeather newKind newThatch st pasts past aside seen seenWord seenHour keeps kept) 114 [(0, .ref (a 0)), (1, .int x1), (2, .int x2), (3, .int x3), (4, .int x4), (5, .int x5), (6, .int x6), (7, .int x7), (8, .int x8), (9, .int x9), (10, .int x10), (11, .int x11)] [] := by
    intro mowers weathers weather st x1 x2 x3 x4 x5 x6 x7 x8 x9 x10 x11 kh114 kx186 ihh114 ihx186 h
    delta jf_M_rain_114B at h
    refine hk_iload hC jd_M_rain_114 11 rfl ?_
    refine hk_iload_n hC jd_M_rain_116 2 rfl ?_
    refine hk_icmp_ge (tgt := 186) hC jd_M_rain_117 (by decide) (fun cc1 => ?_) (fun cc1 => ?_)
    · replace h := xi_t h cc1
      exact hk_lv [0, 1, 2, 3, 4, 5, 6, 7, 8, 9, 10] rfl (ihx186 (x9, x10) h)
    · replace h := xi_f h cc1
      refine hk_iload hC jd_M_rain_120 9 rfl ?_
      refine hk_iload hC jd_M_rain_122 8 rfl ?_
      refine hk_iload hC jd_M_rain_124 11 rfl ?_
      obtain ⟨q1, h_q1, h⟩ := xb_go h
      refine hk_callS0i hC (jc_M_has l D cI cF N x8 x11 h_q1) jl_M_has jq_939 jq_940 rfl ⟨by decide, by decide⟩ rfl (Nat.le_of_ble_eq_true rfl) ⟨Nat.zero_le _, Nat.zero_le _⟩ jd_M_rain_126 ?_
      refine hk_if_eq (tgt := 136) hC jd_M_rain_129 (by decide) (fun cc2 => ?_) (fun cc2 => ?_)
      · replace h := xi_t h cc2
        refine hk_bipush (v := 10) hC jd_M_rain_136 (by decide) ?_
        refine hk_iload_n hC jd_M_rain_138 3 rfl ?_
        refine hk_isub hC jd_M_rain_139 ?_
        exact hk_lv [0, 1, 2, 3, 4, 5, 6, 7, 8, 10, 11] rfl (B_140 mowers weathers weather st x1 x2 x3 x4 x5 x6 x7 x8 x10 x11 x9 ((10 : Int32) - x3) kh114 kx186 ihh114 ihx186 h)
      · replace h := xi_f h cc2
        refine hk_iload_n hC jd_M_rain_132 3 rfl ?_
        refine hk_goto (tgt := 140) hC jd_M_rain_133 (by decide) ?_
        exact hk_lv [0, 1, 2, 3, 4, 5, 6, 7, 8, 10, 11] rfl (B_140 mowers weathers weather st x1 x2 x3 x4 x5 x6 x7 x8 x10 x11 x9 x3 kh114 kx186 ihh114 ihx186 h)
  have L_114 : ∀ (mowers : Int32) (weathers : Int32) (weather : Nat → Int32) (st : Nat → Int32) (x1 : Int32) (x2 : Int32) (x3 : Int32) (x4 : Int32) (x5 : Int32) (x6 : Int32) (x7 : Int32) (x8 : Int32) (x9 : Int32) (x10 : Int32) (x11 : Int32) (kx186 : (Int32 × Int32) → Option (Int32)) (ihx186 : ∀ q, kx186 q = some o → hk_W p l e jr_M_rain s m args below meth c A (hk_Zi below args s D A o (wM cI a text letters mowers cows ricks weathers says words weather kindOf thatch newMowers newCows newRicks newWeathers newSays newWords newWeather newKind newThatch st pasts past aside seen seenWord seenHour keeps kept)) 12 D 0 0 (wM cI a text letters mowers cows ricks weathers says words weather kindOf thatch newMowers newCows newRicks newWeathers newSays newWords newWeather newKind newThatch st pasts past aside seen seenWord seenHour keeps kept) 186 [(0, .ref (a 0)), (1, .int x1), (2, .int x2), (3, .int x3), (4, .int x4), (5, .int x5), (6, .int x6), (7, .int x7), (8, .int x8), (9, .int q.1), (10, .int q.2)] []) (_ : jf_M_rain_114 N mowers weathers weather st x1 x2 x3 x4 x5 x6 x7 x8 x9 x10 x11 kx186 = some o), hk_W p l e jr_M_rain s m args below meth c A (hk_Zi below args s D A o (wM cI a text letters mowers cows ricks weathers says words weather kindOf thatch newMowers newCows newRicks newWeathers newSays newWords newWeather newKind newThatch st pasts past aside seen seenWord seenHour keeps kept)) 12 D 0 0 (wM cI a text letters mowers cows ricks weathers says words weather kindOf thatch newMowers newCows newRicks newWeathers newSays newWords newWeather newKind newThatch st pasts past aside seen seenWord seenHour keeps kept) 114 [(0, .ref (a 0)), (1, .int x1), (2, .int x2), (3, .int x3), (4, .int x4), (5, .int x5), (6, .int x6), (7, .int x7), (8, .int x8), (9, .int x9), (10, .int x10), (11, .int x11)] [] := by
    intro mowers weathers weather st x1 x2 x3 x4 x5 x6 x7 x8 x9 x10 x11 kx186 ihx186 h
    exact xloopW (fun (q : Int32 × Int32 × Int32) => hk_W p l e jr_M_rain s m args below meth c A (hk_Zi below args s D A o (wM cI a text letters mowers cows ricks weathers says words weather kindOf thatch newMowers newCows newRicks newWeathers newSays newWords newWeather newKind newThatch st pasts past aside seen seenWord seenHour keeps kept)) 12 D 0 0 (wM cI a text letters mowers cows ricks weathers says words weather kindOf thatch newMowers newCows newRicks newWeathers newSays newWords newWeather newKind newThatch st pasts past aside seen seenWord seenHour keeps kept) 114 [(0, .ref (a 0)), (1, .int x1), (2, .int x2), (3, .int x3), (4, .int x4), (5, .int x5), (6, .int x6), (7, .int x7), (8, .int x8), (9, .int q.1), (10, .int q.2.1), (11, .int q.2.2)] []) (fun kh ih q h => B_114 mowers weathers weather st x1 x2 x3 x4 x5 x6 x7 x8 q.1 q.2.1 q.2.2 kh kx186 ih ihx186 h) N (x9, x10, x11) h
  have B_201 : ∀ (mowers : Int32) (weathers : Int32) (weather : Nat → Int32) (st : Nat → Int32) (x1 : Int32) (x2 : Int32) (x3 : Int32) (x4 : Int32) (x5 : Int32) (x7 : Int32) (x8 : Int32) (y0 : Int32) (y1 : Int32) (kh89 : (Int32 × Int32) → Option (Int32)) (kx210 : (Int32) → Option (Int32)) (ihh89 : ∀ q, kh89 q = some o → hk_W p l e jr_M_rain s m args below meth c A (hk_Zi below args s D A o (wM cI a text letters mowers cows ricks weathers says words weather kindOf thatch newMowers newCows newRicks newWeathers newSays newWords newWeather newKind newThatch st pasts past aside seen seenWord seenHour keeps kept)) 12 D 0 0 (wM cI a text letters mowers cows ricks weathers says words weather kindOf thatch newMowers newCows newRicks newWeathers newSays newWords newWeather newKind newThatch st pasts past aside seen seenWord seenHour keeps kept) 89 [(0, .ref (a 0)), (1, .int x1), (2, .int x2), (3, .int x3), (4, .int x4), (5, .int x5), (6, .int q.1), (7, .int x7), (8, .int q.2)] []) (ihx210 : ∀ q, kx210 q = some o → hk_W p l e jr_M_rain s m args below meth c A (hk_Zi below args s D A o (wM cI a text letters mowers cows ricks weathers says words weather kindOf thatch newMowers newCows newRicks newWeathers newSays newWords newWeather newKind newThatch st pasts past aside seen seenWord seenHour keeps kept)) 12 D 0 0 (wM cI a text letters mowers cows ricks weathers says words weather kindOf thatch newMowers newCows newRicks newWeathers newSays newWords newWeather newKind newThatch st pasts past aside seen seenWord seenHour keeps kept) 210 [(5, .int x5), (6, .int q), (7, .int x7)] []) (_ : jf_M_rain_201 N mowers weathers weather st x1 x2 x3 x4 x5 x7 x8 y0 y1 kh89 kx210 = some o), hk_W p l e jr_M_rain s m args below meth c A (hk_Zi below args s D A o (wM cI a text letters mowers cows ricks weathers says words weather kindOf thatch newMowers newCows newRicks newWeathers newSays newWords newWeather newKind newThatch st pasts past aside seen seenWord seenHour keeps kept)) 12 D 0 0 (wM cI a text letters mowers cows ricks weathers says words weather kindOf thatch newMowers newCows newRicks newWeathers newSays newWords newWeather newKind newThatch st pasts past aside seen seenWord seenHour keeps kept) 201 [(0, .ref (a 0)), (1, .int x1), (2, .int x2), (3, .int x3), (4, .int x4), (5, .int x5), (7, .int x7), (8, .int x8)] [.int y1, .int y0] := by
    intro mowers weathers weather st x1 x2 x3 x4 x5 x7 x8 y0 y1 kh89 kx210 ihh89 ihx210 h
    delta jf_M_rain_201 at h
    refine hk_iadd hC jd_M_rain_201 ?_
    obtain ⟨v1, e_v1, h⟩ := xl_go h
    refine hk_istore hC (i := 6) (y := v1) (lv2 := [(6, .int v1), (0, .ref (a 0)), (1, .int x1), (2, .int x2), (3, .int x3), (4, .int x4), (5, .int x5), (7, .int x7), (8, .int x8)]) jd_M_rain_202 e_v1 (by decide) rfl ?_
    obtain ⟨v2, e_v2, h⟩ := xl_go h
    refine hk_iinc hC (lv2 := [(8, .int v2), (6, .int v1), (0, .ref (a 0)), (1, .int x1), (2, .int x2), (3, .int x3), (4, .int x4), (5, .int x5), (7, .int x7)]) jd_M_rain_204 8 rfl e_v2 (by decide) rfl ?_
    refine hk_goto (tgt := 89) hC jd_M_rain_207 (by decide) ?_
    exact hk_lv [2, 3, 4, 5, 6, 7, 1, 8, 0] rfl (ihh89 (v1, v2) h)
  have B_186 : ∀ (mowers : Int32) (weathers : Int32) (weather : Nat → Int32) (st : Nat → Int32) (x1 : Int32) (x2 : Int32) (x3 : Int32) (x4 : Int32) (x5 : Int32) (x6 : Int32) (x7 : Int32) (x8 : Int32) (x9 : Int32) (x10 : Int32) (kh89 : (Int32 × Int32) → Option (Int32)) (kx210 : (Int32) → Option (Int32)) (ihh89 : ∀ q, kh89 q = some o → hk_W p l e jr_M_rain s m args below meth c A (hk_Zi below args s D A o (wM cI a text letters mowers cows ricks weathers says words weather kindOf thatch newMowers newCows newRicks newWeathers newSays newWords newWeather newKind newThatch st pasts past aside seen seenWord seenHour keeps kept)) 12 D 0 0 (wM cI a text letters mowers cows ricks weathers says words weather kindOf thatch newMowers newCows newRicks newWeathers newSays newWords newWeather newKind newThatch st pasts past aside seen seenWord seenHour keeps kept) 89 [(0, .ref (a 0)), (1, .int x1), (2, .int x2), (3, .int x3), (4, .int x4), (5, .int x5), (6, .int q.1), (7, .int x7), (8, .int q.2)] []) (ihx210 : ∀ q, kx210 q = some o → hk_W p l e jr_M_rain s m args below meth c A (hk_Zi below args s D A o (wM cI a text letters mowers cows ricks weathers says words weather kindOf thatch newMowers newCows newRicks newWeathers newSays newWords newWeather newKind newThatch st pasts past aside seen seenWord seenHour keeps kept)) 12 D 0 0 (wM cI a text letters mowers cows ricks weathers says words weather kindOf thatch newMowers newCows newRicks newWeathers newSays newWords newWeather newKind newThatch st pasts past aside seen seenWord seenHour keeps kept) 210 [(5, .int x5), (6, .int q), (7, .int x7)] []) (_ : jf_M_rain_186 N mowers weathers weather st x1 x2 x3 x4 x5 x6 x7 x8 x9 x10 kh89 kx210 = some o), hk_W p l e jr_M_rain s m args below meth c A (hk_Zi below args s D A o (wM cI a text letters mowers cows ricks weathers says words weather kindOf thatch newMowers newCows newRicks newWeathers newSays newWords newWeather newKind newThatch st pasts past aside seen seenWord seenHour keeps kept)) 12 D 0 0 (wM cI a text letters mowers cows ricks weathers says words weather kindOf thatch newMowers newCows newRicks newWeathers newSays newWords newWeather newKind newThatch st pasts past aside seen seenWord seenHour keeps kept) 186 [(0, .ref (a 0)), (1, .int x1), (2, .int x2), (3, .int x3), (4, .int x4), (5, .int x5), (6, .int x6), (7, .int x7), (8, .int x8), (9, .int x9), (10, .int x10)] [] := by
    intro mowers weathers weather st x1 x2 x3 x4 x5 x6 x7 x8 x9 x10 kh89 kx210 ihh89 ihx210 h
    delta jf_M_rain_186 at h
    refine hk_iload hC jd_M_rain_186 6 rfl ?_
    refine hk_iload hC jd_M_rain_188 10 rfl ?_
    refine hk_iload hC jd_M_rain_190 4 rfl ?_
    refine hk_icmp_lt (tgt := 200) hC jd_M_rain_192 (by decide) (fun cc1 => ?_) (fun cc1 => ?_)
    · replace h := xi_t h cc1
      refine hk_iconst (v := 0) hC jd_M_rain_200 (by decide) ?_
      exact hk_lv [0, 1, 2, 3, 4, 5, 7, 8] rfl (B_201 mowers weathers weather st x1 x2 x3 x4 x5 x7 x8 x6 (0 : Int32) kh89 kx210 ihh89 ihx210 h)
    · replace h := xi_f h cc1
      refine hk_iload hC jd_M_rain_195 9 rfl ?_
      refine hk_goto (tgt := 201) hC jd_M_rain_197 (by decide) ?_
      exact hk_lv [0, 1, 2, 3, 4, 5, 7, 8] rfl (B_201 mowers weathers weather st x1 x2 x3 x4 x5 x7 x8 x6 x9 kh89 kx210 ihh89 ihx210 h)
  have B_89 : ∀ (mowers : Int32) (weathers : Int32) (weather : Nat → Int32) (st : Nat → Int32) (x1 : Int32) (x2 : Int32) (x3 : Int32) (x4 : Int32) (x5 : Int32) (x6 : Int32) (x7 : Int32) (x8 : Int32) (kh89 : (Int32 × Int32) → Option (Int32)) (kx210 : (Int32) → Option (Int32)) (ihh89 : ∀ q, kh89 q = some o → hk_W p l e jr_M_rain s m args below meth c A (hk_Zi below args s D A o (wM cI a text letters mowers cows ricks weathers says words weather kindOf thatch newMowers newCows newRicks newWeathers newSays newWords newWeather newKind newThatch st pasts past aside seen seenWord seenHour keeps kept)) 12 D 0 0 (wM cI a text letters mowers cows ricks weathers says words weather kindOf thatch newMowers newCows newRicks newWeathers newSays newWords newWeather newKind newThatch st pasts past aside seen seenWord seenHour keeps kept) 89 [(0, .ref (a 0)), (1, .int x1), (2, .int x2), (3, .int x3), (4, .int x4), (5, .int x5), (6, .int q.1), (7, .int x7), (8, .int q.2)] []) (ihx210 : ∀ q, kx210 q = some o → hk_W p l e jr_M_rain s m args below meth c A (hk_Zi below args s D A o (wM cI a text letters mowers cows ricks weathers says words weather kindOf thatch newMowers newCows newRicks newWeathers newSays newWords newWeather newKind newThatch st pasts past aside seen seenWord seenHour keeps kept)) 12 D 0 0 (wM cI a text letters mowers cows ricks weathers says words weather kindOf thatch newMowers newCows newRicks newWeathers newSays newWords newWeather newKind newThatch st pasts past aside seen seenWord seenHour keeps kept) 210 [(5, .int x5), (6, .int q), (7, .int x7)] []) (_ : jf_M_rain_89B N mowers weathers weather st x1 x2 x3 x4 x5 x6 x7 x8 kh89 kx210 = some o), hk_W p l e jr_M_rain s m args below meth c A (hk_Zi below args s D A o (wM cI a text letters mowers cows ricks weathers says words weather kindOf thatch newMowers newCows newRicks newWeathers newSays newWords newWeather newKind newThatch st pasts past aside seen seenWord seenHour keeps kept)) 12 D 0 0 (wM cI a text letters mowers cows ricks weathers says words weather kindOf thatch newMowers newCows newRicks newWeathers newSays newWords newWeather newKind newThatch st pasts past aside seen seenWord seenHour keeps kept) 89 [(0, .ref (a 0)), (1, .int x1), (2, .int x2), (3, .int x3), (4, .int x4), (5, .int x5), (6, .int x6), (7, .int x7), (8, .int x8)] [] := by
    intro mowers weathers weather st x1 x2 x3 x4 x5 x6 x7 x8 kh89 kx210 ihh89 ihx210 h
    delta jf_M_rain_89B at h
    refine hk_iload hC jd_M_rain_89 8 rfl ?_
    refine hk_iconst (v := 1) hC jd_M_rain_91 (by decide) ?_
    refine hk_iload_n hC jd_M_rain_92 2 rfl ?_
    refine hk_ishl hC jd_M_rain_93 ?_
    refine hk_icmp_ge (tgt := 210) hC jd_M_rain_94 (by decide) (fun cc1 => ?_) (fun cc1 => ?_)
    · replace h := xi_t h cc1
      exact hk_lv [5, 6, 7] rfl (ihx210 x6 h)
    · replace h := xi_f h cc1
      refine hk_iconst (v := 1) hC jd_M_rain_97 (by decide) ?_
      refine hk_istore hC (i := 9) (y := (1 : Int32)) (lv2 := [(9, .int (1 : Int32)), (0, .ref (a 0)), (1, .int x1), (2, .int x2), (3, .int x3), (4, .int x4), (5, .int x5), (6, .int x6), (7, .int x7), (8, .int x8)]) jd_M_rain_98 rfl (by decide) rfl ?_
      refine hk_aload_n hC jd_M_rain_100 1 rfl ?_
      refine hk_get hC jk_M 0 rfl 20 (by decide) jq_718 rfl jd_M_rain_101 ?_
      refine hk_bipush (v := 6) hC jd_M_rain_104 (by decide) ?_
      refine hk_iload_n hC jd_M_rain_106 2 rfl ?_
      refine hk_iadd hC jd_M_rain_107 ?_
      have hr1 := xr_in h
      replace h := xr_go h
      refine hk_iald hC 12 rfl hr1 jd_M_rain_108 ?_
      obtain ⟨v1, e_v1, h⟩ := xl_go h
      refine hk_istore hC (i := 10) (y := v1) (lv2 := [(10, .int v1), (9, .int (1 : Int32)), (0, .ref (a 0)), (1, .int x1), (2, .int x2), (3, .int x3), (4, .int x4), (5, .int x5), (6, .int x6), (7, .int x7), (8, .int x8)]) jd_M_rain_109 e_v1 (by decide) rfl ?_
      refine hk_iconst (v := 0) hC jd_M_rain_111 (by decide) ?_
      refine hk_istore hC (i := 11) (y := (0 : Int32)) (lv2 := [(11, .int (0 : Int32)), (10, .int v1), (9, .int (1 : Int32)), (0, .ref (a 0)), (1, .int x1), (2, .int x2), (3, .int x3), (4, .int x4), (5, .int x5), (6, .int x6), (7, .int x7), (8, .int x8)]) jd_M_rain_112 rfl (by decide) rfl ?_
      exact hk_lv [3, 4, 5, 6, 7, 8, 9, 10, 11, 2, 1, 0] rfl (L_114 mowers weathers weather st x1 x2 x3 x4 x5 x6 x7 x8 (1 : Int32) v1 (0 : Int32) _ (fun q1 h => by exact (B_186 mowers weathers weather st x1 x2 x3 x4 x5 x6 x7 x8 q1.1 q1.2 kh89 kx210 ihh89 ihx210 h)) h)
  have L_89 : ∀ (mowers : Int32) (weathers : Int32) (weather : Nat → Int32) (st : Nat → Int32) (x1 : Int32) (x2 : Int32) (x3 : Int32) (x4 : Int32) (x5 : Int32) (x6 : Int32) (x7 : Int32) (x8 : Int32) (kx210 : (Int32) → Option (Int32)) (ihx210 : ∀ q, kx210 q = some o → hk_W p l e jr_M_rain s m args below meth c A (hk_Zi below args s D A o (wM cI a text letters mowers cows ricks weathers says words weather kindOf thatch newMowers newCows newRicks newWeathers newSays newWords newWeather newKind newThatch st pasts past aside seen seenWord seenHour keeps kept)) 12 D 0 0 (wM cI a text letters mowers cows ricks weathers says words weather kindOf thatch newMowers newCows newRicks newWeathers newSays newWords newWeather newKind newThatch st pasts past aside seen seenWord seenHour keeps kept) 210 [(5, .int x5), (6, .int q), (7, .int x7)] []) (_ : jf_M_rain_89 N mowers weathers weather st x1 x2 x3 x4 x5 x6 x7 x8 kx210 = some o), hk_W p l e jr_M_rain s m args below meth c A (hk_Zi below args s D A o (wM cI a text letters mowers cows ricks weathers says words weather kindOf thatch newMowers newCows newRicks newWeathers newSays newWords newWeather newKind newThatch st pasts past aside seen seenWord seenHour keeps kept)) 12 D 0 0 (wM cI a text letters mowers cows ricks weathers says words weather kindOf thatch newMowers newCows newRicks newWeathers newSays newWords newWeather newKind newThatch st pasts past aside seen seenWord seenHour keeps kept) 89 [(0, .ref (a 0)), (1, .int x1), (2, .int x2), (3, .int x3), (4, .int x4), (5, .int x5), (6, .int x6), (7, .int x7), (8, .int x8)] [] := by
    intro mowers weathers weather st x1 x2 x3 x4 x5 x6 x7 x8 kx210 ihx210 h
    exact xloopW (fun (q : Int32 × Int32) => hk_W p l e jr_M_rain s m args below meth c A (hk_Zi below args s D A o (wM cI a text letters mowers cows ricks weathers says words weather kindOf thatch newMowers newCows newRicks newWeathers newSays newWords newWeather newKind newThatch st pasts past aside seen seenWord seenHour keeps kept)) 12 D 0 0 (wM cI a text letters mowers cows ricks weathers says words weather kindOf thatch newMowers newCows newRicks newWeathers newSays newWords newWeather newKind newThatch st pasts past aside seen seenWord seenHour keeps kept) 89 [(0, .ref (a 0)), (1, .int x1), (2, .int x2), (3, .int x3), (4, .int x4), (5, .int x5), (6, .int q.1), (7, .int x7), (8, .int q.2)] []) (fun kh ih q h => B_89 mowers weathers weather st x1 x2 x3 x4 x5 q.1 x7 q.2 kh kx210 ih ihx210 h) N (x6, x8) h
  have B_210 : ∀ (mowers : Int32) (weathers : Int32) (weather : Nat → Int32) (st : Nat → Int32) (x5 : Int32) (x6 : Int32) (x7 : Int32)   (_ : jf_M_rain_210 N mowers weathers weather st x5 x6 x7  = some o), hk_W p l e jr_M_rain s m args below meth c A (hk_Zi below args s D A o (wM cI a text letters mowers cows ricks weathers says words weather kindOf thatch newMowers newCows newRicks newWeathers newSays newWords newWeather newKind newThatch st pasts past aside seen seenWord seenHour keeps kept)) 12 D 0 0 (wM cI a text letters mowers cows ricks weathers says words weather kindOf thatch newMowers newCows newRicks newWeathers newSays newWords newWeather newKind newThatch st pasts past aside seen seenWord seenHour keeps kept) 210 [(5, .int x5), (6, .int x6), (7, .int x7)] [] := by
    intro mowers weathers weather st x5 x6 x7   h
    delta jf_M_rain_210 at h
    refine hk_iload hC jd_M_rain_210 1 rfl ?_
    refine hk_iload hC jd_M_rain_212 2 rfl ?_
    obtain ⟨q1, h_q1, h⟩ := xb_go h
    refine hk_callS0i hC (jc_M_common l D cI cF N x6 x7 h_q1) jl_M_common jq_942 jq_943 rfl ⟨by decide, by decide⟩ rfl (Nat.le_of_ble_eq_true rfl) ⟨Nat.zero_le _, Nat.zero_le _⟩ jd_M_rain_214 ?_
    refine hk_istore hC (i := 8) (y := q1) (lv2 := [(8, .int q1), (5, .int x5), (6, .int x6), (7, .int x7)]) jd_M_rain_217 rfl (by decide) rfl ?_
    refine hk_iload hC jd_M_rain_219 1 rfl ?_
    refine hk_if_ne (tgt := 232) hC jd_M_rain_221 (by decide) (fun cc1 => ?_) (fun cc1 => ?_)
    · replace h := xi_f h cc1
      refine hk_iload hC jd_M_rain_232 3 rfl ?_
      refine hk_iload hC jd_M_rain_234 0 rfl ?_
      have hz1 := xz_in h
      replace h := xz_go h
      refine hk_idiv hC jd_M_rain_236 hz1 ?_
      obtain rfl := Option.some.inj h
      exact hk_iret hC hr jd_M_rain_237 rfl rfl
    · replace h := xi_t h cc1
      refine hk_iload hC jd_M_rain_224 2 rfl ?_
      refine hk_iload hC jd_M_rain_226 0 rfl ?_
      have hz2 := xz_in h
      replace h := xz_go h
      refine hk_idiv hC jd_M_rain_228 hz2 ?_
      refine hk_goto (tgt := 237) hC jd_M_rain_229 (by decide) ?_
      obtain rfl := Option.some.inj h
      exact hk_iret hC hr jd_M_rain_237 rfl rfl
  have B_86 : ∀ (mowers : Int32) (weathers : Int32) (weather : Nat → Int32) (st : Nat → Int32) (x1 : Int32) (x2 : Int32) (x3 : Int32) (x4 : Int32) (x5 : Int32) (x6 : Int32) (x7 : Int32)   (_ : jf_M_rain_86 N mowers weathers weather st x1 x2 x3 x4 x5 x6 x7  = some o), hk_W p l e jr_M_rain s m args below meth c A (hk_Zi below args s D A o (wM cI a text letters mowers cows ricks weathers says words weather kindOf thatch newMowers newCows newRicks newWeathers newSays newWords newWeather newKind newThatch st pasts past aside seen seenWord seenHour keeps kept)) 12 D 0 0 (wM cI a text letters mowers cows ricks weathers says words weather kindOf thatch newMowers newCows newRicks newWeathers newSays newWords newWeather newKind newThatch st pasts past aside seen seenWord seenHour keeps kept) 86 [(0, .ref (a 0)), (1, .int x1), (2, .int x2), (3, .int x3), (4, .int x4), (5, .int x5), (6, .int x6), (7, .int x7)] [] := by
    intro mowers weathers weather st x1 x2 x3 x4 x5 x6 x7   h
    delta jf_M_rain_86 at h
    refine hk_iconst (v := 0) hC jd_M_rain_86 (by decide) ?_
    refine hk_istore hC (i := 8) (y := (0 : Int32)) (lv2 := [(8, .int (0 : Int32)), (0, .ref (a 0)), (1, .int x1), (2, .int x2), (3, .int x3), (4, .int x4), (5, .int x5), (6, .int x6), (7, .int x7)]) jd_M_rain_87 rfl (by decide) rfl ?_
    exact hk_lv [1, 2, 3, 4, 5, 6, 7, 8, 0] rfl (L_89 mowers weathers weather st x1 x2 x3 x4 x5 x6 x7 (0 : Int32) _ (fun q1 h => by exact (B_210 mowers weathers weather st x5 q1 x7   h)) h)
  delta jf_M_rain at h
  refine hk_aload_n hC jd_M_rain_0 0 rfl ?_
  refine hk_iload_n hC jd_M_rain_1 1 rfl ?_
  obtain ⟨q1, h_q1, h⟩ := xb_go h
  refine hk_callVWi hC (q0 := 0) (jc_M_isMower l D cI cF N a text letters mowers cows ricks weathers says words weather kindOf thatch newMowers newCows newRicks newWeathers newSays newWords newWeather newKind newThatch st pasts past aside seen seenWord seenHour keeps kept x1 h_q1) jl_M_isMower rfl rfl jq_802 jq_804 jq0_21 rfl ⟨by decide, by decide⟩ rfl rfl (Nat.le_of_ble_eq_true rfl) ⟨Nat.zero_le _, Nat.zero_le _⟩ jd_M_rain_2 ?_
  refine hk_if_eq (tgt := 56) hC jd_M_rain_5 (by decide) (fun cc1 => ?_) (fun cc1 => ?_)
  · replace h := xi_t h cc1
    refine hk_iconst (v := -1) hC jd_M_rain_56 (by decide) ?_
    obtain rfl := Option.some.inj h
    exact hk_iret hC hr jd_M_rain_57 rfl rfl
  · replace h := xi_f h cc1
    refine hk_iload_n hC jd_M_rain_8 2 rfl ?_
    refine hk_i2l hC jd_M_rain_9 ?_
    refine hk_lconst (v := 0) hC jd_M_rain_10 (by decide) ?_
    refine hk_ldc2 hC jd_M_rain_11 jq_966 ?_
    obtain ⟨q2, h_q2, h⟩ := xb_go h
    refine hk_callS0i hC (jc_M_in l D cI cF N (Int32.toInt64 x2) (0 : Int64) (8 : Int64) h_q2) jl_M_in jq_673 jq_674 rfl ⟨by decide, by decide⟩ rfl (Nat.le_of_ble_eq_true rfl) ⟨Nat.zero_le _, Nat.zero_le _⟩ jd_M_rain_14 ?_
    refine hk_if_eq (tgt := 56) hC jd_M_rain_17 (by decide) (fun cc2 => ?_) (fun cc2 => ?_)
    · replace h := xi_t h cc2
      refine hk_iconst (v := -1) hC jd_M_rain_56 (by decide) ?_
      obtain rfl := Option.some.inj h
      exact hk_iret hC hr jd_M_rain_57 rfl rfl
    · replace h := xi_f h cc2
      refine hk_iload_n hC jd_M_rain_20 3 rfl ?_
      refine hk_i2l hC jd_M_rain_21 ?_
      refine hk_lconst (v := 0) hC jd_M_rain_22 (by decide) ?_
      refine hk_ldc2 hC jd_M_rain_23 jq_967 ?_
      obtain ⟨q3, h_q3, h⟩ := xb_go h
      refine hk_callS0i hC (jc_M_in l D cI cF N (Int32.toInt64 x3) (0 : Int64) (10 : Int64) h_q3) jl_M_in jq_673 jq_674 rfl ⟨by decide, by decide⟩ rfl (Nat.le_of_ble_eq_true rfl) ⟨Nat.zero_le _, Nat.zero_le _⟩ jd_M_rain_26 ?_
      refine hk_if_eq (tgt := 56) hC jd_M_rain_29 (by decide) (fun cc3 => ?_) (fun cc3 => ?_)
      · replace h := xi_t h cc3
        refine hk_iconst (v := -1) hC jd_M_rain_56 (by decide) ?_
        obtain rfl := Option.some.inj h
        exact hk_iret hC hr jd_M_rain_57 rfl rfl
      · replace h := xi_f h cc3
        refine hk_iload hC jd_M_rain_32 4 rfl ?_
        refine hk_i2l hC jd_M_rain_34 ?_
        refine hk_lconst (v := 0) hC jd_M_rain_35 (by decide) ?_
        refine hk_ldc2 hC jd_M_rain_36 jq_949 ?_
        obtain ⟨q4, h_q4, h⟩ := xb_go h
        refine hk_callS0i hC (jc_M_in l D cI cF N (Int32.toInt64 x4) (0 : Int64) (99 : Int64) h_q4) jl_M_in jq_673 jq_674 rfl ⟨by decide, by decide⟩ rfl (Nat.le_of_ble_eq_true rfl) ⟨Nat.zero_le _, Nat.zero_le _⟩ jd_M_rain_39 ?_
        refine hk_if_eq (tgt := 56) hC jd_M_rain_42 (by decide) (fun cc4 => ?_) (fun cc4 => ?_)
        · replace h := xi_t h cc4
          refine hk_iconst (v := -1) hC jd_M_rain_56 (by decide) ?_
          obtain rfl := Option.some.inj h
          exact hk_iret hC hr jd_M_rain_57 rfl rfl
        · replace h := xi_f h cc4
          refine hk_iload hC jd_M_rain_45 5 rfl ?_
          refine hk_i2l hC jd_M_rain_47 ?_
          refine hk_lconst (v := 0) hC jd_M_rain_48 (by decide) ?_
          refine hk_lconst (v := 1) hC jd_M_rain_49 (by decide) ?_
          obtain ⟨q5, h_q5, h⟩ := xb_go h
          refine hk_callS0i hC (jc_M_in l D cI cF N (Int32.toInt64 x5) (0 : Int64) (1 : Int64) h_q5) jl_M_in jq_673 jq_674 rfl ⟨by decide, by decide⟩ rfl (Nat.le_of_ble_eq_true rfl) ⟨Nat.zero_le _, Nat.zero_le _⟩ jd_M_rain_50 ?_
          refine hk_if_ne (tgt := 58) hC jd_M_rain_53 (by decide) (fun cc5 => ?_) (fun cc5 => ?_)
          · replace h := xi_f h cc5
            refine hk_iconst (v := 0) hC jd_M_rain_58 (by decide) ?_
            refine hk_istore hC (i := 6) (y := (0 : Int32)) (lv2 := [(6, .int (0 : Int32)), (0, .ref (a 0)), (1, .int x1), (2, .int x2), (3, .int x3), (4, .int x4), (5, .int x5)]) jd_M_rain_59 rfl (by decide) rfl ?_
            refine hk_iconst (v := 1) hC jd_M_rain_61 (by decide) ?_
            refine hk_istore hC (i := 7) (y := (1 : Int32)) (lv2 := [(7, .int (1 : Int32)), (6, .int (0 : Int32)), (0, .ref (a 0)), (1, .int x1), (2, .int x2), (3, .int x3), (4, .int x4), (5, .int x5)]) jd_M_rain_62 rfl (by decide) rfl ?_
            refine hk_iconst (v := 0) hC jd_M_rain_64 (by decide) ?_
            refine hk_istore hC (i := 8) (y := (0 : Int32)) (lv2 := [(8, .int (0 : Int32)), (7, .int (1 : Int32)), (6, .int (0 : Int32)), (0, .ref (a 0)), (1, .int x1), (2, .int x2), (3, .int x3), (4, .int x4), (5, .int x5)]) jd_M_rain_65 rfl (by decide) rfl ?_
            exact hk_lv [3, 4, 5, 6, 7, 8, 2, 1, 0] rfl (L_67 mowers weathers weather st x1 x2 x3 x4 x5 (0 : Int32) (1 : Int32) (0 : Int32) _ (fun q6 h => by exact (B_86 mowers weathers weather st x1 x2 x3 x4 x5 (0 : Int32) q6   h)) h)
          · replace h := xi_t h cc5
            refine hk_iconst (v := -1) hC jd_M_rain_56 (by decide) ?_
            obtain rfl := Option.some.inj h
            exact hk_iret hC hr jd_M_rain_57 rfl rfl
theorem jc_M_rain (l : Launch) (D : va_G) (cI cF : ClassId) (N : Nat) (a : Nat → Nat)  (text : Nat → Int32) (letters : Int32) (mowers : Int32) (cows : Int32) (ricks : Int32) (weathers : Int32) (says : Nat → Int32) (words : Nat → Int32) (weather : Nat → Int32) (kindOf : Nat → Int32) (thatch : Nat → Int32) (newMowers : Int32) (newCows : Int32) (newRicks : Int32) (newWeathers : Int32) (newSays : Nat → Int32) (newWords : Nat → Int32) (newWeather : Nat → Int32) (newKind : Nat → Int32) (newThatch : Nat → Int32) (st : Nat → Int32) (pasts : Int32) (past : Nat → Int32) (aside : Nat → Int32) (seen : Int32) (seenWord : Nat → Int32) (seenHour : Nat → Int32) (keeps : Int32) (kept : Nat → Int32) (x1 : Int32) (x2 : Int32) (x3 : Int32) (x4 : Int32) (x5 : Int32) {o : Int32} (h : jf_M_rain N mowers weathers weather st x1 x2 x3 x4 x5 = some o) : hk_Mi l jy_M_rain jb_M_rain 12 (some .int) jr_M_rain D cI cF (wM cI a text letters mowers cows ricks weathers says words weather kindOf thatch newMowers newCows newRicks newWeathers newSays newWords newWeather newKind newThatch st pasts past aside seen seenWord seenHour keeps kept) [.ref (a 0), .int x1, .int x2, .int x3, .int x4, .int x5] o (wM cI a text letters mowers cows ricks weathers says words weather kindOf thatch newMowers newCows newRicks newWeathers newSays newWords newWeather newKind newThatch st pasts past aside seen seenWord seenHour keeps kept) :=
  hk_metI (by decide) (Nat.le_of_ble_eq_true rfl) rfl rfl (fun p e s m args below meth c A hC hr => jw_M_rain hC hr N a text letters mowers cows ricks weathers says words weather kindOf thatch newMowers newCows newRicks newWeathers newSays newWords newWeather newKind newThatch st pasts past aside seen seenWord seenHour keeps kept x1 x2 x3 x4 x5 h)
set_option maxHeartbeats 8000000 in
set_option maxRecDepth 100000 in
theorem jw_M_allOf {p : Program} {l : Launch} {e : Env} {s : State} {m : MethodId} {args : Array Value} {below : List Frame} {meth : Method} {c : Code} {A : Nat → Prop} {D : va_G} {cI cF : ClassId} (hC : hk_ok p s m args meth c A 5 D cI cF "HayTalkModel" jb_M_allOf) (hr : meth.sig.returnType = (some .int)) (N : Nat) (a : Nat → Nat)  (text : Nat → Int32) (letters : Int32) (mowers : Int32) (cows : Int32) (ricks : Int32) (weathers : Int32) (says : Nat → Int32) (words : Nat → Int32) (weather : Nat → Int32) (kindOf : Nat → Int32) (thatch : Nat → Int32) (newMowers : Int32) (newCows : Int32) (newRicks : Int32) (newWeathers : Int32) (newSays : Nat → Int32) (newWords : Nat → Int32) (newWeather : Nat → Int32) (newKind : Nat → Int32) (newThatch : Nat → Int32) (st : Nat → Int32) (pasts : Int32) (past : Nat → Int32) (aside : Nat → Int32) (seen : Int32) (seenWord : Nat → Int32) (seenHour : Nat → Int32) (keeps : Int32) (kept : Nat → Int32) (x1 : Int32) (x2 : Int32) {o : Int32} (h : jf_M_allOf N st x1 x2 = some o) : hk_W p l e jr_M_allOf s m args below meth c A (hk_Zi below args s D A o (wM cI a text letters mowers cows ricks weathers says words weather kindOf thatch newMowers newCows newRicks newWeathers newSays newWords newWeather newKind newThatch st pasts past aside seen seenWord seenHour keeps kept)) 5 D 0 0 (wM cI a text letters mowers cows ricks weathers says words weather kindOf thatch newMowers newCows newRicks newWeathers newSays newWords newWeather newKind newThatch st pasts past aside seen seenWord seenHour keeps kept) 0 [(0, .ref (a 0)), (1, .int x1), (2, .int x2)] [] := by
  have B_5 : ∀ (st : Nat → Int32) (x1 : Int32) (x2 : Int32) (x3 : Int32) (x4 : Int32) (kh5 : (Int32 × Int32) → Option (Int32)) (ihh5 : ∀ q, kh5 q = some o → hk_W p l e jr_M_allOf s m args below meth c A (hk_Zi below args s D A o (wM cI a text letters mowers cows ricks weathers says words weather kindOf thatch newMowers newCows newRicks newWeathers newSays newWords newWeather newKind newThatch st pasts past aside seen seenWord seenHour keeps kept)) 5 D 0 0 (wM cI a text letters mowers cows ricks weathers says words weather kindOf thatch newMowers newCows newRicks newWeathers newSays newWords newWeather newKind newThatch st pasts past aside seen seenWord seenHour keeps kept) 5 [(0, .ref (a 0)), (1, .int x1), (2, .int x2), (3, .int q.1), (4, .int q.2)] []) (_ : jf_M_allOf_5B N st x1 x2 x3 x4 kh5 = some o), hk_W p l e jr_M_allOf s m args below meth c A (hk_Zi below args s D A o (wM cI a text letters mowers cows ricks weathers says words weather kindOf thatch newMowers newCows newRicks newWeathers newSays newWords newWeather newKind newThatch st pasts past aside seen seenWord seenHour keeps kept)) 5 D 0 0 (wM cI a text letters mowers cows ricks weathers says words weather kindOf thatch newMowers newCows newRicks newWeathers newSays newWords newWeather newKind newThatch st pasts past aside seen seenWord seenHour keeps kept) 5 [(0, .ref (a 0)), (1, .int x1), (2, .int x2), (3, .int x3), (4, .int x4)] [] := by
    intro st x1 x2 x3 x4 kh5 ihh5 h
    delta jf_M_allOf_5B at h
    refine hk_iload hC jd_M_allOf_5 4 rfl ?_
    refine hk_iload_n hC jd_M_allOf_7 2 rfl ?_
    refine hk_icmp_ge (tgt := 29) hC jd_M_allOf_8 (by decide) (fun cc1 => ?_) (fun cc1 => ?_)
    · replace h := xi_t h cc1
      refine hk_iload_n hC jd_M_allOf_29 3 rfl ?_
      obtain rfl := Option.some.inj h
      exact hk_iret hC hr jd_M_allOf_30 rfl rfl
    · replace h := xi_f h cc1
      refine hk_iload_n hC jd_M_allOf_11 3 rfl ?_
      refine hk_aload_n hC jd_M_allOf_12 0 rfl ?_
      refine hk_get hC jk_M 0 rfl 20 (by decide) jq_718 rfl jd_M_allOf_13 ?_
      refine hk_iload_n hC jd_M_allOf_16 1 rfl ?_
      refine hk_iload hC jd_M_allOf_17 4 rfl ?_
      refine hk_iadd hC jd_M_allOf_19 ?_
      have hr1 := xr_in h
      replace h := xr_go h
      refine hk_iald hC 12 rfl hr1 jd_M_allOf_20 ?_
      refine hk_iadd hC jd_M_allOf_21 ?_
      obtain ⟨v1, e_v1, h⟩ := xl_go h
      refine hk_istore_n hC (i := 3) (y := v1) (lv2 := [(3, .int v1), (0, .ref (a 0)), (1, .int x1), (2, .int x2), (4, .int x4)]) jd_M_allOf_22 rfl e_v1 (by decide) rfl ?_
      obtain ⟨v2, e_v2, h⟩ := xl_go h
      refine hk_iinc hC (lv2 := [(4, .int v2), (3, .int v1), (0, .ref (a 0)), (1, .int x1), (2, .int x2)]) jd_M_allOf_23 4 rfl e_v2 (by decide) rfl ?_
      refine hk_goto (tgt := 5) hC jd_M_allOf_26 (by decide) ?_
      exact hk_lv [2, 3, 4, 1, 0] rfl (ihh5 (v1, v2) h)
  have L_5 : ∀ (st : Nat → Int32) (x1 : Int32) (x2 : Int32) (x3 : Int32) (x4 : Int32)   (_ : jf_M_allOf_5 N st x1 x2 x3 x4  = some o), hk_W p l e jr_M_allOf s m args below meth c A (hk_Zi below args s D A o (wM cI a text letters mowers cows ricks weathers says words weather kindOf thatch newMowers newCows newRicks newWeathers newSays newWords newWeather newKind newThatch st pasts past aside seen seenWord seenHour keeps kept)) 5 D 0 0 (wM cI a text letters mowers cows ricks weathers says words weather kindOf thatch newMowers newCows newRicks newWeathers newSays newWords newWeather newKind newThatch st pasts past aside seen seenWord seenHour keeps kept) 5 [(0, .ref (a 0)), (1, .int x1), (2, .int x2), (3, .int x3), (4, .int x4)] [] := by
    intro st x1 x2 x3 x4   h
    exact xloopW (fun (q : Int32 × Int32) => hk_W p l e jr_M_allOf s m args below meth c A (hk_Zi below args s D A o (wM cI a text letters mowers cows ricks weathers says words weather kindOf thatch newMowers newCows newRicks newWeathers newSays newWords newWeather newKind newThatch st pasts past aside seen seenWord seenHour keeps kept)) 5 D 0 0 (wM cI a text letters mowers cows ricks weathers says words weather kindOf thatch newMowers newCows newRicks newWeathers newSays newWords newWeather newKind newThatch st pasts past aside seen seenWord seenHour keeps kept) 5 [(0, .ref (a 0)), (1, .int x1), (2, .int x2), (3, .int q.1), (4, .int q.2)] []) (fun kh ih q h => B_5 st x1 x2 q.1 q.2 kh  ih  h) N (x3, x4) h
  delta jf_M_allOf at h
  refine hk_iconst (v := 0) hC jd_M_allOf_0 (by decide) ?_
  refine hk_istore_n hC (i := 3) (y := (0 : Int32)) (lv2 := [(3, .int (0 : Int32)), (0, .ref (a 0)), (1, .int x1), (2, .int x2)]) jd_M_allOf_1 rfl rfl (by decide) rfl ?_
  refine hk_iconst (v := 0) hC jd_M_allOf_2 (by decide) ?_
  refine hk_istore hC (i := 4) (y := (0 : Int32)) (lv2 := [(4, .int (0 : Int32)), (3, .int (0 : Int32)), (0, .ref (a 0)), (1, .int x1), (2, .int x2)]) jd_M_allOf_3 rfl (by decide) rfl ?_
  exact hk_lv [2, 3, 4, 1, 0] rfl (L_5 st x1 x2 (0 : Int32) (0 : Int32)   h)
theorem jc_M_allOf (l : Launch) (D : va_G) (cI cF : ClassId) (N : Nat) (a : Nat → Nat)  (text : Nat → Int32) (letters : Int32) (mowers : Int32) (cows : Int32) (ricks : Int32) (weathers : Int32) (says : Nat → Int32) (words : Nat → Int32) (weather : Nat → Int32) (kindOf : Nat → Int32) (thatch : Nat → Int32) (newMowers : Int32) (newCows : Int32) (newRicks : Int32) (newWeathers : Int32) (newSays : Nat → Int32) (newWords : Nat → Int32) (newWeather : Nat → Int32) (newKind : Nat → Int32) (newThatch : Nat → Int32) (st : Nat → Int32) (pasts : Int32) (past : Nat → Int32) (aside : Nat → Int32) (seen : Int32) (seenWord : Nat → Int32) (seenHour : Nat → Int32) (keeps : Int32) (kept : Nat → Int32) (x1 : Int32) (x2 : Int32) {o : Int32} (h : jf_M_allOf N st x1 x2 = some o) : hk_Mi l jy_M_allOf jb_M_allOf 5 (some .int) jr_M_allOf D cI cF (wM cI a text letters mowers cows ricks weathers says words weather kindOf thatch newMowers newCows newRicks newWeathers newSays newWords newWeather newKind newThatch st pasts past aside seen seenWord seenHour keeps kept) [.ref (a 0), .int x1, .int x2] o (wM cI a text letters mowers cows ricks weathers says words weather kindOf thatch newMowers newCows newRicks newWeathers newSays newWords newWeather newKind newThatch st pasts past aside seen seenWord seenHour keeps kept) :=
  hk_metI (by decide) (Nat.le_of_ble_eq_true rfl) rfl rfl (fun p e s m args below meth c A hC hr => jw_M_allOf hC hr N a text letters mowers cows ricks weathers says words weather kindOf thatch newMowers newCows newRicks newWeathers newSays newWords newWeather newKind newThatch st pasts past aside seen seenWord seenHour keeps kept x1 x2 h)
