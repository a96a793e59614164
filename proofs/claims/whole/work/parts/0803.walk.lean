set_option maxHeartbeats 8000000 in
set_option maxRecDepth 100000 in
theorem jw_M_fault {p : Program} {l : Launch} {e : Env} {s : State} {m : MethodId} {args : Array Value} {below : List Frame} {meth : Method} {c : Code} {A : Nat → Prop} {D : va_G} {cI cF : ClassId} (hC : hk_ok p s m args meth c A 3 D cI cF "HayTalkModel" jb_M_fault) (hr : meth.sig.returnType = (some .int)) (N : Nat) (a : Nat → Nat)  (text : Nat → Int32) (letters : Int32) (mowers : Int32) (cows : Int32) (ricks : Int32) (weathers : Int32) (says : Nat → Int32) (words : Nat → Int32) (weather : Nat → Int32) (kindOf : Nat → Int32) (thatch : Nat → Int32) (newMowers : Int32) (newCows : Int32) (newRicks : Int32) (newWeathers : Int32) (newSays : Nat → Int32) (newWords : Nat → Int32) (newWeather : Nat → Int32) (newKind : Nat → Int32) (newThatch : Nat → Int32) (st : Nat → Int32) (pasts : Int32) (past : Nat → Int32) (aside : Nat → Int32) (seen : Int32) (seenWord : Nat → Int32) (seenHour : Nat → Int32) (keeps : Int32) (kept : Nat → Int32)  {o : Int32 × Int32 × Int32 × Int32 × Int32 × (Nat → Int32) × (Nat → Int32) × (Nat → Int32) × (Nat → Int32) × (Nat → Int32)} (h : jf_M_fault N text letters newMowers newCows newRicks newWeathers newSays newWords newWeather newKind newThatch = some o) : hk_W p l e jr_M_fault s m args below meth c A (hk_Zi below args s D A o.1 (wM cI a text letters mowers cows ricks weathers says words weather kindOf thatch o.2.1 o.2.2.1 o.2.2.2.1 o.2.2.2.2.1 o.2.2.2.2.2.1 o.2.2.2.2.2.2.1 o.2.2.2.2.2.2.2.1 o.2.2.2.2.2.2.2.2.1 o.2.2.2.2.2.2.2.2.2 st pasts past aside seen seenWord seenHour keeps kept)) 3 D 0 0 (wM cI a text letters mowers cows ricks weathers says words weather kindOf thatch newMowers newCows newRicks newWeathers newSays newWords newWeather newKind newThatch st pasts past aside seen seenWord seenHour keeps kept) 0 [(0, .ref (a 0))] [] := by
  have B_39 : ∀ (text : Nat → Int32) (letters : Int32) (newMowers : Int32) (newCows : Int32) (newRicks : Int32) (newWeathers : Int32) (newSays : Nat → Int32) (newWords : Nat → Int32) (newWeather : Nat → Int32) (newKind : Nat → Int32) (newThatch : Nat → Int32) (x1 : Int32) (x2 : Int32) (kh39 : (Int32) → Option (Int32 × Int32 × Int32 × Int32 × Int32 × (Nat → Int32) × (Nat → Int32) × (Nat → Int32) × (Nat → Int32) × (Nat → Int32))) (kx64 : (Int32) → Option (Int32 × Int32 × Int32 × Int32 × Int32 × (Nat → Int32) × (Nat → Int32) × (Nat → Int32) × (Nat → Int32) × (Nat → Int32))) (ihh39 : ∀ q, kh39 q = some o → hk_W p l e jr_M_fault s m args below meth c A (hk_Zi below args s D A o.1 (wM cI a text letters mowers cows ricks weathers says words weather kindOf thatch o.2.1 o.2.2.1 o.2.2.2.1 o.2.2.2.2.1 o.2.2.2.2.2.1 o.2.2.2.2.2.2.1 o.2.2.2.2.2.2.2.1 o.2.2.2.2.2.2.2.2.1 o.2.2.2.2.2.2.2.2.2 st pasts past aside seen seenWord seenHour keeps kept)) 3 D 0 0 (wM cI a text letters mowers cows ricks weathers says words weather kindOf thatch newMowers newCows newRicks newWeathers newSays newWords newWeather newKind newThatch st pasts past aside seen seenWord seenHour keeps kept) 39 [(0, .ref (a 0)), (1, .int x1), (2, .int q)] []) (ihx64 : ∀ q, kx64 q = some o → hk_W p l e jr_M_fault s m args below meth c A (hk_Zi below args s D A o.1 (wM cI a text letters mowers cows ricks weathers says words weather kindOf thatch o.2.1 o.2.2.1 o.2.2.2.1 o.2.2.2.2.1 o.2.2.2.2.2.1 o.2.2.2.2.2.2.1 o.2.2.2.2.2.2.2.1 o.2.2.2.2.2.2.2.2.1 o.2.2.2.2.2.2.2.2.2 st pasts past aside seen seenWord seenHour keeps kept)) 3 D 0 0 (wM cI a text letters mowers cows ricks weathers says words weather kindOf thatch newMowers newCows newRicks newWeathers newSays newWords newWeather newKind newThatch st pasts past aside seen seenWord seenHour keeps kept) 64 [(0, .ref (a 0)), (1, .int x1), (2, .int q)] []) (_ : jf_M_fault_39B N text letters newMowers newCows newRicks newWeathers newSays newWords newWeather newKind newThatch x1 x2 kh39 kx64 = some o), hk_W p l e jr_M_fault s m args below meth c A (hk_Zi below args s D A o.1 (wM cI a text letters mowers cows ricks weathers says words weather kindOf thatch o.2.1 o.2.2.1 o.2.2.2.1 o.2.2.2.2.1 o.2.2.2.2.2.1 o.2.2.2.2.2.2.1 o.2.2.2.2.2.2.2.1 o.2.2.2.2.2.2.2.2.1 o.2.2.2.2.2.2.2.2.2 st pasts past aside seen seenWord seenHour keeps kept)) 3 D 0 0 (wM cI a text letters mowers cows ricks weathers says words weather kindOf thatch newMowers newCows newRicks newWeathers newSays newWords newWeather newKind newThatch st pasts past aside seen seenWord seenHour keeps kept) 39 [(0, .ref (a 0)), (1, .int x1), (2, .int x2)] [] := by
    intro text letters newMowers newCows newRicks newWeathers newSays newWords newWeather newKind newThatch x1 x2 kh39 kx64 ihh39 ihx64 h
    delta jf_M_fault_39B at h
    refine hk_iload_n hC jd_M_fault_39 2 rfl ?_
    refine hk_aload_n hC jd_M_fault_40 0 rfl ?_
    refine hk_get hC jk_M 0 rfl 1 (by decide) jq_699 rfl jd_M_fault_41 ?_
    refine hk_icmp_ge (tgt := 64) hC jd_M_fault_44 (by decide) (fun cc1 => ?_) (fun cc1 => ?_)
    · replace h := xi_t h cc1
      exact (ihx64 x2 h)
    · replace h := xi_f h cc1
      refine hk_aload_n hC jd_M_fault_47 0 rfl ?_
      refine hk_get hC jk_M 0 rfl 0 (by decide) jq_698 rfl jd_M_fault_48 ?_
      refine hk_iload_n hC jd_M_fault_51 2 rfl ?_
      have hr1 := xr_in h
      replace h := xr_go h
      refine hk_iald hC 1 rfl hr1 jd_M_fault_52 ?_
      refine hk_bipush (v := 59) hC jd_M_fault_53 (by decide) ?_
      refine hk_icmp_eq (tgt := 64) hC jd_M_fault_55 (by decide) (fun cc2 => ?_) (fun cc2 => ?_)
      · replace h := xi_t h cc2
        exact (ihx64 x2 h)
      · replace h := xi_f h cc2
        obtain ⟨v1, e_v1, h⟩ := xl_go h
        refine hk_iinc hC (lv2 := [(2, .int v1), (0, .ref (a 0)), (1, .int x1)]) jd_M_fault_58 2 rfl e_v1 (by decide) rfl ?_
        refine hk_goto (tgt := 39) hC jd_M_fault_61 (by decide) ?_
        exact hk_lv [1, 2, 0] rfl (ihh39 v1 h)
  have L_39 : ∀ (text : Nat → Int32) (letters : Int32) (newMowers : Int32) (newCows : Int32) (newRicks : Int32) (newWeathers : Int32) (newSays : Nat → Int32) (newWords : Nat → Int32) (newWeather : Nat → Int32) (newKind : Nat → Int32) (newThatch : Nat → Int32) (x1 : Int32) (x2 : Int32) (kx64 : (Int32) → Option (Int32 × Int32 × Int32 × Int32 × Int32 × (Nat → Int32) × (Nat → Int32) × (Nat → Int32) × (Nat → Int32) × (Nat → Int32))) (ihx64 : ∀ q, kx64 q = some o → hk_W p l e jr_M_fault s m args below meth c A (hk_Zi below args s D A o.1 (wM cI a text letters mowers cows ricks weathers says words weather kindOf thatch o.2.1 o.2.2.1 o.2.2.2.1 o.2.2.2.2.1 o.2.2.2.2.2.1 o.2.2.2.2.2.2.1 o.2.2.2.2.2.2.2.1 o.2.2.2.2.2.2.2.2.1 o.2.2.2.2.2.2.2.2.2 st pasts past aside seen seenWord seenHour keeps kept)) 3 D 0 0 (wM cI a text letters mowers cows ricks weathers says words weather kindOf thatch newMowers newCows newRicks newWeathers newSays newWords newWeather newKind newThatch st pasts past aside seen seenWord seenHour keeps kept) 64 [(0, .ref (a 0)), (1, .int x1), (2, .int q)] []) (_ : jf_M_fault_39 N text letters newMowers newCows newRicks newWeathers newSays newWords newWeather newKind newThatch x1 x2 kx64 = some o), hk_W p l e jr_M_fault s m args below meth c A (hk_Zi below args s D A o.1 (wM cI a text letters mowers cows ricks weathers says words weather kindOf thatch o.2.1 o.2.2.1 o.2.2.2.1 o.2.2.2.2.1 o.2.2.2.2.2.1 o.2.2.2.2.2.2.1 o.2.2.2.2.2.2.2.1 o.2.2.2.2.2.2.2.2.1 o.2.2.2.2.2.2.2.2.2 st pasts past aside seen seenWord seenHour keeps kept)) 3 D 0 0 (wM cI a text letters mowers cows ricks weathers says words weather kindOf thatch newMowers newCows newRicks newWeathers newSays newWords newWeather newKind newThatch st pasts past aside seen seenWord seenHour keeps kept) 39 [(0, .ref (a 0)), (1, .int x1), (2, .int x2)] [] := by
    intro text letters newMowers newCows newRicks newWeathers newSays newWords newWeather newKind newThatch x1 x2 kx64 ihx64 h
    exact xloopW (fun (q : Int32) => hk_W p l e jr_M_fault s m args below meth c A (hk_Zi below args s D A o.1 (wM cI a text letters mowers cows ricks weathers says words weather kindOf thatch o.2.1 o.2.2.1 o.2.2.2.1 o.2.2.2.2.1 o.2.2.2.2.2.1 o.2.2.2.2.2.2.1 o.2.2.2.2.2.2.2.1 o.2.2.2.2.2.2.2.2.1 o.2.2.2.2.2.2.2.2.2 st pasts past aside seen seenWord seenHour keeps kept)) 3 D 0 0 (wM cI a text letters mowers cows ricks weathers says words weather kindOf thatch newMowers newCows newRicks newWeathers newSays newWords newWeather newKind newThatch st pasts past aside seen seenWord seenHour keeps kept) 39 [(0, .ref (a 0)), (1, .int x1), (2, .int q)] []) (fun kh ih q h => B_39 text letters newMowers newCows newRicks newWeathers newSays newWords newWeather newKind newThatch x1 q kh kx64 ih ihx64 h) N x2 h
  have B_64 : ∀ (text : Nat → Int32) (letters : Int32) (newMowers : Int32) (newCows : Int32) (newRicks : Int32) (newWeathers : Int32) (newSays : Nat → Int32) (newWords : Nat → Int32) (newWeather : Nat → Int32) (newKind : Nat → Int32) (newThatch : Nat → Int32) (x1 : Int32) (x2 : Int32) (kh29 : (Int32 × Int32 × Int32 × Int32 × (Nat → Int32) × (Nat → Int32) × (Nat → Int32) × (Nat → Int32) × (Nat → Int32) × Int32) → Option (Int32 × Int32 × Int32 × Int32 × Int32 × (Nat → Int32) × (Nat → Int32) × (Nat → Int32) × (Nat → Int32) × (Nat → Int32))) (ihh29 : ∀ q, kh29 q = some o → hk_W p l e jr_M_fault s m args below meth c A (hk_Zi below args s D A o.1 (wM cI a text letters mowers cows ricks weathers says words weather kindOf thatch o.2.1 o.2.2.1 o.2.2.2.1 o.2.2.2.2.1 o.2.2.2.2.2.1 o.2.2.2.2.2.2.1 o.2.2.2.2.2.2.2.1 o.2.2.2.2.2.2.2.2.1 o.2.2.2.2.2.2.2.2.2 st pasts past aside seen seenWord seenHour keeps kept)) 3 D 0 0 (wM cI a text letters mowers cows ricks weathers says words weather kindOf thatch q.1 q.2.1 q.2.2.1 q.2.2.2.1 q.2.2.2.2.1 q.2.2.2.2.2.1 q.2.2.2.2.2.2.1 q.2.2.2.2.2.2.2.1 q.2.2.2.2.2.2.2.2.1 st pasts past aside seen seenWord seenHour keeps kept) 29 [(0, .ref (a 0)), (1, .int q.2.2.2.2.2.2.2.2.2)] []) (_ : jf_M_fault_64 N text letters newMowers newCows newRicks newWeathers newSays newWords newWeather newKind newThatch x1 x2 kh29 = some o), hk_W p l e jr_M_fault s m args below meth c A (hk_Zi below args s D A o.1 (wM cI a text letters mowers cows ricks weathers says words weather kindOf thatch o.2.1 o.2.2.1 o.2.2.2.1 o.2.2.2.2.1 o.2.2.2.2.2.1 o.2.2.2.2.2.2.1 o.2.2.2.2.2.2.2.1 o.2.2.2.2.2.2.2.2.1 o.2.2.2.2.2.2.2.2.2 st pasts past aside seen seenWord seenHour keeps kept)) 3 D 0 0 (wM cI a text letters mowers cows ricks weathers says words weather kindOf thatch newMowers newCows newRicks newWeathers newSays newWords newWeather newKind newThatch st pasts past aside seen seenWord seenHour keeps kept) 64 [(0, .ref (a 0)), (1, .int x1), (2, .int x2)] [] := by
    intro text letters newMowers newCows newRicks newWeathers newSays newWords newWeather newKind newThatch x1 x2 kh29 ihh29 h
    delta jf_M_fault_64 at h
    refine hk_iload_n hC jd_M_fault_64 2 rfl ?_
    refine hk_aload_n hC jd_M_fault_65 0 rfl ?_
    refine hk_get hC jk_M 0 rfl 1 (by decide) jq_699 rfl jd_M_fault_66 ?_
    refine hk_icmp_eq (tgt := 81) hC jd_M_fault_69 (by decide) (fun cc1 => ?_) (fun cc1 => ?_)
    · replace h := xi_t h cc1
      refine hk_iload_n hC jd_M_fault_81 1 rfl ?_
      obtain rfl := Option.some.inj h
      exact hk_iret hC hr jd_M_fault_82 rfl rfl
    · replace h := xi_f h cc1
      refine hk_aload_n hC jd_M_fault_72 0 rfl ?_
      refine hk_iload_n hC jd_M_fault_73 1 rfl ?_
      refine hk_iload_n hC jd_M_fault_74 2 rfl ?_
      obtain ⟨q1, h_q1, h⟩ := xb_go h
      refine hk_callVWi hC (q0 := 0) (jc_M_readItem l D cI cF N a text letters mowers cows ricks weathers says words weather kindOf thatch newMowers newCows newRicks newWeathers newSays newWords newWeather newKind newThatch st pasts past aside seen seenWord seenHour keeps kept x1 x2 h_q1) jl_M_readItem rfl rfl jq_660 jq_662 jq0_14 rfl ⟨by decide, by decide⟩ rfl rfl (Nat.le_of_ble_eq_true rfl) ⟨Nat.zero_le _, Nat.zero_le _⟩ jd_M_fault_75 ?_
      refine hk_if_ne (tgt := 83) hC jd_M_fault_78 (by decide) (fun cc2 => ?_) (fun cc2 => ?_)
      · replace h := xi_f h cc2
        refine hk_iload_n hC jd_M_fault_83 2 rfl ?_
        refine hk_iconst (v := 1) hC jd_M_fault_84 (by decide) ?_
        refine hk_iadd hC jd_M_fault_85 ?_
        obtain ⟨v1, e_v1, h⟩ := xl_go h
        refine hk_istore_n hC (i := 1) (y := v1) (lv2 := [(1, .int v1), (0, .ref (a 0)), (2, .int x2)]) jd_M_fault_86 rfl e_v1 (by decide) rfl ?_
        refine hk_goto (tgt := 29) hC jd_M_fault_87 (by decide) ?_
        exact hk_lv [1, 0] rfl (ihh29 (q1.2.1, q1.2.2.1, q1.2.2.2.1, q1.2.2.2.2.1, q1.2.2.2.2.2.1, q1.2.2.2.2.2.2.1, q1.2.2.2.2.2.2.2.1, q1.2.2.2.2.2.2.2.2.1, q1.2.2.2.2.2.2.2.2.2, v1) h)
      · replace h := xi_t h cc2
        refine hk_iload_n hC jd_M_fault_81 1 rfl ?_
        obtain rfl := Option.some.inj h
        exact hk_iret hC hr jd_M_fault_82 rfl rfl
  have B_29 : ∀ (text : Nat → Int32) (letters : Int32) (newMowers : Int32) (newCows : Int32) (newRicks : Int32) (newWeathers : Int32) (newSays : Nat → Int32) (newWords : Nat → Int32) (newWeather : Nat → Int32) (newKind : Nat → Int32) (newThatch : Nat → Int32) (x1 : Int32) (kh29 : (Int32 × Int32 × Int32 × Int32 × (Nat → Int32) × (Nat → Int32) × (Nat → Int32) × (Nat → Int32) × (Nat → Int32) × Int32) → Option (Int32 × Int32 × Int32 × Int32 × Int32 × (Nat → Int32) × (Nat → Int32) × (Nat → Int32) × (Nat → Int32) × (Nat → Int32))) (ihh29 : ∀ q, kh29 q = some o → hk_W p l e jr_M_fault s m args below meth c A (hk_Zi below args s D A o.1 (wM cI a text letters mowers cows ricks weathers says words weather kindOf thatch o.2.1 o.2.2.1 o.2.2.2.1 o.2.2.2.2.1 o.2.2.2.2.2.1 o.2.2.2.2.2.2.1 o.2.2.2.2.2.2.2.1 o.2.2.2.2.2.2.2.2.1 o.2.2.2.2.2.2.2.2.2 st pasts past aside seen seenWord seenHour keeps kept)) 3 D 0 0 (wM cI a text letters mowers cows ricks weathers says words weather kindOf thatch q.1 q.2.1 q.2.2.1 q.2.2.2.1 q.2.2.2.2.1 q.2.2.2.2.2.1 q.2.2.2.2.2.2.1 q.2.2.2.2.2.2.2.1 q.2.2.2.2.2.2.2.2.1 st pasts past aside seen seenWord seenHour keeps kept) 29 [(0, .ref (a 0)), (1, .int q.2.2.2.2.2.2.2.2.2)] []) (_ : jf_M_fault_29B N text letters newMowers newCows newRicks newWeathers newSays newWords newWeather newKind newThatch x1 kh29 = some o), hk_W p l e jr_M_fault s m args below meth c A (hk_Zi below args s D A o.1 (wM cI a text letters mowers cows ricks weathers says words weather kindOf thatch o.2.1 o.2.2.1 o.2.2.2.1 o.2.2.2.2.1 o.2.2.2.2.2.1 o.2.2.2.2.2.2.1 o.2.2.2.2.2.2.2.1 o.2.2.2.2.2.2.2.2.1 o.2.2.2.2.2.2.2.2.2 st pasts past aside seen seenWord seenHour keeps kept)) 3 D 0 0 (wM cI a text letters mowers cows ricks weathers says words weather kindOf thatch newMowers newCows newRicks newWeathers newSays newWords newWeather newKind newThatch st pasts past aside seen seenWord seenHour keeps kept) 29 [(0, .ref (a 0)), (1, .int x1)] [] := by
    intro text letters newMowers newCows newRicks newWeathers newSays newWords newWeather newKind newThatch x1 kh29 ihh29 h
    delta jf_M_fault_29B at h
    refine hk_iload_n hC jd_M_fault_29 1 rfl ?_
    refine hk_aload_n hC jd_M_fault_30 0 rfl ?_
    refine hk_get hC jk_M 0 rfl 1 (by decide) jq_699 rfl jd_M_fault_31 ?_
    refine hk_icmp_ge (tgt := 90) hC jd_M_fault_34 (by decide) (fun cc1 => ?_) (fun cc1 => ?_)
    · replace h := xi_t h cc1
      refine hk_bipush (v := -4) hC jd_M_fault_90 (by decide) ?_
      obtain rfl := Option.some.inj h
      exact hk_iret hC hr jd_M_fault_92 rfl rfl
    · replace h := xi_f h cc1
      refine hk_iload_n hC jd_M_fault_37 1 rfl ?_
      refine hk_istore_n hC (i := 2) (y := x1) (lv2 := [(2, .int x1), (0, .ref (a 0)), (1, .int x1)]) jd_M_fault_38 rfl rfl (by decide) rfl ?_
      exact hk_lv [1, 2, 0] rfl (L_39 text letters newMowers newCows newRicks newWeathers newSays newWords newWeather newKind newThatch x1 x1 _ (fun q1 h => by exact (B_64 text letters newMowers newCows newRicks newWeathers newSays newWords newWeather newKind newThatch x1 q1 kh29 ihh29 h)) h)
  have L_29 : ∀ (text : Nat → Int32) (letters : Int32) (newMowers : Int32) (newCows : Int32) (newRicks : Int32) (newWeathers : Int32) (newSays : Nat → Int32) (newWords : Nat → Int32) (newWeather : Nat → Int32) (newKind : Nat → Int32) (newThatch : Nat → Int32) (x1 : Int32)   (_ : jf_M_fault_29 N text letters newMowers newCows newRicks newWeathers newSays newWords newWeather newKind newThatch x1  = some o), hk_W p l e jr_M_fault s m args below meth c A (hk_Zi below args s D A o.1 (wM cI a text letters mowers cows ricks weathers says words weather kindOf thatch o.2.1 o.2.2.1 o.2.2.2.1 o.2.2.2.2.1 o.2.2.2.2.2.1 o.2.2.2.2.2.2.1 o.2.2.2.2.2.2.2.1 o.2.2.2.2.2.2.2.2.1 o.2.2.2.2.2.2.2.2.2 st pasts past aside seen seenWord seenHour keeps kept)) 3 D 0 0 (wM cI a text letters mowers cows ricks weathers says words weather kindOf thatch newMowers newCows newRicks newWeathers newSays newWords newWeather newKind newThatch st pasts past aside seen seenWord seenHour keeps kept) 29 [(0, .ref (a 0)), (1, .int x1)] [] := by
    intro text letters newMowers newCows newRicks newWeathers newSays newWords newWeather newKind newThatch x1   h
    exact xloopW (fun (q : Int32 × Int32 × Int32 × Int32 × (Nat → Int32) × (Nat → Int32) × (Nat → Int32) × (Nat → Int32) × (Nat → Int32) × Int32) => hk_W p l e jr_M_fault s m args below meth c A (hk_Zi below args s D A o.1 (wM cI a text letters mowers cows ricks weathers says words weather kindOf thatch o.2.1 o.2.2.1 o.2.2.2.1 o.2.2.2.2.1 o.2.2.2.2.2.1 o.2.2.2.2.2.2.1 o.2.2.2.2.2.2.2.1 o.2.2.2.2.2.2.2.2.1 o.2.2.2.2.2.2.2.2.2 st pasts past aside seen seenWord seenHour keeps kept)) 3 D 0 0 (wM cI a text letters mowers cows ricks weathers says words weather kindOf thatch q.1 q.2.1 q.2.2.1 q.2.2.2.1 q.2.2.2.2.1 q.2.2.2.2.2.1 q.2.2.2.2.2.2.1 q.2.2.2.2.2.2.2.1 q.2.2.2.2.2.2.2.2.1 st pasts past aside seen seenWord seenHour keeps kept) 29 [(0, .ref (a 0)), (1, .int q.2.2.2.2.2.2.2.2.2)] []) (fun kh ih q h => B_29 text letters q.1 q.2.1 q.2.2.1 q.2.2.2.1 q.2.2.2.2.1 q.2.2.2.2.2.1 q.2.2.2.2.2.2.1 q.2.2.2.2.2.2.2.1 q.2.2.2.2.2.2.2.2.1 q.2.2.2.2.2.2.2.2.2 kh  ih  h) N (newMowers, newCows, newRicks, newWeathers, newSays, newWords, newWeather, newKind, newThatch, x1) h
  delta jf_M_fault at h
  refine hk_aload_n hC jd_M_fault_0 0 rfl ?_
  refine hk_iconst (v := 0) hC jd_M_fault_1 (by decide) ?_
  refine hk_put hC jk_M 0 rfl 11 (by decide) jq_709 rfl rfl rfl (Nat.le_of_ble_eq_true rfl) (ws2 := (wM cI a text letters mowers cows ricks weathers says words weather kindOf thatch (0 : Int32) newCows newRicks newWeathers newSays newWords newWeather newKind newThatch st pasts past aside seen seenWord seenHour keeps kept)) rfl jd_M_fault_2 ?_
  refine hk_aload_n hC jd_M_fault_5 0 rfl ?_
  refine hk_iconst (v := 0) hC jd_M_fault_6 (by decide) ?_
  refine hk_put hC jk_M 0 rfl 12 (by decide) jq_710 rfl rfl rfl (Nat.le_of_ble_eq_true rfl) (ws2 := (wM cI a text letters mowers cows ricks weathers says words weather kindOf thatch (0 : Int32) (0 : Int32) newRicks newWeathers newSays newWords newWeather newKind newThatch st pasts past aside seen seenWord seenHour keeps kept)) rfl jd_M_fault_7 ?_
  refine hk_aload_n hC jd_M_fault_10 0 rfl ?_
  refine hk_iconst (v := 0) hC jd_M_fault_11 (by decide) ?_
  refine hk_put hC jk_M 0 rfl 13 (by decide) jq_711 rfl rfl rfl (Nat.le_of_ble_eq_true rfl) (ws2 := (wM cI a text letters mowers cows ricks weathers says words weather kindOf thatch (0 : Int32) (0 : Int32) (0 : Int32) newWeathers newSays newWords newWeather newKind newThatch st pasts past aside seen seenWord seenHour keeps kept)) rfl jd_M_fault_12 ?_
  refine hk_aload_n hC jd_M_fault_15 0 rfl ?_
  refine hk_iconst (v := 1) hC jd_M_fault_16 (by decide) ?_
  refine hk_put hC jk_M 0 rfl 14 (by decide) jq_712 rfl rfl rfl (Nat.le_of_ble_eq_true rfl) (ws2 := (wM cI a text letters mowers cows ricks weathers says words weather kindOf thatch (0 : Int32) (0 : Int32) (0 : Int32) (1 : Int32) newSays newWords newWeather newKind newThatch st pasts past aside seen seenWord seenHour keeps kept)) rfl jd_M_fault_17 ?_
  refine hk_aload_n hC jd_M_fault_20 0 rfl ?_
  refine hk_get hC jk_M 0 rfl 17 (by decide) jq_715 rfl jd_M_fault_21 ?_
  refine hk_iconst (v := 0) hC jd_M_fault_24 (by decide) ?_
  refine hk_iconst (v := 0) hC jd_M_fault_25 (by decide) ?_
  have hr1 := xr_in h
  replace h := xr_go h
  obtain ⟨z1, e_z1, h⟩ := xl_go h
  refine hk_iast hC 9 rfl hr1 e_z1 (ws2 := (wM cI a text letters mowers cows ricks weathers says words weather kindOf thatch (0 : Int32) (0 : Int32) (0 : Int32) (1 : Int32) newSays newWords z1 newKind newThatch st pasts past aside seen seenWord seenHour keeps kept)) rfl jd_M_fault_26 ?_
  refine hk_iconst (v := 0) hC jd_M_fault_27 (by decide) ?_
  refine hk_istore_n hC (i := 1) (y := (0 : Int32)) (lv2 := [(1, .int (0 : Int32)), (0, .ref (a 0))]) jd_M_fault_28 rfl rfl (by decide) rfl ?_
  exact hk_lv [1, 0] rfl (L_29 text letters (0 : Int32) (0 : Int32) (0 : Int32) (1 : Int32) newSays newWords z1 newKind newThatch (0 : Int32)   h)
theorem jc_M_fault (l : Launch) (D : va_G) (cI cF : ClassId) (N : Nat) (a : Nat → Nat)  (text : Nat → Int32) (letters : Int32) (mowers : Int32) (cows : Int32) (ricks : Int32) (weathers : Int32) (says : Nat → Int32) (words : Nat → Int32) (weather : Nat → Int32) (kindOf : Nat → Int32) (thatch : Nat → Int32) (newMowers : Int32) (newCows : Int32) (newRicks : Int32) (newWeathers : Int32) (newSays : Nat → Int32) (newWords : Nat → Int32) (newWeather : Nat → Int32) (newKind : Nat → Int32) (newThatch : Nat → Int32) (st : Nat → Int32) (pasts : Int32) (past : Nat → Int32) (aside : Nat → Int32) (seen : Int32) (seenWord : Nat → Int32) (seenHour : Nat → Int32) (keeps : Int32) (kept : Nat → Int32)  {o : Int32 × Int32 × Int32 × Int32 × Int32 × (Nat → Int32) × (Nat → Int32) × (Nat → Int32) × (Nat → Int32) × (Nat → Int32)} (h : jf_M_fault N text letters newMowers newCows newRicks newWeathers newSays newWords newWeather newKind newThatch = some o) : hk_Mi l jy_M_fault jb_M_fault 3 (some .int) jr_M_fault D cI cF (wM cI a text letters mowers cows ricks weathers says words weather kindOf thatch newMowers newCows newRicks newWeathers newSays newWords newWeather newKind newThatch st pasts past aside seen seenWord seenHour keeps kept) [.ref (a 0)] o.1 (wM cI a text letters mowers cows ricks weathers says words weather kindOf thatch o.2.1 o.2.2.1 o.2.2.2.1 o.2.2.2.2.1 o.2.2.2.2.2.1 o.2.2.2.2.2.2.1 o.2.2.2.2.2.2.2.1 o.2.2.2.2.2.2.2.2.1 o.2.2.2.2.2.2.2.2.2 st pasts past aside seen seenWord seenHour keeps kept) :=
  hk_metI (by decide) (Nat.le_of_ble_eq_true rfl) rfl rfl (fun p e s m args below meth c A hC hr => jw_M_fault hC hr N a text letters mowers cows ricks weathers says words weather kindOf thatch newMowers newCows newRicks newWeathers newSays newWords newWeather newKind newThatch st pasts past aside seen seenWord seenHour keeps kept h)
set_option maxHeartbeats 8000000 in
set_option maxRecDepth 100000 in
theorem jw_M_take {p : Program} {l : Launch} {e : Env} {s : State} {m : MethodId} {args : Array Value} {below : List Frame} {meth : Method} {c : Code} {A : Nat → Prop} {D : va_G} {cI cF : ClassId} (hC : hk_ok p s m args meth c A 3 D cI cF "HayTalkModel" jb_M_take) (hr : meth.sig.returnType = none) (N : Nat) (w0 : Nat → Nat) (w1 : Nat → Nat) (n0 : Nat) (n1 : Nat) (u0 : Nat → Int32) (u1 : Nat → Int32)  {o : (Nat → Int32)} (h : jf_M_take N n0 n1 u0 u1 = some o) : hk_W p l e jr_M_take s m args below meth c A (hk_Zv below args s D A ((wA cI w0 n0 o) ++ (wA cI w1 n1 u1))) 3 D 0 0 ((wA cI w0 n0 u0) ++ (wA cI w1 n1 u1)) 0 [(0, .ref (w0 0)), (1, .ref (w1 0))] [] := by
  have B_2 : ∀ (n0 : Nat) (n1 : Nat) (u0 : Nat → Int32) (u1 : Nat → Int32) (x2 : Int32) (kh2 : ((Nat → Int32) × Int32) → Option ((Nat → Int32))) (ihh2 : ∀ q, kh2 q = some o → hk_W p l e jr_M_take s m args below meth c A (hk_Zv below args s D A ((wA cI w0 n0 o) ++ (wA cI w1 n1 u1))) 3 D 0 0 ((wA cI w0 n0 q.1) ++ (wA cI w1 n1 u1)) 2 [(0, .ref (w0 0)), (1, .ref (w1 0)), (2, .int q.2)] []) (_ : jf_M_take_2B N n0 n1 u0 u1 x2 kh2 = some o), hk_W p l e jr_M_take s m args below meth c A (hk_Zv below args s D A ((wA cI w0 n0 o) ++ (wA cI w1 n1 u1))) 3 D 0 0 ((wA cI w0 n0 u0) ++ (wA cI w1 n1 u1)) 2 [(0, .ref (w0 0)), (1, .ref (w1 0)), (2, .int x2)] [] := by
    intro n0 n1 u0 u1 x2 kh2 ihh2 h
    delta jf_M_take_2B at h
    refine hk_iload_n hC jd_M_take_2 2 rfl ?_
    refine hk_aload_n hC jd_M_take_3 0 rfl ?_
    refine hk_alen hC 0 rfl jd_M_take_4 ?_
    refine hk_icmp_ge (tgt := 20) hC jd_M_take_5 (by decide) (fun cc1 => ?_) (fun cc1 => ?_)
    · replace h := xi_t h cc1
      obtain rfl := Option.some.inj h
      exact hk_vret hC hr jd_M_take_20 rfl
    · replace h := xi_f h cc1
      refine hk_aload_n hC jd_M_take_8 0 rfl ?_
      refine hk_iload_n hC jd_M_take_9 2 rfl ?_
      refine hk_aload_n hC jd_M_take_10 1 rfl ?_
      refine hk_iload_n hC jd_M_take_11 2 rfl ?_
      have hr1 := xr_in h
      replace h := xr_go h
      refine hk_iald hC 1 rfl hr1 jd_M_take_12 ?_
      have hr2 := xr_in h
      replace h := xr_go h
      obtain ⟨z1, e_z1, h⟩ := xl_go h
      refine hk_iast hC 0 rfl hr2 e_z1 (ws2 := ((wA cI w0 n0 z1) ++ (wA cI w1 n1 u1))) rfl jd_M_take_13 ?_
      obtain ⟨v1, e_v1, h⟩ := xl_go h
      refine hk_iinc hC (lv2 := [(2, .int v1), (0, .ref (w0 0)), (1, .ref (w1 0))]) jd_M_take_14 2 rfl e_v1 (by decide) rfl ?_
      refine hk_goto (tgt := 2) hC jd_M_take_17 (by decide) ?_
      exact hk_lv [1, 2, 0] rfl (ihh2 (z1, v1) h)
  have L_2 : ∀ (n0 : Nat) (n1 : Nat) (u0 : Nat → Int32) (u1 : Nat → Int32) (x2 : Int32)   (_ : jf_M_take_2 N n0 n1 u0 u1 x2  = some o), hk_W p l e jr_M_take s m args below meth c A (hk_Zv below args s D A ((wA cI w0 n0 o) ++ (wA cI w1 n1 u1))) 3 D 0 0 ((wA cI w0 n0 u0) ++ (wA cI w1 n1 u1)) 2 [(0, .ref (w0 0)), (1, .ref (w1 0)), (2, .int x2)] [] := by
    intro n0 n1 u0 u1 x2   h
    exact xloopW (fun (q : (Nat → Int32) × Int32) => hk_W p l e jr_M_take s m args below meth c A (hk_Zv below args s D A ((wA cI w0 n0 o) ++ (wA cI w1 n1 u1))) 3 D 0 0 ((wA cI w0 n0 q.1) ++ (wA cI w1 n1 u1)) 2 [(0, .ref (w0 0)), (1, .ref (w1 0)), (2, .int q.2)] []) (fun kh ih q h => B_2 n0 n1 q.1 u1 q.2 kh  ih  h) N (u0, x2) h
  delta jf_M_take at h
  refine hk_iconst (v := 0) hC jd_M_take_0 (by decide) ?_
  refine hk_istore_n hC (i := 2) (y := (0 : Int32)) (lv2 := [(2, .int (0 : Int32)), (0, .ref (w0 0)), (1, .ref (w1 0))]) jd_M_take_1 rfl rfl (by decide) rfl ?_
  exact hk_lv [1, 2, 0] rfl (L_2 n0 n1 u0 u1 (0 : Int32)   h)
theorem jc_M_take (l : Launch) (D : va_G) (cI cF : ClassId) (N : Nat) (w0 : Nat → Nat) (w1 : Nat → Nat) (n0 : Nat) (n1 : Nat) (u0 : Nat → Int32) (u1 : Nat → Int32)  {o : (Nat → Int32)} (h : jf_M_take N n0 n1 u0 u1 = some o) : hk_Mv l jy_M_take jb_M_take 3 jr_M_take D cI cF ((wA cI w0 n0 u0) ++ (wA cI w1 n1 u1)) [.ref (w0 0), .ref (w1 0)] ((wA cI w0 n0 o) ++ (wA cI w1 n1 u1)) :=
  hk_metV (by decide) (Nat.le_of_ble_eq_true rfl) rfl rfl (fun p e s m args below meth c A hC hr => jw_M_take hC hr N w0 w1 n0 n1 u0 u1 h)
set_option maxHeartbeats 8000000 in
set_option maxRecDepth 100000 in
theorem jw_M_lay {p : Program} {l : Launch} {e : Env} {s : State} {m : MethodId} {args : Array Value} {below : List Frame} {meth : Method} {c : Code} {A : Nat → Prop} {D : va_G} {cI cF : ClassId} (hC : hk_ok p s m args meth c A 2 D cI cF "HayTalkModel" jb_M_lay) (hr : meth.sig.returnType = (some .int)) (N : Nat) (a : Nat → Nat)  (text : Nat → Int32) (letters : Int32) (mowers : Int32) (cows : Int32) (ricks : Int32) (weathers : Int32) (says : Nat → Int32) (words : Nat → Int32) (weather : Nat → Int32) (kindOf : Nat → Int32) (thatch : Nat → Int32) (newMowers : Int32) (newCows : Int32) (newRicks : Int32) (newWeathers : Int32) (newSays : Nat → Int32) (newWords : Nat → Int32) (newWeather : Nat → Int32) (newKind : Nat → Int32) (newThatch : Nat → Int32) (st : Nat → Int32) (pasts : Int32) (past : Nat → Int32) (aside : Nat → Int32) (seen : Int32) (seenWord : Nat → Int32) (seenHour : Nat → Int32) (keeps : Int32) (kept : Nat → Int32)  {o : Int32 × Int32 × Int32 × Int32 × Int32 × (Nat → Int32) × (Nat → Int32) × (Nat → Int32) × (Nat → Int32) × (Nat → Int32) × Int32 × Int32 × Int32 × Int32 × (Nat → Int32) × (Nat → Int32) × (Nat → Int32) × (Nat → Int32) × (Nat → Int32) × (Nat → Int32) × Int32 × Int32 × Int32} (h : jf_M_lay N text letters mowers cows ricks weathers says words weather kindOf thatch newMowers newCows newRicks newWeathers newSays newWords newWeather newKind newThatch st pasts seen keeps = some o) : hk_W p l e jr_M_lay s m args below meth c A (hk_Zi below args s D A o.1 (wM cI a text letters o.2.1 o.2.2.1 o.2.2.2.1 o.2.2.2.2.1 o.2.2.2.2.2.1 o.2.2.2.2.2.2.1 o.2.2.2.2.2.2.2.1 o.2.2.2.2.2.2.2.2.1 o.2.2.2.2.2.2.2.2.2.1 o.2.2.2.2.2.2.2.2.2.2.1 o.2.2.2.2.2.2.2.2.2.2.2.1 o.2.2.2.2.2.2.2.2.2.2.2.2.1 o.2.2.2.2.2.2.2.2.2.2.2.2.2.1 o.2.2.2.2.2.2.2.2.2.2.2.2.2.2.1 o.2.2.2.2.2.2.2.2.2.2.2.2.2.2.2.1 o.2.2.2.2.2.2.2.2.2.2.2.2.2.2.2.2.1 o.2.2.2.2.2.2.2.2.2.2.2.2.2.2.2.2.2.1 o.2.2.2.2.2.2.2.2.2.2.2.2.2.2.2.2.2.2.1 o.2.2.2.2.2.2.2.2.2.2.2.2.2.2.2.2.2.2.2.1 o.2.2.2.2.2.2.2.2.2.2.2.2.2.2.2.2.2.2.2.2.1 past aside o.2.2.2.2.2.2.2.2.2.2.2.2.2.2.2.2.2.2.2.2.2.1 seenWord seenHour o.2.2.2.2.2.2.2.2.2.2.2.2.2.2.2.2.2.2.2.2.2.2 kept)) 2 D 0 0 (wM cI a text letters mowers cows ricks weathers says words weather kindOf thatch newMowers newCows newRicks newWeathers newSays newWords newWeather newKind newThatch st pasts past aside seen seenWord seenHour keeps kept) 0 [(0, .ref (a 0))] [] := by
  have B_120 : ∀ (text : Nat → Int32) (letters : Int32) (mowers : Int32) (cows : Int32) (ricks : Int32) (weathers : Int32) (says : Nat → Int32) (words : Nat → Int32) (weather : Nat → Int32) (kindOf : Nat → Int32) (thatch : Nat → Int32) (newMowers : Int32) (newCows : Int32) (newRicks : Int32) (newWeathers : Int32) (newSays : Nat → Int32) (newWords : Nat → Int32) (newWeather : Nat → Int32) (newKind : Nat → Int32) (newThatch : Nat → Int32) (st : Nat → Int32) (pasts : Int32) (seen : Int32) (keeps : Int32) (x1 : Int32) (kh120 : ((Nat → Int32) × Int32) → Option (Int32 × Int32 × Int32 × Int32 × Int32 × (Nat → Int32) × (Nat → Int32) × (Nat → Int32) × (Nat → Int32) × (Nat → Int32) × Int32 × Int32 × Int32 × Int32 × (Nat → Int32) × (Nat → Int32) × (Nat → Int32) × (Nat → Int32) × (Nat → Int32) × (Nat → Int32) × Int32 × Int32 × Int32)) (kx139 : ((Nat → Int32)) → Option (Int32 × Int32 × Int32 × Int32 × Int32 × (Nat → Int32) × (Nat → Int32) × (Nat → Int32) × (Nat → Int32) × (Nat → Int32) × Int32 × Int32 × Int32 × Int32 × (Nat → Int32) × (Nat → Int32) × (Nat → Int32) × (Nat → Int32) × (Nat → Int32) × (Nat → Int32) × Int32 × Int32 × Int32)) (ihh120 : ∀ q, kh120 q = some o → hk_W p l e jr_M_lay s m args below meth c A (hk_Zi below args s D A o.1 (wM cI a text letters o.2.1 o.2.2.1 o.2.2.2.1 o.2.2.2.2.1 o.2.2.2.2.2.1 o.2.2.2.2.2.2.1 o.2.2.2.2.2.2.2.1 o.2.2.2.2.2.2.2.2.1 o.2.2.2.2.2.2.2.2.2.1 o.2.2.2.2.2.2.2.2.2.2.1 o.2.2.2.2.2.2.2.2.2.2.2.1 o.2.2.2.2.2.2.2.2.2.2.2.2.1 o.2.2.2.2.2.2.2.2.2.2.2.2.2.1 o.2.2.2.2.2.2.2.2.2.2.2.2.2.2.1 o.2.2.2.2.2.2.2.2.2.2.2.2.2.2.2.1 o.2.2.2.2.2.2.2.2.2.2.2.2.2.2.2.2.1 o.2.2.2.2.2.2.2.2.2.2.2.2.2.2.2.2.2.1 o.2.2.2.2.2.2.2.2.2.2.2.2.2.2.2.2.2.2.1 o.2.2.2.2.2.2.2.2.2.2.2.2.2.2.2.2.2.2.2.1 o.2.2.2.2.2.2.2.2.2.2.2.2.2.2.2.2.2.2.2.2.1 past aside o.2.2.2.2.2.2.2.2.2.2.2.2.2.2.2.2.2.2.2.2.2.1 seenWord seenHour o.2.2.2.2.2.2.2.2.2.2.2.2.2.2.2.2.2.2.2.2.2.2 kept)) 2 D 0 0 (wM cI a text letters mowers cows ricks weathers says words weather kindOf thatch newMowers newCows newRicks newWeathers newSays newWords newWeather newKind newThatch q.1 pasts past aside seen seenWord seenHour keeps kept) 120 [(0, .ref (a 0)), (1, .int q.2)] []) (ihx139 : ∀ q, kx139 q = some o → hk_W p l e jr_M_lay s m args below meth c A (hk_Zi below args s D A o.1 (wM cI a text letters o.2.1 o.2.2.1 o.2.2.2.1 o.2.2.2.2.1 o.2.2.2.2.2.1 o.2.2.2.2.2.2.1 o.2.2.2.2.2.2.2.1 o.2.2.2.2.2.2.2.2.1 o.2.2.2.2.2.2.2.2.2.1 o.2.2.2.2.2.2.2.2.2.2.1 o.2.2.2.2.2.2.2.2.2.2.2.1 o.2.2.2.2.2.2.2.2.2.2.2.2.1 o.2.2.2.2.2.2.2.2.2.2.2.2.2.1 o.2.2.2.2.2.2.2.2.2.2.2.2.2.2.1 o.2.2.2.2.2.2.2.2.2.2.2.2.2.2.2.1 o.2.2.2.2.2.2.2.2.2.2.2.2.2.2.2.2.1 o.2.2.2.2.2.2.2.2.2.2.2.2.2.2.2.2.2.1 o.2.2.2.2.2.2.2.2.2.2.2.2.2.2.2.2.2.2.1 o.2.2.2.2.2.2.2.2.2.2.2.2.2.2.2.2.2.2.2.1 o.2.2.2.2.2.2.2.2.2.2.2.2.2.2.2.2.2.2.2.2.1 past aside o.2.2.2.2.2.2.2.2.2.2.2.2.2.2.2.2.2.2.2.2.2.1 seenWord seenHour o.2.2.2.2.2.2.2.2.2.2.2.2.2.2.2.2.2.2.2.2.2.2 kept)) 2 D 0 0 (wM cI a text letters mowers cows ricks weathers says words weather kindOf thatch newMowers newCows newRicks newWeathers newSays newWords newWeather newKind newThatch q pasts past aside seen seenWord seenHour keeps kept) 139 [(0, .ref (a 0))] []) (_ : jf_M_lay_120B N text letters mowers cows ricks weathers says words weather kindOf thatch newMowers newCows newRicks newWeathers newSays newWords newWeather newKind newThatch st pasts seen keeps x1 kh120 kx139 = some o), hk_W p l e jr_M_lay s m args below meth c A (hk_Zi below args s D A o.1 (wM cI a text letters o.2.1 o.2.2.1 o.2.2.2.1 o.2.2.2.2.1 o.2.2.2.2.2.1 o.2.2.2.2.2.2.1 o.2.2.2.2.2.2.2.1 o.2.2.2.2.2.2.2.2.1 o.2.2.2.2.2.2.2.2.2.1 o.2.2.2.2.2.2.2.2.2.2.1 o.2.2.2.2.2.2.2.2.2.2.2.1 o.2.2.2.2.2.2.2.2.2.2.2.2.1 o.2.2.2.2.2.2.2.2.2.2.2.2.2.1 o.2.2.2.2.2.2.2.2.2.2.2.2.2.2.1 o.2.2.2.2.2.2.2.2.2.2.2.2.2.2.2.1 o.2.2.2.2.2.2.2.2.2.2.2.2.2.2.2.2.1 o.2.2.2.2.2.2.2.2.2.2.2.2.2.2.2.2.2.1 o.2.2.2.2.2.2.2.2.2.2.2.2.2.2.2.2.2.2.1 o.2.2.2.2.2.2.2.2.2.2.2.2.2.2.2.2.2.2.2.1 o.2.2.2.2.2.2.2.2.2.2.2.2.2.2.2.2.2.2.2.2.1 past aside o.2.2.2.2.2.2.2.2.2.2.2.2.2.2.2.2.2.2.2.2.2.1 seenWord seenHour o.2.2.2.2.2.2.2.2.2.2.2.2.2.2.2.2.2.2.2.2.2.2 kept)) 2 D 0 0 (wM cI a text letters mowers cows ricks weathers says words weather kindOf thatch newMowers newCows newRicks newWeathers newSays newWords newWeather newKind newThatch st pasts past aside seen seenWord seenHour keeps kept) 120 [(0, .ref (a 0)), (1, .int x1)] [] := by
    intro text letters mowers cows ricks weathers says words weather kindOf thatch newMowers newCows newRicks newWeathers newSays newWords newWeather newKind newThatch st pasts seen keeps x1 kh120 kx139 ihh120 ihx139 h
    delta jf_M_lay_120B at h
    refine hk_iload_n hC jd_M_lay_120 1 rfl ?_
    refine hk_bipush (v := 93) hC jd_M_lay_121 (by decide) ?_
    refine hk_icmp_ge (tgt := 139) hC jd_M_lay_123 (by decide) (fun cc1 => ?_) (fun cc1 => ?_)
    · replace h := xi_t h cc1
      exact hk_lv [0] rfl (ihx139 st h)
    · replace h := xi_f h cc1
      refine hk_aload_n hC jd_M_lay_126 0 rfl ?_
      refine hk_get hC jk_M 0 rfl 20 (by decide) jq_718 rfl jd_M_lay_127 ?_
      refine hk_iload_n hC jd_M_lay_130 1 rfl ?_
      refine hk_iconst (v := 0) hC jd_M_lay_131 (by decide) ?_
      have hr1 := xr_in h
      replace h := xr_go h
      obtain ⟨z1, e_z1, h⟩ := xl_go h
      refine hk_iast hC 12 rfl hr1 e_z1 (ws2 := (wM cI a text letters mowers cows ricks weathers says words weather kindOf thatch newMowers newCows newRicks newWeathers newSays newWords newWeather newKind newThatch z1 pasts past aside seen seenWord seenHour keeps kept)) rfl jd_M_lay_132 ?_
      obtain ⟨v1, e_v1, h⟩ := xl_go h
      refine hk_iinc hC (lv2 := [(1, .int v1), (0, .ref (a 0))]) jd_M_lay_133 1 rfl e_v1 (by decide) rfl ?_
      refine hk_goto (tgt := 120) hC jd_M_lay_136 (by decide) ?_
      exact hk_lv [1, 0] rfl (ihh120 (z1, v1) h)
  have L_120 : ∀ (text : Nat → Int32) (letters : Int32) (mowers : Int32) (cows : Int32) (ricks : Int32) (weathers : Int32) (says : Nat → Int32) (words : Nat → Int32) (weather : Nat → Int32) (kindOf : Nat → Int32) (thatch : Nat → Int32) (newMowers : Int32) (newCows : Int32) (newRicks : Int32) (newWeathers : Int32) (newSays : Nat → Int32) (newWords : Nat → Int32) (newWeather : Nat → Int32) (newKind : Nat → Int32) (newThatch : Nat → Int32) (st : Nat → Int32) (pasts : Int32) (seen : Int32) (keeps : Int32) (x1 : Int32) (kx139 : ((Nat → Int32)) → Option (Int32 × Int32 × Int32 × Int32 × Int32 × (Nat → Int32) × (Nat → Int32) × (Nat → Int32) × (Nat → Int32) × (Nat → Int32) × Int32 × Int32 × Int32 × Int32 × (Nat → Int32) × (Nat → Int32) × (Nat → Int32) × (Nat → Int32) × (Nat → Int32) × (Nat → Int32) × Int32 × Int32 × Int32)) (ihx139 : ∀ q, kx139 q = some o → hk_W p l e jr_M_lay s m args below meth c A (hk_Zi below args s D A o.1 (wM cI a text letters o.2.1 o.2.2.1 o.2.2.2.1 o.2.2.2.2.1 o.2.2.2.2.2.1 o.2.2.2.2.2.2.1 o.2.2.2.2.2.2.2.1 o.2.2.2.2.2.2.2.2.1 o.2.2.2.2.2.2.2.2.2.1 o.2.2.2.2.2.2.2.2.2.2.1 o.2.2.2.2.2.2.2.2.2.2.2.1 o.2.2.2.2.2.2.2.2.2.2.2.2.1 o.2.2.2.2.2.2.2.2.2.2.2.2.2.1 o.2.2.2.2.2.2.2.2.2.2.2.2.2.2.1 o.2.2.2.2.2.2.2.2.2.2.2.2.2.2.2.1 o.2.2.2.2.2.2.2.2.2.2.2.2.2.2.2.2.1 o.2.2.2.2.2.2.2.2.2.2.2.2.2.2.2.2.2.1 o.2.2.2.2.2.2.2.2.2.2.2.2.2.2.2.2.2.2.1 o.2.2.2.2.2.2.2.2.2.2.2.2.2.2.2.2.2.2.2.1 o.2.2.2.2.2.2.2.2.2.2.2.2.2.2.2.2.2.2.2.2.1 past aside o.2.2.2.2.2.2.2.2.2.2.2.2.2.2.2.2.2.2.2.2.2.1 seenWord seenHour o.2.2.2.2.2.2.2.2.2.2.2.2.2.2.2.2.2.2.2.2.2.2 kept)) 2 D 0 0 (wM cI a text letters mowers cows ricks weathers says words weather kindOf thatch newMowers newCows newRicks newWeathers newSays newWords newWeather newKind newThatch q pasts past aside seen seenWord seenHour keeps kept) 139 [(0, .ref (a 0))] []) (_ : jf_M_lay_120 N text letters mowers cows ricks weathers says words weather kindOf thatch newMowers newCows newRicks newWeathers newSays newWords newWeather newKind newThatch st pasts seen keeps x1 kx139 = some o), hk_W p l e jr_M_lay s m args below meth c A (hk_Zi below args s D A o.1 (wM cI a text letters o.2.1 o.2.2.1 o.2.2.2.1 o.2.2.2.2.1 o.2.2.2.2.2.1 o.2.2.2.2.2.2.1 o.2.2.2.2.2.2.2.1 o.2.2.2.2.2.2.2.2.1 o.2.2.2.2.2.2.2.2.2.1 o.2.2.2.2.2.2.2.2.2.2.1 o.2.2.2.2.2.2.2.2.2.2.2.1 o.2.2.2.2.2.2.2.2.2.2.2.2.1 o.2.2.2.2.2.2.2.2.2.2.2.2.2.1 o.2.2.2.2.2.2.2.2.2.2.2.2.2.2.1 o.2.2.2.2.2.2.2.2.2.2.2.2.2.2.2.1 o.2.2.2.2.2.2.2.2.2.2.2.2.2.2.2.2.1 o.2.2.2.2.2.2.2.2.2.2.2.2.2.2.2.2.2.1 o.2.2.2.2.2.2.2.2.2.2.2.2.2.2.2.2.2.2.1 o.2.2.2.2.2.2.2.2.2.2.2.2.2.2.2.2.2.2.2.1 o.2.2.2.2.2.2.2.2.2.2.2.2.2.2.2.2.2.2.2.2.1 past aside o.2.2.2.2.2.2.2.2.2.2.2.2.2.2.2.2.2.2.2.2.2.1 seenWord seenHour o.2.2.2.2.2.2.2.2.2.2.2.2.2.2.2.2.2.2.2.2.2.2 kept)) 2 D 0 0 (wM cI a text letters mowers cows ricks weathers says words weather kindOf thatch newMowers newCows newRicks newWeathers newSays newWords newWeather newKind newThatch st pasts past aside seen seenWord seenHour keeps kept) 120 [(0, .ref (a 0)), (1, .int x1)] [] := by
    intro text letters mowers cows ricks weathers says words weather kindOf thatch newMowers newCows newRicks newWeathers newSays newWords newWeather newKind newThatch st pasts seen keeps x1 kx139 ihx139 h
    exact xloopW (fun (q : (Nat → Int32) × Int32) => hk_W p l e jr_M_lay s m args below meth c A (hk_Zi below args s D A o.1 (wM cI a text letters o.2.1 o.2.2.1 o.2.2.2.1 o.2.2.2.2.1 o.2.2.2.2.2.1 o.2.2.2.2.2.2.1 o.2.2.2.2.2.2.2.1 o.2.2.2.2.2.2.2.2.1 o.2.2.2.2.2.2.2.2.2.1 o.2.2.2.2.2.2.2.2.2.2.1 o.2.2.2.2.2.2.2.2.2.2.2.1 o.2.2.2.2.2.2.2.2.2.2.2.2.1 o.2.2.2.2.2.2.2.2.2.2.2.2.2.1 o.2.2.2.2.2.2.2.2.2.2.2.2.2.2.1 o.2.2.2.2.2.2.2.2.2.2.2.2.2.2.2.1 o.2.2.2.2.2.2.2.2.2.2.2.2.2.2.2.2.1 o.2.2.2.2.2.2.2.2.2.2.2.2.2.2.2.2.2.1 o.2.2.2.2.2.2.2.2.2.2.2.2.2.2.2.2.2.2.1 o.2.2.2.2.2.2.2.2.2.2.2.2.2.2.2.2.2.2.2.1 o.2.2.2.2.2.2.2.2.2.2.2.2.2.2.2.2.2.2.2.2.1 past aside o.2.2.2.2.2.2.2.2.2.2.2.2.2.2.2.2.2.2.2.2.2.1 seenWord seenHour o.2.2.2.2.2.2.2.2.2.2.2.2.2.2.2.2.2.2.2.2.2.2 kept)) 2 D 0 0 (wM cI a text letters mowers cows ricks weathers says words weather kindOf thatch newMowers newCows newRicks newWeathers newSays newWords newWeather newKind newThatch q.1 pasts past aside seen seenWord seenHour keeps kept) 120 [(0, .ref (a 0)), (1, .int q.2)] []) (fun kh ih q h => B_120 text letters mowers cows ricks weathers says words weather kindOf thatch newMowers newCows newRicks newWeathers newSays newWords newWeather newKind newThatch q.1 pasts seen keeps q.2 kh kx139 ih ihx139 h) N (st, x1) h
  have B_139 : ∀ (text : Nat → Int32) (letters : Int32) (mowers : Int32) (cows : Int32) (ricks : Int32) (weathers : Int32) (says : Nat → Int32) (words : Nat → Int32) (weather : Nat → Int32) (kindOf : Nat → Int32) (thatch : Nat → Int32) (newMowers : Int32) (newCows : Int32) (newRicks : Int32) (newWeathers : Int32) (newSays : Nat → Int32) (newWords : Nat → Int32) (newWeather : Nat → Int32) (newKind : Nat → Int32) (newThatch : Nat → Int32) (st : Nat → Int32) (pasts : Int32) (seen : Int32) (keeps : Int32)   (_ : jf_M_lay_139 N text letters mowers cows ricks weathers says words weather kindOf thatch newMowers newCows newRicks newWeathers newSays newWords newWeather newKind newThatch st pasts seen keeps  = some o), hk_W p l e jr_M_lay s m args below meth c A (hk_Zi below args s D A o.1 (wM cI a text letters o.2.1 o.2.2.1 o.2.2.2.1 o.2.2.2.2.1 o.2.2.2.2.2.1 o.2.2.2.2.2.2.1 o.2.2.2.2.2.2.2.1 o.2.2.2.2.2.2.2.2.1 o.2.2.2.2.2.2.2.2.2.1 o.2.2.2.2.2.2.2.2.2.2.1 o.2.2.2.2.2.2.2.2.2.2.2.1 o.2.2.2.2.2.2.2.2.2.2.2.2.1 o.2.2.2.2.2.2.2.2.2.2.2.2.2.1 o.2.2.2.2.2.2.2.2.2.2.2.2.2.2.1 o.2.2.2.2.2.2.2.2.2.2.2.2.2.2.2.1 o.2.2.2.2.2.2.2.2.2.2.2.2.2.2.2.2.1 o.2.2.2.2.2.2.2.2.2.2.2.2.2.2.2.2.2.1 o.2.2.2.2.2.2.2.2.2.2.2.2.2.2.2.2.2.2.1 o.2.2.2.2.2.2.2.2.2.2.2.2.2.2.2.2.2.2.2.1 o.2.2.2.2.2.2.2.2.2.2.2.2.2.2.2.2.2.2.2.2.1 past aside o.2.2.2.2.2.2.2.2.2.2.2.2.2.2.2.2.2.2.2.2.2.1 seenWord seenHour o.2.2.2.2.2.2.2.2.2.2.2.2.2.2.2.2.2.2.2.2.2.2 kept)) 2 D 0 0 (wM cI a text letters mowers cows ricks weathers says words weather kindOf thatch newMowers newCows newRicks newWeathers newSays newWords newWeather newKind newThatch st pasts past aside seen seenWord seenHour keeps kept) 139 [(0, .ref (a 0))] [] := by
    intro text letters mowers cows ricks weathers says words weather kindOf thatch newMowers newCows newRicks newWeathers newSays newWords newWeather newKind newThatch st pasts seen keeps   h
    delta jf_M_lay_139 at h
    refine hk_aload_n hC jd_M_lay_139 0 rfl ?_
    refine hk_iconst (v := 0) hC jd_M_lay_140 (by decide) ?_
    refine hk_put hC jk_M 0 rfl 24 (by decide) jq_722 rfl rfl rfl (Nat.le_of_ble_eq_true rfl) (ws2 := (wM cI a text letters mowers cows ricks weathers says words weather kindOf thatch newMowers newCows newRicks newWeathers newSays newWords newWeather newKind newThatch st pasts past aside (0 : Int32) seenWord seenHour keeps kept)) rfl jd_M_lay_141 ?_
    refine hk_aload_n hC jd_M_lay_144 0 rfl ?_
    refine hk_iconst (v := 0) hC jd_M_lay_145 (by decide) ?_
    refine hk_put hC jk_M 0 rfl 21 (by decide) jq_719 rfl rfl rfl (Nat.le_of_ble_eq_true rfl) (ws2 := (wM cI a text letters mowers cows ricks weathers says words weather kindOf thatch newMowers newCows newRicks newWeathers newSays newWords newWeather newKind newThatch st (0 : Int32) past aside (0 : Int32) seenWord seenHour keeps kept)) rfl jd_M_lay_146 ?_
    refine hk_aload_n hC jd_M_lay_149 0 rfl ?_
    refine hk_iconst (v := 0) hC jd_M_lay_150 (by decide) ?_
    refine hk_put hC jk_M 0 rfl 27 (by decide) jq_725 rfl rfl rfl (Nat.le_of_ble_eq_true rfl) (ws2 := (wM cI a text letters mowers cows ricks weathers says words weather kindOf thatch newMowers newCows newRicks newWeathers newSays newWords newWeather newKind newThatch st (0 : Int32) past aside (0 : Int32) seenWord seenHour (0 : Int32) kept)) rfl jd_M_lay_151 ?_
    refine hk_aload_n hC jd_M_lay_154 0 rfl ?_
    refine hk_get hC jk_M 0 rfl 2 (by decide) jq_700 rfl jd_M_lay_155 ?_
    obtain rfl := Option.some.inj h
    exact hk_iret hC hr jd_M_lay_158 rfl rfl
  delta jf_M_lay at h
  refine hk_aload_n hC jd_M_lay_0 0 rfl ?_
  obtain ⟨q1, h_q1, h⟩ := xb_go h
  refine hk_callVWi hC (q0 := 0) (jc_M_fault l D cI cF N a text letters mowers cows ricks weathers says words weather kindOf thatch newMowers newCows newRicks newWeathers newSays newWords newWeather newKind newThatch st pasts past aside seen seenWord seenHour keeps kept h_q1) jl_M_fault rfl rfl jq_656 jq_657 jq_658 rfl ⟨by decide, by decide⟩ rfl rfl (Nat.le_of_ble_eq_true rfl) ⟨Nat.zero_le _, Nat.zero_le _⟩ jd_M_lay_1 ?_
  refine hk_if_ge (tgt := 28) hC jd_M_lay_4 (by decide) (fun cc1 => ?_) (fun cc1 => ?_)
  · replace h := xi_t h cc1
    refine hk_bipush (v := -2) hC jd_M_lay_28 (by decide) ?_
    obtain rfl := Option.some.inj h
    exact hk_iret hC hr jd_M_lay_30 rfl rfl
  · replace h := xi_f h cc1
    refine hk_aload_n hC jd_M_lay_7 0 rfl ?_
    refine hk_get hC jk_M 0 rfl 11 (by decide) jq_709 rfl jd_M_lay_8 ?_
    refine hk_if_eq (tgt := 28) hC jd_M_lay_11 (by decide) (fun cc2 => ?_) (fun cc2 => ?_)
    · replace h := xi_t h cc2
      refine hk_bipush (v := -2) hC jd_M_lay_28 (by decide) ?_
      obtain rfl := Option.some.inj h
      exact hk_iret hC hr jd_M_lay_30 rfl rfl
    · replace h := xi_f h cc2
      refine hk_aload_n hC jd_M_lay_14 0 rfl ?_
      refine hk_get hC jk_M 0 rfl 12 (by decide) jq_710 rfl jd_M_lay_15 ?_
      refine hk_if_eq (tgt := 28) hC jd_M_lay_18 (by decide) (fun cc3 => ?_) (fun cc3 => ?_)
      · replace h := xi_t h cc3
        refine hk_bipush (v := -2) hC jd_M_lay_28 (by decide) ?_
        obtain rfl := Option.some.inj h
        exact hk_iret hC hr jd_M_lay_30 rfl rfl
      · replace h := xi_f h cc3
        refine hk_aload_n hC jd_M_lay_21 0 rfl ?_
        refine hk_get hC jk_M 0 rfl 13 (by decide) jq_711 rfl jd_M_lay_22 ?_
        refine hk_if_ne (tgt := 31) hC jd_M_lay_25 (by decide) (fun cc4 => ?_) (fun cc4 => ?_)
        · replace h := xi_f h cc4
          refine hk_aload_n hC jd_M_lay_31 0 rfl ?_
          refine hk_aload_n hC jd_M_lay_32 0 rfl ?_
          refine hk_get hC jk_M 0 rfl 11 (by decide) jq_709 rfl jd_M_lay_33 ?_
          refine hk_put hC jk_M 0 rfl 2 (by decide) jq_700 rfl rfl rfl (Nat.le_of_ble_eq_true rfl) (ws2 := (wM cI a text letters q1.2.1 cows ricks weathers says words weather kindOf thatch q1.2.1 q1.2.2.1 q1.2.2.2.1 q1.2.2.2.2.1 q1.2.2.2.2.2.1 q1.2.2.2.2.2.2.1 q1.2.2.2.2.2.2.2.1 q1.2.2.2.2.2.2.2.2.1 q1.2.2.2.2.2.2.2.2.2 st pasts past aside seen seenWord seenHour keeps kept)) rfl jd_M_lay_36 ?_
          refine hk_aload_n hC jd_M_lay_39 0 rfl ?_
          refine hk_aload_n hC jd_M_lay_40 0 rfl ?_
          refine hk_get hC jk_M 0 rfl 12 (by decide) jq_710 rfl jd_M_lay_41 ?_
          refine hk_put hC jk_M 0 rfl 3 (by decide) jq_701 rfl rfl rfl (Nat.le_of_ble_eq_true rfl) (ws2 := (wM cI a text letters q1.2.1 q1.2.2.1 ricks weathers says words weather kindOf thatch q1.2.1 q1.2.2.1 q1.2.2.2.1 q1.2.2.2.2.1 q1.2.2.2.2.2.1 q1.2.2.2.2.2.2.1 q1.2.2.2.2.2.2.2.1 q1.2.2.2.2.2.2.2.2.1 q1.2.2.2.2.2.2.2.2.2 st pasts past aside seen seenWord seenHour keeps kept)) rfl jd_M_lay_44 ?_
          refine hk_aload_n hC jd_M_lay_47 0 rfl ?_
          refine hk_aload_n hC jd_M_lay_48 0 rfl ?_
          refine hk_get hC jk_M 0 rfl 13 (by decide) jq_711 rfl jd_M_lay_49 ?_
          refine hk_put hC jk_M 0 rfl 4 (by decide) jq_702 rfl rfl rfl (Nat.le_of_ble_eq_true rfl) (ws2 := (wM cI a text letters q1.2.1 q1.2.2.1 q1.2.2.2.1 weathers says words weather kindOf thatch q1.2.1 q1.2.2.1 q1.2.2.2.1 q1.2.2.2.2.1 q1.2.2.2.2.2.1 q1.2.2.2.2.2.2.1 q1.2.2.2.2.2.2.2.1 q1.2.2.2.2.2.2.2.2.1 q1.2.2.2.2.2.2.2.2.2 st pasts past aside seen seenWord seenHour keeps kept)) rfl jd_M_lay_52 ?_
          refine hk_aload_n hC jd_M_lay_55 0 rfl ?_
          refine hk_aload_n hC jd_M_lay_56 0 rfl ?_
          refine hk_get hC jk_M 0 rfl 14 (by decide) jq_712 rfl jd_M_lay_57 ?_
          refine hk_put hC jk_M 0 rfl 5 (by decide) jq_703 rfl rfl rfl (Nat.le_of_ble_eq_true rfl) (ws2 := (wM cI a text letters q1.2.1 q1.2.2.1 q1.2.2.2.1 q1.2.2.2.2.1 says words weather kindOf thatch q1.2.1 q1.2.2.1 q1.2.2.2.1 q1.2.2.2.2.1 q1.2.2.2.2.2.1 q1.2.2.2.2.2.2.1 q1.2.2.2.2.2.2.2.1 q1.2.2.2.2.2.2.2.2.1 q1.2.2.2.2.2.2.2.2.2 st pasts past aside seen seenWord seenHour keeps kept)) rfl jd_M_lay_60 ?_
          refine hk_aload_n hC jd_M_lay_63 0 rfl ?_
          refine hk_get hC jk_M 0 rfl 6 (by decide) jq_704 rfl jd_M_lay_64 ?_
          refine hk_aload_n hC jd_M_lay_67 0 rfl ?_
          refine hk_get hC jk_M 0 rfl 15 (by decide) jq_713 rfl jd_M_lay_68 ?_
          obtain ⟨q2, h_q2, h⟩ := xb_go h
          refine hk_callSv hC (jc_M_take l D cI cF N (fun _ => (a 2)) (fun _ => (a 7)) 5 5 says q1.2.2.2.2.2.1 h_q2) jl_M_take jq_695 jq_696 rfl ⟨by decide, by decide⟩ [2, 7] rfl (by decide) rfl (ws2 := (wM cI a text letters q1.2.1 q1.2.2.1 q1.2.2.2.1 q1.2.2.2.2.1 q2 words weather kindOf thatch q1.2.1 q1.2.2.1 q1.2.2.2.1 q1.2.2.2.2.1 q1.2.2.2.2.2.1 q1.2.2.2.2.2.2.1 q1.2.2.2.2.2.2.2.1 q1.2.2.2.2.2.2.2.2.1 q1.2.2.2.2.2.2.2.2.2 st pasts past aside seen seenWord seenHour keeps kept)) rfl rfl (Nat.le_of_ble_eq_true rfl) ⟨Nat.zero_le _, Nat.zero_le _⟩ jd_M_lay_71 ?_
          refine hk_aload_n hC jd_M_lay_74 0 rfl ?_
          refine hk_get hC jk_M 0 rfl 7 (by decide) jq_705 rfl jd_M_lay_75 ?_
          refine hk_aload_n hC jd_M_lay_78 0 rfl ?_
          refine hk_get hC jk_M 0 rfl 16 (by decide) jq_714 rfl jd_M_lay_79 ?_
          obtain ⟨q3, h_q3, h⟩ := xb_go h
          refine hk_callSv hC (jc_M_take l D cI cF N (fun _ => (a 3)) (fun _ => (a 8)) 45 45 words q1.2.2.2.2.2.2.1 h_q3) jl_M_take jq_695 jq_696 rfl ⟨by decide, by decide⟩ [3, 8] rfl (by decide) rfl (ws2 := (wM cI a text letters q1.2.1 q1.2.2.1 q1.2.2.2.1 q1.2.2.2.2.1 q2 q3 weather kindOf thatch q1.2.1 q1.2.2.1 q1.2.2.2.1 q1.2.2.2.2.1 q1.2.2.2.2.2.1 q1.2.2.2.2.2.2.1 q1.2.2.2.2.2.2.2.1 q1.2.2.2.2.2.2.2.2.1 q1.2.2.2.2.2.2.2.2.2 st pasts past aside seen seenWord seenHour keeps kept)) rfl rfl (Nat.le_of_ble_eq_true rfl) ⟨Nat.zero_le _, Nat.zero_le _⟩ jd_M_lay_82 ?_
          refine hk_aload_n hC jd_M_lay_85 0 rfl ?_
          refine hk_get hC jk_M 0 rfl 8 (by decide) jq_706 rfl jd_M_lay_86 ?_
          refine hk_aload_n hC jd_M_lay_89 0 rfl ?_
          refine hk_get hC jk_M 0 rfl 17 (by decide) jq_715 rfl jd_M_lay_90 ?_
          obtain ⟨q4, h_q4, h⟩ := xb_go h
          refine hk_callSv hC (jc_M_take l D cI cF N (fun _ => (a 4)) (fun _ => (a 9)) 9 9 weather q1.2.2.2.2.2.2.2.1 h_q4) jl_M_take jq_695 jq_696 rfl ⟨by decide, by decide⟩ [4, 9] rfl (by decide) rfl (ws2 := (wM cI a text letters q1.2.1 q1.2.2.1 q1.2.2.2.1 q1.2.2.2.2.1 q2 q3 q4 kindOf thatch q1.2.1 q1.2.2.1 q1.2.2.2.1 q1.2.2.2.2.1 q1.2.2.2.2.2.1 q1.2.2.2.2.2.2.1 q1.2.2.2.2.2.2.2.1 q1.2.2.2.2.2.2.2.2.1 q1.2.2.2.2.2.2.2.2.2 st pasts past aside seen seenWord seenHour keeps kept)) rfl rfl (Nat.le_of_ble_eq_true rfl) ⟨Nat.zero_le _, Nat.zero_le _⟩ jd_M_lay_93 ?_
          refine hk_aload_n hC jd_M_lay_96 0 rfl ?_
          refine hk_get hC jk_M 0 rfl 9 (by decide) jq_707 rfl jd_M_lay_97 ?_
          refine hk_aload_n hC jd_M_lay_100 0 rfl ?_
          refine hk_get hC jk_M 0 rfl 18 (by decide) jq_716 rfl jd_M_lay_101 ?_
          obtain ⟨q5, h_q5, h⟩ := xb_go h
          refine hk_callSv hC (jc_M_take l D cI cF N (fun _ => (a 5)) (fun _ => (a 10)) 4 4 kindOf q1.2.2.2.2.2.2.2.2.1 h_q5) jl_M_take jq_695 jq_696 rfl ⟨by decide, by decide⟩ [5, 10] rfl (by decide) rfl (ws2 := (wM cI a text letters q1.2.1 q1.2.2.1 q1.2.2.2.1 q1.2.2.2.2.1 q2 q3 q4 q5 thatch q1.2.1 q1.2.2.1 q1.2.2.2.1 q1.2.2.2.2.1 q1.2.2.2.2.2.1 q1.2.2.2.2.2.2.1 q1.2.2.2.2.2.2.2.1 q1.2.2.2.2.2.2.2.2.1 q1.2.2.2.2.2.2.2.2.2 st pasts past aside seen seenWord seenHour keeps kept)) rfl rfl (Nat.le_of_ble_eq_true rfl) ⟨Nat.zero_le _, Nat.zero_le _⟩ jd_M_lay_104 ?_
          refine hk_aload_n hC jd_M_lay_107 0 rfl ?_
          refine hk_get hC jk_M 0 rfl 10 (by decide) jq_708 rfl jd_M_lay_108 ?_
          refine hk_aload_n hC jd_M_lay_111 0 rfl ?_
          refine hk_get hC jk_M 0 rfl 19 (by decide) jq_717 rfl jd_M_lay_112 ?_
          obtain ⟨q6, h_q6, h⟩ := xb_go h
          refine hk_callSv hC (jc_M_take l D cI cF N (fun _ => (a 6)) (fun _ => (a 11)) 3 3 thatch q1.2.2.2.2.2.2.2.2.2 h_q6) jl_M_take jq_695 jq_696 rfl ⟨by decide, by decide⟩ [6, 11] rfl (by decide) rfl (ws2 := (wM cI a text letters q1.2.1 q1.2.2.1 q1.2.2.2.1 q1.2.2.2.2.1 q2 q3 q4 q5 q6 q1.2.1 q1.2.2.1 q1.2.2.2.1 q1.2.2.2.2.1 q1.2.2.2.2.2.1 q1.2.2.2.2.2.2.1 q1.2.2.2.2.2.2.2.1 q1.2.2.2.2.2.2.2.2.1 q1.2.2.2.2.2.2.2.2.2 st pasts past aside seen seenWord seenHour keeps kept)) rfl rfl (Nat.le_of_ble_eq_true rfl) ⟨Nat.zero_le _, Nat.zero_le _⟩ jd_M_lay_115 ?_
          refine hk_iconst (v := 0) hC jd_M_lay_118 (by decide) ?_
          refine hk_istore_n hC (i := 1) (y := (0 : Int32)) (lv2 := [(1, .int (0 : Int32)), (0, .ref (a 0))]) jd_M_lay_119 rfl rfl (by decide) rfl ?_
          exact hk_lv [1, 0] rfl (L_120 text letters q1.2.1 q1.2.2.1 q1.2.2.2.1 q1.2.2.2.2.1 q2 q3 q4 q5 q6 q1.2.1 q1.2.2.1 q1.2.2.2.1 q1.2.2.2.2.1 q1.2.2.2.2.2.1 q1.2.2.2.2.2.2.1 q1.2.2.2.2.2.2.2.1 q1.2.2.2.2.2.2.2.2.1 q1.2.2.2.2.2.2.2.2.2 st pasts seen keeps (0 : Int32) _ (fun q7 h => by exact (B_139 text letters q1.2.1 q1.2.2.1 q1.2.2.2.1 q1.2.2.2.2.1 q2 q3 q4 q5 q6 q1.2.1 q1.2.2.1 q1.2.2.2.1 q1.2.2.2.2.1 q1.2.2.2.2.2.1 q1.2.2.2.2.2.2.1 q1.2.2.2.2.2.2.2.1 q1.2.2.2.2.2.2.2.2.1 q1.2.2.2.2.2.2.2.2.2 q7 pasts seen keeps   h)) h)
        · replace h := xi_t h cc4
          refine hk_bipush (v := -2) hC jd_M_lay_28 (by decide) ?_
          obtain rfl := Option.some.inj h
          exact hk_iret hC hr jd_M_lay_30 rfl rfl
theorem jc_M_lay (l : Launch) (D : va_G) (cI cF : ClassId) (N : Nat) (a : Nat → Nat)  (text : Nat → Int32) (letters : Int32) (mowers : Int32) (cows : Int32) (ricks : Int32) (weathers : Int32) (says : Nat → Int32) (words : Nat → Int32) (weather : Nat → Int32) (kindOf : Nat → Int32) (thatch : Nat → Int32) (newMowers : Int32) (newCows : Int32) (newRicks : Int32) (newWeathers : Int32) (newSays : Nat → Int32) (newWords : Nat → Int32) (newWeather : Nat → Int32) (newKind : Nat → Int32) (newThatch : Nat → Int32) (st : Nat → Int32) (pasts : Int32) (past : Nat → Int32) (aside : Nat → Int32) (seen : Int32) (seenWord : Nat → Int32) (seenHour : Nat → Int32) (keeps : Int32) (kept : Nat → Int32)  {o : Int32 × Int32 × Int32 × Int32 × Int32 × (Nat → Int32) × (Nat → Int32) × (Nat → Int32) × (Nat → Int32) × (Nat → Int32) × Int32 × Int32 × Int32 × Int32 × (Nat → Int32) × (Nat → Int32) × (Nat → Int32) × (Nat → Int32) × (Nat → Int32) × (Nat → Int32) × Int32 × Int32 × Int32} (h : jf_M_lay N text letters mowers cows ricks weathers says words weather kindOf thatch newMowers newCows newRicks newWeathers newSays newWords newWeather newKind newThatch st pasts seen keeps = some o) : hk_Mi l jy_M_lay jb_M_lay 2 (some .int) jr_M_lay D cI cF (wM cI a text letters mowers cows ricks weathers says words weather kindOf thatch newMowers newCows newRicks newWeathers newSays newWords newWeather newKind newThatch st pasts past aside seen seenWord seenHour keeps kept) [.ref (a 0)] o.1 (wM cI a text letters o.2.1 o.2.2.1 o.2.2.2.1 o.2.2.2.2.1 o.2.2.2.2.2.1 o.2.2.2.2.2.2.1 o.2.2.2.2.2.2.2.1 o.2.2.2.2.2.2.2.2.1 o.2.2.2.2.2.2.2.2.2.1 o.2.2.2.2.2.2.2.2.2.2.1 o.2.2.2.2.2.2.2.2.2.2.2.1 o.2.2.2.2.2.2.2.2.2.2.2.2.1 o.2.2.2.2.2.2.2.2.2.2.2.2.2.1 o.2.2.2.2.2.2.2.2.2.2.2.2.2.2.1 o.2.2.2.2.2.2.2.2.2.2.2.2.2.2.2.1 o.2.2.2.2.2.2.2.2.2.2.2.2.2.2.2.2.1 o.2.2.2.2.2.2.2.2.2.2.2.2.2.2.2.2.2.1 o.2.2.2.2.2.2.2.2.2.2.2.2.2.2.2.2.2.2.1 o.2.2.2.2.2.2.2.2.2.2.2.2.2.2.2.2.2.2.2.1 o.2.2.2.2.2.2.2.2.2.2.2.2.2.2.2.2.2.2.2.2.1 past aside o.2.2.2.2.2.2.2.2.2.2.2.2.2.2.2.2.2.2.2.2.2.1 seenWord seenHour o.2.2.2.2.2.2.2.2.2.2.2.2.2.2.2.2.2.2.2.2.2.2 kept) :=
  hk_metI (by decide) (Nat.le_of_ble_eq_true rfl) rfl rfl (fun p e s m args below meth c A hC hr => jw_M_lay hC hr N a text letters mowers cows ricks weathers says words weather kindOf thatch newMowers newCows newRicks newWeathers newSays newWords newWeather newKind newThatch st pasts past aside seen seenWord seenHour keeps kept h)
set_option maxHeartbeats 8000000 in
set_option maxRecDepth 100000 in
theorem jw_M_write {p : Program} {l : Launch} {e : Env} {s : State} {m : MethodId} {args : Array Value} {below : List Frame} {meth : Method} {c : Code} {A : Nat → Prop} {D : va_G} {cI cF : ClassId} (hC : hk_ok p s m args meth c A 2 D cI cF "HayTalkModel" jb_M_write) (hr : meth.sig.returnType = (some .int)) (N : Nat) (a : Nat → Nat)  (text : Nat → Int32) (letters : Int32) (mowers : Int32) (cows : Int32) (ricks : Int32) (weathers : Int32) (says : Nat → Int32) (words : Nat → Int32) (weather : Nat → Int32) (kindOf : Nat → Int32) (thatch : Nat → Int32) (newMowers : Int32) (newCows : Int32) (newRicks : Int32) (newWeathers : Int32) (newSays : Nat → Int32) (newWords : Nat → Int32) (newWeather : Nat → Int32) (newKind : Nat → Int32) (newThatch : Nat → Int32) (st : Nat → Int32) (pasts : Int32) (past : Nat → Int32) (aside : Nat → Int32) (seen : Int32) (seenWord : Nat → Int32) (seenHour : Nat → Int32) (keeps : Int32) (kept : Nat → Int32) (x1 : Int32) {o : Int32 × (Nat → Int32) × Int32} (h : jf_M_write N text letters x1 = some o) : hk_W p l e jr_M_write s m args below meth c A (hk_Zi below args s D A o.1 (wM cI a o.2.1 o.2.2 mowers cows ricks weathers says words weather kindOf thatch newMowers newCows newRicks newWeathers newSays newWords newWeather newKind newThatch st pasts past aside seen seenWord seenHour keeps kept)) 2 D 0 0 (wM cI a text letters mowers cows ricks weathers says words weather kindOf thatch newMowers newCows newRicks newWeathers newSays newWords newWeather newKind newThatch st pasts past aside seen seenWord seenHour keeps kept) 0 [(0, .ref (a 0)), (1, .int x1)] [] := by
  delta jf_M_write at h
  refine hk_iload_n hC jd_M_write_0 1 rfl ?_
  refine hk_i2l hC jd_M_write_1 ?_
  refine hk_ldc2 hC jd_M_write_2 jq_790 ?_
  refine hk_ldc2 hC jd_M_write_5 jq_791 ?_
  obtain ⟨q1, h_q1, h⟩ := xb_go h
  refine hk_callS0i hC (jc_M_in l D cI cF N (Int32.toInt64 x1) (32 : Int64) (126 : Int64) h_q1) jl_M_in jq_673 jq_674 rfl ⟨by decide, by decide⟩ rfl (Nat.le_of_ble_eq_true rfl) ⟨Nat.zero_le _, Nat.zero_le _⟩ jd_M_write_8 ?_
  refine hk_if_ne (tgt := 16) hC jd_M_write_11 (by decide) (fun cc1 => ?_) (fun cc1 => ?_)
  · replace h := xi_f h cc1
    refine hk_aload_n hC jd_M_write_16 0 rfl ?_
    refine hk_get hC jk_M 0 rfl 1 (by decide) jq_699 rfl jd_M_write_17 ?_
    refine hk_sipush (v := 200) hC jd_M_write_20 (by decide) ?_
    refine hk_icmp_ne (tgt := 29) hC jd_M_write_23 (by decide) (fun cc2 => ?_) (fun cc2 => ?_)
    · replace h := xi_f h cc2
      refine hk_aload_n hC jd_M_write_29 0 rfl ?_
      refine hk_get hC jk_M 0 rfl 0 (by decide) jq_698 rfl jd_M_write_30 ?_
      refine hk_aload_n hC jd_M_write_33 0 rfl ?_
      refine hk_get hC jk_M 0 rfl 1 (by decide) jq_699 rfl jd_M_write_34 ?_
      refine hk_iload_n hC jd_M_write_37 1 rfl ?_
      have hr1 := xr_in h
      replace h := xr_go h
      obtain ⟨z1, e_z1, h⟩ := xl_go h
      refine hk_iast hC 1 rfl hr1 e_z1 (ws2 := (wM cI a z1 letters mowers cows ricks weathers says words weather kindOf thatch newMowers newCows newRicks newWeathers newSays newWords newWeather newKind newThatch st pasts past aside seen seenWord seenHour keeps kept)) rfl jd_M_write_38 ?_
      refine hk_aload_n hC jd_M_write_39 0 rfl ?_
      refine hk_dup hC jd_M_write_40 rfl ?_
      refine hk_get hC jk_M 0 rfl 1 (by decide) jq_699 rfl jd_M_write_41 ?_
      refine hk_iconst (v := 1) hC jd_M_write_44 (by decide) ?_
      refine hk_iadd hC jd_M_write_45 ?_
      obtain ⟨v1, e_v1, h⟩ := xl_go h
      refine hk_topi e_v1 ?_
      refine hk_put hC jk_M 0 rfl 1 (by decide) jq_699 rfl rfl rfl (Nat.le_of_ble_eq_true rfl) (ws2 := (wM cI a z1 v1 mowers cows ricks weathers says words weather kindOf thatch newMowers newCows newRicks newWeathers newSays newWords newWeather newKind newThatch st pasts past aside seen seenWord seenHour keeps kept)) rfl jd_M_write_46 ?_
      refine hk_aload_n hC jd_M_write_49 0 rfl ?_
      refine hk_get hC jk_M 0 rfl 1 (by decide) jq_699 rfl jd_M_write_50 ?_
      obtain rfl := Option.some.inj h
      exact hk_iret hC hr jd_M_write_53 rfl rfl
    · replace h := xi_t h cc2
      refine hk_bipush (v := -3) hC jd_M_write_26 (by decide) ?_
      obtain rfl := Option.some.inj h
      exact hk_iret hC hr jd_M_write_28 rfl rfl
  · replace h := xi_t h cc1
    refine hk_iconst (v := -1) hC jd_M_write_14 (by decide) ?_
    obtain rfl := Option.some.inj h
    exact hk_iret hC hr jd_M_write_15 rfl rfl
theorem jc_M_write (l : Launch) (D : va_G) (cI cF : ClassId) (N : Nat) (a : Nat → Nat)  (text : Nat → Int32) (letters : Int32) (mowers : Int32) (cows : Int32) (ricks : Int32) (weathers : Int32) (says : Nat → Int32) (words : Nat → Int32) (weather : Nat → Int32) (kindOf : Nat → Int32) (thatch : Nat → Int32) (newMowers : Int32) (newCows : Int32) (newRicks : Int32) (newWeathers : Int32) (newSays : Nat → Int32) (newWords : Nat → Int32) (newWeather : Nat → Int32) (newKind : Nat → Int32) (newThatch : Nat → Int32) (st : Nat → Int32) (pasts : Int32) (past : Nat → Int32) (aside : Nat → Int32) (seen : Int32) (seenWord : Nat → Int32) (seenHour : Nat → Int32) (keeps : Int32) (kept : Nat → Int32) (x1 : Int32) {o : Int32 × (Nat → Int32) × Int32} (h : jf_M_write N text letters x1 = some o) : hk_Mi l jy_M_write jb_M_write 2 (some .int) jr_M_write D cI cF (wM cI a text letters mowers cows ricks weathers says words weather kindOf thatch newMowers newCows newRicks newWeathers newSays newWords newWeather newKind newThatch st pasts past aside seen seenWord seenHour keeps kept) [.ref (a 0), .int x1] o.1 (wM cI a o.2.1 o.2.2 mowers cows ricks weathers says words weather kindOf thatch newMowers newCows newRicks newWeathers newSays newWords newWeather newKind newThatch st pasts past aside seen seenWord seenHour keeps kept) :=
  hk_metI (by decide) (Nat.le_of_ble_eq_true rfl) rfl rfl (fun p e s m args below meth c A hC hr => jw_M_write hC hr N a text letters mowers cows ricks weathers says words weather kindOf thatch newMowers newCows newRicks newWeathers newSays newWords newWeather newKind newThatch st pasts past aside seen seenWord seenHour keeps kept x1 h)
