set_option maxHeartbeats 8000000 in
set_option maxRecDepth 100000 in
theorem jw_M_most {p : Program} {l : Launch} {e : Env} {s : State} {m : MethodId} {args : Array Value} {below : List Frame} {meth : Method} {c : Code} {A : Nat → Prop} {D : va_G} {cI cF : ClassId} (hC : hk_ok p s m args meth c A 7 D cI cF "HayTalkModel" jb_M_most) (hr : meth.sig.returnType = (some .int)) (N : Nat) (a : Nat → Nat)  (text : Nat → Int32) (letters : Int32) (mowers : Int32) (cows : Int32) (ricks : Int32) (weathers : Int32) (says : Nat → Int32) (words : Nat → Int32) (weather : Nat → Int32) (kindOf : Nat → Int32) (thatch : Nat → Int32) (newMowers : Int32) (newCows : Int32) (newRicks : Int32) (newWeathers : Int32) (newSays : Nat → Int32) (newWords : Nat → Int32) (newWeather : Nat → Int32) (newKind : Nat → Int32) (newThatch : Nat → Int32) (st : Nat → Int32) (pasts : Int32) (past : Nat → Int32) (aside : Nat → Int32) (seen : Int32) (seenWord : Nat → Int32) (seenHour : Nat → Int32) (keeps : Int32) (kept : Nat → Int32) (x1 : Int32) (x2 : Int32) {o : Int32} (h : jf_M_most N cows ricks kindOf st x1 x2 = some o) : hk_W p l e jr_M_most s m args below meth c A (hk_Zi below args s D A o (wM cI a text letters mowers cows ricks weathers says words weather kindOf thatch newMowers newCows newRicks newWeathers newSays newWords newWeather newKind newThatch st pasts past aside seen seenWord seenHour keeps kept)) 7 D 0 0 (wM cI a text letters mowers cows ricks weathers says words weather kindOf thatch newMowers newCows newRicks newWeathers newSays newWords newWeather newKind newThatch st pasts past aside seen seenWord seenHour keeps kept) 0 [(0, .ref (a 0)), (1, .int x1), (2, .int x2)] [] := by
  have B_123 : ∀ (cows : Int32) (ricks : Int32) (kindOf : Nat → Int32) (st : Nat → Int32) (x1 : Int32) (x2 : Int32) (x3 : Int32) (x4 : Int32) (x5 : Int32) (kh30 : (Int32 × Int32 × Int32) → Option (Int32)) (kx129 : (Int32 × Int32) → Option (Int32)) (ihh30 : ∀ q, kh30 q = some o → hk_W p l e jr_M_most s m args below meth c A (hk_Zi below args s D A o (wM cI a text letters mowers cows ricks weathers says words weather kindOf thatch newMowers newCows newRicks newWeathers newSays newWords newWeather newKind newThatch st pasts past aside seen seenWord seenHour keeps kept)) 7 D 0 0 (wM cI a text letters mowers cows ricks weathers says words weather kindOf thatch newMowers newCows newRicks newWeathers newSays newWords newWeather newKind newThatch st pasts past aside seen seenWord seenHour keeps kept) 30 [(0, .ref (a 0)), (1, .int x1), (2, .int x2), (3, .int q.1), (4, .int q.2.1), (5, .int q.2.2)] []) (ihx129 : ∀ q, kx129 q = some o → hk_W p l e jr_M_most s m args below meth c A (hk_Zi below args s D A o (wM cI a text letters mowers cows ricks weathers says words weather kindOf thatch newMowers newCows newRicks newWeathers newSays newWords newWeather newKind newThatch st pasts past aside seen seenWord seenHour keeps kept)) 7 D 0 0 (wM cI a text letters mowers cows ricks weathers says words weather kindOf thatch newMowers newCows newRicks newWeathers newSays newWords newWeather newKind newThatch st pasts past aside seen seenWord seenHour keeps kept) 129 [(2, .int x2), (3, .int q.1), (4, .int q.2)] []) (_ : jf_M_most_123 N cows ricks kindOf st x1 x2 x3 x4 x5 kh30 kx129 = some o), hk_W p l e jr_M_most s m args below meth c A (hk_Zi below args s D A o (wM cI a text letters mowers cows ricks weathers says words weather kindOf thatch newMowers newCows newRicks newWeathers newSays newWords newWeather newKind newThatch st pasts past aside seen seenWord seenHour keeps kept)) 7 D 0 0 (wM cI a text letters mowers cows ricks weathers says words weather kindOf thatch newMowers newCows newRicks newWeathers newSays newWords newWeather newKind newThatch st pasts past aside seen seenWord seenHour keeps kept) 123 [(0, .ref (a 0)), (1, .int x1), (2, .int x2), (3, .int x3), (4, .int x4), (5, .int x5)] [] := by
    intro cows ricks kindOf st x1 x2 x3 x4 x5 kh30 kx129 ihh30 ihx129 h
    delta jf_M_most_123 at h
    obtain ⟨v1, e_v1, h⟩ := xl_go h
    refine hk_iinc hC (lv2 := [(5, .int v1), (0, .ref (a 0)), (1, .int x1), (2, .int x2), (3, .int x3), (4, .int x4)]) jd_M_most_123 5 rfl e_v1 (by decide) rfl ?_
    refine hk_goto (tgt := 30) hC jd_M_most_126 (by decide) ?_
    exact hk_lv [1, 2, 3, 4, 5, 0] rfl (ihh30 (x3, x4, v1) h)
  have B_121 : ∀ (cows : Int32) (ricks : Int32) (kindOf : Nat → Int32) (st : Nat → Int32) (x1 : Int32) (x2 : Int32) (x3 : Int32) (x5 : Int32) (y0 : Int32) (kh30 : (Int32 × Int32 × Int32) → Option (Int32)) (kx129 : (Int32 × Int32) → Option (Int32)) (ihh30 : ∀ q, kh30 q = some o → hk_W p l e jr_M_most s m args below meth c A (hk_Zi below args s D A o (wM cI a text letters mowers cows ricks weathers says words weather kindOf thatch newMowers newCows newRicks newWeathers newSays newWords newWeather newKind newThatch st pasts past aside seen seenWord seenHour keeps kept)) 7 D 0 0 (wM cI a text letters mowers cows ricks weathers says words weather kindOf thatch newMowers newCows newRicks newWeathers newSays newWords newWeather newKind newThatch st pasts past aside seen seenWord seenHour keeps kept) 30 [(0, .ref (a 0)), (1, .int x1), (2, .int x2), (3, .int q.1), (4, .int q.2.1), (5, .int q.2.2)] []) (ihx129 : ∀ q, kx129 q = some o → hk_W p l e jr_M_most s m args below meth c A (hk_Zi below args s D A o (wM cI a text letters mowers cows ricks weathers says words weather kindOf thatch newMowers newCows newRicks newWeathers newSays newWords newWeather newKind newThatch st pasts past aside seen seenWord seenHour keeps kept)) 7 D 0 0 (wM cI a text letters mowers cows ricks weathers says words weather kindOf thatch newMowers newCows newRicks newWeathers newSays newWords newWeather newKind newThatch st pasts past aside seen seenWord seenHour keeps kept) 129 [(2, .int x2), (3, .int q.1), (4, .int q.2)] []) (_ : jf_M_most_121 N cows ricks kindOf st x1 x2 x3 x5 y0 kh30 kx129 = some o), hk_W p l e jr_M_most s m args below meth c A (hk_Zi below args s D A o (wM cI a text letters mowers cows ricks weathers says words weather kindOf thatch newMowers newCows newRicks newWeathers newSays newWords newWeather newKind newThatch st pasts past aside seen seenWord seenHour keeps kept)) 7 D 0 0 (wM cI a text letters mowers cows ricks weathers says words weather kindOf thatch newMowers newCows newRicks newWeathers newSays newWords newWeather newKind newThatch st pasts past aside seen seenWord seenHour keeps kept) 121 [(0, .ref (a 0)), (1, .int x1), (2, .int x2), (3, .int x3), (5, .int x5)] [.int y0] := by
    intro cows ricks kindOf st x1 x2 x3 x5 y0 kh30 kx129 ihh30 ihx129 h
    delta jf_M_most_121 at h
    refine hk_istore hC (i := 4) (y := y0) (lv2 := [(4, .int y0), (0, .ref (a 0)), (1, .int x1), (2, .int x2), (3, .int x3), (5, .int x5)]) jd_M_most_121 rfl (by decide) rfl ?_
    exact hk_lv [1, 2, 3, 4, 0, 5] rfl (B_123 cows ricks kindOf st x1 x2 x3 y0 x5 kh30 kx129 ihh30 ihx129 h)
  have B_106 : ∀ (cows : Int32) (ricks : Int32) (kindOf : Nat → Int32) (st : Nat → Int32) (x1 : Int32) (x2 : Int32) (x4 : Int32) (x5 : Int32) (x6 : Int32) (y0 : Int32) (kh30 : (Int32 × Int32 × Int32) → Option (Int32)) (kx129 : (Int32 × Int32) → Option (Int32)) (ihh30 : ∀ q, kh30 q = some o → hk_W p l e jr_M_most s m args below meth c A (hk_Zi below args s D A o (wM cI a text letters mowers cows ricks weathers says words weather kindOf thatch newMowers newCows newRicks newWeathers newSays newWords newWeather newKind newThatch st pasts past aside seen seenWord seenHour keeps kept)) 7 D 0 0 (wM cI a text letters mowers cows ricks weathers says words weather kindOf thatch newMowers newCows newRicks newWeathers newSays newWords newWeather newKind newThatch st pasts past aside seen seenWord seenHour keeps kept) 30 [(0, .ref (a 0)), (1, .int x1), (2, .int x2), (3, .int q.1), (4, .int q.2.1), (5, .int q.2.2)] []) (ihx129 : ∀ q, kx129 q = some o → hk_W p l e jr_M_most s m args below meth c A (hk_Zi below args s D A o (wM cI a text letters mowers cows ricks weathers says words weather kindOf thatch newMowers newCows newRicks newWeathers newSays newWords newWeather newKind newThatch st pasts past aside seen seenWord seenHour keeps kept)) 7 D 0 0 (wM cI a text letters mowers cows ricks weathers says words weather kindOf thatch newMowers newCows newRicks newWeathers newSays newWords newWeather newKind newThatch st pasts past aside seen seenWord seenHour keeps kept) 129 [(2, .int x2), (3, .int q.1), (4, .int q.2)] []) (_ : jf_M_most_106 N cows ricks kindOf st x1 x2 x4 x5 x6 y0 kh30 kx129 = some o), hk_W p l e jr_M_most s m args below meth c A (hk_Zi below args s D A o (wM cI a text letters mowers cows ricks weathers says words weather kindOf thatch newMowers newCows newRicks newWeathers newSays newWords newWeather newKind newThatch st pasts past aside seen seenWord seenHour keeps kept)) 7 D 0 0 (wM cI a text letters mowers cows ricks weathers says words weather kindOf thatch newMowers newCows newRicks newWeathers newSays newWords newWeather newKind newThatch st pasts past aside seen seenWord seenHour keeps kept) 106 [(0, .ref (a 0)), (1, .int x1), (2, .int x2), (4, .int x4), (5, .int x5), (6, .int x6)] [.int y0] := by
    intro cows ricks kindOf st x1 x2 x4 x5 x6 y0 kh30 kx129 ihh30 ihx129 h
    delta jf_M_most_106 at h
    refine hk_istore_n hC (i := 3) (y := y0) (lv2 := [(3, .int y0), (0, .ref (a 0)), (1, .int x1), (2, .int x2), (4, .int x4), (5, .int x5), (6, .int x6)]) jd_M_most_106 rfl rfl (by decide) rfl ?_
    refine hk_iload hC jd_M_most_107 6 rfl ?_
    refine hk_iload hC jd_M_most_109 4 rfl ?_
    refine hk_icmp_le (tgt := 119) hC jd_M_most_111 (by decide) (fun cc1 => ?_) (fun cc1 => ?_)
    · replace h := xi_t h cc1
      refine hk_iload hC jd_M_most_119 4 rfl ?_
      exact hk_lv [1, 2, 3, 0, 5] rfl (B_121 cows ricks kindOf st x1 x2 y0 x5 x4 kh30 kx129 ihh30 ihx129 h)
    · replace h := xi_f h cc1
      refine hk_iload hC jd_M_most_114 6 rfl ?_
      refine hk_goto (tgt := 121) hC jd_M_most_116 (by decide) ?_
      exact hk_lv [1, 2, 3, 0, 5] rfl (B_121 cows ricks kindOf st x1 x2 y0 x5 x6 kh30 kx129 ihh30 ihx129 h)
  have B_30 : ∀ (cows : Int32) (ricks : Int32) (kindOf : Nat → Int32) (st : Nat → Int32) (x1 : Int32) (x2 : Int32) (x3 : Int32) (x4 : Int32) (x5 : Int32) (kh30 : (Int32 × Int32 × Int32) → Option (Int32)) (kx129 : (Int32 × Int32) → Option (Int32)) (ihh30 : ∀ q, kh30 q = some o → hk_W p l e jr_M_most s m args below meth c A (hk_Zi below args s D A o (wM cI a text letters mowers cows ricks weathers says words weather kindOf thatch newMowers newCows newRicks newWeathers newSays newWords newWeather newKind newThatch st pasts past aside seen seenWord seenHour keeps kept)) 7 D 0 0 (wM cI a text letters mowers cows ricks weathers says words weather kindOf thatch newMowers newCows newRicks newWeathers newSays newWords newWeather newKind newThatch st pasts past aside seen seenWord seenHour keeps kept) 30 [(0, .ref (a 0)), (1, .int x1), (2, .int x2), (3, .int q.1), (4, .int q.2.1), (5, .int q.2.2)] []) (ihx129 : ∀ q, kx129 q = some o → hk_W p l e jr_M_most s m args below meth c A (hk_Zi below args s D A o (wM cI a text letters mowers cows ricks weathers says words weather kindOf thatch newMowers newCows newRicks newWeathers newSays newWords newWeather newKind newThatch st pasts past aside seen seenWord seenHour keeps kept)) 7 D 0 0 (wM cI a text letters mowers cows ricks weathers says words weather kindOf thatch newMowers newCows newRicks newWeathers newSays newWords newWeather newKind newThatch st pasts past aside seen seenWord seenHour keeps kept) 129 [(2, .int x2), (3, .int q.1), (4, .int q.2)] []) (_ : jf_M_most_30B N cows ricks kindOf st x1 x2 x3 x4 x5 kh30 kx129 = some o), hk_W p l e jr_M_most s m args below meth c A (hk_Zi below args s D A o (wM cI a text letters mowers cows ricks weathers says words weather kindOf thatch newMowers newCows newRicks newWeathers newSays newWords newWeather newKind newThatch st pasts past aside seen seenWord seenHour keeps kept)) 7 D 0 0 (wM cI a text letters mowers cows ricks weathers says words weather kindOf thatch newMowers newCows newRicks newWeathers newSays newWords newWeather newKind newThatch st pasts past aside seen seenWord seenHour keeps kept) 30 [(0, .ref (a 0)), (1, .int x1), (2, .int x2), (3, .int x3), (4, .int x4), (5, .int x5)] [] := by
    intro cows ricks kindOf st x1 x2 x3 x4 x5 kh30 kx129 ihh30 ihx129 h
    delta jf_M_most_30B at h
    refine hk_iload hC jd_M_most_30 5 rfl ?_
    refine hk_aload_n hC jd_M_most_32 0 rfl ?_
    refine hk_get hC jk_M 0 rfl 4 (by decide) jq_702 rfl jd_M_most_33 ?_
    refine hk_icmp_ge (tgt := 129) hC jd_M_most_36 (by decide) (fun cc1 => ?_) (fun cc1 => ?_)
    · replace h := xi_t h cc1
      exact hk_lv [2, 3, 4] rfl (ihx129 (x3, x4) h)
    · replace h := xi_f h cc1
      refine hk_aload_n hC jd_M_most_39 0 rfl ?_
      refine hk_get hC jk_M 0 rfl 20 (by decide) jq_718 rfl jd_M_most_40 ?_
      refine hk_bipush (v := 15) hC jd_M_most_43 (by decide) ?_
      refine hk_iload hC jd_M_most_45 5 rfl ?_
      refine hk_iadd hC jd_M_most_47 ?_
      have hr1 := xr_in h
      replace h := xr_go h
      refine hk_iald hC 12 rfl hr1 jd_M_most_48 ?_
      refine hk_if_le (tgt := 123) hC jd_M_most_49 (by decide) (fun cc2 => ?_) (fun cc2 => ?_)
      · replace h := xi_t h cc2
        exact (B_123 cows ricks kindOf st x1 x2 x3 x4 x5 kh30 kx129 ihh30 ihx129 h)
      · replace h := xi_f h cc2
        refine hk_aload_n hC jd_M_most_52 0 rfl ?_
        refine hk_get hC jk_M 0 rfl 9 (by decide) jq_707 rfl jd_M_most_53 ?_
        refine hk_iload_n hC jd_M_most_56 1 rfl ?_
        have hr2 := xr_in h
        replace h := xr_go h
        refine hk_iald hC 5 rfl hr2 jd_M_most_57 ?_
        refine hk_aload_n hC jd_M_most_58 0 rfl ?_
        refine hk_iload hC jd_M_most_59 5 rfl ?_
        obtain ⟨q1, h_q1, h⟩ := xb_go h
        refine hk_callVWi hC (q0 := 0) (jc_M_top l D cI cF N a text letters mowers cows ricks weathers says words weather kindOf thatch newMowers newCows newRicks newWeathers newSays newWords newWeather newKind newThatch st pasts past aside seen seenWord seenHour keeps kept x5 h_q1) jl_M_top rfl rfl jq_883 jq_885 jq0_34 rfl ⟨by decide, by decide⟩ rfl rfl (Nat.le_of_ble_eq_true rfl) ⟨Nat.zero_le _, Nat.zero_le _⟩ jd_M_most_61 ?_
        refine hk_aload_n hC jd_M_most_64 0 rfl ?_
        refine hk_get hC jk_M 0 rfl 20 (by decide) jq_718 rfl jd_M_most_65 ?_
        refine hk_bipush (v := 11) hC jd_M_most_68 (by decide) ?_
        refine hk_iload_n hC jd_M_most_70 1 rfl ?_
        refine hk_iadd hC jd_M_most_71 ?_
        have hr3 := xr_in h
        replace h := xr_go h
        refine hk_iald hC 12 rfl hr3 jd_M_most_72 ?_
        obtain ⟨q2, h_q2, h⟩ := xb_go h
        refine hk_callS0i hC (jc_M_hears l D cI cF N (kindOf (Int32.toNatClampNeg x1)) q1 (st (Int32.toNatClampNeg ((11 : Int32) + x1))) h_q2) jl_M_hears jq_887 jq_888 rfl ⟨by decide, by decide⟩ rfl (Nat.le_of_ble_eq_true rfl) ⟨Nat.zero_le _, Nat.zero_le _⟩ jd_M_most_73 ?_
        refine hk_aload_n hC jd_M_most_76 0 rfl ?_
        refine hk_get hC jk_M 0 rfl 20 (by decide) jq_718 rfl jd_M_most_77 ?_
        refine hk_bipush (v := 11) hC jd_M_most_80 (by decide) ?_
        refine hk_iload_n hC jd_M_most_82 1 rfl ?_
        refine hk_iadd hC jd_M_most_83 ?_
        have hr4 := xr_in h
        replace h := xr_go h
        refine hk_iald hC 12 rfl hr4 jd_M_most_84 ?_
        refine hk_iconst (v := -1) hC jd_M_most_85 (by decide) ?_
        refine hk_ixor hC jd_M_most_86 ?_
        refine hk_iand hC jd_M_most_87 ?_
        obtain ⟨q3, h_q3, h⟩ := xb_go h
        refine hk_callS0i hC (jc_M_ones l D cI cF N (q2 &&& ((st (Int32.toNatClampNeg ((11 : Int32) + x1))) ^^^ (-1 : Int32))) h_q3) jl_M_ones jq_920 jq_921 rfl ⟨by decide, by decide⟩ rfl (Nat.le_of_ble_eq_true rfl) ⟨Nat.zero_le _, Nat.zero_le _⟩ jd_M_most_88 ?_
        refine hk_istore hC (i := 6) (y := q3) (lv2 := [(6, .int q3), (0, .ref (a 0)), (1, .int x1), (2, .int x2), (3, .int x3), (4, .int x4), (5, .int x5)]) jd_M_most_91 rfl (by decide) rfl ?_
        refine hk_iload hC jd_M_most_93 0 rfl ?_
        refine hk_iload hC jd_M_most_95 5 rfl ?_
        refine hk_icmp_le (tgt := 105) hC jd_M_most_97 (by decide) (fun cc3 => ?_) (fun cc3 => ?_)
        · replace h := xi_t h cc3
          refine hk_iload_n hC jd_M_most_105 4 rfl ?_
          exact hk_lv [1, 2, 3, 5, 6, 0] rfl (B_106 cows ricks kindOf st x1 x2 x4 x5 q3 x3 kh30 kx129 ihh30 ihx129 h)
        · replace h := xi_f h cc3
          refine hk_iload hC jd_M_most_100 6 rfl ?_
          refine hk_goto (tgt := 106) hC jd_M_most_102 (by decide) ?_
          exact hk_lv [1, 2, 3, 5, 6, 0] rfl (B_106 cows ricks kindOf st x1 x2 x4 x5 q3 x5 kh30 kx129 ihh30 ihx129 h)
  have L_30 : ∀ (cows : Int32) (ricks : Int32) (kindOf : Nat → Int32) (st : Nat → Int32) (x1 : Int32) (x2 : Int32) (x3 : Int32) (x4 : Int32) (x5 : Int32) (kx129 : (Int32 × Int32) → Option (Int32)) (ihx129 : ∀ q, kx129 q = some o → hk_W p l e jr_M_most s m args below meth c A (hk_Zi below args s D A o (wM cI a text letters mowers cows ricks weathers says words weather kindOf thatch newMowers newCows newRicks newWeathers newSays newWords newWeather newKind newThatch st pasts past aside seen seenWord seenHour keeps kept)) 7 D 0 0 (wM cI a text letters mowers cows ricks weathers says words weather kindOf thatch newMowers newCows newRicks newWeathers newSays newWords newWeather newKind newThatch st pasts past aside seen seenWord seenHour keeps kept) 129 [(2, .int x2), (3, .int q.1), (4, .int q.2)] []) (_ : jf_M_most_30 N cows ricks kindOf st x1 x2 x3 x4 x5 kx129 = some o), hk_W p l e jr_M_most s m args below meth c A (hk_Zi below args s D A o (wM cI a text letters mowers cows ricks weathers says words weather kindOf thatch newMowers newCows newRicks newWeathers newSays newWords newWeather newKind newThatch st pasts past aside seen seenWord seenHour keeps kept)) 7 D 0 0 (wM cI a text letters mowers cows ricks weathers says words weather kindOf thatch newMowers newCows newRicks newWeathers newSays newWords newWeather newKind newThatch st pasts past aside seen seenWord seenHour keeps kept) 30 [(0, .ref (a 0)), (1, .int x1), (2, .int x2), (3, .int x3), (4, .int x4), (5, .int x5)] [] := by
    intro cows ricks kindOf st x1 x2 x3 x4 x5 kx129 ihx129 h
    exact xloopW (fun (q : Int32 × Int32 × Int32) => hk_W p l e jr_M_most s m args below meth c A (hk_Zi below args s D A o (wM cI a text letters mowers cows ricks weathers says words weather kindOf thatch newMowers newCows newRicks newWeathers newSays newWords newWeather newKind newThatch st pasts past aside seen seenWord seenHour keeps kept)) 7 D 0 0 (wM cI a text letters mowers cows ricks weathers says words weather kindOf thatch newMowers newCows newRicks newWeathers newSays newWords newWeather newKind newThatch st pasts past aside seen seenWord seenHour keeps kept) 30 [(0, .ref (a 0)), (1, .int x1), (2, .int x2), (3, .int q.1), (4, .int q.2.1), (5, .int q.2.2)] []) (fun kh ih q h => B_30 cows ricks kindOf st x1 x2 q.1 q.2.1 q.2.2 kh kx129 ih ihx129 h) N (x3, x4, x5) h
  have B_129 : ∀ (cows : Int32) (ricks : Int32) (kindOf : Nat → Int32) (st : Nat → Int32) (x2 : Int32) (x3 : Int32) (x4 : Int32)   (_ : jf_M_most_129 N cows ricks kindOf st x2 x3 x4  = some o), hk_W p l e jr_M_most s m args below meth c A (hk_Zi below args s D A o (wM cI a text letters mowers cows ricks weathers says words weather kindOf thatch newMowers newCows newRicks newWeathers newSays newWords newWeather newKind newThatch st pasts past aside seen seenWord seenHour keeps kept)) 7 D 0 0 (wM cI a text letters mowers cows ricks weathers says words weather kindOf thatch newMowers newCows newRicks newWeathers newSays newWords newWeather newKind newThatch st pasts past aside seen seenWord seenHour keeps kept) 129 [(2, .int x2), (3, .int x3), (4, .int x4)] [] := by
    intro cows ricks kindOf st x2 x3 x4   h
    delta jf_M_most_129 at h
    refine hk_iload_n hC jd_M_most_129 0 rfl ?_
    refine hk_if_ne (tgt := 137) hC jd_M_most_130 (by decide) (fun cc1 => ?_) (fun cc1 => ?_)
    · replace h := xi_f h cc1
      refine hk_iload hC jd_M_most_137 2 rfl ?_
      obtain rfl := Option.some.inj h
      exact hk_iret hC hr jd_M_most_139 rfl rfl
    · replace h := xi_t h cc1
      refine hk_iload_n hC jd_M_most_133 1 rfl ?_
      refine hk_goto (tgt := 139) hC jd_M_most_134 (by decide) ?_
      obtain rfl := Option.some.inj h
      exact hk_iret hC hr jd_M_most_139 rfl rfl
  delta jf_M_most at h
  refine hk_aload_n hC jd_M_most_0 0 rfl ?_
  refine hk_iload_n hC jd_M_most_1 1 rfl ?_
  obtain ⟨q1, h_q1, h⟩ := xb_go h
  refine hk_callVWi hC (q0 := 0) (jc_M_isCow l D cI cF N a text letters mowers cows ricks weathers says words weather kindOf thatch newMowers newCows newRicks newWeathers newSays newWords newWeather newKind newThatch st pasts past aside seen seenWord seenHour keeps kept x1 h_q1) jl_M_isCow rfl rfl jq_814 jq_816 jq0_23 rfl ⟨by decide, by decide⟩ rfl rfl (Nat.le_of_ble_eq_true rfl) ⟨Nat.zero_le _, Nat.zero_le _⟩ jd_M_most_2 ?_
  refine hk_if_eq (tgt := 18) hC jd_M_most_5 (by decide) (fun cc1 => ?_) (fun cc1 => ?_)
  · replace h := xi_t h cc1
    refine hk_iconst (v := -1) hC jd_M_most_18 (by decide) ?_
    obtain rfl := Option.some.inj h
    exact hk_iret hC hr jd_M_most_19 rfl rfl
  · replace h := xi_f h cc1
    refine hk_iload_n hC jd_M_most_8 2 rfl ?_
    refine hk_i2l hC jd_M_most_9 ?_
    refine hk_lconst (v := 0) hC jd_M_most_10 (by decide) ?_
    refine hk_lconst (v := 1) hC jd_M_most_11 (by decide) ?_
    obtain ⟨q2, h_q2, h⟩ := xb_go h
    refine hk_callS0i hC (jc_M_in l D cI cF N (Int32.toInt64 x2) (0 : Int64) (1 : Int64) h_q2) jl_M_in jq_673 jq_674 rfl ⟨by decide, by decide⟩ rfl (Nat.le_of_ble_eq_true rfl) ⟨Nat.zero_le _, Nat.zero_le _⟩ jd_M_most_12 ?_
    refine hk_if_ne (tgt := 20) hC jd_M_most_15 (by decide) (fun cc2 => ?_) (fun cc2 => ?_)
    · replace h := xi_f h cc2
      refine hk_bipush (v := -4) hC jd_M_most_20 (by decide) ?_
      refine hk_istore_n hC (i := 3) (y := (-4 : Int32)) (lv2 := [(3, .int (-4 : Int32)), (0, .ref (a 0)), (1, .int x1), (2, .int x2)]) jd_M_most_22 rfl rfl (by decide) rfl ?_
      refine hk_bipush (v := -4) hC jd_M_most_23 (by decide) ?_
      refine hk_istore hC (i := 4) (y := (-4 : Int32)) (lv2 := [(4, .int (-4 : Int32)), (3, .int (-4 : Int32)), (0, .ref (a 0)), (1, .int x1), (2, .int x2)]) jd_M_most_25 rfl (by decide) rfl ?_
      refine hk_iconst (v := 0) hC jd_M_most_27 (by decide) ?_
      refine hk_istore hC (i := 5) (y := (0 : Int32)) (lv2 := [(5, .int (0 : Int32)), (4, .int (-4 : Int32)), (3, .int (-4 : Int32)), (0, .ref (a 0)), (1, .int x1), (2, .int x2)]) jd_M_most_28 rfl (by decide) rfl ?_
      exact hk_lv [3, 4, 5, 2, 1, 0] rfl (L_30 cows ricks kindOf st x1 x2 (-4 : Int32) (-4 : Int32) (0 : Int32) _ (fun q3 h => by exact (B_129 cows ricks kindOf st x2 q3.1 q3.2   h)) h)
    · replace h := xi_t h cc2
      refine hk_iconst (v := -1) hC jd_M_most_18 (by decide) ?_
      obtain rfl := Option.some.inj h
      exact hk_iret hC hr jd_M_most_19 rfl rfl
theorem jc_M_most (l : Launch) (D : va_G) (cI cF : ClassId) (N : Nat) (a : Nat → Nat)  (text : Nat → Int32) (letters : Int32) (mowers : Int32) (cows : Int32) (ricks : Int32) (weathers : Int32) (says : Nat → Int32) (words : Nat → Int32) (weather : Nat → Int32) (kindOf : Nat → Int32) (thatch : Nat → Int32) (newMowers : Int32) (newCows : Int32) (newRicks : Int32) (newWeathers : Int32) (newSays : Nat → Int32) (newWords : Nat → Int32) (newWeather : Nat → Int32) (newKind : Nat → Int32) (newThatch : Nat → Int32) (st : Nat → Int32) (pasts : Int32) (past : Nat → Int32) (aside : Nat → Int32) (seen : Int32) (seenWord : Nat → Int32) (seenHour : Nat → Int32) (keeps : Int32) (kept : Nat → Int32) (x1 : Int32) (x2 : Int32) {o : Int32} (h : jf_M_most N cows ricks kindOf st x1 x2 = some o) : hk_Mi l jy_M_most jb_M_most 7 (some .int) jr_M_most D cI cF (wM cI a text letters mowers cows ricks weathers says words weather kindOf thatch newMowers newCows newRicks newWeathers newSays newWords newWeather newKind newThatch st pasts past aside seen seenWord seenHour keeps kept) [.ref (a 0), .int x1, .int x2] o (wM cI a text letters mowers cows ricks weathers says words weather kindOf thatch newMowers newCows newRicks newWeathers newSays newWords newWeather newKind newThatch st pasts past aside seen seenWord seenHour keeps kept) :=
  hk_metI (by decide) (Nat.le_of_ble_eq_true rfl) rfl rfl (fun p e s m args below meth c A hC hr => jw_M_most hC hr N a text letters mowers cows ricks weathers says words weather kindOf thatch newMowers newCows newRicks newWeathers newSays newWords newWeather newKind newThatch st pasts past aside seen seenWord seenHour keeps kept x1 x2 h)
set_option maxHeartbeats 8000000 in
set_option maxRecDepth 100000 in
theorem jw_M_first {p : Program} {l : Launch} {e : Env} {s : State} {m : MethodId} {args : Array Value} {below : List Frame} {meth : Method} {c : Code} {A : Nat → Prop} {D : va_G} {cI cF : ClassId} (hC : hk_ok p s m args meth c A 5 D cI cF "HayTalkModel" jb_M_first) (hr : meth.sig.returnType = (some .int)) (N : Nat) (a : Nat → Nat)  (text : Nat → Int32) (letters : Int32) (mowers : Int32) (cows : Int32) (ricks : Int32) (weathers : Int32) (says : Nat → Int32) (words : Nat → Int32) (weather : Nat → Int32) (kindOf : Nat → Int32) (thatch : Nat → Int32) (newMowers : Int32) (newCows : Int32) (newRicks : Int32) (newWeathers : Int32) (newSays : Nat → Int32) (newWords : Nat → Int32) (newWeather : Nat → Int32) (newKind : Nat → Int32) (newThatch : Nat → Int32) (st : Nat → Int32) (pasts : Int32) (past : Nat → Int32) (aside : Nat → Int32) (seen : Int32) (seenWord : Nat → Int32) (seenHour : Nat → Int32) (keeps : Int32) (kept : Nat → Int32) (x1 : Int32) (x2 : Int32) {o : Int32} (h : jf_M_first N mowers says words st x1 x2 = some o) : hk_W p l e jr_M_first s m args below meth c A (hk_Zi below args s D A o (wM cI a text letters mowers cows ricks weathers says words weather kindOf thatch newMowers newCows newRicks newWeathers newSays newWords newWeather newKind newThatch st pasts past aside seen seenWord seenHour keeps kept)) 5 D 0 0 (wM cI a text letters mowers cows ricks weathers says words weather kindOf thatch newMowers newCows newRicks newWeathers newSays newWords newWeather newKind newThatch st pasts past aside seen seenWord seenHour keeps kept) 0 [(0, .ref (a 0)), (1, .int x1), (2, .int x2)] [] := by
  have B_35 : ∀ (mowers : Int32) (says : Nat → Int32) (words : Nat → Int32) (st : Nat → Int32) (x1 : Int32) (x2 : Int32) (x3 : Int32) (x4 : Int32) (kh35 : (Int32) → Option (Int32)) (kx64 : (Int32) → Option (Int32)) (kx81 : (Unit) → Option (Int32)) (ihh35 : ∀ q, kh35 q = some o → hk_W p l e jr_M_first s m args below meth c A (hk_Zi below args s D A o (wM cI a text letters mowers cows ricks weathers says words weather kindOf thatch newMowers newCows newRicks newWeathers newSays newWords newWeather newKind newThatch st pasts past aside seen seenWord seenHour keeps kept)) 5 D 0 0 (wM cI a text letters mowers cows ricks weathers says words weather kindOf thatch newMowers newCows newRicks newWeathers newSays newWords newWeather newKind newThatch st pasts past aside seen seenWord seenHour keeps kept) 35 [(0, .ref (a 0)), (1, .int x1), (2, .int x2), (3, .int x3), (4, .int q)] []) (ihx64 : ∀ q, kx64 q = some o → hk_W p l e jr_M_first s m args below meth c A (hk_Zi below args s D A o (wM cI a text letters mowers cows ricks weathers says words weather kindOf thatch newMowers newCows newRicks newWeathers newSays newWords newWeather newKind newThatch st pasts past aside seen seenWord seenHour keeps kept)) 5 D 0 0 (wM cI a text letters mowers cows ricks weathers says words weather kindOf thatch newMowers newCows newRicks newWeathers newSays newWords newWeather newKind newThatch st pasts past aside seen seenWord seenHour keeps kept) 64 [(2, .int x2), (3, .int x3), (4, .int q)] []) (ihx81 : ∀ q, kx81 q = some o → hk_W p l e jr_M_first s m args below meth c A (hk_Zi below args s D A o (wM cI a text letters mowers cows ricks weathers says words weather kindOf thatch newMowers newCows newRicks newWeathers newSays newWords newWeather newKind newThatch st pasts past aside seen seenWord seenHour keeps kept)) 5 D 0 0 (wM cI a text letters mowers cows ricks weathers says words weather kindOf thatch newMowers newCows newRicks newWeathers newSays newWords newWeather newKind newThatch st pasts past aside seen seenWord seenHour keeps kept) 81 [(0, .ref (a 0)), (1, .int x1), (2, .int x2), (3, .int x3)] []) (_ : jf_M_first_35B N mowers says words st x1 x2 x3 x4 kh35 kx64 kx81 = some o), hk_W p l e jr_M_first s m args below meth c A (hk_Zi below args s D A o (wM cI a text letters mowers cows ricks weathers says words weather kindOf thatch newMowers newCows newRicks newWeathers newSays newWords newWeather newKind newThatch st pasts past aside seen seenWord seenHour keeps kept)) 5 D 0 0 (wM cI a text letters mowers cows ricks weathers says words weather kindOf thatch newMowers newCows newRicks newWeathers newSays newWords newWeather newKind newThatch st pasts past aside seen seenWord seenHour keeps kept) 35 [(0, .ref (a 0)), (1, .int x1), (2, .int x2), (3, .int x3), (4, .int x4)] [] := by
    intro mowers says words st x1 x2 x3 x4 kh35 kx64 kx81 ihh35 ihx64 ihx81 h
    delta jf_M_first_35B at h
    refine hk_iload hC jd_M_first_35 4 rfl ?_
    refine hk_aload_n hC jd_M_first_37 0 rfl ?_
    refine hk_get hC jk_M 0 rfl 2 (by decide) jq_700 rfl jd_M_first_38 ?_
    refine hk_icmp_ge (tgt := 81) hC jd_M_first_41 (by decide) (fun cc1 => ?_) (fun cc1 => ?_)
    · replace h := xi_t h cc1
      exact hk_lv [0, 1, 2, 3] rfl (ihx81 () h)
    · replace h := xi_f h cc1
      refine hk_aload_n hC jd_M_first_44 0 rfl ?_
      refine hk_iload hC jd_M_first_45 4 rfl ?_
      refine hk_aload_n hC jd_M_first_47 0 rfl ?_
      refine hk_get hC jk_M 0 rfl 20 (by decide) jq_718 rfl jd_M_first_48 ?_
      refine hk_iconst (v := 0) hC jd_M_first_51 (by decide) ?_
      have hr1 := xr_in h
      replace h := xr_go h
      refine hk_iald hC 12 rfl hr1 jd_M_first_52 ?_
      refine hk_iload_n hC jd_M_first_53 3 rfl ?_
      refine hk_iadd hC jd_M_first_54 ?_
      refine hk_iconst (v := 1) hC jd_M_first_55 (by decide) ?_
      refine hk_isub hC jd_M_first_56 ?_
      obtain ⟨q1, h_q1, h⟩ := xb_go h
      refine hk_callVWi hC (q0 := 0) (jc_M_nextWord l D cI cF N a text letters mowers cows ricks weathers says words weather kindOf thatch newMowers newCows newRicks newWeathers newSays newWords newWeather newKind newThatch st pasts past aside seen seenWord seenHour keeps kept x4 (((st (Int32.toNatClampNeg (0 : Int32))) + x3) - (1 : Int32)) h_q1) jl_M_nextWord rfl rfl jq_806 jq_808 jq0_22 rfl ⟨by decide, by decide⟩ rfl rfl (Nat.le_of_ble_eq_true rfl) ⟨Nat.zero_le _, Nat.zero_le _⟩ jd_M_first_57 ?_
      refine hk_iload_n hC jd_M_first_60 1 rfl ?_
      refine hk_icmp_ne (tgt := 75) hC jd_M_first_61 (by decide) (fun cc2 => ?_) (fun cc2 => ?_)
      · replace h := xi_f h cc2
        obtain ⟨v1, e_v1, h⟩ := xl_go h
        refine hk_iinc hC (lv2 := [(4, .int v1), (0, .ref (a 0)), (1, .int x1), (2, .int x2), (3, .int x3)]) jd_M_first_75 4 rfl e_v1 (by decide) rfl ?_
        refine hk_goto (tgt := 35) hC jd_M_first_78 (by decide) ?_
        exact hk_lv [1, 2, 3, 4, 0] rfl (ihh35 v1 h)
      · replace h := xi_t h cc2
        exact hk_lv [2, 3, 4] rfl (ihx64 x4 h)
  have L_35 : ∀ (mowers : Int32) (says : Nat → Int32) (words : Nat → Int32) (st : Nat → Int32) (x1 : Int32) (x2 : Int32) (x3 : Int32) (x4 : Int32) (kx64 : (Int32) → Option (Int32)) (kx81 : (Unit) → Option (Int32)) (ihx64 : ∀ q, kx64 q = some o → hk_W p l e jr_M_first s m args below meth c A (hk_Zi below args s D A o (wM cI a text letters mowers cows ricks weathers says words weather kindOf thatch newMowers newCows newRicks newWeathers newSays newWords newWeather newKind newThatch st pasts past aside seen seenWord seenHour keeps kept)) 5 D 0 0 (wM cI a text letters mowers cows ricks weathers says words weather kindOf thatch newMowers newCows newRicks newWeathers newSays newWords newWeather newKind newThatch st pasts past aside seen seenWord seenHour keeps kept) 64 [(2, .int x2), (3, .int x3), (4, .int q)] []) (ihx81 : ∀ q, kx81 q = some o → hk_W p l e jr_M_first s m args below meth c A (hk_Zi below args s D A o (wM cI a text letters mowers cows ricks weathers says words weather kindOf thatch newMowers newCows newRicks newWeathers newSays newWords newWeather newKind newThatch st pasts past aside seen seenWord seenHour keeps kept)) 5 D 0 0 (wM cI a text letters mowers cows ricks weathers says words weather kindOf thatch newMowers newCows newRicks newWeathers newSays newWords newWeather newKind newThatch st pasts past aside seen seenWord seenHour keeps kept) 81 [(0, .ref (a 0)), (1, .int x1), (2, .int x2), (3, .int x3)] []) (_ : jf_M_first_35 N mowers says words st x1 x2 x3 x4 kx64 kx81 = some o), hk_W p l e jr_M_first s m args below meth c A (hk_Zi below args s D A o (wM cI a text letters mowers cows ricks weathers says words weather kindOf thatch newMowers newCows newRicks newWeathers newSays newWords newWeather newKind newThatch st pasts past aside seen seenWord seenHour keeps kept)) 5 D 0 0 (wM cI a text letters mowers cows ricks weathers says words weather kindOf thatch newMowers newCows newRicks newWeathers newSays newWords newWeather newKind newThatch st pasts past aside seen seenWord seenHour keeps kept) 35 [(0, .ref (a 0)), (1, .int x1), (2, .int x2), (3, .int x3), (4, .int x4)] [] := by
    intro mowers says words st x1 x2 x3 x4 kx64 kx81 ihx64 ihx81 h
    exact xloopW (fun (q : Int32) => hk_W p l e jr_M_first s m args below meth c A (hk_Zi below args s D A o (wM cI a text letters mowers cows ricks weathers says words weather kindOf thatch newMowers newCows newRicks newWeathers newSays newWords newWeather newKind newThatch st pasts past aside seen seenWord seenHour keeps kept)) 5 D 0 0 (wM cI a text letters mowers cows ricks weathers says words weather kindOf thatch newMowers newCows newRicks newWeathers newSays newWords newWeather newKind newThatch st pasts past aside seen seenWord seenHour keeps kept) 35 [(0, .ref (a 0)), (1, .int x1), (2, .int x2), (3, .int x3), (4, .int q)] []) (fun kh ih q h => B_35 mowers says words st x1 x2 x3 q kh kx64 kx81 ih ihx64 ihx81 h) N x4 h
  have B_81 : ∀ (mowers : Int32) (says : Nat → Int32) (words : Nat → Int32) (st : Nat → Int32) (x1 : Int32) (x2 : Int32) (x3 : Int32) (kh26 : (Int32) → Option (Int32)) (kx64 : (Int32 × Int32) → Option (Int32)) (ihh26 : ∀ q, kh26 q = some o → hk_W p l e jr_M_first s m args below meth c A (hk_Zi below args s D A o (wM cI a text letters mowers cows ricks weathers says words weather kindOf thatch newMowers newCows newRicks newWeathers newSays newWords newWeather newKind newThatch st pasts past aside seen seenWord seenHour keeps kept)) 5 D 0 0 (wM cI a text letters mowers cows ricks weathers says words weather kindOf thatch newMowers newCows newRicks newWeathers newSays newWords newWeather newKind newThatch st pasts past aside seen seenWord seenHour keeps kept) 26 [(0, .ref (a 0)), (1, .int x1), (2, .int x2), (3, .int q)] []) (ihx64 : ∀ q, kx64 q = some o → hk_W p l e jr_M_first s m args below meth c A (hk_Zi below args s D A o (wM cI a text letters mowers cows ricks weathers says words weather kindOf thatch newMowers newCows newRicks newWeathers newSays newWords newWeather newKind newThatch st pasts past aside seen seenWord seenHour keeps kept)) 5 D 0 0 (wM cI a text letters mowers cows ricks weathers says words weather kindOf thatch newMowers newCows newRicks newWeathers newSays newWords newWeather newKind newThatch st pasts past aside seen seenWord seenHour keeps kept) 64 [(2, .int x2), (3, .int q.1), (4, .int q.2)] []) (_ : jf_M_first_81 N mowers says words st x1 x2 x3 kh26 kx64 = some o), hk_W p l e jr_M_first s m args below meth c A (hk_Zi below args s D A o (wM cI a text letters mowers cows ricks weathers says words weather kindOf thatch newMowers newCows newRicks newWeathers newSays newWords newWeather newKind newThatch st pasts past aside seen seenWord seenHour keeps kept)) 5 D 0 0 (wM cI a text letters mowers cows ricks weathers says words weather kindOf thatch newMowers newCows newRicks newWeathers newSays newWords newWeather newKind newThatch st pasts past aside seen seenWord seenHour keeps kept) 81 [(0, .ref (a 0)), (1, .int x1), (2, .int x2), (3, .int x3)] [] := by
    intro mowers says words st x1 x2 x3 kh26 kx64 ihh26 ihx64 h
    delta jf_M_first_81 at h
    obtain ⟨v1, e_v1, h⟩ := xl_go h
    refine hk_iinc hC (lv2 := [(3, .int v1), (0, .ref (a 0)), (1, .int x1), (2, .int x2)]) jd_M_first_81 3 rfl e_v1 (by decide) rfl ?_
    refine hk_goto (tgt := 26) hC jd_M_first_84 (by decide) ?_
    exact hk_lv [1, 2, 3, 0] rfl (ihh26 v1 h)
  have B_26 : ∀ (mowers : Int32) (says : Nat → Int32) (words : Nat → Int32) (st : Nat → Int32) (x1 : Int32) (x2 : Int32) (x3 : Int32) (kh26 : (Int32) → Option (Int32)) (kx64 : (Int32 × Int32) → Option (Int32)) (ihh26 : ∀ q, kh26 q = some o → hk_W p l e jr_M_first s m args below meth c A (hk_Zi below args s D A o (wM cI a text letters mowers cows ricks weathers says words weather kindOf thatch newMowers newCows newRicks newWeathers newSays newWords newWeather newKind newThatch st pasts past aside seen seenWord seenHour keeps kept)) 5 D 0 0 (wM cI a text letters mowers cows ricks weathers says words weather kindOf thatch newMowers newCows newRicks newWeathers newSays newWords newWeather newKind newThatch st pasts past aside seen seenWord seenHour keeps kept) 26 [(0, .ref (a 0)), (1, .int x1), (2, .int x2), (3, .int q)] []) (ihx64 : ∀ q, kx64 q = some o → hk_W p l e jr_M_first s m args below meth c A (hk_Zi below args s D A o (wM cI a text letters mowers cows ricks weathers says words weather kindOf thatch newMowers newCows newRicks newWeathers newSays newWords newWeather newKind newThatch st pasts past aside seen seenWord seenHour keeps kept)) 5 D 0 0 (wM cI a text letters mowers cows ricks weathers says words weather kindOf thatch newMowers newCows newRicks newWeathers newSays newWords newWeather newKind newThatch st pasts past aside seen seenWord seenHour keeps kept) 64 [(2, .int x2), (3, .int q.1), (4, .int q.2)] []) (_ : jf_M_first_26B N mowers says words st x1 x2 x3 kh26 kx64 = some o), hk_W p l e jr_M_first s m args below meth c A (hk_Zi below args s D A o (wM cI a text letters mowers cows ricks weathers says words weather kindOf thatch newMowers newCows newRicks newWeathers newSays newWords newWeather newKind newThatch st pasts past aside seen seenWord seenHour keeps kept)) 5 D 0 0 (wM cI a text letters mowers cows ricks weathers says words weather kindOf thatch newMowers newCows newRicks newWeathers newSays newWords newWeather newKind newThatch st pasts past aside seen seenWord seenHour keeps kept) 26 [(0, .ref (a 0)), (1, .int x1), (2, .int x2), (3, .int x3)] [] := by
    intro mowers says words st x1 x2 x3 kh26 kx64 ihh26 ihx64 h
    delta jf_M_first_26B at h
    refine hk_iload_n hC jd_M_first_26 3 rfl ?_
    refine hk_bipush (v := 60) hC jd_M_first_27 (by decide) ?_
    refine hk_icmp_gt (tgt := 87) hC jd_M_first_29 (by decide) (fun cc1 => ?_) (fun cc1 => ?_)
    · replace h := xi_t h cc1
      refine hk_bipush (v := -4) hC jd_M_first_87 (by decide) ?_
      obtain rfl := Option.some.inj h
      exact hk_iret hC hr jd_M_first_89 rfl rfl
    · replace h := xi_f h cc1
      refine hk_iconst (v := 0) hC jd_M_first_32 (by decide) ?_
      refine hk_istore hC (i := 4) (y := (0 : Int32)) (lv2 := [(4, .int (0 : Int32)), (0, .ref (a 0)), (1, .int x1), (2, .int x2), (3, .int x3)]) jd_M_first_33 rfl (by decide) rfl ?_
      exact hk_lv [1, 2, 3, 4, 0] rfl (L_35 mowers says words st x1 x2 x3 (0 : Int32) _ _ (fun q1 h => by exact (ihx64 (x3, q1) h)) (fun q2 h => by exact (B_81 mowers says words st x1 x2 x3 kh26 kx64 ihh26 ihx64 h)) h)
  have L_26 : ∀ (mowers : Int32) (says : Nat → Int32) (words : Nat → Int32) (st : Nat → Int32) (x1 : Int32) (x2 : Int32) (x3 : Int32) (kx64 : (Int32 × Int32) → Option (Int32)) (ihx64 : ∀ q, kx64 q = some o → hk_W p l e jr_M_first s m args below meth c A (hk_Zi below args s D A o (wM cI a text letters mowers cows ricks weathers says words weather kindOf thatch newMowers newCows newRicks newWeathers newSays newWords newWeather newKind newThatch st pasts past aside seen seenWord seenHour keeps kept)) 5 D 0 0 (wM cI a text letters mowers cows ricks weathers says words weather kindOf thatch newMowers newCows newRicks newWeathers newSays newWords newWeather newKind newThatch st pasts past aside seen seenWord seenHour keeps kept) 64 [(2, .int x2), (3, .int q.1), (4, .int q.2)] []) (_ : jf_M_first_26 N mowers says words st x1 x2 x3 kx64 = some o), hk_W p l e jr_M_first s m args below meth c A (hk_Zi below args s D A o (wM cI a text letters mowers cows ricks weathers says words weather kindOf thatch newMowers newCows newRicks newWeathers newSays newWords newWeather newKind newThatch st pasts past aside seen seenWord seenHour keeps kept)) 5 D 0 0 (wM cI a text letters mowers cows ricks weathers says words weather kindOf thatch newMowers newCows newRicks newWeathers newSays newWords newWeather newKind newThatch st pasts past aside seen seenWord seenHour keeps kept) 26 [(0, .ref (a 0)), (1, .int x1), (2, .int x2), (3, .int x3)] [] := by
    intro mowers says words st x1 x2 x3 kx64 ihx64 h
    exact xloopW (fun (q : Int32) => hk_W p l e jr_M_first s m args below meth c A (hk_Zi below args s D A o (wM cI a text letters mowers cows ricks weathers says words weather kindOf thatch newMowers newCows newRicks newWeathers newSays newWords newWeather newKind newThatch st pasts past aside seen seenWord seenHour keeps kept)) 5 D 0 0 (wM cI a text letters mowers cows ricks weathers says words weather kindOf thatch newMowers newCows newRicks newWeathers newSays newWords newWeather newKind newThatch st pasts past aside seen seenWord seenHour keeps kept) 26 [(0, .ref (a 0)), (1, .int x1), (2, .int x2), (3, .int q)] []) (fun kh ih q h => B_26 mowers says words st x1 x2 q kh kx64 ih ihx64 h) N x3 h
  have B_64 : ∀ (mowers : Int32) (says : Nat → Int32) (words : Nat → Int32) (st : Nat → Int32) (x2 : Int32) (x3 : Int32) (x4 : Int32)   (_ : jf_M_first_64 N mowers says words st x2 x3 x4  = some o), hk_W p l e jr_M_first s m args below meth c A (hk_Zi below args s D A o (wM cI a text letters mowers cows ricks weathers says words weather kindOf thatch newMowers newCows newRicks newWeathers newSays newWords newWeather newKind newThatch st pasts past aside seen seenWord seenHour keeps kept)) 5 D 0 0 (wM cI a text letters mowers cows ricks weathers says words weather kindOf thatch newMowers newCows newRicks newWeathers newSays newWords newWeather newKind newThatch st pasts past aside seen seenWord seenHour keeps kept) 64 [(2, .int x2), (3, .int x3), (4, .int x4)] [] := by
    intro mowers says words st x2 x3 x4   h
    delta jf_M_first_64 at h
    refine hk_iload_n hC jd_M_first_64 0 rfl ?_
    refine hk_if_ne (tgt := 72) hC jd_M_first_65 (by decide) (fun cc1 => ?_) (fun cc1 => ?_)
    · replace h := xi_f h cc1
      refine hk_iload hC jd_M_first_72 2 rfl ?_
      obtain rfl := Option.some.inj h
      exact hk_iret hC hr jd_M_first_74 rfl rfl
    · replace h := xi_t h cc1
      refine hk_iload_n hC jd_M_first_68 1 rfl ?_
      refine hk_goto (tgt := 74) hC jd_M_first_69 (by decide) ?_
      obtain rfl := Option.some.inj h
      exact hk_iret hC hr jd_M_first_74 rfl rfl
  delta jf_M_first at h
  refine hk_iload_n hC jd_M_first_0 1 rfl ?_
  refine hk_i2l hC jd_M_first_1 ?_
  refine hk_lconst (v := 0) hC jd_M_first_2 (by decide) ?_
  refine hk_ldc2 hC jd_M_first_3 jq_672 ?_
  obtain ⟨q1, h_q1, h⟩ := xb_go h
  refine hk_callS0i hC (jc_M_in l D cI cF N (Int32.toInt64 x1) (0 : Int64) (9 : Int64) h_q1) jl_M_in jq_673 jq_674 rfl ⟨by decide, by decide⟩ rfl (Nat.le_of_ble_eq_true rfl) ⟨Nat.zero_le _, Nat.zero_le _⟩ jd_M_first_6 ?_
  refine hk_if_eq (tgt := 22) hC jd_M_first_9 (by decide) (fun cc1 => ?_) (fun cc1 => ?_)
  · replace h := xi_t h cc1
    refine hk_iconst (v := -1) hC jd_M_first_22 (by decide) ?_
    obtain rfl := Option.some.inj h
    exact hk_iret hC hr jd_M_first_23 rfl rfl
  · replace h := xi_f h cc1
    refine hk_iload_n hC jd_M_first_12 2 rfl ?_
    refine hk_i2l hC jd_M_first_13 ?_
    refine hk_lconst (v := 0) hC jd_M_first_14 (by decide) ?_
    refine hk_lconst (v := 1) hC jd_M_first_15 (by decide) ?_
    obtain ⟨q2, h_q2, h⟩ := xb_go h
    refine hk_callS0i hC (jc_M_in l D cI cF N (Int32.toInt64 x2) (0 : Int64) (1 : Int64) h_q2) jl_M_in jq_673 jq_674 rfl ⟨by decide, by decide⟩ rfl (Nat.le_of_ble_eq_true rfl) ⟨Nat.zero_le _, Nat.zero_le _⟩ jd_M_first_16 ?_
    refine hk_if_ne (tgt := 24) hC jd_M_first_19 (by decide) (fun cc2 => ?_) (fun cc2 => ?_)
    · replace h := xi_f h cc2
      refine hk_iconst (v := 1) hC jd_M_first_24 (by decide) ?_
      refine hk_istore_n hC (i := 3) (y := (1 : Int32)) (lv2 := [(3, .int (1 : Int32)), (0, .ref (a 0)), (1, .int x1), (2, .int x2)]) jd_M_first_25 rfl rfl (by decide) rfl ?_
      exact hk_lv [1, 2, 3, 0] rfl (L_26 mowers says words st x1 x2 (1 : Int32) _ (fun q3 h => by exact (B_64 mowers says words st x2 q3.1 q3.2   h)) h)
    · replace h := xi_t h cc2
      refine hk_iconst (v := -1) hC jd_M_first_22 (by decide) ?_
      obtain rfl := Option.some.inj h
      exact hk_iret hC hr jd_M_first_23 rfl rfl
theorem jc_M_first (l : Launch) (D : va_G) (cI cF : ClassId) (N : Nat) (a : Nat → Nat)  (text : Nat → Int32) (letters : Int32) (mowers : Int32) (cows : Int32) (ricks : Int32) (weathers : Int32) (says : Nat → Int32) (words : Nat → Int32) (weather : Nat → Int32) (kindOf : Nat → Int32) (thatch : Nat → Int32) (newMowers : Int32) (newCows : Int32) (newRicks : Int32) (newWeathers : Int32) (newSays : Nat → Int32) (newWords : Nat → Int32) (newWeather : Nat → Int32) (newKind : Nat → Int32) (newThatch : Nat → Int32) (st : Nat → Int32) (pasts : Int32) (past : Nat → Int32) (aside : Nat → Int32) (seen : Int32) (seenWord : Nat → Int32) (seenHour : Nat → Int32) (keeps : Int32) (kept : Nat → Int32) (x1 : Int32) (x2 : Int32) {o : Int32} (h : jf_M_first N mowers says words st x1 x2 = some o) : hk_Mi l jy_M_first jb_M_first 5 (some .int) jr_M_first D cI cF (wM cI a text letters mowers cows ricks weathers says words weather kindOf thatch newMowers newCows newRicks newWeathers newSays newWords newWeather newKind newThatch st pasts past aside seen seenWord seenHour keeps kept) [.ref (a 0), .int x1, .int x2] o (wM cI a text letters mowers cows ricks weathers says words weather kindOf thatch newMowers newCows newRicks newWeathers newSays newWords newWeather newKind newThatch st pasts past aside seen seenWord seenHour keeps kept) :=
  hk_metI (by decide) (Nat.le_of_ble_eq_true rfl) rfl rfl (fun p e s m args below meth c A hC hr => jw_M_first hC hr N a text letters mowers cows ricks weathers says words weather kindOf thatch newMowers newCows newRicks newWeathers newSays newWords newWeather newKind newThatch st pasts past aside seen seenWord seenHour keeps kept x1 x2 h)
set_option maxHeartbeats 8000000 in
set_option maxRecDepth 100000 in
theorem jw_M_has {p : Program} {l : Launch} {e : Env} {s : State} {m : MethodId} {args : Array Value} {below : List Frame} {meth : Method} {c : Code} {A : Nat → Prop} {D : va_G} {cI cF : ClassId} (hC : hk_ok p s m args meth c A 2 D cI cF "HayTalkModel" jb_M_has) (hr : meth.sig.returnType = (some .boolean)) (N : Nat)    (x0 : Int32) (x1 : Int32) {o : Int32} (h : jf_M_has N x0 x1 = some o) : hk_W p l e jr_M_has s m args below meth c A (hk_Zi below args s D A o ([] : va_W)) 2 D 0 0 ([] : va_W) 0 [(0, .int x0), (1, .int x1)] [] := by
  delta jf_M_has at h
  refine hk_iload_n hC jd_M_has_0 0 rfl ?_
  refine hk_iload_n hC jd_M_has_1 1 rfl ?_
  refine hk_ishr hC jd_M_has_2 ?_
  refine hk_iconst (v := 1) hC jd_M_has_3 (by decide) ?_
  refine hk_iand hC jd_M_has_4 ?_
  refine hk_iconst (v := 1) hC jd_M_has_5 (by decide) ?_
  refine hk_icmp_ne (tgt := 13) hC jd_M_has_6 (by decide) (fun cc1 => ?_) (fun cc1 => ?_)
  · replace h := xi_f h cc1
    refine hk_iconst (v := 0) hC jd_M_has_13 (by decide) ?_
    obtain rfl := Option.some.inj h
    exact hk_zret hC hr rfl jd_M_has_14 rfl rfl
  · replace h := xi_t h cc1
    refine hk_iconst (v := 1) hC jd_M_has_9 (by decide) ?_
    refine hk_goto (tgt := 14) hC jd_M_has_10 (by decide) ?_
    obtain rfl := Option.some.inj h
    exact hk_zret hC hr rfl jd_M_has_14 rfl rfl
theorem jc_M_has (l : Launch) (D : va_G) (cI cF : ClassId) (N : Nat)    (x0 : Int32) (x1 : Int32) {o : Int32} (h : jf_M_has N x0 x1 = some o) : hk_Mi l jy_M_has jb_M_has 2 (some .boolean) jr_M_has D cI cF ([] : va_W) [.int x0, .int x1] o ([] : va_W) :=
  hk_metI (by decide) (Nat.le_of_ble_eq_true rfl) rfl rfl (fun p e s m args below meth c A hC hr => jw_M_has hC hr N x0 x1 h)
set_option maxHeartbeats 8000000 in
set_option maxRecDepth 100000 in
theorem jw_M_weight {p : Program} {l : Launch} {e : Env} {s : State} {m : MethodId} {args : Array Value} {below : List Frame} {meth : Method} {c : Code} {A : Nat → Prop} {D : va_G} {cI cF : ClassId} (hC : hk_ok p s m args meth c A 5 D cI cF "HayTalkModel" jb_M_weight) (hr : meth.sig.returnType = (some .int)) (N : Nat) (a : Nat → Nat)  (text : Nat → Int32) (letters : Int32) (mowers : Int32) (cows : Int32) (ricks : Int32) (weathers : Int32) (says : Nat → Int32) (words : Nat → Int32) (weather : Nat → Int32) (kindOf : Nat → Int32) (thatch : Nat → Int32) (newMowers : Int32) (newCows : Int32) (newRicks : Int32) (newWeathers : Int32) (newSays : Nat → Int32) (newWords : Nat → Int32) (newWeather : Nat → Int32) (newKind : Nat → Int32) (newThatch : Nat → Int32) (st : Nat → Int32) (pasts : Int32) (past : Nat → Int32) (aside : Nat → Int32) (seen : Int32) (seenWord : Nat → Int32) (seenHour : Nat → Int32) (keeps : Int32) (kept : Nat → Int32) (x1 : Int32) (x2 : Int32) {o : Int32} (h : jf_M_weight N st x1 x2 = some o) : hk_W p l e jr_M_weight s m args below meth c A (hk_Zi below args s D A o (wM cI a text letters mowers cows ricks weathers says words weather kindOf thatch newMowers newCows newRicks newWeathers newSays newWords newWeather newKind newThatch st pasts past aside seen seenWord seenHour keeps kept)) 5 D 0 0 (wM cI a text letters mowers cows ricks weathers says words weather kindOf thatch newMowers newCows newRicks newWeathers newSays newWords newWeather newKind newThatch st pasts past aside seen seenWord seenHour keeps kept) 0 [(0, .ref (a 0)), (1, .int x1), (2, .int x2)] [] := by
  have B_50 : ∀ (st : Nat → Int32) (x1 : Int32) (x2 : Int32) (x4 : Int32) (y0 : Int32) (y1 : Int32) (kh5 : (Int32 × Int32) → Option (Int32)) (ihh5 : ∀ q, kh5 q = some o → hk_W p l e jr_M_weight s m args below meth c A (hk_Zi below args s D A o (wM cI a text letters mowers cows ricks weathers says words weather kindOf thatch newMowers newCows newRicks newWeathers newSays newWords newWeather newKind newThatch st pasts past aside seen seenWord seenHour keeps kept)) 5 D 0 0 (wM cI a text letters mowers cows ricks weathers says words weather kindOf thatch newMowers newCows newRicks newWeathers newSays newWords newWeather newKind newThatch st pasts past aside seen seenWord seenHour keeps kept) 5 [(0, .ref (a 0)), (1, .int x1), (2, .int x2), (3, .int q.1), (4, .int q.2)] []) (_ : jf_M_weight_50 N st x1 x2 x4 y0 y1 kh5 = some o), hk_W p l e jr_M_weight s m args below meth c A (hk_Zi below args s D A o (wM cI a text letters mowers cows ricks weathers says words weather kindOf thatch newMowers newCows newRicks newWeathers newSays newWords newWeather newKind newThatch st pasts past aside seen seenWord seenHour keeps kept)) 5 D 0 0 (wM cI a text letters mowers cows ricks weathers says words weather kindOf thatch newMowers newCows newRicks newWeathers newSays newWords newWeather newKind newThatch st pasts past aside seen seenWord seenHour keeps kept) 50 [(0, .ref (a 0)), (1, .int x1), (2, .int x2), (4, .int x4)] [.int y1, .int y0] := by
    intro st x1 x2 x4 y0 y1 kh5 ihh5 h
    delta jf_M_weight_50 at h
    refine hk_iadd hC jd_M_weight_50 ?_
    obtain ⟨v1, e_v1, h⟩ := xl_go h
    refine hk_istore_n hC (i := 3) (y := v1) (lv2 := [(3, .int v1), (0, .ref (a 0)), (1, .int x1), (2, .int x2), (4, .int x4)]) jd_M_weight_51 rfl e_v1 (by decide) rfl ?_
    obtain ⟨v2, e_v2, h⟩ := xl_go h
    refine hk_iinc hC (lv2 := [(4, .int v2), (3, .int v1), (0, .ref (a 0)), (1, .int x1), (2, .int x2)]) jd_M_weight_52 4 rfl e_v2 (by decide) rfl ?_
    refine hk_goto (tgt := 5) hC jd_M_weight_55 (by decide) ?_
    exact hk_lv [2, 3, 4, 1, 0] rfl (ihh5 (v1, v2) h)
  have B_5 : ∀ (st : Nat → Int32) (x1 : Int32) (x2 : Int32) (x3 : Int32) (x4 : Int32) (kh5 : (Int32 × Int32) → Option (Int32)) (ihh5 : ∀ q, kh5 q = some o → hk_W p l e jr_M_weight s m args below meth c A (hk_Zi below args s D A o (wM cI a text letters mowers cows ricks weathers says words weather kindOf thatch newMowers newCows newRicks newWeathers newSays newWords newWeather newKind newThatch st pasts past aside seen seenWord seenHour keeps kept)) 5 D 0 0 (wM cI a text letters mowers cows ricks weathers says words weather kindOf thatch newMowers newCows newRicks newWeathers newSays newWords newWeather newKind newThatch st pasts past aside seen seenWord seenHour keeps kept) 5 [(0, .ref (a 0)), (1, .int x1), (2, .int x2), (3, .int q.1), (4, .int q.2)] []) (_ : jf_M_weight_5B N st x1 x2 x3 x4 kh5 = some o), hk_W p l e jr_M_weight s m args below meth c A (hk_Zi below args s D A o (wM cI a text letters mowers cows ricks weathers says words weather kindOf thatch newMowers newCows newRicks newWeathers newSays newWords newWeather newKind newThatch st pasts past aside seen seenWord seenHour keeps kept)) 5 D 0 0 (wM cI a text letters mowers cows ricks weathers says words weather kindOf thatch newMowers newCows newRicks newWeathers newSays newWords newWeather newKind newThatch st pasts past aside seen seenWord seenHour keeps kept) 5 [(0, .ref (a 0)), (1, .int x1), (2, .int x2), (3, .int x3), (4, .int x4)] [] := by
    intro st x1 x2 x3 x4 kh5 ihh5 h
    delta jf_M_weight_5B at h
    refine hk_iload hC jd_M_weight_5 4 rfl ?_
    refine hk_aload_n hC jd_M_weight_7 0 rfl ?_
    refine hk_get hC jk_M 0 rfl 20 (by decide) jq_718 rfl jd_M_weight_8 ?_
    refine hk_bipush (v := 15) hC jd_M_weight_11 (by decide) ?_
    refine hk_iload_n hC jd_M_weight_13 2 rfl ?_
    refine hk_iadd hC jd_M_weight_14 ?_
    have hr1 := xr_in h
    replace h := xr_go h
    refine hk_iald hC 12 rfl hr1 jd_M_weight_15 ?_
    refine hk_icmp_ge (tgt := 58) hC jd_M_weight_16 (by decide) (fun cc1 => ?_) (fun cc1 => ?_)
    · replace h := xi_t h cc1
      refine hk_iload_n hC jd_M_weight_58 3 rfl ?_
      obtain rfl := Option.some.inj h
      exact hk_iret hC hr jd_M_weight_59 rfl rfl
    · replace h := xi_f h cc1
      refine hk_iload_n hC jd_M_weight_19 3 rfl ?_
      refine hk_aload_n hC jd_M_weight_20 0 rfl ?_
      refine hk_get hC jk_M 0 rfl 20 (by decide) jq_718 rfl jd_M_weight_21 ?_
      refine hk_bipush (v := 21) hC jd_M_weight_24 (by decide) ?_
      refine hk_bipush (v := 8) hC jd_M_weight_26 (by decide) ?_
      refine hk_iload_n hC jd_M_weight_28 2 rfl ?_
      refine hk_imul hC jd_M_weight_29 ?_
      refine hk_iadd hC jd_M_weight_30 ?_
      refine hk_iload hC jd_M_weight_31 4 rfl ?_
      refine hk_iadd hC jd_M_weight_33 ?_
      have hr2 := xr_in h
      replace h := xr_go h
      refine hk_iald hC 12 rfl hr2 jd_M_weight_34 ?_
      refine hk_iload_n hC jd_M_weight_35 1 rfl ?_
      obtain ⟨q1, h_q1, h⟩ := xb_go h
      refine hk_callS0i hC (jc_M_has l D cI cF N (st (Int32.toNatClampNeg (((21 : Int32) + ((8 : Int32) * x2)) + x4))) x1 h_q1) jl_M_has jq_939 jq_940 rfl ⟨by decide, by decide⟩ rfl (Nat.le_of_ble_eq_true rfl) ⟨Nat.zero_le _, Nat.zero_le _⟩ jd_M_weight_36 ?_
      refine hk_if_eq (tgt := 49) hC jd_M_weight_39 (by decide) (fun cc2 => ?_) (fun cc2 => ?_)
      · replace h := xi_t h cc2
        refine hk_iconst (v := 0) hC jd_M_weight_49 (by decide) ?_
        exact hk_lv [0, 1, 2, 4] rfl (B_50 st x1 x2 x4 x3 (0 : Int32) kh5 ihh5 h)
      · replace h := xi_f h cc2
        refine hk_iload hC jd_M_weight_42 4 rfl ?_
        refine hk_iconst (v := 1) hC jd_M_weight_44 (by decide) ?_
        refine hk_iadd hC jd_M_weight_45 ?_
        refine hk_goto (tgt := 50) hC jd_M_weight_46 (by decide) ?_
        exact hk_lv [0, 1, 2, 4] rfl (B_50 st x1 x2 x4 x3 (x4 + (1 : Int32)) kh5 ihh5 h)
  have L_5 : ∀ (st : Nat → Int32) (x1 : Int32) (x2 : Int32) (x3 : Int32) (x4 : Int32)   (_ : jf_M_weight_5 N st x1 x2 x3 x4  = some o), hk_W p l e jr_M_weight s m args below meth c A (hk_Zi below args s D A o (wM cI a text letters mowers cows ricks weathers says words weather kindOf thatch newMowers newCows newRicks newWeathers newSays newWords newWeather newKind newThatch st pasts past aside seen seenWord seenHour keeps kept)) 5 D 0 0 (wM cI a text letters mowers cows ricks weathers says words weather kindOf thatch newMowers newCows newRicks newWeathers newSays newWords newWeather newKind newThatch st pasts past aside seen seenWord seenHour keeps kept) 5 [(0, .ref (a 0)), (1, .int x1), (2, .int x2), (3, .int x3), (4, .int x4)] [] := by
    intro st x1 x2 x3 x4   h
    exact xloopW (fun (q : Int32 × Int32) => hk_W p l e jr_M_weight s m args below meth c A (hk_Zi below args s D A o (wM cI a text letters mowers cows ricks weathers says words weather kindOf thatch newMowers newCows newRicks newWeathers newSays newWords newWeather newKind newThatch st pasts past aside seen seenWord seenHour keeps kept)) 5 D 0 0 (wM cI a text letters mowers cows ricks weathers says words weather kindOf thatch newMowers newCows newRicks newWeathers newSays newWords newWeather newKind newThatch st pasts past aside seen seenWord seenHour keeps kept) 5 [(0, .ref (a 0)), (1, .int x1), (2, .int x2), (3, .int q.1), (4, .int q.2)] []) (fun kh ih q h => B_5 st x1 x2 q.1 q.2 kh  ih  h) N (x3, x4) h
  delta jf_M_weight at h
  refine hk_iconst (v := 0) hC jd_M_weight_0 (by decide) ?_
  refine hk_istore_n hC (i := 3) (y := (0 : Int32)) (lv2 := [(3, .int (0 : Int32)), (0, .ref (a 0)), (1, .int x1), (2, .int x2)]) jd_M_weight_1 rfl rfl (by decide) rfl ?_
  refine hk_iconst (v := 0) hC jd_M_weight_2 (by decide) ?_
  refine hk_istore hC (i := 4) (y := (0 : Int32)) (lv2 := [(4, .int (0 : Int32)), (3, .int (0 : Int32)), (0, .ref (a 0)), (1, .int x1), (2, .int x2)]) jd_M_weight_3 rfl (by decide) rfl ?_
  exact hk_lv [2, 3, 4, 1, 0] rfl (L_5 st x1 x2 (0 : Int32) (0 : Int32)   h)
theorem jc_M_weight (l : Launch) (D : va_G) (cI cF : ClassId) (N : Nat) (a : Nat → Nat)  (text : Nat → Int32) (letters : Int32) (mowers : Int32) (cows : Int32) (ricks : Int32) (weathers : Int32) (says : Nat → Int32) (words : Nat → Int32) (weather : Nat → Int32) (kindOf : Nat → Int32) (thatch : Nat → Int32) (newMowers : Int32) (newCows : Int32) (newRicks : Int32) (newWeathers : Int32) (newSays : Nat → Int32) (newWords : Nat → Int32) (newWeather : Nat → Int32) (newKind : Nat → Int32) (newThatch : Nat → Int32) (st : Nat → Int32) (pasts : Int32) (past : Nat → Int32) (aside : Nat → Int32) (seen : Int32) (seenWord : Nat → Int32) (seenHour : Nat → Int32) (keeps : Int32) (kept : Nat → Int32) (x1 : Int32) (x2 : Int32) {o : Int32} (h : jf_M_weight N st x1 x2 = some o) : hk_Mi l jy_M_weight jb_M_weight 5 (some .int) jr_M_weight D cI cF (wM cI a text letters mowers cows ricks weathers says words weather kindOf thatch newMowers newCows newRicks newWeathers newSays newWords newWeather newKind newThatch st pasts past aside seen seenWord seenHour keeps kept) [.ref (a 0), .int x1, .int x2] o (wM cI a text letters mowers cows ricks weathers says words weather kindOf thatch newMowers newCows newRicks newWeathers newSays newWords newWeather newKind newThatch st pasts past aside seen seenWord seenHour keeps kept) :=
  hk_metI (by decide) (Nat.le_of_ble_eq_true rfl) rfl rfl (fun p e s m args below meth c A hC hr => jw_M_weight hC hr N a text letters mowers cows ricks weathers says words weather kindOf thatch newMowers newCows newRicks newWeathers newSays newWords newWeather newKind newThatch st pasts past aside seen seenWord seenHour keeps kept x1 x2 h)
