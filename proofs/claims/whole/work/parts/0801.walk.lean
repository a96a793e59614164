set_option maxHeartbeats 8000000 in
set_option maxRecDepth 100000 in
theorem jw_M_in {p : Program} {l : Launch} {e : Env} {s : State} {m : MethodId} {args : Array Value} {below : List Frame} {meth : Method} {c : Code} {A : Nat → Prop} {D : va_G} {cI cF : ClassId} (hC : hk_ok p s m args meth c A 6 D cI cF "HayTalkModel" jb_M_in) (hr : meth.sig.returnType = (some .boolean)) (N : Nat)    (x0 : Int64) (x2 : Int64) (x4 : Int64) {o : Int32} (h : jf_M_in N x0 x2 x4 = some o) : hk_W p l e jr_M_in s m args below meth c A (hk_Zi below args s D A o ([] : va_W)) 6 D 0 0 ([] : va_W) 0 [(0, .long x0), (2, .long x2), (4, .long x4)] [] := by
  delta jf_M_in at h
  refine hk_lload_n hC jd_M_in_0 0 rfl ?_
  refine hk_lload_n hC jd_M_in_1 1 rfl ?_
  refine hk_lcmp hC jd_M_in_2 ?_
  refine hk_if_lt (tgt := 17) hC jd_M_in_3 (by decide) (fun cc1 => ?_) (fun cc1 => ?_)
  · replace h := xi_t h cc1
    refine hk_iconst (v := 0) hC jd_M_in_17 (by decide) ?_
    obtain rfl := Option.some.inj h
    exact hk_zret hC hr rfl jd_M_in_18 rfl rfl
  · replace h := xi_f h cc1
    refine hk_lload_n hC jd_M_in_6 0 rfl ?_
    refine hk_lload hC jd_M_in_7 2 rfl ?_
    refine hk_lcmp hC jd_M_in_9 ?_
    refine hk_if_gt (tgt := 17) hC jd_M_in_10 (by decide) (fun cc2 => ?_) (fun cc2 => ?_)
    · replace h := xi_t h cc2
      refine hk_iconst (v := 0) hC jd_M_in_17 (by decide) ?_
      obtain rfl := Option.some.inj h
      exact hk_zret hC hr rfl jd_M_in_18 rfl rfl
    · replace h := xi_f h cc2
      refine hk_iconst (v := 1) hC jd_M_in_13 (by decide) ?_
      refine hk_goto (tgt := 18) hC jd_M_in_14 (by decide) ?_
      obtain rfl := Option.some.inj h
      exact hk_zret hC hr rfl jd_M_in_18 rfl rfl
theorem jc_M_in (l : Launch) (D : va_G) (cI cF : ClassId) (N : Nat)    (x0 : Int64) (x2 : Int64) (x4 : Int64) {o : Int32} (h : jf_M_in N x0 x2 x4 = some o) : hk_Mi l jy_M_in jb_M_in 6 (some .boolean) jr_M_in D cI cF ([] : va_W) [.long x0, .long x2, .long x4] o ([] : va_W) :=
  hk_metI (by decide) (Nat.le_of_ble_eq_true rfl) rfl rfl (fun p e s m args below meth c A hC hr => jw_M_in hC hr N x0 x2 x4 h)
set_option maxHeartbeats 8000000 in
set_option maxRecDepth 100000 in
theorem jw_M_isRow {p : Program} {l : Launch} {e : Env} {s : State} {m : MethodId} {args : Array Value} {below : List Frame} {meth : Method} {c : Code} {A : Nat → Prop} {D : va_G} {cI cF : ClassId} (hC : hk_ok p s m args meth c A 6 D cI cF "HayTalkModel" jb_M_isRow) (hr : meth.sig.returnType = (some .boolean)) (N : Nat) (a : Nat → Nat)  (text : Nat → Int32) (letters : Int32) (mowers : Int32) (cows : Int32) (ricks : Int32) (weathers : Int32) (says : Nat → Int32) (words : Nat → Int32) (weather : Nat → Int32) (kindOf : Nat → Int32) (thatch : Nat → Int32) (newMowers : Int32) (newCows : Int32) (newRicks : Int32) (newWeathers : Int32) (newSays : Nat → Int32) (newWords : Nat → Int32) (newWeather : Nat → Int32) (newKind : Nat → Int32) (newThatch : Nat → Int32) (st : Nat → Int32) (pasts : Int32) (past : Nat → Int32) (aside : Nat → Int32) (seen : Int32) (seenWord : Nat → Int32) (seenHour : Nat → Int32) (keeps : Int32) (kept : Nat → Int32) (x1 : Int32) (x2 : Int32) (x3 : Int32) {o : Int32} (h : jf_M_isRow N text x1 x2 x3 = some o) : hk_W p l e jr_M_isRow s m args below meth c A (hk_Zi below args s D A o (wM cI a text letters mowers cows ricks weathers says words weather kindOf thatch newMowers newCows newRicks newWeathers newSays newWords newWeather newKind newThatch st pasts past aside seen seenWord seenHour keeps kept)) 6 D 0 0 (wM cI a text letters mowers cows ricks weathers says words weather kindOf thatch newMowers newCows newRicks newWeathers newSays newWords newWeather newKind newThatch st pasts past aside seen seenWord seenHour keeps kept) 0 [(0, .ref (a 0)), (1, .int x1), (2, .int x2), (3, .int x3)] [] := by
  have B_16 : ∀ (text : Nat → Int32) (x2 : Int32) (x3 : Int32) (x4 : Int32) (x5 : Int32) (kh16 : (Int32 × Int32) → Option (Int32)) (ihh16 : ∀ q, kh16 q = some o → hk_W p l e jr_M_isRow s m args below meth c A (hk_Zi below args s D A o (wM cI a text letters mowers cows ricks weathers says words weather kindOf thatch newMowers newCows newRicks newWeathers newSays newWords newWeather newKind newThatch st pasts past aside seen seenWord seenHour keeps kept)) 6 D 0 0 (wM cI a text letters mowers cows ricks weathers says words weather kindOf thatch newMowers newCows newRicks newWeathers newSays newWords newWeather newKind newThatch st pasts past aside seen seenWord seenHour keeps kept) 16 [(0, .ref (a 0)), (2, .int x2), (3, .int x3), (4, .int q.1), (5, .int q.2)] []) (_ : jf_M_isRow_16B N text x2 x3 x4 x5 kh16 = some o), hk_W p l e jr_M_isRow s m args below meth c A (hk_Zi below args s D A o (wM cI a text letters mowers cows ricks weathers says words weather kindOf thatch newMowers newCows newRicks newWeathers newSays newWords newWeather newKind newThatch st pasts past aside seen seenWord seenHour keeps kept)) 6 D 0 0 (wM cI a text letters mowers cows ricks weathers says words weather kindOf thatch newMowers newCows newRicks newWeathers newSays newWords newWeather newKind newThatch st pasts past aside seen seenWord seenHour keeps kept) 16 [(0, .ref (a 0)), (2, .int x2), (3, .int x3), (4, .int x4), (5, .int x5)] [] := by
    intro text x2 x3 x4 x5 kh16 ihh16 h
    delta jf_M_isRow_16B at h
    refine hk_iload hC jd_M_isRow_16 4 rfl ?_
    refine hk_iload_n hC jd_M_isRow_18 1 rfl ?_
    refine hk_icmp_ge (tgt := 54) hC jd_M_isRow_19 (by decide) (fun cc1 => ?_) (fun cc1 => ?_)
    · replace h := xi_t h cc1
      refine hk_iload hC jd_M_isRow_54 3 rfl ?_
      have hbo := xo_in h
      replace h := xo_go h
      obtain rfl := Option.some.inj h
      exact hk_zret hC hr hbo jd_M_isRow_56 rfl rfl
    · replace h := xi_f h cc1
      refine hk_iload hC jd_M_isRow_22 3 rfl ?_
      refine hk_if_eq (tgt := 54) hC jd_M_isRow_24 (by decide) (fun cc2 => ?_) (fun cc2 => ?_)
      · replace h := xi_t h cc2
        refine hk_iload hC jd_M_isRow_54 3 rfl ?_
        have hbo := xo_in h
        replace h := xo_go h
        obtain rfl := Option.some.inj h
        exact hk_zret hC hr hbo jd_M_isRow_56 rfl rfl
      · replace h := xi_f h cc2
        refine hk_aload_n hC jd_M_isRow_27 0 rfl ?_
        refine hk_get hC jk_M 0 rfl 0 (by decide) jq_698 rfl jd_M_isRow_28 ?_
        refine hk_iload hC jd_M_isRow_31 4 rfl ?_
        have hr1 := xr_in h
        replace h := xr_go h
        refine hk_iald hC 1 rfl hr1 jd_M_isRow_33 ?_
        refine hk_i2l hC jd_M_isRow_34 ?_
        refine hk_ldc2 hC jd_M_isRow_35 jq_676 ?_
        refine hk_bipush (v := 48) hC jd_M_isRow_38 (by decide) ?_
        refine hk_iload_n hC jd_M_isRow_40 2 rfl ?_
        refine hk_iadd hC jd_M_isRow_41 ?_
        refine hk_i2l hC jd_M_isRow_42 ?_
        obtain ⟨q1, h_q1, h⟩ := xb_go h
        refine hk_callS0i hC (jc_M_in l D cI cF N (Int32.toInt64 (text (Int32.toNatClampNeg x5))) (48 : Int64) (Int32.toInt64 ((48 : Int32) + x3)) h_q1) jl_M_in jq_673 jq_674 rfl ⟨by decide, by decide⟩ rfl (Nat.le_of_ble_eq_true rfl) ⟨Nat.zero_le _, Nat.zero_le _⟩ jd_M_isRow_43 ?_
        refine hk_istore hC (i := 4) (y := q1) (lv2 := [(4, .int q1), (0, .ref (a 0)), (2, .int x2), (3, .int x3), (5, .int x5)]) jd_M_isRow_46 rfl (by decide) rfl ?_
        obtain ⟨v1, e_v1, h⟩ := xl_go h
        refine hk_iinc hC (lv2 := [(5, .int v1), (4, .int q1), (0, .ref (a 0)), (2, .int x2), (3, .int x3)]) jd_M_isRow_48 4 rfl e_v1 (by decide) rfl ?_
        refine hk_goto (tgt := 16) hC jd_M_isRow_51 (by decide) ?_
        exact hk_lv [2, 3, 4, 1, 0] rfl (ihh16 (q1, v1) h)
  have L_16 : ∀ (text : Nat → Int32) (x2 : Int32) (x3 : Int32) (x4 : Int32) (x5 : Int32)   (_ : jf_M_isRow_16 N text x2 x3 x4 x5  = some o), hk_W p l e jr_M_isRow s m args below meth c A (hk_Zi below args s D A o (wM cI a text letters mowers cows ricks weathers says words weather kindOf thatch newMowers newCows newRicks newWeathers newSays newWords newWeather newKind newThatch st pasts past aside seen seenWord seenHour keeps kept)) 6 D 0 0 (wM cI a text letters mowers cows ricks weathers says words weather kindOf thatch newMowers newCows newRicks newWeathers newSays newWords newWeather newKind newThatch st pasts past aside seen seenWord seenHour keeps kept) 16 [(0, .ref (a 0)), (2, .int x2), (3, .int x3), (4, .int x4), (5, .int x5)] [] := by
    intro text x2 x3 x4 x5   h
    exact xloopW (fun (q : Int32 × Int32) => hk_W p l e jr_M_isRow s m args below meth c A (hk_Zi below args s D A o (wM cI a text letters mowers cows ricks weathers says words weather kindOf thatch newMowers newCows newRicks newWeathers newSays newWords newWeather newKind newThatch st pasts past aside seen seenWord seenHour keeps kept)) 6 D 0 0 (wM cI a text letters mowers cows ricks weathers says words weather kindOf thatch newMowers newCows newRicks newWeathers newSays newWords newWeather newKind newThatch st pasts past aside seen seenWord seenHour keeps kept) 16 [(0, .ref (a 0)), (2, .int x2), (3, .int x3), (4, .int q.1), (5, .int q.2)] []) (fun kh ih q h => B_16 text x2 x3 q.1 q.2 kh  ih  h) N (x4, x5) h
  delta jf_M_isRow at h
  refine hk_iload_n hC jd_M_isRow_0 2 rfl ?_
  refine hk_iload_n hC jd_M_isRow_1 1 rfl ?_
  refine hk_isub hC jd_M_isRow_2 ?_
  refine hk_i2l hC jd_M_isRow_3 ?_
  refine hk_lconst (v := 1) hC jd_M_isRow_4 (by decide) ?_
  refine hk_ldc2 hC jd_M_isRow_5 jq_672 ?_
  obtain ⟨q1, h_q1, h⟩ := xb_go h
  refine hk_callS0i hC (jc_M_in l D cI cF N (Int32.toInt64 (x2 - x1)) (1 : Int64) (9 : Int64) h_q1) jl_M_in jq_673 jq_674 rfl ⟨by decide, by decide⟩ rfl (Nat.le_of_ble_eq_true rfl) ⟨Nat.zero_le _, Nat.zero_le _⟩ jd_M_isRow_8 ?_
  refine hk_istore hC (i := 4) (y := q1) (lv2 := [(4, .int q1), (0, .ref (a 0)), (1, .int x1), (2, .int x2), (3, .int x3)]) jd_M_isRow_11 rfl (by decide) rfl ?_
  refine hk_iload_n hC jd_M_isRow_13 2 rfl ?_
  refine hk_istore hC (i := 5) (y := x1) (lv2 := [(5, .int x1), (4, .int q1), (0, .ref (a 0)), (1, .int x1), (2, .int x2), (3, .int x3)]) jd_M_isRow_14 rfl (by decide) rfl ?_
  exact hk_lv [2, 4, 5, 1, 0] rfl (L_16 text x2 x3 q1 x1   h)
theorem jc_M_isRow (l : Launch) (D : va_G) (cI cF : ClassId) (N : Nat) (a : Nat → Nat)  (text : Nat → Int32) (letters : Int32) (mowers : Int32) (cows : Int32) (ricks : Int32) (weathers : Int32) (says : Nat → Int32) (words : Nat → Int32) (weather : Nat → Int32) (kindOf : Nat → Int32) (thatch : Nat → Int32) (newMowers : Int32) (newCows : Int32) (newRicks : Int32) (newWeathers : Int32) (newSays : Nat → Int32) (newWords : Nat → Int32) (newWeather : Nat → Int32) (newKind : Nat → Int32) (newThatch : Nat → Int32) (st : Nat → Int32) (pasts : Int32) (past : Nat → Int32) (aside : Nat → Int32) (seen : Int32) (seenWord : Nat → Int32) (seenHour : Nat → Int32) (keeps : Int32) (kept : Nat → Int32) (x1 : Int32) (x2 : Int32) (x3 : Int32) {o : Int32} (h : jf_M_isRow N text x1 x2 x3 = some o) : hk_Mi l jy_M_isRow jb_M_isRow 6 (some .boolean) jr_M_isRow D cI cF (wM cI a text letters mowers cows ricks weathers says words weather kindOf thatch newMowers newCows newRicks newWeathers newSays newWords newWeather newKind newThatch st pasts past aside seen seenWord seenHour keeps kept) [.ref (a 0), .int x1, .int x2, .int x3] o (wM cI a text letters mowers cows ricks weathers says words weather kindOf thatch newMowers newCows newRicks newWeathers newSays newWords newWeather newKind newThatch st pasts past aside seen seenWord seenHour keeps kept) :=
  hk_metI (by decide) (Nat.le_of_ble_eq_true rfl) rfl rfl (fun p e s m args below meth c A hC hr => jw_M_isRow hC hr N a text letters mowers cows ricks weathers says words weather kindOf thatch newMowers newCows newRicks newWeathers newSays newWords newWeather newKind newThatch st pasts past aside seen seenWord seenHour keeps kept x1 x2 x3 h)
set_option maxHeartbeats 8000000 in
set_option maxRecDepth 100000 in
theorem jw_M_readMower {p : Program} {l : Launch} {e : Env} {s : State} {m : MethodId} {args : Array Value} {below : List Frame} {meth : Method} {c : Code} {A : Nat → Prop} {D : va_G} {cI cF : ClassId} (hC : hk_ok p s m args meth c A 4 D cI cF "HayTalkModel" jb_M_readMower) (hr : meth.sig.returnType = (some .boolean)) (N : Nat) (a : Nat → Nat)  (text : Nat → Int32) (letters : Int32) (mowers : Int32) (cows : Int32) (ricks : Int32) (weathers : Int32) (says : Nat → Int32) (words : Nat → Int32) (weather : Nat → Int32) (kindOf : Nat → Int32) (thatch : Nat → Int32) (newMowers : Int32) (newCows : Int32) (newRicks : Int32) (newWeathers : Int32) (newSays : Nat → Int32) (newWords : Nat → Int32) (newWeather : Nat → Int32) (newKind : Nat → Int32) (newThatch : Nat → Int32) (st : Nat → Int32) (pasts : Int32) (past : Nat → Int32) (aside : Nat → Int32) (seen : Int32) (seenWord : Nat → Int32) (seenHour : Nat → Int32) (keeps : Int32) (kept : Nat → Int32) (x1 : Int32) (x2 : Int32) {o : Int32 × Int32 × (Nat → Int32) × (Nat → Int32)} (h : jf_M_readMower N text newMowers newSays newWords x1 x2 = some o) : hk_W p l e jr_M_readMower s m args below meth c A (hk_Zi below args s D A o.1 (wM cI a text letters mowers cows ricks weathers says words weather kindOf thatch o.2.1 newCows newRicks newWeathers o.2.2.1 o.2.2.2 newWeather newKind newThatch st pasts past aside seen seenWord seenHour keeps kept)) 4 D 0 0 (wM cI a text letters mowers cows ricks weathers says words weather kindOf thatch newMowers newCows newRicks newWeathers newSays newWords newWeather newKind newThatch st pasts past aside seen seenWord seenHour keeps kept) 0 [(0, .ref (a 0)), (1, .int x1), (2, .int x2)] [] := by
  have B_35 : ∀ (text : Nat → Int32) (newMowers : Int32) (newSays : Nat → Int32) (newWords : Nat → Int32) (x1 : Int32) (x2 : Int32) (x3 : Int32) (kh35 : ((Nat → Int32) × Int32) → Option (Int32 × Int32 × (Nat → Int32) × (Nat → Int32))) (kx71 : ((Nat → Int32)) → Option (Int32 × Int32 × (Nat → Int32) × (Nat → Int32))) (ihh35 : ∀ q, kh35 q = some o → hk_W p l e jr_M_readMower s m args below meth c A (hk_Zi below args s D A o.1 (wM cI a text letters mowers cows ricks weathers says words weather kindOf thatch o.2.1 newCows newRicks newWeathers o.2.2.1 o.2.2.2 newWeather newKind newThatch st pasts past aside seen seenWord seenHour keeps kept)) 4 D 0 0 (wM cI a text letters mowers cows ricks weathers says words weather kindOf thatch newMowers newCows newRicks newWeathers newSays q.1 newWeather newKind newThatch st pasts past aside seen seenWord seenHour keeps kept) 35 [(0, .ref (a 0)), (1, .int x1), (2, .int x2), (3, .int q.2)] []) (ihx71 : ∀ q, kx71 q = some o → hk_W p l e jr_M_readMower s m args below meth c A (hk_Zi below args s D A o.1 (wM cI a text letters mowers cows ricks weathers says words weather kindOf thatch o.2.1 newCows newRicks newWeathers o.2.2.1 o.2.2.2 newWeather newKind newThatch st pasts past aside seen seenWord seenHour keeps kept)) 4 D 0 0 (wM cI a text letters mowers cows ricks weathers says words weather kindOf thatch newMowers newCows newRicks newWeathers newSays q newWeather newKind newThatch st pasts past aside seen seenWord seenHour keeps kept) 71 [(0, .ref (a 0))] []) (_ : jf_M_readMower_35B N text newMowers newSays newWords x1 x2 x3 kh35 kx71 = some o), hk_W p l e jr_M_readMower s m args below meth c A (hk_Zi below args s D A o.1 (wM cI a text letters mowers cows ricks weathers says words weather kindOf thatch o.2.1 newCows newRicks newWeathers o.2.2.1 o.2.2.2 newWeather newKind newThatch st pasts past aside seen seenWord seenHour keeps kept)) 4 D 0 0 (wM cI a text letters mowers cows ricks weathers says words weather kindOf thatch newMowers newCows newRicks newWeathers newSays newWords newWeather newKind newThatch st pasts past aside seen seenWord seenHour keeps kept) 35 [(0, .ref (a 0)), (1, .int x1), (2, .int x2), (3, .int x3)] [] := by
    intro text newMowers newSays newWords x1 x2 x3 kh35 kx71 ihh35 ihx71 h
    delta jf_M_readMower_35B at h
    refine hk_iload_n hC jd_M_readMower_35 3 rfl ?_
    refine hk_iload_n hC jd_M_readMower_36 2 rfl ?_
    refine hk_icmp_ge (tgt := 71) hC jd_M_readMower_37 (by decide) (fun cc1 => ?_) (fun cc1 => ?_)
    · replace h := xi_t h cc1
      exact hk_lv [0] rfl (ihx71 newWords h)
    · replace h := xi_f h cc1
      refine hk_aload_n hC jd_M_readMower_40 0 rfl ?_
      refine hk_get hC jk_M 0 rfl 16 (by decide) jq_714 rfl jd_M_readMower_41 ?_
      refine hk_bipush (v := 9) hC jd_M_readMower_44 (by decide) ?_
      refine hk_aload_n hC jd_M_readMower_46 0 rfl ?_
      refine hk_get hC jk_M 0 rfl 11 (by decide) jq_709 rfl jd_M_readMower_47 ?_
      refine hk_imul hC jd_M_readMower_50 ?_
      refine hk_iload_n hC jd_M_readMower_51 3 rfl ?_
      refine hk_iadd hC jd_M_readMower_52 ?_
      refine hk_iload_n hC jd_M_readMower_53 1 rfl ?_
      refine hk_isub hC jd_M_readMower_54 ?_
      refine hk_aload_n hC jd_M_readMower_55 0 rfl ?_
      refine hk_get hC jk_M 0 rfl 0 (by decide) jq_698 rfl jd_M_readMower_56 ?_
      refine hk_iload_n hC jd_M_readMower_59 3 rfl ?_
      have hr1 := xr_in h
      replace h := xr_go h
      refine hk_iald hC 1 rfl hr1 jd_M_readMower_60 ?_
      refine hk_bipush (v := 48) hC jd_M_readMower_61 (by decide) ?_
      refine hk_isub hC jd_M_readMower_63 ?_
      have hr2 := xr_in h
      replace h := xr_go h
      obtain ⟨z1, e_z1, h⟩ := xl_go h
      refine hk_iast hC 8 rfl hr2 e_z1 (ws2 := (wM cI a text letters mowers cows ricks weathers says words weather kindOf thatch newMowers newCows newRicks newWeathers newSays z1 newWeather newKind newThatch st pasts past aside seen seenWord seenHour keeps kept)) rfl jd_M_readMower_64 ?_
      obtain ⟨v1, e_v1, h⟩ := xl_go h
      refine hk_iinc hC (lv2 := [(3, .int v1), (0, .ref (a 0)), (1, .int x1), (2, .int x2)]) jd_M_readMower_65 3 rfl e_v1 (by decide) rfl ?_
      refine hk_goto (tgt := 35) hC jd_M_readMower_68 (by decide) ?_
      exact hk_lv [1, 2, 3, 0] rfl (ihh35 (z1, v1) h)
  have L_35 : ∀ (text : Nat → Int32) (newMowers : Int32) (newSays : Nat → Int32) (newWords : Nat → Int32) (x1 : Int32) (x2 : Int32) (x3 : Int32) (kx71 : ((Nat → Int32)) → Option (Int32 × Int32 × (Nat → Int32) × (Nat → Int32))) (ihx71 : ∀ q, kx71 q = some o → hk_W p l e jr_M_readMower s m args below meth c A (hk_Zi below args s D A o.1 (wM cI a text letters mowers cows ricks weathers says words weather kindOf thatch o.2.1 newCows newRicks newWeathers o.2.2.1 o.2.2.2 newWeather newKind newThatch st pasts past aside seen seenWord seenHour keeps kept)) 4 D 0 0 (wM cI a text letters mowers cows ricks weathers says words weather kindOf thatch newMowers newCows newRicks newWeathers newSays q newWeather newKind newThatch st pasts past aside seen seenWord seenHour keeps kept) 71 [(0, .ref (a 0))] []) (_ : jf_M_readMower_35 N text newMowers newSays newWords x1 x2 x3 kx71 = some o), hk_W p l e jr_M_readMower s m args below meth c A (hk_Zi below args s D A o.1 (wM cI a text letters mowers cows ricks weathers says words weather kindOf thatch o.2.1 newCows newRicks newWeathers o.2.2.1 o.2.2.2 newWeather newKind newThatch st pasts past aside seen seenWord seenHour keeps kept)) 4 D 0 0 (wM cI a text letters mowers cows ricks weathers says words weather kindOf thatch newMowers newCows newRicks newWeathers newSays newWords newWeather newKind newThatch st pasts past aside seen seenWord seenHour keeps kept) 35 [(0, .ref (a 0)), (1, .int x1), (2, .int x2), (3, .int x3)] [] := by
    intro text newMowers newSays newWords x1 x2 x3 kx71 ihx71 h
    exact xloopW (fun (q : (Nat → Int32) × Int32) => hk_W p l e jr_M_readMower s m args below meth c A (hk_Zi below args s D A o.1 (wM cI a text letters mowers cows ricks weathers says words weather kindOf thatch o.2.1 newCows newRicks newWeathers o.2.2.1 o.2.2.2 newWeather newKind newThatch st pasts past aside seen seenWord seenHour keeps kept)) 4 D 0 0 (wM cI a text letters mowers cows ricks weathers says words weather kindOf thatch newMowers newCows newRicks newWeathers newSays q.1 newWeather newKind newThatch st pasts past aside seen seenWord seenHour keeps kept) 35 [(0, .ref (a 0)), (1, .int x1), (2, .int x2), (3, .int q.2)] []) (fun kh ih q h => B_35 text newMowers newSays q.1 x1 x2 q.2 kh kx71 ih ihx71 h) N (newWords, x3) h
  have B_71 : ∀ (text : Nat → Int32) (newMowers : Int32) (newSays : Nat → Int32) (newWords : Nat → Int32)   (_ : jf_M_readMower_71 N text newMowers newSays newWords  = some o), hk_W p l e jr_M_readMower s m args below meth c A (hk_Zi below args s D A o.1 (wM cI a text letters mowers cows ricks weathers says words weather kindOf thatch o.2.1 newCows newRicks newWeathers o.2.2.1 o.2.2.2 newWeather newKind newThatch st pasts past aside seen seenWord seenHour keeps kept)) 4 D 0 0 (wM cI a text letters mowers cows ricks weathers says words weather kindOf thatch newMowers newCows newRicks newWeathers newSays newWords newWeather newKind newThatch st pasts past aside seen seenWord seenHour keeps kept) 71 [(0, .ref (a 0))] [] := by
    intro text newMowers newSays newWords   h
    delta jf_M_readMower_71 at h
    refine hk_aload_n hC jd_M_readMower_71 0 rfl ?_
    refine hk_dup hC jd_M_readMower_72 rfl ?_
    refine hk_get hC jk_M 0 rfl 11 (by decide) jq_709 rfl jd_M_readMower_73 ?_
    refine hk_iconst (v := 1) hC jd_M_readMower_76 (by decide) ?_
    refine hk_iadd hC jd_M_readMower_77 ?_
    obtain ⟨v1, e_v1, h⟩ := xl_go h
    refine hk_topi e_v1 ?_
    refine hk_put hC jk_M 0 rfl 11 (by decide) jq_709 rfl rfl rfl (Nat.le_of_ble_eq_true rfl) (ws2 := (wM cI a text letters mowers cows ricks weathers says words weather kindOf thatch v1 newCows newRicks newWeathers newSays newWords newWeather newKind newThatch st pasts past aside seen seenWord seenHour keeps kept)) rfl jd_M_readMower_78 ?_
    refine hk_iconst (v := 1) hC jd_M_readMower_81 (by decide) ?_
    obtain rfl := Option.some.inj h
    exact hk_zret hC hr rfl jd_M_readMower_82 rfl rfl
  delta jf_M_readMower at h
  refine hk_aload_n hC jd_M_readMower_0 0 rfl ?_
  refine hk_get hC jk_M 0 rfl 11 (by decide) jq_709 rfl jd_M_readMower_1 ?_
  refine hk_iconst (v := 5) hC jd_M_readMower_4 (by decide) ?_
  refine hk_icmp_eq (tgt := 19) hC jd_M_readMower_5 (by decide) (fun cc1 => ?_) (fun cc1 => ?_)
  · replace h := xi_t h cc1
    refine hk_iconst (v := 0) hC jd_M_readMower_19 (by decide) ?_
    obtain rfl := Option.some.inj h
    exact hk_zret hC hr rfl jd_M_readMower_20 rfl rfl
  · replace h := xi_f h cc1
    refine hk_aload_n hC jd_M_readMower_8 0 rfl ?_
    refine hk_iload_n hC jd_M_readMower_9 1 rfl ?_
    refine hk_iload_n hC jd_M_readMower_10 2 rfl ?_
    refine hk_bipush (v := 9) hC jd_M_readMower_11 (by decide) ?_
    obtain ⟨q1, h_q1, h⟩ := xb_go h
    refine hk_callVWi hC (q0 := 0) (jc_M_isRow l D cI cF N a text letters mowers cows ricks weathers says words weather kindOf thatch newMowers newCows newRicks newWeathers newSays newWords newWeather newKind newThatch st pasts past aside seen seenWord seenHour keeps kept x1 x2 (9 : Int32) h_q1) jl_M_isRow rfl rfl jq_668 jq_670 jq0_16 rfl ⟨by decide, by decide⟩ rfl rfl (Nat.le_of_ble_eq_true rfl) ⟨Nat.zero_le _, Nat.zero_le _⟩ jd_M_readMower_13 ?_
    refine hk_if_ne (tgt := 21) hC jd_M_readMower_16 (by decide) (fun cc2 => ?_) (fun cc2 => ?_)
    · replace h := xi_f h cc2
      refine hk_aload_n hC jd_M_readMower_21 0 rfl ?_
      refine hk_get hC jk_M 0 rfl 15 (by decide) jq_713 rfl jd_M_readMower_22 ?_
      refine hk_aload_n hC jd_M_readMower_25 0 rfl ?_
      refine hk_get hC jk_M 0 rfl 11 (by decide) jq_709 rfl jd_M_readMower_26 ?_
      refine hk_iload_n hC jd_M_readMower_29 2 rfl ?_
      refine hk_iload_n hC jd_M_readMower_30 1 rfl ?_
      refine hk_isub hC jd_M_readMower_31 ?_
      have hr1 := xr_in h
      replace h := xr_go h
      obtain ⟨z1, e_z1, h⟩ := xl_go h
      refine hk_iast hC 7 rfl hr1 e_z1 (ws2 := (wM cI a text letters mowers cows ricks weathers says words weather kindOf thatch newMowers newCows newRicks newWeathers z1 newWords newWeather newKind newThatch st pasts past aside seen seenWord seenHour keeps kept)) rfl jd_M_readMower_32 ?_
      refine hk_iload_n hC jd_M_readMower_33 1 rfl ?_
      refine hk_istore_n hC (i := 3) (y := x1) (lv2 := [(3, .int x1), (0, .ref (a 0)), (1, .int x1), (2, .int x2)]) jd_M_readMower_34 rfl rfl (by decide) rfl ?_
      exact hk_lv [1, 2, 3, 0] rfl (L_35 text newMowers z1 newWords x1 x2 x1 _ (fun q2 h => by exact (B_71 text newMowers z1 q2   h)) h)
    · replace h := xi_t h cc2
      refine hk_iconst (v := 0) hC jd_M_readMower_19 (by decide) ?_
      obtain rfl := Option.some.inj h
      exact hk_zret hC hr rfl jd_M_readMower_20 rfl rfl
theorem jc_M_readMower (l : Launch) (D : va_G) (cI cF : ClassId) (N : Nat) (a : Nat → Nat)  (text : Nat → Int32) (letters : Int32) (mowers : Int32) (cows : Int32) (ricks : Int32) (weathers : Int32) (says : Nat → Int32) (words : Nat → Int32) (weather : Nat → Int32) (kindOf : Nat → Int32) (thatch : Nat → Int32) (newMowers : Int32) (newCows : Int32) (newRicks : Int32) (newWeathers : Int32) (newSays : Nat → Int32) (newWords : Nat → Int32) (newWeather : Nat → Int32) (newKind : Nat → Int32) (newThatch : Nat → Int32) (st : Nat → Int32) (pasts : Int32) (past : Nat → Int32) (aside : Nat → Int32) (seen : Int32) (seenWord : Nat → Int32) (seenHour : Nat → Int32) (keeps : Int32) (kept : Nat → Int32) (x1 : Int32) (x2 : Int32) {o : Int32 × Int32 × (Nat → Int32) × (Nat → Int32)} (h : jf_M_readMower N text newMowers newSays newWords x1 x2 = some o) : hk_Mi l jy_M_readMower jb_M_readMower 4 (some .boolean) jr_M_readMower D cI cF (wM cI a text letters mowers cows ricks weathers says words weather kindOf thatch newMowers newCows newRicks newWeathers newSays newWords newWeather newKind newThatch st pasts past aside seen seenWord seenHour keeps kept) [.ref (a 0), .int x1, .int x2] o.1 (wM cI a text letters mowers cows ricks weathers says words weather kindOf thatch o.2.1 newCows newRicks newWeathers o.2.2.1 o.2.2.2 newWeather newKind newThatch st pasts past aside seen seenWord seenHour keeps kept) :=
  hk_metI (by decide) (Nat.le_of_ble_eq_true rfl) rfl rfl (fun p e s m args below meth c A hC hr => jw_M_readMower hC hr N a text letters mowers cows ricks weathers says words weather kindOf thatch newMowers newCows newRicks newWeathers newSays newWords newWeather newKind newThatch st pasts past aside seen seenWord seenHour keeps kept x1 x2 h)
set_option maxHeartbeats 8000000 in
set_option maxRecDepth 100000 in
theorem jw_M_readWeather {p : Program} {l : Launch} {e : Env} {s : State} {m : MethodId} {args : Array Value} {below : List Frame} {meth : Method} {c : Code} {A : Nat → Prop} {D : va_G} {cI cF : ClassId} (hC : hk_ok p s m args meth c A 4 D cI cF "HayTalkModel" jb_M_readWeather) (hr : meth.sig.returnType = (some .boolean)) (N : Nat) (a : Nat → Nat)  (text : Nat → Int32) (letters : Int32) (mowers : Int32) (cows : Int32) (ricks : Int32) (weathers : Int32) (says : Nat → Int32) (words : Nat → Int32) (weather : Nat → Int32) (kindOf : Nat → Int32) (thatch : Nat → Int32) (newMowers : Int32) (newCows : Int32) (newRicks : Int32) (newWeathers : Int32) (newSays : Nat → Int32) (newWords : Nat → Int32) (newWeather : Nat → Int32) (newKind : Nat → Int32) (newThatch : Nat → Int32) (st : Nat → Int32) (pasts : Int32) (past : Nat → Int32) (aside : Nat → Int32) (seen : Int32) (seenWord : Nat → Int32) (seenHour : Nat → Int32) (keeps : Int32) (kept : Nat → Int32) (x1 : Int32) (x2 : Int32) {o : Int32 × Int32 × (Nat → Int32)} (h : jf_M_readWeather N text newWeathers newWeather x1 x2 = some o) : hk_W p l e jr_M_readWeather s m args below meth c A (hk_Zi below args s D A o.1 (wM cI a text letters mowers cows ricks weathers says words weather kindOf thatch newMowers newCows newRicks o.2.1 newSays newWords o.2.2 newKind newThatch st pasts past aside seen seenWord seenHour keeps kept)) 4 D 0 0 (wM cI a text letters mowers cows ricks weathers says words weather kindOf thatch newMowers newCows newRicks newWeathers newSays newWords newWeather newKind newThatch st pasts past aside seen seenWord seenHour keeps kept) 0 [(0, .ref (a 0)), (1, .int x1), (2, .int x2)] [] := by
  have B_21 : ∀ (text : Nat → Int32) (newWeathers : Int32) (newWeather : Nat → Int32) (x1 : Int32) (x2 : Int32) (x3 : Int32) (kh21 : ((Nat → Int32) × Int32) → Option (Int32 × Int32 × (Nat → Int32))) (ihh21 : ∀ q, kh21 q = some o → hk_W p l e jr_M_readWeather s m args below meth c A (hk_Zi below args s D A o.1 (wM cI a text letters mowers cows ricks weathers says words weather kindOf thatch newMowers newCows newRicks o.2.1 newSays newWords o.2.2 newKind newThatch st pasts past aside seen seenWord seenHour keeps kept)) 4 D 0 0 (wM cI a text letters mowers cows ricks weathers says words weather kindOf thatch newMowers newCows newRicks newWeathers newSays newWords q.1 newKind newThatch st pasts past aside seen seenWord seenHour keeps kept) 21 [(0, .ref (a 0)), (1, .int x1), (2, .int x2), (3, .int q.2)] []) (_ : jf_M_readWeather_21B N text newWeathers newWeather x1 x2 x3 kh21 = some o), hk_W p l e jr_M_readWeather s m args below meth c A (hk_Zi below args s D A o.1 (wM cI a text letters mowers cows ricks weathers says words weather kindOf thatch newMowers newCows newRicks o.2.1 newSays newWords o.2.2 newKind newThatch st pasts past aside seen seenWord seenHour keeps kept)) 4 D 0 0 (wM cI a text letters mowers cows ricks weathers says words weather kindOf thatch newMowers newCows newRicks newWeathers newSays newWords newWeather newKind newThatch st pasts past aside seen seenWord seenHour keeps kept) 21 [(0, .ref (a 0)), (1, .int x1), (2, .int x2), (3, .int x3)] [] := by
    intro text newWeathers newWeather x1 x2 x3 kh21 ihh21 h
    delta jf_M_readWeather_21B at h
    refine hk_iload_n hC jd_M_readWeather_21 3 rfl ?_
    refine hk_iload_n hC jd_M_readWeather_22 2 rfl ?_
    refine hk_icmp_ge (tgt := 49) hC jd_M_readWeather_23 (by decide) (fun cc1 => ?_) (fun cc1 => ?_)
    · replace h := xi_t h cc1
      refine hk_iconst (v := 1) hC jd_M_readWeather_49 (by decide) ?_
      obtain rfl := Option.some.inj h
      exact hk_zret hC hr rfl jd_M_readWeather_50 rfl rfl
    · replace h := xi_f h cc1
      refine hk_aload_n hC jd_M_readWeather_26 0 rfl ?_
      refine hk_get hC jk_M 0 rfl 17 (by decide) jq_715 rfl jd_M_readWeather_27 ?_
      refine hk_iload_n hC jd_M_readWeather_30 3 rfl ?_
      refine hk_iload_n hC jd_M_readWeather_31 1 rfl ?_
      refine hk_isub hC jd_M_readWeather_32 ?_
      refine hk_aload_n hC jd_M_readWeather_33 0 rfl ?_
      refine hk_get hC jk_M 0 rfl 0 (by decide) jq_698 rfl jd_M_readWeather_34 ?_
      refine hk_iload_n hC jd_M_readWeather_37 3 rfl ?_
      have hr1 := xr_in h
      replace h := xr_go h
      refine hk_iald hC 1 rfl hr1 jd_M_readWeather_38 ?_
      refine hk_bipush (v := 48) hC jd_M_readWeather_39 (by decide) ?_
      refine hk_isub hC jd_M_readWeather_41 ?_
      have hr2 := xr_in h
      replace h := xr_go h
      obtain ⟨z1, e_z1, h⟩ := xl_go h
      refine hk_iast hC 9 rfl hr2 e_z1 (ws2 := (wM cI a text letters mowers cows ricks weathers says words weather kindOf thatch newMowers newCows newRicks newWeathers newSays newWords z1 newKind newThatch st pasts past aside seen seenWord seenHour keeps kept)) rfl jd_M_readWeather_42 ?_
      obtain ⟨v1, e_v1, h⟩ := xl_go h
      refine hk_iinc hC (lv2 := [(3, .int v1), (0, .ref (a 0)), (1, .int x1), (2, .int x2)]) jd_M_readWeather_43 3 rfl e_v1 (by decide) rfl ?_
      refine hk_goto (tgt := 21) hC jd_M_readWeather_46 (by decide) ?_
      exact hk_lv [1, 2, 3, 0] rfl (ihh21 (z1, v1) h)
  have L_21 : ∀ (text : Nat → Int32) (newWeathers : Int32) (newWeather : Nat → Int32) (x1 : Int32) (x2 : Int32) (x3 : Int32)   (_ : jf_M_readWeather_21 N text newWeathers newWeather x1 x2 x3  = some o), hk_W p l e jr_M_readWeather s m args below meth c A (hk_Zi below args s D A o.1 (wM cI a text letters mowers cows ricks weathers says words weather kindOf thatch newMowers newCows newRicks o.2.1 newSays newWords o.2.2 newKind newThatch st pasts past aside seen seenWord seenHour keeps kept)) 4 D 0 0 (wM cI a text letters mowers cows ricks weathers says words weather kindOf thatch newMowers newCows newRicks newWeathers newSays newWords newWeather newKind newThatch st pasts past aside seen seenWord seenHour keeps kept) 21 [(0, .ref (a 0)), (1, .int x1), (2, .int x2), (3, .int x3)] [] := by
    intro text newWeathers newWeather x1 x2 x3   h
    exact xloopW (fun (q : (Nat → Int32) × Int32) => hk_W p l e jr_M_readWeather s m args below meth c A (hk_Zi below args s D A o.1 (wM cI a text letters mowers cows ricks weathers says words weather kindOf thatch newMowers newCows newRicks o.2.1 newSays newWords o.2.2 newKind newThatch st pasts past aside seen seenWord seenHour keeps kept)) 4 D 0 0 (wM cI a text letters mowers cows ricks weathers says words weather kindOf thatch newMowers newCows newRicks newWeathers newSays newWords q.1 newKind newThatch st pasts past aside seen seenWord seenHour keeps kept) 21 [(0, .ref (a 0)), (1, .int x1), (2, .int x2), (3, .int q.2)] []) (fun kh ih q h => B_21 text newWeathers q.1 x1 x2 q.2 kh  ih  h) N (newWeather, x3) h
  delta jf_M_readWeather at h
  refine hk_aload_n hC jd_M_readWeather_0 0 rfl ?_
  refine hk_iload_n hC jd_M_readWeather_1 1 rfl ?_
  refine hk_iload_n hC jd_M_readWeather_2 2 rfl ?_
  refine hk_iconst (v := 3) hC jd_M_readWeather_3 (by decide) ?_
  obtain ⟨q1, h_q1, h⟩ := xb_go h
  refine hk_callVWi hC (q0 := 0) (jc_M_isRow l D cI cF N a text letters mowers cows ricks weathers says words weather kindOf thatch newMowers newCows newRicks newWeathers newSays newWords newWeather newKind newThatch st pasts past aside seen seenWord seenHour keeps kept x1 x2 (3 : Int32) h_q1) jl_M_isRow rfl rfl jq_668 jq_670 jq0_16 rfl ⟨by decide, by decide⟩ rfl rfl (Nat.le_of_ble_eq_true rfl) ⟨Nat.zero_le _, Nat.zero_le _⟩ jd_M_readWeather_4 ?_
  refine hk_if_ne (tgt := 12) hC jd_M_readWeather_7 (by decide) (fun cc1 => ?_) (fun cc1 => ?_)
  · replace h := xi_f h cc1
    refine hk_aload_n hC jd_M_readWeather_12 0 rfl ?_
    refine hk_iload_n hC jd_M_readWeather_13 2 rfl ?_
    refine hk_iload_n hC jd_M_readWeather_14 1 rfl ?_
    refine hk_isub hC jd_M_readWeather_15 ?_
    obtain ⟨v1, e_v1, h⟩ := xl_go h
    refine hk_topi e_v1 ?_
    refine hk_put hC jk_M 0 rfl 14 (by decide) jq_712 rfl rfl rfl (Nat.le_of_ble_eq_true rfl) (ws2 := (wM cI a text letters mowers cows ricks weathers says words weather kindOf thatch newMowers newCows newRicks v1 newSays newWords newWeather newKind newThatch st pasts past aside seen seenWord seenHour keeps kept)) rfl jd_M_readWeather_16 ?_
    refine hk_iload_n hC jd_M_readWeather_19 1 rfl ?_
    refine hk_istore_n hC (i := 3) (y := x1) (lv2 := [(3, .int x1), (0, .ref (a 0)), (1, .int x1), (2, .int x2)]) jd_M_readWeather_20 rfl rfl (by decide) rfl ?_
    exact hk_lv [1, 2, 3, 0] rfl (L_21 text v1 newWeather x1 x2 x1   h)
  · replace h := xi_t h cc1
    refine hk_iconst (v := 0) hC jd_M_readWeather_10 (by decide) ?_
    obtain rfl := Option.some.inj h
    exact hk_zret hC hr rfl jd_M_readWeather_11 rfl rfl
theorem jc_M_readWeather (l : Launch) (D : va_G) (cI cF : ClassId) (N : Nat) (a : Nat → Nat)  (text : Nat → Int32) (letters : Int32) (mowers : Int32) (cows : Int32) (ricks : Int32) (weathers : Int32) (says : Nat → Int32) (words : Nat → Int32) (weather : Nat → Int32) (kindOf : Nat → Int32) (thatch : Nat → Int32) (newMowers : Int32) (newCows : Int32) (newRicks : Int32) (newWeathers : Int32) (newSays : Nat → Int32) (newWords : Nat → Int32) (newWeather : Nat → Int32) (newKind : Nat → Int32) (newThatch : Nat → Int32) (st : Nat → Int32) (pasts : Int32) (past : Nat → Int32) (aside : Nat → Int32) (seen : Int32) (seenWord : Nat → Int32) (seenHour : Nat → Int32) (keeps : Int32) (kept : Nat → Int32) (x1 : Int32) (x2 : Int32) {o : Int32 × Int32 × (Nat → Int32)} (h : jf_M_readWeather N text newWeathers newWeather x1 x2 = some o) : hk_Mi l jy_M_readWeather jb_M_readWeather 4 (some .boolean) jr_M_readWeather D cI cF (wM cI a text letters mowers cows ricks weathers says words weather kindOf thatch newMowers newCows newRicks newWeathers newSays newWords newWeather newKind newThatch st pasts past aside seen seenWord seenHour keeps kept) [.ref (a 0), .int x1, .int x2] o.1 (wM cI a text letters mowers cows ricks weathers says words weather kindOf thatch newMowers newCows newRicks o.2.1 newSays newWords o.2.2 newKind newThatch st pasts past aside seen seenWord seenHour keeps kept) :=
  hk_metI (by decide) (Nat.le_of_ble_eq_true rfl) rfl rfl (fun p e s m args below meth c A hC hr => jw_M_readWeather hC hr N a text letters mowers cows ricks weathers says words weather kindOf thatch newMowers newCows newRicks newWeathers newSays newWords newWeather newKind newThatch st pasts past aside seen seenWord seenHour keeps kept x1 x2 h)
