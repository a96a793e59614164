set_option maxHeartbeats 8000000 in
set_option maxRecDepth 100000 in
theorem jw_M_common {p : Program} {l : Launch} {e : Env} {s : State} {m : MethodId} {args : Array Value} {below : List Frame} {meth : Method} {c : Code} {A : Nat → Prop} {D : va_G} {cI cF : ClassId} (hC : hk_ok p s m args meth c A 5 D cI cF "HayTalkModel" jb_M_common) (hr : meth.sig.returnType = (some .int)) (N : Nat)    (x0 : Int32) (x1 : Int32) {o : Int32} (h : jf_M_common N x0 x1 = some o) : hk_W p l e jr_M_common s m args below meth c A (hk_Zi below args s D A o ([] : va_W)) 5 D 0 0 ([] : va_W) 0 [(0, .int x0), (1, .int x1)] [] := by
  have B_4 : ∀ (x2 : Int32) (x3 : Int32) (kh4 : (Int32 × Int32) → Option (Int32)) (ihh4 : ∀ q, kh4 q = some o → hk_W p l e jr_M_common s m args below meth c A (hk_Zi below args s D A o ([] : va_W)) 5 D 0 0 ([] : va_W) 4 [(2, .int q.1), (3, .int q.2)] []) (_ : jf_M_common_4B N x2 x3 kh4 = some o), hk_W p l e jr_M_common s m args below meth c A (hk_Zi below args s D A o ([] : va_W)) 5 D 0 0 ([] : va_W) 4 [(2, .int x2), (3, .int x3)] [] := by
    intro x2 x3 kh4 ihh4 h
    delta jf_M_common_4B at h
    refine hk_iload_n hC jd_M_common_4 1 rfl ?_
    refine hk_if_eq (tgt := 21) hC jd_M_common_5 (by decide) (fun cc1 => ?_) (fun cc1 => ?_)
    · replace h := xi_t h cc1
      refine hk_iload_n hC jd_M_common_21 0 rfl ?_
      obtain rfl := Option.some.inj h
      exact hk_iret hC hr jd_M_common_22 rfl rfl
    · replace h := xi_f h cc1
      refine hk_iload_n hC jd_M_common_8 0 rfl ?_
      refine hk_iload_n hC jd_M_common_9 1 rfl ?_
      have hz1 := xz_in h
      replace h := xz_go h
      refine hk_irem hC jd_M_common_10 hz1 ?_
      obtain ⟨v1, e_v1, h⟩ := xl_go h
      refine hk_istore hC (i := 4) (y := v1) (lv2 := [(4, .int v1), (2, .int x2), (3, .int x3)]) jd_M_common_11 e_v1 (by decide) rfl ?_
      refine hk_iload_n hC jd_M_common_13 2 rfl ?_
      refine hk_istore_n hC (i := 2) (y := x3) (lv2 := [(2, .int x3), (4, .int v1), (3, .int x3)]) jd_M_common_14 rfl rfl (by decide) rfl ?_
      refine hk_iload hC jd_M_common_15 1 rfl ?_
      refine hk_istore_n hC (i := 3) (y := v1) (lv2 := [(3, .int v1), (2, .int x3), (4, .int v1)]) jd_M_common_17 rfl rfl (by decide) rfl ?_
      refine hk_goto (tgt := 4) hC jd_M_common_18 (by decide) ?_
      exact hk_lv [1, 0] rfl (ihh4 (x3, v1) h)
  have L_4 : ∀ (x2 : Int32) (x3 : Int32)   (_ : jf_M_common_4 N x2 x3  = some o), hk_W p l e jr_M_common s m args below meth c A (hk_Zi below args s D A o ([] : va_W)) 5 D 0 0 ([] : va_W) 4 [(2, .int x2), (3, .int x3)] [] := by
    intro x2 x3   h
    exact xloopW (fun (q : Int32 × Int32) => hk_W p l e jr_M_common s m args below meth c A (hk_Zi below args s D A o ([] : va_W)) 5 D 0 0 ([] : va_W) 4 [(2, .int q.1), (3, .int q.2)] []) (fun kh ih q h => B_4 q.1 q.2 kh  ih  h) N (x2, x3) h
  delta jf_M_common at h
  refine hk_iload_n hC jd_M_common_0 0 rfl ?_
  refine hk_istore_n hC (i := 2) (y := x0) (lv2 := [(2, .int x0), (0, .int x0), (1, .int x1)]) jd_M_common_1 rfl rfl (by decide) rfl ?_
  refine hk_iload_n hC jd_M_common_2 2 rfl ?_
  refine hk_istore_n hC (i := 3) (y := x1) (lv2 := [(3, .int x1), (2, .int x0), (0, .int x0), (1, .int x1)]) jd_M_common_3 rfl rfl (by decide) rfl ?_
  exact hk_lv [1, 0] rfl (L_4 x0 x1   h)
theorem jc_M_common (l : Launch) (D : va_G) (cI cF : ClassId) (N : Nat)    (x0 : Int32) (x1 : Int32) {o : Int32} (h : jf_M_common N x0 x1 = some o) : hk_Mi l jy_M_common jb_M_common 5 (some .int) jr_M_common D cI cF ([] : va_W) [.int x0, .int x1] o ([] : va_W) :=
  hk_metI (by decide) (Nat.le_of_ble_eq_true rfl) rfl rfl (fun p e s m args below meth c A hC hr => jw_M_common hC hr N x0 x1 h)
set_option maxHeartbeats 8000000 in
set_option maxRecDepth 100000 in
theorem jw_M_needle {p : Program} {l : Launch} {e : Env} {s : State} {m : MethodId} {args : Array Value} {below : List Frame} {meth : Method} {c : Code} {A : Nat → Prop} {D : va_G} {cI cF : ClassId} (hC : hk_ok p s m args meth c A 6 D cI cF "HayTalkModel" jb_M_needle) (hr : meth.sig.returnType = (some .int)) (N : Nat) (a : Nat → Nat)  (text : Nat → Int32) (letters : Int32) (mowers : Int32) (cows : Int32) (ricks : Int32) (weathers : Int32) (says : Nat → Int32) (words : Nat → Int32) (weather : Nat → Int32) (kindOf : Nat → Int32) (thatch : Nat → Int32) (newMowers : Int32) (newCows : Int32) (newRicks : Int32) (newWeathers : Int32) (newSays : Nat → Int32) (newWords : Nat → Int32) (newWeather : Nat → Int32) (newKind : Nat → Int32) (newThatch : Nat → Int32) (st : Nat → Int32) (pasts : Int32) (past : Nat → Int32) (aside : Nat → Int32) (seen : Int32) (seenWord : Nat → Int32) (seenHour : Nat → Int32) (keeps : Int32) (kept : Nat → Int32) (x1 : Int32) (x2 : Int32) (x3 : Int32) {o : Int32} (h : jf_M_needle N ricks st x1 x2 x3 = some o) : hk_W p l e jr_M_needle s m args below meth c A (hk_Zi below args s D A o (wM cI a text letters mowers cows ricks weathers says words weather kindOf thatch newMowers newCows newRicks newWeathers newSays newWords newWeather newKind newThatch st pasts past aside seen seenWord seenHour keeps kept)) 6 D 0 0 (wM cI a text letters mowers cows ricks weathers says words weather kindOf thatch newMowers newCows newRicks newWeathers newSays newWords newWeather newKind newThatch st pasts past aside seen seenWord seenHour keeps kept) 0 [(0, .ref (a 0)), (1, .int x1), (2, .int x2), (3, .int x3)] [] := by
  have B_38 : ∀ (ricks : Int32) (st : Nat → Int32) (x1 : Int32) (x2 : Int32) (x3 : Int32) (x4 : Int32) (x5 : Int32) (kh38 : (Int32 × Int32) → Option (Int32)) (kx65 : (Int32) → Option (Int32)) (ihh38 : ∀ q, kh38 q = some o → hk_W p l e jr_M_needle s m args below meth c A (hk_Zi below args s D A o (wM cI a text letters mowers cows ricks weathers says words weather kindOf thatch newMowers newCows newRicks newWeathers newSays newWords newWeather newKind newThatch st pasts past aside seen seenWord seenHour keeps kept)) 6 D 0 0 (wM cI a text letters mowers cows ricks weathers says words weather kindOf thatch newMowers newCows newRicks newWeathers newSays newWords newWeather newKind newThatch st pasts past aside seen seenWord seenHour keeps kept) 38 [(0, .ref (a 0)), (1, .int x1), (2, .int x2), (3, .int x3), (4, .int q.1), (5, .int q.2)] []) (ihx65 : ∀ q, kx65 q = some o → hk_W p l e jr_M_needle s m args below meth c A (hk_Zi below args s D A o (wM cI a text letters mowers cows ricks weathers says words weather kindOf thatch newMowers newCows newRicks newWeathers newSays newWords newWeather newKind newThatch st pasts past aside seen seenWord seenHour keeps kept)) 6 D 0 0 (wM cI a text letters mowers cows ricks weathers says words weather kindOf thatch newMowers newCows newRicks newWeathers newSays newWords newWeather newKind newThatch st pasts past aside seen seenWord seenHour keeps kept) 65 [(0, .ref (a 0)), (1, .int x1), (2, .int x2), (3, .int x3), (4, .int q)] []) (_ : jf_M_needle_38B N ricks st x1 x2 x3 x4 x5 kh38 kx65 = some o), hk_W p l e jr_M_needle s m args below meth c A (hk_Zi below args s D A o (wM cI a text letters mowers cows ricks weathers says words weather kindOf thatch newMowers newCows newRicks newWeathers newSays newWords newWeather newKind newThatch st pasts past aside seen seenWord seenHour keeps kept)) 6 D 0 0 (wM cI a text letters mowers cows ricks weathers says words weather kindOf thatch newMowers newCows newRicks newWeathers newSays newWords newWeather newKind newThatch st pasts past aside seen seenWord seenHour keeps kept) 38 [(0, .ref (a 0)), (1, .int x1), (2, .int x2), (3, .int x3), (4, .int x4), (5, .int x5)] [] := by
    intro ricks st x1 x2 x3 x4 x5 kh38 kx65 ihh38 ihx65 h
    delta jf_M_needle_38B at h
    refine hk_iload hC jd_M_needle_38 5 rfl ?_
    refine hk_aload_n hC jd_M_needle_40 0 rfl ?_
    refine hk_get hC jk_M 0 rfl 4 (by decide) jq_702 rfl jd_M_needle_41 ?_
    refine hk_icmp_ge (tgt := 65) hC jd_M_needle_44 (by decide) (fun cc1 => ?_) (fun cc1 => ?_)
    · replace h := xi_t h cc1
      exact hk_lv [0, 1, 2, 3, 4] rfl (ihx65 x4 h)
    · replace h := xi_f h cc1
      refine hk_iload hC jd_M_needle_47 4 rfl ?_
      refine hk_aload_n hC jd_M_needle_49 0 rfl ?_
      refine hk_iload_n hC jd_M_needle_50 1 rfl ?_
      refine hk_iload hC jd_M_needle_51 5 rfl ?_
      obtain ⟨q1, h_q1, h⟩ := xb_go h
      refine hk_callVWi hC (q0 := 0) (jc_M_weight l D cI cF N a text letters mowers cows ricks weathers says words weather kindOf thatch newMowers newCows newRicks newWeathers newSays newWords newWeather newKind newThatch st pasts past aside seen seenWord seenHour keeps kept x1 x5 h_q1) jl_M_weight rfl rfl jq_935 jq_937 jq0_36 rfl ⟨by decide, by decide⟩ rfl rfl (Nat.le_of_ble_eq_true rfl) ⟨Nat.zero_le _, Nat.zero_le _⟩ jd_M_needle_53 ?_
      refine hk_iadd hC jd_M_needle_56 ?_
      obtain ⟨v1, e_v1, h⟩ := xl_go h
      refine hk_istore hC (i := 4) (y := v1) (lv2 := [(4, .int v1), (0, .ref (a 0)), (1, .int x1), (2, .int x2), (3, .int x3), (5, .int x5)]) jd_M_needle_57 e_v1 (by decide) rfl ?_
      obtain ⟨v2, e_v2, h⟩ := xl_go h
      refine hk_iinc hC (lv2 := [(5, .int v2), (4, .int v1), (0, .ref (a 0)), (1, .int x1), (2, .int x2), (3, .int x3)]) jd_M_needle_59 5 rfl e_v2 (by decide) rfl ?_
      refine hk_goto (tgt := 38) hC jd_M_needle_62 (by decide) ?_
      exact hk_lv [2, 3, 4, 5, 1, 0] rfl (ihh38 (v1, v2) h)
  have L_38 : ∀ (ricks : Int32) (st : Nat → Int32) (x1 : Int32) (x2 : Int32) (x3 : Int32) (x4 : Int32) (x5 : Int32) (kx65 : (Int32) → Option (Int32)) (ihx65 : ∀ q, kx65 q = some o → hk_W p l e jr_M_needle s m args below meth c A (hk_Zi below args s D A o (wM cI a text letters mowers cows ricks weathers says words weather kindOf thatch newMowers newCows newRicks newWeathers newSays newWords newWeather newKind newThatch st pasts past aside seen seenWord seenHour keeps kept)) 6 D 0 0 (wM cI a text letters mowers cows ricks weathers says words weather kindOf thatch newMowers newCows newRicks newWeathers newSays newWords newWeather newKind newThatch st pasts past aside seen seenWord seenHour keeps kept) 65 [(0, .ref (a 0)), (1, .int x1), (2, .int x2), (3, .int x3), (4, .int q)] []) (_ : jf_M_needle_38 N ricks st x1 x2 x3 x4 x5 kx65 = some o), hk_W p l e jr_M_needle s m args below meth c A (hk_Zi below args s D A o (wM cI a text letters mowers cows ricks weathers says words weather kindOf thatch newMowers newCows newRicks newWeathers newSays newWords newWeather newKind newThatch st pasts past aside seen seenWord seenHour keeps kept)) 6 D 0 0 (wM cI a text letters mowers cows ricks weathers says words weather kindOf thatch newMowers newCows newRicks newWeathers newSays newWords newWeather newKind newThatch st pasts past aside seen seenWord seenHour keeps kept) 38 [(0, .ref (a 0)), (1, .int x1), (2, .int x2), (3, .int x3), (4, .int x4), (5, .int x5)] [] := by
    intro ricks st x1 x2 x3 x4 x5 kx65 ihx65 h
    exact xloopW (fun (q : Int32 × Int32) => hk_W p l e jr_M_needle s m args below meth c A (hk_Zi below args s D A o (wM cI a text letters mowers cows ricks weathers says words weather kindOf thatch newMowers newCows newRicks newWeathers newSays newWords newWeather newKind newThatch st pasts past aside seen seenWord seenHour keeps kept)) 6 D 0 0 (wM cI a text letters mowers cows ricks weathers says words weather kindOf thatch newMowers newCows newRicks newWeathers newSays newWords newWeather newKind newThatch st pasts past aside seen seenWord seenHour keeps kept) 38 [(0, .ref (a 0)), (1, .int x1), (2, .int x2), (3, .int x3), (4, .int q.1), (5, .int q.2)] []) (fun kh ih q h => B_38 ricks st x1 x2 x3 q.1 q.2 kh kx65 ih ihx65 h) N (x4, x5) h
  have B_65 : ∀ (ricks : Int32) (st : Nat → Int32) (x1 : Int32) (x2 : Int32) (x3 : Int32) (x4 : Int32)   (_ : jf_M_needle_65 N ricks st x1 x2 x3 x4  = some o), hk_W p l e jr_M_needle s m args below meth c A (hk_Zi below args s D A o (wM cI a text letters mowers cows ricks weathers says words weather kindOf thatch newMowers newCows newRicks newWeathers newSays newWords newWeather newKind newThatch st pasts past aside seen seenWord seenHour keeps kept)) 6 D 0 0 (wM cI a text letters mowers cows ricks weathers says words weather kindOf thatch newMowers newCows newRicks newWeathers newSays newWords newWeather newKind newThatch st pasts past aside seen seenWord seenHour keeps kept) 65 [(0, .ref (a 0)), (1, .int x1), (2, .int x2), (3, .int x3), (4, .int x4)] [] := by
    intro ricks st x1 x2 x3 x4   h
    delta jf_M_needle_65 at h
    refine hk_iload hC jd_M_needle_65 4 rfl ?_
    refine hk_if_ne (tgt := 73) hC jd_M_needle_67 (by decide) (fun cc1 => ?_) (fun cc1 => ?_)
    · replace h := xi_f h cc1
      refine hk_aload_n hC jd_M_needle_73 0 rfl ?_
      refine hk_iload_n hC jd_M_needle_74 1 rfl ?_
      refine hk_iload_n hC jd_M_needle_75 2 rfl ?_
      obtain ⟨q1, h_q1, h⟩ := xb_go h
      refine hk_callVWi hC (q0 := 0) (jc_M_weight l D cI cF N a text letters mowers cows ricks weathers says words weather kindOf thatch newMowers newCows newRicks newWeathers newSays newWords newWeather newKind newThatch st pasts past aside seen seenWord seenHour keeps kept x1 x2 h_q1) jl_M_weight rfl rfl jq_935 jq_937 jq0_36 rfl ⟨by decide, by decide⟩ rfl rfl (Nat.le_of_ble_eq_true rfl) ⟨Nat.zero_le _, Nat.zero_le _⟩ jd_M_needle_76 ?_
      refine hk_iload hC jd_M_needle_79 4 rfl ?_
      obtain ⟨q2, h_q2, h⟩ := xb_go h
      refine hk_callS0i hC (jc_M_common l D cI cF N q1 x4 h_q2) jl_M_common jq_942 jq_943 rfl ⟨by decide, by decide⟩ rfl (Nat.le_of_ble_eq_true rfl) ⟨Nat.zero_le _, Nat.zero_le _⟩ jd_M_needle_81 ?_
      refine hk_istore hC (i := 5) (y := q2) (lv2 := [(5, .int q2), (0, .ref (a 0)), (1, .int x1), (2, .int x2), (3, .int x3), (4, .int x4)]) jd_M_needle_84 rfl (by decide) rfl ?_
      refine hk_iload_n hC jd_M_needle_86 4 rfl ?_
      refine hk_if_ne (tgt := 102) hC jd_M_needle_87 (by decide) (fun cc2 => ?_) (fun cc2 => ?_)
      · replace h := xi_f h cc2
        refine hk_iload hC jd_M_needle_102 5 rfl ?_
        refine hk_iload hC jd_M_needle_104 0 rfl ?_
        have hz1 := xz_in h
        replace h := xz_go h
        refine hk_idiv hC jd_M_needle_106 hz1 ?_
        obtain rfl := Option.some.inj h
        exact hk_iret hC hr jd_M_needle_107 rfl rfl
      · replace h := xi_t h cc2
        refine hk_aload_n hC jd_M_needle_90 1 rfl ?_
        refine hk_iload_n hC jd_M_needle_91 2 rfl ?_
        refine hk_iload_n hC jd_M_needle_92 3 rfl ?_
        obtain ⟨q3, h_q3, h⟩ := xb_go h
        refine hk_callVWi hC (q0 := 0) (jc_M_weight l D cI cF N a text letters mowers cows ricks weathers says words weather kindOf thatch newMowers newCows newRicks newWeathers newSays newWords newWeather newKind newThatch st pasts past aside seen seenWord seenHour keeps kept x1 x2 h_q3) jl_M_weight rfl rfl jq_935 jq_937 jq0_36 rfl ⟨by decide, by decide⟩ rfl rfl (Nat.le_of_ble_eq_true rfl) ⟨Nat.zero_le _, Nat.zero_le _⟩ jd_M_needle_93 ?_
        refine hk_iload hC jd_M_needle_96 0 rfl ?_
        have hz2 := xz_in h
        replace h := xz_go h
        refine hk_idiv hC jd_M_needle_98 hz2 ?_
        refine hk_goto (tgt := 107) hC jd_M_needle_99 (by decide) ?_
        obtain rfl := Option.some.inj h
        exact hk_iret hC hr jd_M_needle_107 rfl rfl
    · replace h := xi_t h cc1
      refine hk_bipush (v := -4) hC jd_M_needle_70 (by decide) ?_
      obtain rfl := Option.some.inj h
      exact hk_iret hC hr jd_M_needle_72 rfl rfl
  delta jf_M_needle at h
  refine hk_iload_n hC jd_M_needle_0 1 rfl ?_
  refine hk_i2l hC jd_M_needle_1 ?_
  refine hk_lconst (v := 0) hC jd_M_needle_2 (by decide) ?_
  refine hk_ldc2 hC jd_M_needle_3 jq_672 ?_
  obtain ⟨q1, h_q1, h⟩ := xb_go h
  refine hk_callS0i hC (jc_M_in l D cI cF N (Int32.toInt64 x1) (0 : Int64) (9 : Int64) h_q1) jl_M_in jq_673 jq_674 rfl ⟨by decide, by decide⟩ rfl (Nat.le_of_ble_eq_true rfl) ⟨Nat.zero_le _, Nat.zero_le _⟩ jd_M_needle_6 ?_
  refine hk_if_eq (tgt := 30) hC jd_M_needle_9 (by decide) (fun cc1 => ?_) (fun cc1 => ?_)
  · replace h := xi_t h cc1
    refine hk_iconst (v := -1) hC jd_M_needle_30 (by decide) ?_
    obtain rfl := Option.some.inj h
    exact hk_iret hC hr jd_M_needle_31 rfl rfl
  · replace h := xi_f h cc1
    refine hk_aload_n hC jd_M_needle_12 0 rfl ?_
    refine hk_iload_n hC jd_M_needle_13 2 rfl ?_
    obtain ⟨q2, h_q2, h⟩ := xb_go h
    refine hk_callVWi hC (q0 := 0) (jc_M_isRick l D cI cF N a text letters mowers cows ricks weathers says words weather kindOf thatch newMowers newCows newRicks newWeathers newSays newWords newWeather newKind newThatch st pasts past aside seen seenWord seenHour keeps kept x2 h_q2) jl_M_isRick rfl rfl jq_822 jq_824 jq0_24 rfl ⟨by decide, by decide⟩ rfl rfl (Nat.le_of_ble_eq_true rfl) ⟨Nat.zero_le _, Nat.zero_le _⟩ jd_M_needle_14 ?_
    refine hk_if_eq (tgt := 30) hC jd_M_needle_17 (by decide) (fun cc2 => ?_) (fun cc2 => ?_)
    · replace h := xi_t h cc2
      refine hk_iconst (v := -1) hC jd_M_needle_30 (by decide) ?_
      obtain rfl := Option.some.inj h
      exact hk_iret hC hr jd_M_needle_31 rfl rfl
    · replace h := xi_f h cc2
      refine hk_iload_n hC jd_M_needle_20 3 rfl ?_
      refine hk_i2l hC jd_M_needle_21 ?_
      refine hk_lconst (v := 0) hC jd_M_needle_22 (by decide) ?_
      refine hk_lconst (v := 1) hC jd_M_needle_23 (by decide) ?_
      obtain ⟨q3, h_q3, h⟩ := xb_go h
      refine hk_callS0i hC (jc_M_in l D cI cF N (Int32.toInt64 x3) (0 : Int64) (1 : Int64) h_q3) jl_M_in jq_673 jq_674 rfl ⟨by decide, by decide⟩ rfl (Nat.le_of_ble_eq_true rfl) ⟨Nat.zero_le _, Nat.zero_le _⟩ jd_M_needle_24 ?_
      refine hk_if_ne (tgt := 32) hC jd_M_needle_27 (by decide) (fun cc3 => ?_) (fun cc3 => ?_)
      · replace h := xi_f h cc3
        refine hk_iconst (v := 0) hC jd_M_needle_32 (by decide) ?_
        refine hk_istore hC (i := 4) (y := (0 : Int32)) (lv2 := [(4, .int (0 : Int32)), (0, .ref (a 0)), (1, .int x1), (2, .int x2), (3, .int x3)]) jd_M_needle_33 rfl (by decide) rfl ?_
        refine hk_iconst (v := 0) hC jd_M_needle_35 (by decide) ?_
        refine hk_istore hC (i := 5) (y := (0 : Int32)) (lv2 := [(5, .int (0 : Int32)), (4, .int (0 : Int32)), (0, .ref (a 0)), (1, .int x1), (2, .int x2), (3, .int x3)]) jd_M_needle_36 rfl (by decide) rfl ?_
        exact hk_lv [2, 3, 4, 5, 1, 0] rfl (L_38 ricks st x1 x2 x3 (0 : Int32) (0 : Int32) _ (fun q4 h => by exact (B_65 ricks st x1 x2 x3 q4   h)) h)
      · replace h := xi_t h cc3
        refine hk_iconst (v := -1) hC jd_M_needle_30 (by decide) ?_
        obtain rfl := Option.some.inj h
        exact hk_iret hC hr jd_M_needle_31 rfl rfl
theorem jc_M_needle (l : Launch) (D : va_G) (cI cF : ClassId) (N : Nat) (a : Nat → Nat)  (text : Nat → Int32) (letters : Int32) (mowers : Int32) (cows : Int32) (ricks : Int32) (weathers : Int32) (says : Nat → Int32) (words : Nat → Int32) (weather : Nat → Int32) (kindOf : Nat → Int32) (thatch : Nat → Int32) (newMowers : Int32) (newCows : Int32) (newRicks : Int32) (newWeathers : Int32) (newSays : Nat → Int32) (newWords : Nat → Int32) (newWeather : Nat → Int32) (newKind : Nat → Int32) (newThatch : Nat → Int32) (st : Nat → Int32) (pasts : Int32) (past : Nat → Int32) (aside : Nat → Int32) (seen : Int32) (seenWord : Nat → Int32) (seenHour : Nat → Int32) (keeps : Int32) (kept : Nat → Int32) (x1 : Int32) (x2 : Int32) (x3 : Int32) {o : Int32} (h : jf_M_needle N ricks st x1 x2 x3 = some o) : hk_Mi l jy_M_needle jb_M_needle 6 (some .int) jr_M_needle D cI cF (wM cI a text letters mowers cows ricks weathers says words weather kindOf thatch newMowers newCows newRicks newWeathers newSays newWords newWeather newKind newThatch st pasts past aside seen seenWord seenHour keeps kept) [.ref (a 0), .int x1, .int x2, .int x3] o (wM cI a text letters mowers cows ricks weathers says words weather kindOf thatch newMowers newCows newRicks newWeathers newSays newWords newWeather newKind newThatch st pasts past aside seen seenWord seenHour keeps kept) :=
  hk_metI (by decide) (Nat.le_of_ble_eq_true rfl) rfl rfl (fun p e s m args below meth c A hC hr => jw_M_needle hC hr N a text letters mowers cows ricks weathers says words weather kindOf thatch newMowers newCows newRicks newWeathers newSays newWords newWeather newKind newThatch st pasts past aside seen seenWord seenHour keeps kept x1 x2 x3 h)
set_option maxHeartbeats 8000000 in
set_option maxRecDepth 100000 in
theorem jw_M_see {p : Program} {l : Launch} {e : Env} {s : State} {m : MethodId} {args : Array Value} {below : List Frame} {meth : Method} {c : Code} {A : Nat → Prop} {D : va_G} {cI cF : ClassId} (hC : hk_ok p s m args meth c A 3 D cI cF "HayTalkModel" jb_M_see) (hr : meth.sig.returnType = (some .int)) (N : Nat) (a : Nat → Nat)  (text : Nat → Int32) (letters : Int32) (mowers : Int32) (cows : Int32) (ricks : Int32) (weathers : Int32) (says : Nat → Int32) (words : Nat → Int32) (weather : Nat → Int32) (kindOf : Nat → Int32) (thatch : Nat → Int32) (newMowers : Int32) (newCows : Int32) (newRicks : Int32) (newWeathers : Int32) (newSays : Nat → Int32) (newWords : Nat → Int32) (newWeather : Nat → Int32) (newKind : Nat → Int32) (newThatch : Nat → Int32) (st : Nat → Int32) (pasts : Int32) (past : Nat → Int32) (aside : Nat → Int32) (seen : Int32) (seenWord : Nat → Int32) (seenHour : Nat → Int32) (keeps : Int32) (kept : Nat → Int32) (x1 : Int32) (x2 : Int32) {o : Int32 × Int32 × (Nat → Int32) × (Nat → Int32)} (h : jf_M_see N seen seenWord seenHour x1 x2 = some o) : hk_W p l e jr_M_see s m args below meth c A (hk_Zi below args s D A o.1 (wM cI a text letters mowers cows ricks weathers says words weather kindOf thatch newMowers newCows newRicks newWeathers newSays newWords newWeather newKind newThatch st pasts past aside o.2.1 o.2.2.1 o.2.2.2 keeps kept)) 3 D 0 0 (wM cI a text letters mowers cows ricks weathers says words weather kindOf thatch newMowers newCows newRicks newWeathers newSays newWords newWeather newKind newThatch st pasts past aside seen seenWord seenHour keeps kept) 0 [(0, .ref (a 0)), (1, .int x1), (2, .int x2)] [] := by
  delta jf_M_see at h
  refine hk_iload_n hC jd_M_see_0 1 rfl ?_
  refine hk_i2l hC jd_M_see_1 ?_
  refine hk_lconst (v := 0) hC jd_M_see_2 (by decide) ?_
  refine hk_ldc2 hC jd_M_see_3 jq_672 ?_
  obtain ⟨q1, h_q1, h⟩ := xb_go h
  refine hk_callS0i hC (jc_M_in l D cI cF N (Int32.toInt64 x1) (0 : Int64) (9 : Int64) h_q1) jl_M_in jq_673 jq_674 rfl ⟨by decide, by decide⟩ rfl (Nat.le_of_ble_eq_true rfl) ⟨Nat.zero_le _, Nat.zero_le _⟩ jd_M_see_6 ?_
  refine hk_if_eq (tgt := 24) hC jd_M_see_9 (by decide) (fun cc1 => ?_) (fun cc1 => ?_)
  · replace h := xi_t h cc1
    refine hk_iconst (v := -1) hC jd_M_see_24 (by decide) ?_
    obtain rfl := Option.some.inj h
    exact hk_iret hC hr jd_M_see_25 rfl rfl
  · replace h := xi_f h cc1
    refine hk_iload_n hC jd_M_see_12 2 rfl ?_
    refine hk_i2l hC jd_M_see_13 ?_
    refine hk_lconst (v := 0) hC jd_M_see_14 (by decide) ?_
    refine hk_ldc2 hC jd_M_see_15 jq_949 ?_
    obtain ⟨q2, h_q2, h⟩ := xb_go h
    refine hk_callS0i hC (jc_M_in l D cI cF N (Int32.toInt64 x2) (0 : Int64) (99 : Int64) h_q2) jl_M_in jq_673 jq_674 rfl ⟨by decide, by decide⟩ rfl (Nat.le_of_ble_eq_true rfl) ⟨Nat.zero_le _, Nat.zero_le _⟩ jd_M_see_18 ?_
    refine hk_if_ne (tgt := 26) hC jd_M_see_21 (by decide) (fun cc2 => ?_) (fun cc2 => ?_)
    · replace h := xi_f h cc2
      refine hk_aload_n hC jd_M_see_26 0 rfl ?_
      refine hk_get hC jk_M 0 rfl 24 (by decide) jq_722 rfl jd_M_see_27 ?_
      refine hk_bipush (v := 6) hC jd_M_see_30 (by decide) ?_
      refine hk_icmp_ne (tgt := 38) hC jd_M_see_32 (by decide) (fun cc3 => ?_) (fun cc3 => ?_)
      · replace h := xi_f h cc3
        refine hk_aload_n hC jd_M_see_38 0 rfl ?_
        refine hk_get hC jk_M 0 rfl 25 (by decide) jq_723 rfl jd_M_see_39 ?_
        refine hk_aload_n hC jd_M_see_42 0 rfl ?_
        refine hk_get hC jk_M 0 rfl 24 (by decide) jq_722 rfl jd_M_see_43 ?_
        refine hk_iload_n hC jd_M_see_46 1 rfl ?_
        have hr1 := xr_in h
        replace h := xr_go h
        obtain ⟨z1, e_z1, h⟩ := xl_go h
        refine hk_iast hC 15 rfl hr1 e_z1 (ws2 := (wM cI a text letters mowers cows ricks weathers says words weather kindOf thatch newMowers newCows newRicks newWeathers newSays newWords newWeather newKind newThatch st pasts past aside seen z1 seenHour keeps kept)) rfl jd_M_see_47 ?_
        refine hk_aload_n hC jd_M_see_48 0 rfl ?_
        refine hk_get hC jk_M 0 rfl 26 (by decide) jq_724 rfl jd_M_see_49 ?_
        refine hk_aload_n hC jd_M_see_52 0 rfl ?_
        refine hk_get hC jk_M 0 rfl 24 (by decide) jq_722 rfl jd_M_see_53 ?_
        refine hk_iload_n hC jd_M_see_56 2 rfl ?_
        have hr2 := xr_in h
        replace h := xr_go h
        obtain ⟨z2, e_z2, h⟩ := xl_go h
        refine hk_iast hC 16 rfl hr2 e_z2 (ws2 := (wM cI a text letters mowers cows ricks weathers says words weather kindOf thatch newMowers newCows newRicks newWeathers newSays newWords newWeather newKind newThatch st pasts past aside seen z1 z2 keeps kept)) rfl jd_M_see_57 ?_
        refine hk_aload_n hC jd_M_see_58 0 rfl ?_
        refine hk_dup hC jd_M_see_59 rfl ?_
        refine hk_get hC jk_M 0 rfl 24 (by decide) jq_722 rfl jd_M_see_60 ?_
        refine hk_iconst (v := 1) hC jd_M_see_63 (by decide) ?_
        refine hk_iadd hC jd_M_see_64 ?_
        obtain ⟨v1, e_v1, h⟩ := xl_go h
        refine hk_topi e_v1 ?_
        refine hk_put hC jk_M 0 rfl 24 (by decide) jq_722 rfl rfl rfl (Nat.le_of_ble_eq_true rfl) (ws2 := (wM cI a text letters mowers cows ricks weathers says words weather kindOf thatch newMowers newCows newRicks newWeathers newSays newWords newWeather newKind newThatch st pasts past aside v1 z1 z2 keeps kept)) rfl jd_M_see_65 ?_
        refine hk_aload_n hC jd_M_see_68 0 rfl ?_
        refine hk_get hC jk_M 0 rfl 24 (by decide) jq_722 rfl jd_M_see_69 ?_
        obtain rfl := Option.some.inj h
        exact hk_iret hC hr jd_M_see_72 rfl rfl
      · replace h := xi_t h cc3
        refine hk_bipush (v := -3) hC jd_M_see_35 (by decide) ?_
        obtain rfl := Option.some.inj h
        exact hk_iret hC hr jd_M_see_37 rfl rfl
    · replace h := xi_t h cc2
      refine hk_iconst (v := -1) hC jd_M_see_24 (by decide) ?_
      obtain rfl := Option.some.inj h
      exact hk_iret hC hr jd_M_see_25 rfl rfl
theorem jc_M_see (l : Launch) (D : va_G) (cI cF : ClassId) (N : Nat) (a : Nat → Nat)  (text : Nat → Int32) (letters : Int32) (mowers : Int32) (cows : Int32) (ricks : Int32) (weathers : Int32) (says : Nat → Int32) (words : Nat → Int32) (weather : Nat → Int32) (kindOf : Nat → Int32) (thatch : Nat → Int32) (newMowers : Int32) (newCows : Int32) (newRicks : Int32) (newWeathers : Int32) (newSays : Nat → Int32) (newWords : Nat → Int32) (newWeather : Nat → Int32) (newKind : Nat → Int32) (newThatch : Nat → Int32) (st : Nat → Int32) (pasts : Int32) (past : Nat → Int32) (aside : Nat → Int32) (seen : Int32) (seenWord : Nat → Int32) (seenHour : Nat → Int32) (keeps : Int32) (kept : Nat → Int32) (x1 : Int32) (x2 : Int32) {o : Int32 × Int32 × (Nat → Int32) × (Nat → Int32)} (h : jf_M_see N seen seenWord seenHour x1 x2 = some o) : hk_Mi l jy_M_see jb_M_see 3 (some .int) jr_M_see D cI cF (wM cI a text letters mowers cows ricks weathers says words weather kindOf thatch newMowers newCows newRicks newWeathers newSays newWords newWeather newKind newThatch st pasts past aside seen seenWord seenHour keeps kept) [.ref (a 0), .int x1, .int x2] o.1 (wM cI a text letters mowers cows ricks weathers says words weather kindOf thatch newMowers newCows newRicks newWeathers newSays newWords newWeather newKind newThatch st pasts past aside o.2.1 o.2.2.1 o.2.2.2 keeps kept) :=
  hk_metI (by decide) (Nat.le_of_ble_eq_true rfl) rfl rfl (fun p e s m args below meth c A hC hr => jw_M_see hC hr N a text letters mowers cows ricks weathers says words weather kindOf thatch newMowers newCows newRicks newWeathers newSays newWords newWeather newKind newThatch st pasts past aside seen seenWord seenHour keeps kept x1 x2 h)
set_option maxHeartbeats 8000000 in
set_option maxRecDepth 100000 in
theorem jw_M_forget {p : Program} {l : Launch} {e : Env} {s : State} {m : MethodId} {args : Array Value} {below : List Frame} {meth : Method} {c : Code} {A : Nat → Prop} {D : va_G} {cI cF : ClassId} (hC : hk_ok p s m args meth c A 2 D cI cF "HayTalkModel" jb_M_forget) (hr : meth.sig.returnType = (some .int)) (N : Nat) (a : Nat → Nat)  (text : Nat → Int32) (letters : Int32) (mowers : Int32) (cows : Int32) (ricks : Int32) (weathers : Int32) (says : Nat → Int32) (words : Nat → Int32) (weather : Nat → Int32) (kindOf : Nat → Int32) (thatch : Nat → Int32) (newMowers : Int32) (newCows : Int32) (newRicks : Int32) (newWeathers : Int32) (newSays : Nat → Int32) (newWords : Nat → Int32) (newWeather : Nat → Int32) (newKind : Nat → Int32) (newThatch : Nat → Int32) (st : Nat → Int32) (pasts : Int32) (past : Nat → Int32) (aside : Nat → Int32) (seen : Int32) (seenWord : Nat → Int32) (seenHour : Nat → Int32) (keeps : Int32) (kept : Nat → Int32)  {o : Int32 × Int32} (h : jf_M_forget N seen = some o) : hk_W p l e jr_M_forget s m args below meth c A (hk_Zi below args s D A o.1 (wM cI a text letters mowers cows ricks weathers says words weather kindOf thatch newMowers newCows newRicks newWeathers newSays newWords newWeather newKind newThatch st pasts past aside o.2 seenWord seenHour keeps kept)) 2 D 0 0 (wM cI a text letters mowers cows ricks weathers says words weather kindOf thatch newMowers newCows newRicks newWeathers newSays newWords newWeather newKind newThatch st pasts past aside seen seenWord seenHour keeps kept) 0 [(0, .ref (a 0))] [] := by
  delta jf_M_forget at h
  refine hk_aload_n hC jd_M_forget_0 0 rfl ?_
  refine hk_get hC jk_M 0 rfl 24 (by decide) jq_722 rfl jd_M_forget_1 ?_
  refine hk_istore_n hC (i := 1) (y := seen) (lv2 := [(1, .int seen), (0, .ref (a 0))]) jd_M_forget_4 rfl rfl (by decide) rfl ?_
  refine hk_aload_n hC jd_M_forget_5 1 rfl ?_
  refine hk_iconst (v := 0) hC jd_M_forget_6 (by decide) ?_
  refine hk_put hC jk_M 0 rfl 24 (by decide) jq_722 rfl rfl rfl (Nat.le_of_ble_eq_true rfl) (ws2 := (wM cI a text letters mowers cows ricks weathers says words weather kindOf thatch newMowers newCows newRicks newWeathers newSays newWords newWeather newKind newThatch st pasts past aside (0 : Int32) seenWord seenHour keeps kept)) rfl jd_M_forget_7 ?_
  refine hk_iload_n hC jd_M_forget_10 0 rfl ?_
  obtain rfl := Option.some.inj h
  exact hk_iret hC hr jd_M_forget_11 rfl rfl
theorem jc_M_forget (l : Launch) (D : va_G) (cI cF : ClassId) (N : Nat) (a : Nat → Nat)  (text : Nat → Int32) (letters : Int32) (mowers : Int32) (cows : Int32) (ricks : Int32) (weathers : Int32) (says : Nat → Int32) (words : Nat → Int32) (weather : Nat → Int32) (kindOf : Nat → Int32) (thatch : Nat → Int32) (newMowers : Int32) (newCows : Int32) (newRicks : Int32) (newWeathers : Int32) (newSays : Nat → Int32) (newWords : Nat → Int32) (newWeather : Nat → Int32) (newKind : Nat → Int32) (newThatch : Nat → Int32) (st : Nat → Int32) (pasts : Int32) (past : Nat → Int32) (aside : Nat → Int32) (seen : Int32) (seenWord : Nat → Int32) (seenHour : Nat → Int32) (keeps : Int32) (kept : Nat → Int32)  {o : Int32 × Int32} (h : jf_M_forget N seen = some o) : hk_Mi l jy_M_forget jb_M_forget 2 (some .int) jr_M_forget D cI cF (wM cI a text letters mowers cows ricks weathers says words weather kindOf thatch newMowers newCows newRicks newWeathers newSays newWords newWeather newKind newThatch st pasts past aside seen seenWord seenHour keeps kept) [.ref (a 0)] o.1 (wM cI a text letters mowers cows ricks weathers says words weather kindOf thatch newMowers newCows newRicks newWeathers newSays newWords newWeather newKind newThatch st pasts past aside o.2 seenWord seenHour keeps kept) :=
  hk_metI (by decide) (Nat.le_of_ble_eq_true rfl) rfl rfl (fun p e s m args below meth c A hC hr => jw_M_forget hC hr N a text letters mowers cows ricks weathers says words weather kindOf thatch newMowers newCows newRicks newWeathers newSays newWords newWeather newKind newThatch st pasts past aside seen seenWord seenHour keeps kept h)
