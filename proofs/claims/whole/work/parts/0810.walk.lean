set_option maxHeartbeats 8000000 in
set_option maxRecDepth 100000 in
theorem jw_M_turn {p : Program} {l : Launch} {e : Env} {s : State} {m : MethodId} {args : Array Value} {below : List Frame} {meth : Method} {c : Code} {A : Nat → Prop} {D : va_G} {cI cF : ClassId} (hC : hk_ok p s m args meth c A 3 D cI cF "HayTalkModel" jb_M_turn) (hr : meth.sig.returnType = (some .int)) (N : Nat) (a : Nat → Nat)  (text : Nat → Int32) (letters : Int32) (mowers : Int32) (cows : Int32) (ricks : Int32) (weathers : Int32) (says : Nat → Int32) (words : Nat → Int32) (weather : Nat → Int32) (kindOf : Nat → Int32) (thatch : Nat → Int32) (newMowers : Int32) (newCows : Int32) (newRicks : Int32) (newWeathers : Int32) (newSays : Nat → Int32) (newWords : Nat → Int32) (newWeather : Nat → Int32) (newKind : Nat → Int32) (newThatch : Nat → Int32) (st : Nat → Int32) (pasts : Int32) (past : Nat → Int32) (aside : Nat → Int32) (seen : Int32) (seenWord : Nat → Int32) (seenHour : Nat → Int32) (keeps : Int32) (kept : Nat → Int32) (x1 : Int32) {o : Int32 × (Nat → Int32) × Int32 × (Nat → Int32)} (h : jf_M_turn N mowers st pasts past x1 = some o) : hk_W p l e jr_M_turn s m args below meth c A (hk_Zi below args s D A o.1 (wM cI a text letters mowers cows ricks weathers says words weather kindOf thatch newMowers newCows newRicks newWeathers newSays newWords newWeather newKind newThatch o.2.1 o.2.2.1 o.2.2.2 aside seen seenWord seenHour keeps kept)) 3 D 0 0 (wM cI a text letters mowers cows ricks weathers says words weather kindOf thatch newMowers newCows newRicks newWeathers newSays newWords newWeather newKind newThatch st pasts past aside seen seenWord seenHour keeps kept) 0 [(0, .ref (a 0)), (1, .int x1)] [] := by
  delta jf_M_turn at h
  refine hk_aload_n hC jd_M_turn_0 0 rfl ?_
  refine hk_iload_n hC jd_M_turn_1 1 rfl ?_
  obtain ⟨q1, h_q1, h⟩ := xb_go h
  refine hk_callVWi hC (q0 := 0) (jc_M_isMower l D cI cF N a text letters mowers cows ricks weathers says words weather kindOf thatch newMowers newCows newRicks newWeathers newSays newWords newWeather newKind newThatch st pasts past aside seen seenWord seenHour keeps kept x1 h_q1) jl_M_isMower rfl rfl jq_802 jq_804 jq0_21 rfl ⟨by decide, by decide⟩ rfl rfl (Nat.le_of_ble_eq_true rfl) ⟨Nat.zero_le _, Nat.zero_le _⟩ jd_M_turn_2 ?_
  refine hk_if_ne (tgt := 10) hC jd_M_turn_5 (by decide) (fun cc1 => ?_) (fun cc1 => ?_)
  · replace h := xi_f h cc1
    refine hk_aload_n hC jd_M_turn_10 0 rfl ?_
    refine hk_get hC jk_M 0 rfl 20 (by decide) jq_718 rfl jd_M_turn_11 ?_
    refine hk_bipush (v := 6) hC jd_M_turn_14 (by decide) ?_
    refine hk_iload_n hC jd_M_turn_16 1 rfl ?_
    refine hk_iadd hC jd_M_turn_17 ?_
    have hr1 := xr_in h
    replace h := xr_go h
    refine hk_iald hC 12 rfl hr1 jd_M_turn_18 ?_
    obtain ⟨v1, e_v1, h⟩ := xl_go h
    refine hk_istore_n hC (i := 2) (y := v1) (lv2 := [(2, .int v1), (0, .ref (a 0)), (1, .int x1)]) jd_M_turn_19 rfl e_v1 (by decide) rfl ?_
    refine hk_iload_n hC jd_M_turn_20 0 rfl ?_
    refine hk_if_ne (tgt := 27) hC jd_M_turn_21 (by decide) (fun cc2 => ?_) (fun cc2 => ?_)
    · replace h := xi_f h cc2
      refine hk_aload_n hC jd_M_turn_27 1 rfl ?_
      obtain ⟨q2, h_q2, h⟩ := xb_go h
      refine hk_callVWv hC (q0 := 0) (jc_M_note l D cI cF N a text letters mowers cows ricks weathers says words weather kindOf thatch newMowers newCows newRicks newWeathers newSays newWords newWeather newKind newThatch st pasts past aside seen seenWord seenHour keeps kept h_q2) jl_M_note rfl rfl jq_843 jq_845 jq0_26 rfl ⟨by decide, by decide⟩ rfl rfl (Nat.le_of_ble_eq_true rfl) ⟨Nat.zero_le _, Nat.zero_le _⟩ jd_M_turn_28 ?_
      refine hk_aload_n hC jd_M_turn_31 1 rfl ?_
      refine hk_get hC jk_M 0 rfl 20 (by decide) jq_718 rfl jd_M_turn_32 ?_
      refine hk_bipush (v := 6) hC jd_M_turn_35 (by decide) ?_
      refine hk_iload_n hC jd_M_turn_37 2 rfl ?_
      refine hk_iadd hC jd_M_turn_38 ?_
      refine hk_iconst (v := 0) hC jd_M_turn_39 (by decide) ?_
      have hr2 := xr_in h
      replace h := xr_go h
      obtain ⟨z1, e_z1, h⟩ := xl_go h
      refine hk_iast hC 12 rfl hr2 e_z1 (ws2 := (wM cI a text letters mowers cows ricks weathers says words weather kindOf thatch newMowers newCows newRicks newWeathers newSays newWords newWeather newKind newThatch z1 q2.1 q2.2 aside seen seenWord seenHour keeps kept)) rfl jd_M_turn_40 ?_
      refine hk_iload_n hC jd_M_turn_41 0 rfl ?_
      obtain rfl := Option.some.inj h
      exact hk_iret hC hr jd_M_turn_42 rfl rfl
    · replace h := xi_t h cc2
      refine hk_bipush (v := -2) hC jd_M_turn_24 (by decide) ?_
      obtain rfl := Option.some.inj h
      exact hk_iret hC hr jd_M_turn_26 rfl rfl
  · replace h := xi_t h cc1
    refine hk_iconst (v := -1) hC jd_M_turn_8 (by decide) ?_
    obtain rfl := Option.some.inj h
    exact hk_iret hC hr jd_M_turn_9 rfl rfl
theorem jc_M_turn (l : Launch) (D : va_G) (cI cF : ClassId) (N : Nat) (a : Nat → Nat)  (text : Nat → Int32) (letters : Int32) (mowers : Int32) (cows : Int32) (ricks : Int32) (weathers : Int32) (says : Nat → Int32) (words : Nat → Int32) (weather : Nat → Int32) (kindOf : Nat → Int32) (thatch : Nat → Int32) (newMowers : Int32) (newCows : Int32) (newRicks : Int32) (newWeathers : Int32) (newSays : Nat → Int32) (newWords : Nat → Int32) (newWeather : Nat → Int32) (newKind : Nat → Int32) (newThatch : Nat → Int32) (st : Nat → Int32) (pasts : Int32) (past : Nat → Int32) (aside : Nat → Int32) (seen : Int32) (seenWord : Nat → Int32) (seenHour : Nat → Int32) (keeps : Int32) (kept : Nat → Int32) (x1 : Int32) {o : Int32 × (Nat → Int32) × Int32 × (Nat → Int32)} (h : jf_M_turn N mowers st pasts past x1 = some o) : hk_Mi l jy_M_turn jb_M_turn 3 (some .int) jr_M_turn D cI cF (wM cI a text letters mowers cows ricks weathers says words weather kindOf thatch newMowers newCows newRicks newWeathers newSays newWords newWeather newKind newThatch st pasts past aside seen seenWord seenHour keeps kept) [.ref (a 0), .int x1] o.1 (wM cI a text letters mowers cows ricks weathers says words weather kindOf thatch newMowers newCows newRicks newWeathers newSays newWords newWeather newKind newThatch o.2.1 o.2.2.1 o.2.2.2 aside seen seenWord seenHour keeps kept) :=
  hk_metI (by decide) (Nat.le_of_ble_eq_true rfl) rfl rfl (fun p e s m args below meth c A hC hr => jw_M_turn hC hr N a text letters mowers cows ricks weathers says words weather kindOf thatch newMowers newCows newRicks newWeathers newSays newWords newWeather newKind newThatch st pasts past aside seen seenWord seenHour keeps kept x1 h)
set_option maxHeartbeats 8000000 in
set_option maxRecDepth 100000 in
theorem jw_M_heap {p : Program} {l : Launch} {e : Env} {s : State} {m : MethodId} {args : Array Value} {below : List Frame} {meth : Method} {c : Code} {A : Nat → Prop} {D : va_G} {cI cF : ClassId} (hC : hk_ok p s m args meth c A 7 D cI cF "HayTalkModel" jb_M_heap) (hr : meth.sig.returnType = (some .int)) (N : Nat) (a : Nat → Nat)  (text : Nat → Int32) (letters : Int32) (mowers : Int32) (cows : Int32) (ricks : Int32) (weathers : Int32) (says : Nat → Int32) (words : Nat → Int32) (weather : Nat → Int32) (kindOf : Nat → Int32) (thatch : Nat → Int32) (newMowers : Int32) (newCows : Int32) (newRicks : Int32) (newWeathers : Int32) (newSays : Nat → Int32) (newWords : Nat → Int32) (newWeather : Nat → Int32) (newKind : Nat → Int32) (newThatch : Nat → Int32) (st : Nat → Int32) (pasts : Int32) (past : Nat → Int32) (aside : Nat → Int32) (seen : Int32) (seenWord : Nat → Int32) (seenHour : Nat → Int32) (keeps : Int32) (kept : Nat → Int32) (x1 : Int32) (x2 : Int32) {o : Int32 × (Nat → Int32) × Int32 × (Nat → Int32)} (h : jf_M_heap N ricks st pasts past x1 x2 = some o) : hk_W p l e jr_M_heap s m args below meth c A (hk_Zi below args s D A o.1 (wM cI a text letters mowers cows ricks weathers says words weather kindOf thatch newMowers newCows newRicks newWeathers newSays newWords newWeather newKind newThatch o.2.1 o.2.2.1 o.2.2.2 aside seen seenWord seenHour keeps kept)) 7 D 0 0 (wM cI a text letters mowers cows ricks weathers says words weather kindOf thatch newMowers newCows newRicks newWeathers newSays newWords newWeather newKind newThatch st pasts past aside seen seenWord seenHour keeps kept) 0 [(0, .ref (a 0)), (1, .int x1), (2, .int x2)] [] := by
  have B_53 : ∀ (ricks : Int32) (st : Nat → Int32) (pasts : Int32) (past : Nat → Int32) (x3 : Int32)   (_ : jf_M_heap_53 N ricks st pasts past x3  = some o), hk_W p l e jr_M_heap s m args below meth c A (hk_Zi below args s D A o.1 (wM cI a text letters mowers cows ricks weathers says words weather kindOf thatch newMowers newCows newRicks newWeathers newSays newWords newWeather newKind newThatch o.2.1 o.2.2.1 o.2.2.2 aside seen seenWord seenHour keeps kept)) 7 D 0 0 (wM cI a text letters mowers cows ricks weathers says words weather kindOf thatch newMowers newCows newRicks newWeathers newSays newWords newWeather newKind newThatch st pasts past aside seen seenWord seenHour keeps kept) 53 [(3, .int x3)] [] := by
    intro ricks st pasts past x3   h
    delta jf_M_heap_53 at h
    refine hk_iload_n hC jd_M_heap_53 0 rfl ?_
    refine hk_if_ne (tgt := 62) hC jd_M_heap_54 (by decide) (fun cc1 => ?_) (fun cc1 => ?_)
    · replace h := xi_f h cc1
      refine hk_bipush (v := -3) hC jd_M_heap_62 (by decide) ?_
      obtain rfl := Option.some.inj h
      exact hk_iret hC hr jd_M_heap_64 rfl rfl
    · replace h := xi_t h cc1
      refine hk_bipush (v := -2) hC jd_M_heap_57 (by decide) ?_
      refine hk_goto (tgt := 64) hC jd_M_heap_59 (by decide) ?_
      obtain rfl := Option.some.inj h
      exact hk_iret hC hr jd_M_heap_64 rfl rfl
  have B_72 : ∀ (ricks : Int32) (st : Nat → Int32) (pasts : Int32) (past : Nat → Int32) (x1 : Int32) (x2 : Int32) (x3 : Int32) (x4 : Int32) (kh72 : ((Nat → Int32) × Int32) → Option (Int32 × (Nat → Int32) × Int32 × (Nat → Int32))) (kx182 : ((Nat → Int32)) → Option (Int32 × (Nat → Int32) × Int32 × (Nat → Int32))) (ihh72 : ∀ q, kh72 q = some o → hk_W p l e jr_M_heap s m args below meth c A (hk_Zi below args s D A o.1 (wM cI a text letters mowers cows ricks weathers says words weather kindOf thatch newMowers newCows newRicks newWeathers newSays newWords newWeather newKind newThatch o.2.1 o.2.2.1 o.2.2.2 aside seen seenWord seenHour keeps kept)) 7 D 0 0 (wM cI a text letters mowers cows ricks weathers says words weather kindOf thatch newMowers newCows newRicks newWeathers newSays newWords newWeather newKind newThatch q.1 pasts past aside seen seenWord seenHour keeps kept) 72 [(0, .ref (a 0)), (1, .int x1), (2, .int x2), (3, .int x3), (4, .int q.2)] []) (ihx182 : ∀ q, kx182 q = some o → hk_W p l e jr_M_heap s m args below meth c A (hk_Zi below args s D A o.1 (wM cI a text letters mowers cows ricks weathers says words weather kindOf thatch newMowers newCows newRicks newWeathers newSays newWords newWeather newKind newThatch o.2.1 o.2.2.1 o.2.2.2 aside seen seenWord seenHour keeps kept)) 7 D 0 0 (wM cI a text letters mowers cows ricks weathers says words weather kindOf thatch newMowers newCows newRicks newWeathers newSays newWords newWeather newKind newThatch q pasts past aside seen seenWord seenHour keeps kept) 182 [(0, .ref (a 0)), (1, .int x1), (2, .int x2)] []) (_ : jf_M_heap_72B N ricks st pasts past x1 x2 x3 x4 kh72 kx182 = some o), hk_W p l e jr_M_heap s m args below meth c A (hk_Zi below args s D A o.1 (wM cI a text letters mowers cows ricks weathers says words weather kindOf thatch newMowers newCows newRicks newWeathers newSays newWords newWeather newKind newThatch o.2.1 o.2.2.1 o.2.2.2 aside seen seenWord seenHour keeps kept)) 7 D 0 0 (wM cI a text letters mowers cows ricks weathers says words weather kindOf thatch newMowers newCows newRicks newWeathers newSays newWords newWeather newKind newThatch st pasts past aside seen seenWord seenHour keeps kept) 72 [(0, .ref (a 0)), (1, .int x1), (2, .int x2), (3, .int x3), (4, .int x4)] [] := by
    intro ricks st pasts past x1 x2 x3 x4 kh72 kx182 ihh72 ihx182 h
    delta jf_M_heap_72B at h
    refine hk_iload hC jd_M_heap_72 4 rfl ?_
    refine hk_iload_n hC jd_M_heap_74 3 rfl ?_
    refine hk_icmp_ge (tgt := 182) hC jd_M_heap_75 (by decide) (fun cc1 => ?_) (fun cc1 => ?_)
    · replace h := xi_t h cc1
      exact hk_lv [0, 1, 2] rfl (ihx182 st h)
    · replace h := xi_f h cc1
      refine hk_bipush (v := 8) hC jd_M_heap_78 (by decide) ?_
      refine hk_iload_n hC jd_M_heap_80 2 rfl ?_
      refine hk_imul hC jd_M_heap_81 ?_
      refine hk_aload_n hC jd_M_heap_82 0 rfl ?_
      refine hk_get hC jk_M 0 rfl 20 (by decide) jq_718 rfl jd_M_heap_83 ?_
      refine hk_bipush (v := 15) hC jd_M_heap_86 (by decide) ?_
      refine hk_iload_n hC jd_M_heap_88 2 rfl ?_
      refine hk_iadd hC jd_M_heap_89 ?_
      have hr1 := xr_in h
      replace h := xr_go h
      refine hk_iald hC 12 rfl hr1 jd_M_heap_90 ?_
      refine hk_iadd hC jd_M_heap_91 ?_
      obtain ⟨v1, e_v1, h⟩ := xl_go h
      refine hk_istore hC (i := 5) (y := v1) (lv2 := [(5, .int v1), (0, .ref (a 0)), (1, .int x1), (2, .int x2), (3, .int x3), (4, .int x4)]) jd_M_heap_92 e_v1 (by decide) rfl ?_
      refine hk_bipush (v := 8) hC jd_M_heap_94 (by decide) ?_
      refine hk_iload_n hC jd_M_heap_96 2 rfl ?_
      refine hk_imul hC jd_M_heap_97 ?_
      refine hk_iload hC jd_M_heap_98 5 rfl ?_
      refine hk_iadd hC jd_M_heap_100 ?_
      obtain ⟨v2, e_v2, h⟩ := xl_go h
      refine hk_istore hC (i := 6) (y := v2) (lv2 := [(6, .int v2), (5, .int v1), (0, .ref (a 0)), (1, .int x1), (2, .int x2), (3, .int x3), (4, .int x4)]) jd_M_heap_101 e_v2 (by decide) rfl ?_
      refine hk_aload_n hC jd_M_heap_103 2 rfl ?_
      refine hk_get hC jk_M 0 rfl 20 (by decide) jq_718 rfl jd_M_heap_104 ?_
      refine hk_bipush (v := 21) hC jd_M_heap_107 (by decide) ?_
      refine hk_iload hC jd_M_heap_109 1 rfl ?_
      refine hk_iadd hC jd_M_heap_111 ?_
      refine hk_aload_n hC jd_M_heap_112 2 rfl ?_
      refine hk_get hC jk_M 0 rfl 20 (by decide) jq_718 rfl jd_M_heap_113 ?_
      refine hk_bipush (v := 21) hC jd_M_heap_116 (by decide) ?_
      refine hk_iload hC jd_M_heap_118 0 rfl ?_
      refine hk_iadd hC jd_M_heap_120 ?_
      have hr2 := xr_in h
      replace h := xr_go h
      refine hk_iald hC 12 rfl hr2 jd_M_heap_121 ?_
      have hr3 := xr_in h
      replace h := xr_go h
      obtain ⟨z1, e_z1, h⟩ := xl_go h
      refine hk_iast hC 12 rfl hr3 e_z1 (ws2 := (wM cI a text letters mowers cows ricks weathers says words weather kindOf thatch newMowers newCows newRicks newWeathers newSays newWords newWeather newKind newThatch z1 pasts past aside seen seenWord seenHour keeps kept)) rfl jd_M_heap_122 ?_
      refine hk_aload_n hC jd_M_heap_123 2 rfl ?_
      refine hk_get hC jk_M 0 rfl 20 (by decide) jq_718 rfl jd_M_heap_124 ?_
      refine hk_bipush (v := 45) hC jd_M_heap_127 (by decide) ?_
      refine hk_iload hC jd_M_heap_129 1 rfl ?_
      refine hk_iadd hC jd_M_heap_131 ?_
      refine hk_aload_n hC jd_M_heap_132 2 rfl ?_
      refine hk_get hC jk_M 0 rfl 20 (by decide) jq_718 rfl jd_M_heap_133 ?_
      refine hk_bipush (v := 45) hC jd_M_heap_136 (by decide) ?_
      refine hk_iload hC jd_M_heap_138 0 rfl ?_
      refine hk_iadd hC jd_M_heap_140 ?_
      have hr4 := xr_in h
      replace h := xr_go h
      refine hk_iald hC 12 rfl hr4 jd_M_heap_141 ?_
      have hr5 := xr_in h
      replace h := xr_go h
      obtain ⟨z2, e_z2, h⟩ := xl_go h
      refine hk_iast hC 12 rfl hr5 e_z2 (ws2 := (wM cI a text letters mowers cows ricks weathers says words weather kindOf thatch newMowers newCows newRicks newWeathers newSays newWords newWeather newKind newThatch z2 pasts past aside seen seenWord seenHour keeps kept)) rfl jd_M_heap_142 ?_
      refine hk_aload_n hC jd_M_heap_143 2 rfl ?_
      refine hk_get hC jk_M 0 rfl 20 (by decide) jq_718 rfl jd_M_heap_144 ?_
      refine hk_bipush (v := 69) hC jd_M_heap_147 (by decide) ?_
      refine hk_iload hC jd_M_heap_149 1 rfl ?_
      refine hk_iadd hC jd_M_heap_151 ?_
      refine hk_aload_n hC jd_M_heap_152 2 rfl ?_
      refine hk_get hC jk_M 0 rfl 20 (by decide) jq_718 rfl jd_M_heap_153 ?_
      refine hk_bipush (v := 69) hC jd_M_heap_156 (by decide) ?_
      refine hk_iload hC jd_M_heap_158 0 rfl ?_
      refine hk_iadd hC jd_M_heap_160 ?_
      have hr6 := xr_in h
      replace h := xr_go h
      refine hk_iald hC 12 rfl hr6 jd_M_heap_161 ?_
      have hr7 := xr_in h
      replace h := xr_go h
      obtain ⟨z3, e_z3, h⟩ := xl_go h
      refine hk_iast hC 12 rfl hr7 e_z3 (ws2 := (wM cI a text letters mowers cows ricks weathers says words weather kindOf thatch newMowers newCows newRicks newWeathers newSays newWords newWeather newKind newThatch z3 pasts past aside seen seenWord seenHour keeps kept)) rfl jd_M_heap_162 ?_
      refine hk_aload_n hC jd_M_heap_163 2 rfl ?_
      refine hk_get hC jk_M 0 rfl 20 (by decide) jq_718 rfl jd_M_heap_164 ?_
      refine hk_bipush (v := 15) hC jd_M_heap_167 (by decide) ?_
      refine hk_iload_n hC jd_M_heap_169 4 rfl ?_
      refine hk_iadd hC jd_M_heap_170 ?_
      refine hk_dup2 hC jd_M_heap_171 rfl rfl ?_
      have hr8 := xr_in h
      replace h := xr_go h
      refine hk_iald hC 12 rfl hr8 jd_M_heap_172 ?_
      refine hk_iconst (v := 1) hC jd_M_heap_173 (by decide) ?_
      refine hk_iadd hC jd_M_heap_174 ?_
      have hr9 := xr_in h
      replace h := xr_go h
      obtain ⟨z4, e_z4, h⟩ := xl_go h
      refine hk_iast hC 12 rfl hr9 e_z4 (ws2 := (wM cI a text letters mowers cows ricks weathers says words weather kindOf thatch newMowers newCows newRicks newWeathers newSays newWords newWeather newKind newThatch z4 pasts past aside seen seenWord seenHour keeps kept)) rfl jd_M_heap_175 ?_
      obtain ⟨v3, e_v3, h⟩ := xl_go h
      refine hk_iinc hC (lv2 := [(4, .int v3), (6, .int v2), (5, .int v1), (0, .ref (a 0)), (1, .int x1), (2, .int x2), (3, .int x3)]) jd_M_heap_176 6 rfl e_v3 (by decide) rfl ?_
      refine hk_goto (tgt := 72) hC jd_M_heap_179 (by decide) ?_
      exact hk_lv [3, 4, 5, 6, 0] rfl (ihh72 (z4, v3) h)
  have L_72 : ∀ (ricks : Int32) (st : Nat → Int32) (pasts : Int32) (past : Nat → Int32) (x1 : Int32) (x2 : Int32) (x3 : Int32) (x4 : Int32) (kx182 : ((Nat → Int32)) → Option (Int32 × (Nat → Int32) × Int32 × (Nat → Int32))) (ihx182 : ∀ q, kx182 q = some o → hk_W p l e jr_M_heap s m args below meth c A (hk_Zi below args s D A o.1 (wM cI a text letters mowers cows ricks weathers says words weather kindOf thatch newMowers newCows newRicks newWeathers newSays newWords newWeather newKind newThatch o.2.1 o.2.2.1 o.2.2.2 aside seen seenWord seenHour keeps kept)) 7 D 0 0 (wM cI a text letters mowers cows ricks weathers says words weather kindOf thatch newMowers newCows newRicks newWeathers newSays newWords newWeather newKind newThatch q pasts past aside seen seenWord seenHour keeps kept) 182 [(0, .ref (a 0)), (1, .int x1), (2, .int x2)] []) (_ : jf_M_heap_72 N ricks st pasts past x1 x2 x3 x4 kx182 = some o), hk_W p l e jr_M_heap s m args below meth c A (hk_Zi below args s D A o.1 (wM cI a text letters mowers cows ricks weathers says words weather kindOf thatch newMowers newCows newRicks newWeathers newSays newWords newWeather newKind newThatch o.2.1 o.2.2.1 o.2.2.2 aside seen seenWord seenHour keeps kept)) 7 D 0 0 (wM cI a text letters mowers cows ricks weathers says words weather kindOf thatch newMowers newCows newRicks newWeathers newSays newWords newWeather newKind newThatch st pasts past aside seen seenWord seenHour keeps kept) 72 [(0, .ref (a 0)), (1, .int x1), (2, .int x2), (3, .int x3), (4, .int x4)] [] := by
    intro ricks st pasts past x1 x2 x3 x4 kx182 ihx182 h
    exact xloopW (fun (q : (Nat → Int32) × Int32) => hk_W p l e jr_M_heap s m args below meth c A (hk_Zi below args s D A o.1 (wM cI a text letters mowers cows ricks weathers says words weather kindOf thatch newMowers newCows newRicks newWeathers newSays newWords newWeather newKind newThatch o.2.1 o.2.2.1 o.2.2.2 aside seen seenWord seenHour keeps kept)) 7 D 0 0 (wM cI a text letters mowers cows ricks weathers says words weather kindOf thatch newMowers newCows newRicks newWeathers newSays newWords newWeather newKind newThatch q.1 pasts past aside seen seenWord seenHour keeps kept) 72 [(0, .ref (a 0)), (1, .int x1), (2, .int x2), (3, .int x3), (4, .int q.2)] []) (fun kh ih q h => B_72 ricks q.1 pasts past x1 x2 x3 q.2 kh kx182 ih ihx182 h) N (st, x4) h
  have B_182 : ∀ (ricks : Int32) (st : Nat → Int32) (pasts : Int32) (past : Nat → Int32) (x1 : Int32) (x2 : Int32)   (_ : jf_M_heap_182 N ricks st pasts past x1 x2  = some o), hk_W p l e jr_M_heap s m args below meth c A (hk_Zi below args s D A o.1 (wM cI a text letters mowers cows ricks weathers says words weather kindOf thatch newMowers newCows newRicks newWeathers newSays newWords newWeather newKind newThatch o.2.1 o.2.2.1 o.2.2.2 aside seen seenWord seenHour keeps kept)) 7 D 0 0 (wM cI a text letters mowers cows ricks weathers says words weather kindOf thatch newMowers newCows newRicks newWeathers newSays newWords newWeather newKind newThatch st pasts past aside seen seenWord seenHour keeps kept) 182 [(0, .ref (a 0)), (1, .int x1), (2, .int x2)] [] := by
    intro ricks st pasts past x1 x2   h
    delta jf_M_heap_182 at h
    refine hk_aload_n hC jd_M_heap_182 0 rfl ?_
    refine hk_get hC jk_M 0 rfl 20 (by decide) jq_718 rfl jd_M_heap_183 ?_
    refine hk_bipush (v := 15) hC jd_M_heap_186 (by decide) ?_
    refine hk_iload_n hC jd_M_heap_188 1 rfl ?_
    refine hk_iadd hC jd_M_heap_189 ?_
    refine hk_iconst (v := 0) hC jd_M_heap_190 (by decide) ?_
    have hr1 := xr_in h
    replace h := xr_go h
    obtain ⟨z1, e_z1, h⟩ := xl_go h
    refine hk_iast hC 12 rfl hr1 e_z1 (ws2 := (wM cI a text letters mowers cows ricks weathers says words weather kindOf thatch newMowers newCows newRicks newWeathers newSays newWords newWeather newKind newThatch z1 pasts past aside seen seenWord seenHour keeps kept)) rfl jd_M_heap_191 ?_
    refine hk_aload_n hC jd_M_heap_192 0 rfl ?_
    refine hk_get hC jk_M 0 rfl 20 (by decide) jq_718 rfl jd_M_heap_193 ?_
    refine hk_bipush (v := 15) hC jd_M_heap_196 (by decide) ?_
    refine hk_iload_n hC jd_M_heap_198 2 rfl ?_
    refine hk_iadd hC jd_M_heap_199 ?_
    have hr2 := xr_in h
    replace h := xr_go h
    refine hk_iald hC 12 rfl hr2 jd_M_heap_200 ?_
    obtain rfl := Option.some.inj h
    exact hk_iret hC hr jd_M_heap_201 rfl rfl
  delta jf_M_heap at h
  refine hk_aload_n hC jd_M_heap_0 0 rfl ?_
  refine hk_iload_n hC jd_M_heap_1 1 rfl ?_
  obtain ⟨q1, h_q1, h⟩ := xb_go h
  refine hk_callVWi hC (q0 := 0) (jc_M_isRick l D cI cF N a text letters mowers cows ricks weathers says words weather kindOf thatch newMowers newCows newRicks newWeathers newSays newWords newWeather newKind newThatch st pasts past aside seen seenWord seenHour keeps kept x1 h_q1) jl_M_isRick rfl rfl jq_822 jq_824 jq0_24 rfl ⟨by decide, by decide⟩ rfl rfl (Nat.le_of_ble_eq_true rfl) ⟨Nat.zero_le _, Nat.zero_le _⟩ jd_M_heap_2 ?_
  refine hk_if_eq (tgt := 21) hC jd_M_heap_5 (by decide) (fun cc1 => ?_) (fun cc1 => ?_)
  · replace h := xi_t h cc1
    refine hk_iconst (v := -1) hC jd_M_heap_21 (by decide) ?_
    obtain rfl := Option.some.inj h
    exact hk_iret hC hr jd_M_heap_22 rfl rfl
  · replace h := xi_f h cc1
    refine hk_aload_n hC jd_M_heap_8 0 rfl ?_
    refine hk_iload_n hC jd_M_heap_9 2 rfl ?_
    obtain ⟨q2, h_q2, h⟩ := xb_go h
    refine hk_callVWi hC (q0 := 0) (jc_M_isRick l D cI cF N a text letters mowers cows ricks weathers says words weather kindOf thatch newMowers newCows newRicks newWeathers newSays newWords newWeather newKind newThatch st pasts past aside seen seenWord seenHour keeps kept x2 h_q2) jl_M_isRick rfl rfl jq_822 jq_824 jq0_24 rfl ⟨by decide, by decide⟩ rfl rfl (Nat.le_of_ble_eq_true rfl) ⟨Nat.zero_le _, Nat.zero_le _⟩ jd_M_heap_10 ?_
    refine hk_if_eq (tgt := 21) hC jd_M_heap_13 (by decide) (fun cc2 => ?_) (fun cc2 => ?_)
    · replace h := xi_t h cc2
      refine hk_iconst (v := -1) hC jd_M_heap_21 (by decide) ?_
      obtain rfl := Option.some.inj h
      exact hk_iret hC hr jd_M_heap_22 rfl rfl
    · replace h := xi_f h cc2
      refine hk_iload_n hC jd_M_heap_16 1 rfl ?_
      refine hk_iload_n hC jd_M_heap_17 2 rfl ?_
      refine hk_icmp_ne (tgt := 23) hC jd_M_heap_18 (by decide) (fun cc3 => ?_) (fun cc3 => ?_)
      · replace h := xi_f h cc3
        refine hk_aload_n hC jd_M_heap_23 0 rfl ?_
        refine hk_get hC jk_M 0 rfl 20 (by decide) jq_718 rfl jd_M_heap_24 ?_
        refine hk_bipush (v := 15) hC jd_M_heap_27 (by decide) ?_
        refine hk_iload_n hC jd_M_heap_29 1 rfl ?_
        refine hk_iadd hC jd_M_heap_30 ?_
        have hr1 := xr_in h
        replace h := xr_go h
        refine hk_iald hC 12 rfl hr1 jd_M_heap_31 ?_
        obtain ⟨v1, e_v1, h⟩ := xl_go h
        refine hk_istore_n hC (i := 3) (y := v1) (lv2 := [(3, .int v1), (0, .ref (a 0)), (1, .int x1), (2, .int x2)]) jd_M_heap_32 rfl e_v1 (by decide) rfl ?_
        refine hk_iload_n hC jd_M_heap_33 0 rfl ?_
        refine hk_if_eq (tgt := 53) hC jd_M_heap_34 (by decide) (fun cc4 => ?_) (fun cc4 => ?_)
        · replace h := xi_t h cc4
          exact hk_lv [0] rfl (B_53 ricks st pasts past v1   h)
        · replace h := xi_f h cc4
          refine hk_iload_n hC jd_M_heap_37 0 rfl ?_
          refine hk_aload_n hC jd_M_heap_38 1 rfl ?_
          refine hk_get hC jk_M 0 rfl 20 (by decide) jq_718 rfl jd_M_heap_39 ?_
          refine hk_bipush (v := 15) hC jd_M_heap_42 (by decide) ?_
          refine hk_iload_n hC jd_M_heap_44 3 rfl ?_
          refine hk_iadd hC jd_M_heap_45 ?_
          have hr2 := xr_in h
          replace h := xr_go h
          refine hk_iald hC 12 rfl hr2 jd_M_heap_46 ?_
          refine hk_iadd hC jd_M_heap_47 ?_
          refine hk_bipush (v := 8) hC jd_M_heap_48 (by decide) ?_
          refine hk_icmp_le (tgt := 65) hC jd_M_heap_50 (by decide) (fun cc5 => ?_) (fun cc5 => ?_)
          · replace h := xi_t h cc5
            refine hk_aload_n hC jd_M_heap_65 1 rfl ?_
            obtain ⟨q3, h_q3, h⟩ := xb_go h
            refine hk_callVWv hC (q0 := 0) (jc_M_note l D cI cF N a text letters mowers cows ricks weathers says words weather kindOf thatch newMowers newCows newRicks newWeathers newSays newWords newWeather newKind newThatch st pasts past aside seen seenWord seenHour keeps kept h_q3) jl_M_note rfl rfl jq_843 jq_845 jq0_26 rfl ⟨by decide, by decide⟩ rfl rfl (Nat.le_of_ble_eq_true rfl) ⟨Nat.zero_le _, Nat.zero_le _⟩ jd_M_heap_66 ?_
            refine hk_iconst (v := 0) hC jd_M_heap_69 (by decide) ?_
            refine hk_istore hC (i := 4) (y := (0 : Int32)) (lv2 := [(4, .int (0 : Int32)), (3, .int v1), (0, .ref (a 0)), (1, .int x1), (2, .int x2)]) jd_M_heap_70 rfl (by decide) rfl ?_
            exact hk_lv [2, 3, 4, 1, 0] rfl (L_72 ricks st q3.1 q3.2 x1 x2 v1 (0 : Int32) _ (fun q4 h => by exact (B_182 ricks q4 q3.1 q3.2 x1 x2   h)) h)
          · replace h := xi_f h cc5
            exact hk_lv [0] rfl (B_53 ricks st pasts past v1   h)
      · replace h := xi_t h cc3
        refine hk_iconst (v := -1) hC jd_M_heap_21 (by decide) ?_
        obtain rfl := Option.some.inj h
        exact hk_iret hC hr jd_M_heap_22 rfl rfl
theorem jc_M_heap (l : Launch) (D : va_G) (cI cF : ClassId) (N : Nat) (a : Nat → Nat)  (text : Nat → Int32) (letters : Int32) (mowers : Int32) (cows : Int32) (ricks : Int32) (weathers : Int32) (says : Nat → Int32) (words : Nat → Int32) (weather : Nat → Int32) (kindOf : Nat → Int32) (thatch : Nat → Int32) (newMowers : Int32) (newCows : Int32) (newRicks : Int32) (newWeathers : Int32) (newSays : Nat → Int32) (newWords : Nat → Int32) (newWeather : Nat → Int32) (newKind : Nat → Int32) (newThatch : Nat → Int32) (st : Nat → Int32) (pasts : Int32) (past : Nat → Int32) (aside : Nat → Int32) (seen : Int32) (seenWord : Nat → Int32) (seenHour : Nat → Int32) (keeps : Int32) (kept : Nat → Int32) (x1 : Int32) (x2 : Int32) {o : Int32 × (Nat → Int32) × Int32 × (Nat → Int32)} (h : jf_M_heap N ricks st pasts past x1 x2 = some o) : hk_Mi l jy_M_heap jb_M_heap 7 (some .int) jr_M_heap D cI cF (wM cI a text letters mowers cows ricks weathers says words weather kindOf thatch newMowers newCows newRicks newWeathers newSays newWords newWeather newKind newThatch st pasts past aside seen seenWord seenHour keeps kept) [.ref (a 0), .int x1, .int x2] o.1 (wM cI a text letters mowers cows ricks weathers says words weather kindOf thatch newMowers newCows newRicks newWeathers newSays newWords newWeather newKind newThatch o.2.1 o.2.2.1 o.2.2.2 aside seen seenWord seenHour keeps kept) :=
  hk_metI (by decide) (Nat.le_of_ble_eq_true rfl) rfl rfl (fun p e s m args below meth c A hC hr => jw_M_heap hC hr N a text letters mowers cows ricks weathers says words weather kindOf thatch newMowers newCows newRicks newWeathers newSays newWords newWeather newKind newThatch st pasts past aside seen seenWord seenHour keeps kept x1 x2 h)
set_option maxHeartbeats 8000000 in
set_option maxRecDepth 100000 in
theorem jw_M_behind {p : Program} {l : Launch} {e : Env} {s : State} {m : MethodId} {args : Array Value} {below : List Frame} {meth : Method} {c : Code} {A : Nat → Prop} {D : va_G} {cI cF : ClassId} (hC : hk_ok p s m args meth c A 5 D cI cF "HayTalkModel" jb_M_behind) (hr : meth.sig.returnType = (some .int)) (N : Nat) (a : Nat → Nat)  (text : Nat → Int32) (letters : Int32) (mowers : Int32) (cows : Int32) (ricks : Int32) (weathers : Int32) (says : Nat → Int32) (words : Nat → Int32) (weather : Nat → Int32) (kindOf : Nat → Int32) (thatch : Nat → Int32) (newMowers : Int32) (newCows : Int32) (newRicks : Int32) (newWeathers : Int32) (newSays : Nat → Int32) (newWords : Nat → Int32) (newWeather : Nat → Int32) (newKind : Nat → Int32) (newThatch : Nat → Int32) (st : Nat → Int32) (pasts : Int32) (past : Nat → Int32) (aside : Nat → Int32) (seen : Int32) (seenWord : Nat → Int32) (seenHour : Nat → Int32) (keeps : Int32) (kept : Nat → Int32) (x1 : Int32) (x2 : Int32) (x3 : Int32) {o : Int32 × (Nat → Int32) × (Nat → Int32)} (h : jf_M_behind N mowers ricks weathers says words weather thatch st aside x1 x2 x3 = some o) : hk_W p l e jr_M_behind s m args below meth c A (hk_Zi below args s D A o.1 (wM cI a text letters mowers cows ricks weathers says words weather kindOf thatch newMowers newCows newRicks newWeathers newSays newWords newWeather newKind newThatch o.2.1 pasts past o.2.2 seen seenWord seenHour keeps kept)) 5 D 0 0 (wM cI a text letters mowers cows ricks weathers says words weather kindOf thatch newMowers newCows newRicks newWeathers newSays newWords newWeather newKind newThatch st pasts past aside seen seenWord seenHour keeps kept) 0 [(0, .ref (a 0)), (1, .int x1), (2, .int x2), (3, .int x3)] [] := by
  have B_46 : ∀ (mowers : Int32) (ricks : Int32) (weathers : Int32) (says : Nat → Int32) (words : Nat → Int32) (weather : Nat → Int32) (thatch : Nat → Int32) (st : Nat → Int32) (aside : Nat → Int32) (x1 : Int32) (x2 : Int32) (x3 : Int32) (x4 : Int32) (kh46 : ((Nat → Int32) × Int32) → Option (Int32 × (Nat → Int32) × (Nat → Int32))) (kx62 : ((Nat → Int32)) → Option (Int32 × (Nat → Int32) × (Nat → Int32))) (ihh46 : ∀ q, kh46 q = some o → hk_W p l e jr_M_behind s m args below meth c A (hk_Zi below args s D A o.1 (wM cI a text letters mowers cows ricks weathers says words weather kindOf thatch newMowers newCows newRicks newWeathers newSays newWords newWeather newKind newThatch o.2.1 pasts past o.2.2 seen seenWord seenHour keeps kept)) 5 D 0 0 (wM cI a text letters mowers cows ricks weathers says words weather kindOf thatch newMowers newCows newRicks newWeathers newSays newWords newWeather newKind newThatch q.1 pasts past aside seen seenWord seenHour keeps kept) 46 [(0, .ref (a 0)), (1, .int x1), (2, .int x2), (3, .int x3), (4, .int q.2)] []) (ihx62 : ∀ q, kx62 q = some o → hk_W p l e jr_M_behind s m args below meth c A (hk_Zi below args s D A o.1 (wM cI a text letters mowers cows ricks weathers says words weather kindOf thatch newMowers newCows newRicks newWeathers newSays newWords newWeather newKind newThatch o.2.1 pasts past o.2.2 seen seenWord seenHour keeps kept)) 5 D 0 0 (wM cI a text letters mowers cows ricks weathers says words weather kindOf thatch newMowers newCows newRicks newWeathers newSays newWords newWeather newKind newThatch q pasts past aside seen seenWord seenHour keeps kept) 62 [(0, .ref (a 0)), (2, .int x2), (3, .int x3)] []) (_ : jf_M_behind_46B N mowers ricks weathers says words weather thatch st aside x1 x2 x3 x4 kh46 kx62 = some o), hk_W p l e jr_M_behind s m args below meth c A (hk_Zi below args s D A o.1 (wM cI a text letters mowers cows ricks weathers says words weather kindOf thatch newMowers newCows newRicks newWeathers newSays newWords newWeather newKind newThatch o.2.1 pasts past o.2.2 seen seenWord seenHour keeps kept)) 5 D 0 0 (wM cI a text letters mowers cows ricks weathers says words weather kindOf thatch newMowers newCows newRicks newWeathers newSays newWords newWeather newKind newThatch st pasts past aside seen seenWord seenHour keeps kept) 46 [(0, .ref (a 0)), (1, .int x1), (2, .int x2), (3, .int x3), (4, .int x4)] [] := by
    intro mowers ricks weathers says words weather thatch st aside x1 x2 x3 x4 kh46 kx62 ihh46 ihx62 h
    delta jf_M_behind_46B at h
    refine hk_iload hC jd_M_behind_46 4 rfl ?_
    refine hk_iload_n hC jd_M_behind_48 1 rfl ?_
    refine hk_icmp_ge (tgt := 62) hC jd_M_behind_49 (by decide) (fun cc1 => ?_) (fun cc1 => ?_)
    · replace h := xi_t h cc1
      exact hk_lv [0, 2, 3] rfl (ihx62 st h)
    · replace h := xi_f h cc1
      refine hk_aload_n hC jd_M_behind_52 0 rfl ?_
      obtain ⟨q1, h_q1, h⟩ := xb_go h
      refine hk_callVWv hC (q0 := 0) (jc_M_oneHour l D cI cF N a text letters mowers cows ricks weathers says words weather kindOf thatch newMowers newCows newRicks newWeathers newSays newWords newWeather newKind newThatch st pasts past aside seen seenWord seenHour keeps kept h_q1) jl_M_oneHour rfl rfl jq_847 jq_849 jq0_27 rfl ⟨by decide, by decide⟩ rfl rfl (Nat.le_of_ble_eq_true rfl) ⟨Nat.zero_le _, Nat.zero_le _⟩ jd_M_behind_53 ?_
      obtain ⟨v1, e_v1, h⟩ := xl_go h
      refine hk_iinc hC (lv2 := [(4, .int v1), (0, .ref (a 0)), (1, .int x1), (2, .int x2), (3, .int x3)]) jd_M_behind_56 4 rfl e_v1 (by decide) rfl ?_
      refine hk_goto (tgt := 46) hC jd_M_behind_59 (by decide) ?_
      exact hk_lv [1, 2, 3, 4, 0] rfl (ihh46 (q1, v1) h)
  have L_46 : ∀ (mowers : Int32) (ricks : Int32) (weathers : Int32) (says : Nat → Int32) (words : Nat → Int32) (weather : Nat → Int32) (thatch : Nat → Int32) (st : Nat → Int32) (aside : Nat → Int32) (x1 : Int32) (x2 : Int32) (x3 : Int32) (x4 : Int32) (kx62 : ((Nat → Int32)) → Option (Int32 × (Nat → Int32) × (Nat → Int32))) (ihx62 : ∀ q, kx62 q = some o → hk_W p l e jr_M_behind s m args below meth c A (hk_Zi below args s D A o.1 (wM cI a text letters mowers cows ricks weathers says words weather kindOf thatch newMowers newCows newRicks newWeathers newSays newWords newWeather newKind newThatch o.2.1 pasts past o.2.2 seen seenWord seenHour keeps kept)) 5 D 0 0 (wM cI a text letters mowers cows ricks weathers says words weather kindOf thatch newMowers newCows newRicks newWeathers newSays newWords newWeather newKind newThatch q pasts past aside seen seenWord seenHour keeps kept) 62 [(0, .ref (a 0)), (2, .int x2), (3, .int x3)] []) (_ : jf_M_behind_46 N mowers ricks weathers says words weather thatch st aside x1 x2 x3 x4 kx62 = some o), hk_W p l e jr_M_behind s m args below meth c A (hk_Zi below args s D A o.1 (wM cI a text letters mowers cows ricks weathers says words weather kindOf thatch newMowers newCows newRicks newWeathers newSays newWords newWeather newKind newThatch o.2.1 pasts past o.2.2 seen seenWord seenHour keeps kept)) 5 D 0 0 (wM cI a text letters mowers cows ricks weathers says words weather kindOf thatch newMowers newCows newRicks newWeathers newSays newWords newWeather newKind newThatch st pasts past aside seen seenWord seenHour keeps kept) 46 [(0, .ref (a 0)), (1, .int x1), (2, .int x2), (3, .int x3), (4, .int x4)] [] := by
    intro mowers ricks weathers says words weather thatch st aside x1 x2 x3 x4 kx62 ihx62 h
    exact xloopW (fun (q : (Nat → Int32) × Int32) => hk_W p l e jr_M_behind s m args below meth c A (hk_Zi below args s D A o.1 (wM cI a text letters mowers cows ricks weathers says words weather kindOf thatch newMowers newCows newRicks newWeathers newSays newWords newWeather newKind newThatch o.2.1 pasts past o.2.2 seen seenWord seenHour keeps kept)) 5 D 0 0 (wM cI a text letters mowers cows ricks weathers says words weather kindOf thatch newMowers newCows newRicks newWeathers newSays newWords newWeather newKind newThatch q.1 pasts past aside seen seenWord seenHour keeps kept) 46 [(0, .ref (a 0)), (1, .int x1), (2, .int x2), (3, .int x3), (4, .int q.2)] []) (fun kh ih q h => B_46 mowers ricks weathers says words weather thatch q.1 aside x1 x2 x3 q.2 kh kx62 ih ihx62 h) N (st, x4) h
  have B_86 : ∀ (mowers : Int32) (ricks : Int32) (weathers : Int32) (says : Nat → Int32) (words : Nat → Int32) (weather : Nat → Int32) (thatch : Nat → Int32) (st : Nat → Int32) (aside : Nat → Int32) (y0 : Int32)   (_ : jf_M_behind_86 N mowers ricks weathers says words weather thatch st aside y0  = some o), hk_W p l e jr_M_behind s m args below meth c A (hk_Zi below args s D A o.1 (wM cI a text letters mowers cows ricks weathers says words weather kindOf thatch newMowers newCows newRicks newWeathers newSays newWords newWeather newKind newThatch o.2.1 pasts past o.2.2 seen seenWord seenHour keeps kept)) 5 D 0 0 (wM cI a text letters mowers cows ricks weathers says words weather kindOf thatch newMowers newCows newRicks newWeathers newSays newWords newWeather newKind newThatch st pasts past aside seen seenWord seenHour keeps kept) 86 [(0, .ref (a 0))] [.int y0] := by
    intro mowers ricks weathers says words weather thatch st aside y0   h
    delta jf_M_behind_86 at h
    refine hk_istore hC (i := 4) (y := y0) (lv2 := [(4, .int y0), (0, .ref (a 0))]) jd_M_behind_86 rfl (by decide) rfl ?_
    refine hk_aload_n hC jd_M_behind_88 1 rfl ?_
    refine hk_get hC jk_M 0 rfl 20 (by decide) jq_718 rfl jd_M_behind_89 ?_
    refine hk_aload_n hC jd_M_behind_92 1 rfl ?_
    refine hk_get hC jk_M 0 rfl 23 (by decide) jq_721 rfl jd_M_behind_93 ?_
    obtain ⟨q1, h_q1, h⟩ := xb_go h
    refine hk_callSv hC (jc_M_take l D cI cF N (fun _ => (a 12)) (fun _ => (a 14)) 93 93 st aside h_q1) jl_M_take jq_695 jq_696 rfl ⟨by decide, by decide⟩ [12, 14] rfl (by decide) rfl (ws2 := (wM cI a text letters mowers cows ricks weathers says words weather kindOf thatch newMowers newCows newRicks newWeathers newSays newWords newWeather newKind newThatch q1 pasts past aside seen seenWord seenHour keeps kept)) rfl rfl (Nat.le_of_ble_eq_true rfl) ⟨Nat.zero_le _, Nat.zero_le _⟩ jd_M_behind_96 ?_
    refine hk_iload hC jd_M_behind_99 0 rfl ?_
    obtain rfl := Option.some.inj h
    exact hk_iret hC hr jd_M_behind_101 rfl rfl
  have B_62 : ∀ (mowers : Int32) (ricks : Int32) (weathers : Int32) (says : Nat → Int32) (words : Nat → Int32) (weather : Nat → Int32) (thatch : Nat → Int32) (st : Nat → Int32) (aside : Nat → Int32) (x2 : Int32) (x3 : Int32)   (_ : jf_M_behind_62 N mowers ricks weathers says words weather thatch st aside x2 x3  = some o), hk_W p l e jr_M_behind s m args below meth c A (hk_Zi below args s D A o.1 (wM cI a text letters mowers cows ricks weathers says words weather kindOf thatch newMowers newCows newRicks newWeathers newSays newWords newWeather newKind newThatch o.2.1 pasts past o.2.2 seen seenWord seenHour keeps kept)) 5 D 0 0 (wM cI a text letters mowers cows ricks weathers says words weather kindOf thatch newMowers newCows newRicks newWeathers newSays newWords newWeather newKind newThatch st pasts past aside seen seenWord seenHour keeps kept) 62 [(0, .ref (a 0)), (2, .int x2), (3, .int x3)] [] := by
    intro mowers ricks weathers says words weather thatch st aside x2 x3   h
    delta jf_M_behind_62 at h
    refine hk_iload_n hC jd_M_behind_62 2 rfl ?_
    refine hk_if_ne (tgt := 77) hC jd_M_behind_63 (by decide) (fun cc1 => ?_) (fun cc1 => ?_)
    · replace h := xi_f h cc1
      refine hk_aload_n hC jd_M_behind_77 0 rfl ?_
      refine hk_get hC jk_M 0 rfl 20 (by decide) jq_718 rfl jd_M_behind_78 ?_
      refine hk_bipush (v := 6) hC jd_M_behind_81 (by decide) ?_
      refine hk_iload_n hC jd_M_behind_83 1 rfl ?_
      refine hk_iadd hC jd_M_behind_84 ?_
      have hr1 := xr_in h
      replace h := xr_go h
      refine hk_iald hC 12 rfl hr1 jd_M_behind_85 ?_
      exact hk_lv [0] rfl (B_86 mowers ricks weathers says words weather thatch st aside (st (Int32.toNatClampNeg ((6 : Int32) + x2)))   h)
    · replace h := xi_t h cc1
      refine hk_aload_n hC jd_M_behind_66 0 rfl ?_
      refine hk_get hC jk_M 0 rfl 20 (by decide) jq_718 rfl jd_M_behind_67 ?_
      refine hk_iconst (v := 1) hC jd_M_behind_70 (by decide) ?_
      refine hk_iload_n hC jd_M_behind_71 1 rfl ?_
      refine hk_iadd hC jd_M_behind_72 ?_
      have hr2 := xr_in h
      replace h := xr_go h
      refine hk_iald hC 12 rfl hr2 jd_M_behind_73 ?_
      refine hk_goto (tgt := 86) hC jd_M_behind_74 (by decide) ?_
      exact hk_lv [0] rfl (B_86 mowers ricks weathers says words weather thatch st aside (st (Int32.toNatClampNeg ((1 : Int32) + x2)))   h)
  delta jf_M_behind at h
  refine hk_iload_n hC jd_M_behind_0 1 rfl ?_
  refine hk_i2l hC jd_M_behind_1 ?_
  refine hk_lconst (v := 0) hC jd_M_behind_2 (by decide) ?_
  refine hk_ldc2 hC jd_M_behind_3 jq_902 ?_
  obtain ⟨q1, h_q1, h⟩ := xb_go h
  refine hk_callS0i hC (jc_M_in l D cI cF N (Int32.toInt64 x1) (0 : Int64) (40 : Int64) h_q1) jl_M_in jq_673 jq_674 rfl ⟨by decide, by decide⟩ rfl (Nat.le_of_ble_eq_true rfl) ⟨Nat.zero_le _, Nat.zero_le _⟩ jd_M_behind_6 ?_
  refine hk_if_eq (tgt := 30) hC jd_M_behind_9 (by decide) (fun cc1 => ?_) (fun cc1 => ?_)
  · replace h := xi_t h cc1
    refine hk_iconst (v := -1) hC jd_M_behind_30 (by decide) ?_
    obtain rfl := Option.some.inj h
    exact hk_iret hC hr jd_M_behind_31 rfl rfl
  · replace h := xi_f h cc1
    refine hk_aload_n hC jd_M_behind_12 0 rfl ?_
    refine hk_iload_n hC jd_M_behind_13 2 rfl ?_
    obtain ⟨q2, h_q2, h⟩ := xb_go h
    refine hk_callVWi hC (q0 := 0) (jc_M_isMower l D cI cF N a text letters mowers cows ricks weathers says words weather kindOf thatch newMowers newCows newRicks newWeathers newSays newWords newWeather newKind newThatch st pasts past aside seen seenWord seenHour keeps kept x2 h_q2) jl_M_isMower rfl rfl jq_802 jq_804 jq0_21 rfl ⟨by decide, by decide⟩ rfl rfl (Nat.le_of_ble_eq_true rfl) ⟨Nat.zero_le _, Nat.zero_le _⟩ jd_M_behind_14 ?_
    refine hk_if_eq (tgt := 30) hC jd_M_behind_17 (by decide) (fun cc2 => ?_) (fun cc2 => ?_)
    · replace h := xi_t h cc2
      refine hk_iconst (v := -1) hC jd_M_behind_30 (by decide) ?_
      obtain rfl := Option.some.inj h
      exact hk_iret hC hr jd_M_behind_31 rfl rfl
    · replace h := xi_f h cc2
      refine hk_iload_n hC jd_M_behind_20 3 rfl ?_
      refine hk_i2l hC jd_M_behind_21 ?_
      refine hk_lconst (v := 0) hC jd_M_behind_22 (by decide) ?_
      refine hk_lconst (v := 1) hC jd_M_behind_23 (by decide) ?_
      obtain ⟨q3, h_q3, h⟩ := xb_go h
      refine hk_callS0i hC (jc_M_in l D cI cF N (Int32.toInt64 x3) (0 : Int64) (1 : Int64) h_q3) jl_M_in jq_673 jq_674 rfl ⟨by decide, by decide⟩ rfl (Nat.le_of_ble_eq_true rfl) ⟨Nat.zero_le _, Nat.zero_le _⟩ jd_M_behind_24 ?_
      refine hk_if_ne (tgt := 32) hC jd_M_behind_27 (by decide) (fun cc3 => ?_) (fun cc3 => ?_)
      · replace h := xi_f h cc3
        refine hk_aload_n hC jd_M_behind_32 0 rfl ?_
        refine hk_get hC jk_M 0 rfl 23 (by decide) jq_721 rfl jd_M_behind_33 ?_
        refine hk_aload_n hC jd_M_behind_36 0 rfl ?_
        refine hk_get hC jk_M 0 rfl 20 (by decide) jq_718 rfl jd_M_behind_37 ?_
        obtain ⟨q4, h_q4, h⟩ := xb_go h
        refine hk_callSv hC (jc_M_take l D cI cF N (fun _ => (a 14)) (fun _ => (a 12)) 93 93 aside st h_q4) jl_M_take jq_695 jq_696 rfl ⟨by decide, by decide⟩ [14, 12] rfl (by decide) rfl (ws2 := (wM cI a text letters mowers cows ricks weathers says words weather kindOf thatch newMowers newCows newRicks newWeathers newSays newWords newWeather newKind newThatch st pasts past q4 seen seenWord seenHour keeps kept)) rfl rfl (Nat.le_of_ble_eq_true rfl) ⟨Nat.zero_le _, Nat.zero_le _⟩ jd_M_behind_40 ?_
        refine hk_iconst (v := 0) hC jd_M_behind_43 (by decide) ?_
        refine hk_istore hC (i := 4) (y := (0 : Int32)) (lv2 := [(4, .int (0 : Int32)), (0, .ref (a 0)), (1, .int x1), (2, .int x2), (3, .int x3)]) jd_M_behind_44 rfl (by decide) rfl ?_
        exact hk_lv [1, 2, 3, 4, 0] rfl (L_46 mowers ricks weathers says words weather thatch st q4 x1 x2 x3 (0 : Int32) _ (fun q5 h => by exact (B_62 mowers ricks weathers says words weather thatch q5 q4 x2 x3   h)) h)
      · replace h := xi_t h cc3
        refine hk_iconst (v := -1) hC jd_M_behind_30 (by decide) ?_
        obtain rfl := Option.some.inj h
        exact hk_iret hC hr jd_M_behind_31 rfl rfl
theorem jc_M_behind (l : Launch) (D : va_G) (cI cF : ClassId) (N : Nat) (a : Nat → Nat)  (text : Nat → Int32) (letters : Int32) (mowers : Int32) (cows : Int32) (ricks : Int32) (weathers : Int32) (says : Nat → Int32) (words : Nat → Int32) (weather : Nat → Int32) (kindOf : Nat → Int32) (thatch : Nat → Int32) (newMowers : Int32) (newCows : Int32) (newRicks : Int32) (newWeathers : Int32) (newSays : Nat → Int32) (newWords : Nat → Int32) (newWeather : Nat → Int32) (newKind : Nat → Int32) (newThatch : Nat → Int32) (st : Nat → Int32) (pasts : Int32) (past : Nat → Int32) (aside : Nat → Int32) (seen : Int32) (seenWord : Nat → Int32) (seenHour : Nat → Int32) (keeps : Int32) (kept : Nat → Int32) (x1 : Int32) (x2 : Int32) (x3 : Int32) {o : Int32 × (Nat → Int32) × (Nat → Int32)} (h : jf_M_behind N mowers ricks weathers says words weather thatch st aside x1 x2 x3 = some o) : hk_Mi l jy_M_behind jb_M_behind 5 (some .int) jr_M_behind D cI cF (wM cI a text letters mowers cows ricks weathers says words weather kindOf thatch newMowers newCows newRicks newWeathers newSays newWords newWeather newKind newThatch st pasts past aside seen seenWord seenHour keeps kept) [.ref (a 0), .int x1, .int x2, .int x3] o.1 (wM cI a text letters mowers cows ricks weathers says words weather kindOf thatch newMowers newCows newRicks newWeathers newSays newWords newWeather newKind newThatch o.2.1 pasts past o.2.2 seen seenWord seenHour keeps kept) :=
  hk_metI (by decide) (Nat.le_of_ble_eq_true rfl) rfl rfl (fun p e s m args below meth c A hC hr => jw_M_behind hC hr N a text letters mowers cows ricks weathers says words weather kindOf thatch newMowers newCows newRicks newWeathers newSays newWords newWeather newKind newThatch st pasts past aside seen seenWord seenHour keeps kept x1 x2 x3 h)
set_option maxHeartbeats 8000000 in
set_option maxRecDepth 100000 in
theorem jw_M_burns {p : Program} {l : Launch} {e : Env} {s : State} {m : MethodId} {args : Array Value} {below : List Frame} {meth : Method} {c : Code} {A : Nat → Prop} {D : va_G} {cI cF : ClassId} (hC : hk_ok p s m args meth c A 4 D cI cF "HayTalkModel" jb_M_burns) (hr : meth.sig.returnType = (some .int)) (N : Nat) (a : Nat → Nat)  (text : Nat → Int32) (letters : Int32) (mowers : Int32) (cows : Int32) (ricks : Int32) (weathers : Int32) (says : Nat → Int32) (words : Nat → Int32) (weather : Nat → Int32) (kindOf : Nat → Int32) (thatch : Nat → Int32) (newMowers : Int32) (newCows : Int32) (newRicks : Int32) (newWeathers : Int32) (newSays : Nat → Int32) (newWords : Nat → Int32) (newWeather : Nat → Int32) (newKind : Nat → Int32) (newThatch : Nat → Int32) (st : Nat → Int32) (pasts : Int32) (past : Nat → Int32) (aside : Nat → Int32) (seen : Int32) (seenWord : Nat → Int32) (seenHour : Nat → Int32) (keeps : Int32) (kept : Nat → Int32) (x1 : Int32) {o : Int32 × (Nat → Int32) × (Nat → Int32)} (h : jf_M_burns N mowers ricks weathers says words weather thatch st aside x1 = some o) : hk_W p l e jr_M_burns s m args below meth c A (hk_Zi below args s D A o.1 (wM cI a text letters mowers cows ricks weathers says words weather kindOf thatch newMowers newCows newRicks newWeathers newSays newWords newWeather newKind newThatch o.2.1 pasts past o.2.2 seen seenWord seenHour keeps kept)) 4 D 0 0 (wM cI a text letters mowers cows ricks weathers says words weather kindOf thatch newMowers newCows newRicks newWeathers newSays newWords newWeather newKind newThatch st pasts past aside seen seenWord seenHour keeps kept) 0 [(0, .ref (a 0)), (1, .int x1)] [] := by
  have B_23 : ∀ (mowers : Int32) (ricks : Int32) (weathers : Int32) (says : Nat → Int32) (words : Nat → Int32) (weather : Nat → Int32) (thatch : Nat → Int32) (st : Nat → Int32) (aside : Nat → Int32) (x1 : Int32) (x2 : Int32) (kh23 : ((Nat → Int32) × Int32) → Option (Int32 × (Nat → Int32) × (Nat → Int32))) (kx60 : ((Nat → Int32) × Int32) → Option (Int32 × (Nat → Int32) × (Nat → Int32))) (ihh23 : ∀ q, kh23 q = some o → hk_W p l e jr_M_burns s m args below meth c A (hk_Zi below args s D A o.1 (wM cI a text letters mowers cows ricks weathers says words weather kindOf thatch newMowers newCows newRicks newWeathers newSays newWords newWeather newKind newThatch o.2.1 pasts past o.2.2 seen seenWord seenHour keeps kept)) 4 D 0 0 (wM cI a text letters mowers cows ricks weathers says words weather kindOf thatch newMowers newCows newRicks newWeathers newSays newWords newWeather newKind newThatch q.1 pasts past aside seen seenWord seenHour keeps kept) 23 [(0, .ref (a 0)), (1, .int x1), (2, .int q.2)] []) (ihx60 : ∀ q, kx60 q = some o → hk_W p l e jr_M_burns s m args below meth c A (hk_Zi below args s D A o.1 (wM cI a text letters mowers cows ricks weathers says words weather kindOf thatch newMowers newCows newRicks newWeathers newSays newWords newWeather newKind newThatch o.2.1 pasts past o.2.2 seen seenWord seenHour keeps kept)) 4 D 0 0 (wM cI a text letters mowers cows ricks weathers says words weather kindOf thatch newMowers newCows newRicks newWeathers newSays newWords newWeather newKind newThatch q.1 pasts past aside seen seenWord seenHour keeps kept) 60 [(0, .ref (a 0)), (1, .int x1), (2, .int q.2)] []) (_ : jf_M_burns_23B N mowers ricks weathers says words weather thatch st aside x1 x2 kh23 kx60 = some o), hk_W p l e jr_M_burns s m args below meth c A (hk_Zi below args s D A o.1 (wM cI a text letters mowers cows ricks weathers says words weather kindOf thatch newMowers newCows newRicks newWeathers newSays newWords newWeather newKind newThatch o.2.1 pasts past o.2.2 seen seenWord seenHour keeps kept)) 4 D 0 0 (wM cI a text letters mowers cows ricks weathers says words weather kindOf thatch newMowers newCows newRicks newWeathers newSays newWords newWeather newKind newThatch st pasts past aside seen seenWord seenHour keeps kept) 23 [(0, .ref (a 0)), (1, .int x1), (2, .int x2)] [] := by
    intro mowers ricks weathers says words weather thatch st aside x1 x2 kh23 kx60 ihh23 ihx60 h
    delta jf_M_burns_23B at h
    refine hk_iload_n hC jd_M_burns_23 2 rfl ?_
    refine hk_bipush (v := 60) hC jd_M_burns_24 (by decide) ?_
    refine hk_icmp_ge (tgt := 60) hC jd_M_burns_26 (by decide) (fun cc1 => ?_) (fun cc1 => ?_)
    · replace h := xi_t h cc1
      exact (ihx60 (st, x2) h)
    · replace h := xi_f h cc1
      refine hk_aload_n hC jd_M_burns_29 0 rfl ?_
      refine hk_get hC jk_M 0 rfl 20 (by decide) jq_718 rfl jd_M_burns_30 ?_
      refine hk_bipush (v := 18) hC jd_M_burns_33 (by decide) ?_
      refine hk_iload_n hC jd_M_burns_35 1 rfl ?_
      refine hk_iadd hC jd_M_burns_36 ?_
      have hr1 := xr_in h
      replace h := xr_go h
      refine hk_iald hC 12 rfl hr1 jd_M_burns_37 ?_
      refine hk_aload_n hC jd_M_burns_38 0 rfl ?_
      refine hk_get hC jk_M 0 rfl 23 (by decide) jq_721 rfl jd_M_burns_39 ?_
      refine hk_bipush (v := 18) hC jd_M_burns_42 (by decide) ?_
      refine hk_iload_n hC jd_M_burns_44 1 rfl ?_
      refine hk_iadd hC jd_M_burns_45 ?_
      have hr2 := xr_in h
      replace h := xr_go h
      refine hk_iald hC 14 rfl hr2 jd_M_burns_46 ?_
      refine hk_icmp_ne (tgt := 60) hC jd_M_burns_47 (by decide) (fun cc2 => ?_) (fun cc2 => ?_)
      · replace h := xi_f h cc2
        exact (ihx60 (st, x2) h)
      · replace h := xi_t h cc2
        refine hk_aload_n hC jd_M_burns_50 0 rfl ?_
        obtain ⟨q1, h_q1, h⟩ := xb_go h
        refine hk_callVWv hC (q0 := 0) (jc_M_oneHour l D cI cF N a text letters mowers cows ricks weathers says words weather kindOf thatch newMowers newCows newRicks newWeathers newSays newWords newWeather newKind newThatch st pasts past aside seen seenWord seenHour keeps kept h_q1) jl_M_oneHour rfl rfl jq_847 jq_849 jq0_27 rfl ⟨by decide, by decide⟩ rfl rfl (Nat.le_of_ble_eq_true rfl) ⟨Nat.zero_le _, Nat.zero_le _⟩ jd_M_burns_51 ?_
        obtain ⟨v1, e_v1, h⟩ := xl_go h
        refine hk_iinc hC (lv2 := [(2, .int v1), (0, .ref (a 0)), (1, .int x1)]) jd_M_burns_54 2 rfl e_v1 (by decide) rfl ?_
        refine hk_goto (tgt := 23) hC jd_M_burns_57 (by decide) ?_
        exact hk_lv [1, 2, 0] rfl (ihh23 (q1, v1) h)
  have L_23 : ∀ (mowers : Int32) (ricks : Int32) (weathers : Int32) (says : Nat → Int32) (words : Nat → Int32) (weather : Nat → Int32) (thatch : Nat → Int32) (st : Nat → Int32) (aside : Nat → Int32) (x1 : Int32) (x2 : Int32) (kx60 : ((Nat → Int32) × Int32) → Option (Int32 × (Nat → Int32) × (Nat → Int32))) (ihx60 : ∀ q, kx60 q = some o → hk_W p l e jr_M_burns s m args below meth c A (hk_Zi below args s D A o.1 (wM cI a text letters mowers cows ricks weathers says words weather kindOf thatch newMowers newCows newRicks newWeathers newSays newWords newWeather newKind newThatch o.2.1 pasts past o.2.2 seen seenWord seenHour keeps kept)) 4 D 0 0 (wM cI a text letters mowers cows ricks weathers says words weather kindOf thatch newMowers newCows newRicks newWeathers newSays newWords newWeather newKind newThatch q.1 pasts past aside seen seenWord seenHour keeps kept) 60 [(0, .ref (a 0)), (1, .int x1), (2, .int q.2)] []) (_ : jf_M_burns_23 N mowers ricks weathers says words weather thatch st aside x1 x2 kx60 = some o), hk_W p l e jr_M_burns s m args below meth c A (hk_Zi below args s D A o.1 (wM cI a text letters mowers cows ricks weathers says words weather kindOf thatch newMowers newCows newRicks newWeathers newSays newWords newWeather newKind newThatch o.2.1 pasts past o.2.2 seen seenWord seenHour keeps kept)) 4 D 0 0 (wM cI a text letters mowers cows ricks weathers says words weather kindOf thatch newMowers newCows newRicks newWeathers newSays newWords newWeather newKind newThatch st pasts past aside seen seenWord seenHour keeps kept) 23 [(0, .ref (a 0)), (1, .int x1), (2, .int x2)] [] := by
    intro mowers ricks weathers says words weather thatch st aside x1 x2 kx60 ihx60 h
    exact xloopW (fun (q : (Nat → Int32) × Int32) => hk_W p l e jr_M_burns s m args below meth c A (hk_Zi below args s D A o.1 (wM cI a text letters mowers cows ricks weathers says words weather kindOf thatch newMowers newCows newRicks newWeathers newSays newWords newWeather newKind newThatch o.2.1 pasts past o.2.2 seen seenWord seenHour keeps kept)) 4 D 0 0 (wM cI a text letters mowers cows ricks weathers says words weather kindOf thatch newMowers newCows newRicks newWeathers newSays newWords newWeather newKind newThatch q.1 pasts past aside seen seenWord seenHour keeps kept) 23 [(0, .ref (a 0)), (1, .int x1), (2, .int q.2)] []) (fun kh ih q h => B_23 mowers ricks weathers says words weather thatch q.1 aside x1 q.2 kh kx60 ih ihx60 h) N (st, x2) h
  have B_86 : ∀ (mowers : Int32) (ricks : Int32) (weathers : Int32) (says : Nat → Int32) (words : Nat → Int32) (weather : Nat → Int32) (thatch : Nat → Int32) (st : Nat → Int32) (aside : Nat → Int32) (x2 : Int32) (y0 : Int32)   (_ : jf_M_burns_86 N mowers ricks weathers says words weather thatch st aside x2 y0  = some o), hk_W p l e jr_M_burns s m args below meth c A (hk_Zi below args s D A o.1 (wM cI a text letters mowers cows ricks weathers says words weather kindOf thatch newMowers newCows newRicks newWeathers newSays newWords newWeather newKind newThatch o.2.1 pasts past o.2.2 seen seenWord seenHour keeps kept)) 4 D 0 0 (wM cI a text letters mowers cows ricks weathers says words weather kindOf thatch newMowers newCows newRicks newWeathers newSays newWords newWeather newKind newThatch st pasts past aside seen seenWord seenHour keeps kept) 86 [(0, .ref (a 0)), (2, .int x2)] [.int y0] := by
    intro mowers ricks weathers says words weather thatch st aside x2 y0   h
    delta jf_M_burns_86 at h
    refine hk_istore_n hC (i := 3) (y := y0) (lv2 := [(3, .int y0), (0, .ref (a 0)), (2, .int x2)]) jd_M_burns_86 rfl rfl (by decide) rfl ?_
    refine hk_aload_n hC jd_M_burns_87 1 rfl ?_
    refine hk_get hC jk_M 0 rfl 20 (by decide) jq_718 rfl jd_M_burns_88 ?_
    refine hk_aload_n hC jd_M_burns_91 1 rfl ?_
    refine hk_get hC jk_M 0 rfl 23 (by decide) jq_721 rfl jd_M_burns_92 ?_
    obtain ⟨q1, h_q1, h⟩ := xb_go h
    refine hk_callSv hC (jc_M_take l D cI cF N (fun _ => (a 12)) (fun _ => (a 14)) 93 93 st aside h_q1) jl_M_take jq_695 jq_696 rfl ⟨by decide, by decide⟩ [12, 14] rfl (by decide) rfl (ws2 := (wM cI a text letters mowers cows ricks weathers says words weather kindOf thatch newMowers newCows newRicks newWeathers newSays newWords newWeather newKind newThatch q1 pasts past aside seen seenWord seenHour keeps kept)) rfl rfl (Nat.le_of_ble_eq_true rfl) ⟨Nat.zero_le _, Nat.zero_le _⟩ jd_M_burns_95 ?_
    refine hk_iload_n hC jd_M_burns_98 0 rfl ?_
    refine hk_if_eq (tgt := 106) hC jd_M_burns_99 (by decide) (fun cc1 => ?_) (fun cc1 => ?_)
    · replace h := xi_t h cc1
      refine hk_bipush (v := -4) hC jd_M_burns_106 (by decide) ?_
      obtain rfl := Option.some.inj h
      exact hk_iret hC hr jd_M_burns_108 rfl rfl
    · replace h := xi_f h cc1
      refine hk_iload_n hC jd_M_burns_102 2 rfl ?_
      refine hk_goto (tgt := 108) hC jd_M_burns_103 (by decide) ?_
      obtain rfl := Option.some.inj h
      exact hk_iret hC hr jd_M_burns_108 rfl rfl
  have B_60 : ∀ (mowers : Int32) (ricks : Int32) (weathers : Int32) (says : Nat → Int32) (words : Nat → Int32) (weather : Nat → Int32) (thatch : Nat → Int32) (st : Nat → Int32) (aside : Nat → Int32) (x1 : Int32) (x2 : Int32)   (_ : jf_M_burns_60 N mowers ricks weathers says words weather thatch st aside x1 x2  = some o), hk_W p l e jr_M_burns s m args below meth c A (hk_Zi below args s D A o.1 (wM cI a text letters mowers cows ricks weathers says words weather kindOf thatch newMowers newCows newRicks newWeathers newSays newWords newWeather newKind newThatch o.2.1 pasts past o.2.2 seen seenWord seenHour keeps kept)) 4 D 0 0 (wM cI a text letters mowers cows ricks weathers says words weather kindOf thatch newMowers newCows newRicks newWeathers newSays newWords newWeather newKind newThatch st pasts past aside seen seenWord seenHour keeps kept) 60 [(0, .ref (a 0)), (1, .int x1), (2, .int x2)] [] := by
    intro mowers ricks weathers says words weather thatch st aside x1 x2   h
    delta jf_M_burns_60 at h
    refine hk_aload_n hC jd_M_burns_60 0 rfl ?_
    refine hk_get hC jk_M 0 rfl 20 (by decide) jq_718 rfl jd_M_burns_61 ?_
    refine hk_bipush (v := 18) hC jd_M_burns_64 (by decide) ?_
    refine hk_iload_n hC jd_M_burns_66 1 rfl ?_
    refine hk_iadd hC jd_M_burns_67 ?_
    have hr1 := xr_in h
    replace h := xr_go h
    refine hk_iald hC 12 rfl hr1 jd_M_burns_68 ?_
    refine hk_aload_n hC jd_M_burns_69 0 rfl ?_
    refine hk_get hC jk_M 0 rfl 23 (by decide) jq_721 rfl jd_M_burns_70 ?_
    refine hk_bipush (v := 18) hC jd_M_burns_73 (by decide) ?_
    refine hk_iload_n hC jd_M_burns_75 1 rfl ?_
    refine hk_iadd hC jd_M_burns_76 ?_
    have hr2 := xr_in h
    replace h := xr_go h
    refine hk_iald hC 14 rfl hr2 jd_M_burns_77 ?_
    refine hk_icmp_le (tgt := 85) hC jd_M_burns_78 (by decide) (fun cc1 => ?_) (fun cc1 => ?_)
    · replace h := xi_t h cc1
      refine hk_iconst (v := 0) hC jd_M_burns_85 (by decide) ?_
      exact hk_lv [0, 2] rfl (B_86 mowers ricks weathers says words weather thatch st aside x2 (0 : Int32)   h)
    · replace h := xi_f h cc1
      refine hk_iconst (v := 1) hC jd_M_burns_81 (by decide) ?_
      refine hk_goto (tgt := 86) hC jd_M_burns_82 (by decide) ?_
      exact hk_lv [0, 2] rfl (B_86 mowers ricks weathers says words weather thatch st aside x2 (1 : Int32)   h)
  delta jf_M_burns at h
  refine hk_aload_n hC jd_M_burns_0 0 rfl ?_
  refine hk_iload_n hC jd_M_burns_1 1 rfl ?_
  obtain ⟨q1, h_q1, h⟩ := xb_go h
  refine hk_callVWi hC (q0 := 0) (jc_M_isRick l D cI cF N a text letters mowers cows ricks weathers says words weather kindOf thatch newMowers newCows newRicks newWeathers newSays newWords newWeather newKind newThatch st pasts past aside seen seenWord seenHour keeps kept x1 h_q1) jl_M_isRick rfl rfl jq_822 jq_824 jq0_24 rfl ⟨by decide, by decide⟩ rfl rfl (Nat.le_of_ble_eq_true rfl) ⟨Nat.zero_le _, Nat.zero_le _⟩ jd_M_burns_2 ?_
  refine hk_if_ne (tgt := 10) hC jd_M_burns_5 (by decide) (fun cc1 => ?_) (fun cc1 => ?_)
  · replace h := xi_f h cc1
    refine hk_aload_n hC jd_M_burns_10 0 rfl ?_
    refine hk_get hC jk_M 0 rfl 23 (by decide) jq_721 rfl jd_M_burns_11 ?_
    refine hk_aload_n hC jd_M_burns_14 0 rfl ?_
    refine hk_get hC jk_M 0 rfl 20 (by decide) jq_718 rfl jd_M_burns_15 ?_
    obtain ⟨q2, h_q2, h⟩ := xb_go h
    refine hk_callSv hC (jc_M_take l D cI cF N (fun _ => (a 14)) (fun _ => (a 12)) 93 93 aside st h_q2) jl_M_take jq_695 jq_696 rfl ⟨by decide, by decide⟩ [14, 12] rfl (by decide) rfl (ws2 := (wM cI a text letters mowers cows ricks weathers says words weather kindOf thatch newMowers newCows newRicks newWeathers newSays newWords newWeather newKind newThatch st pasts past q2 seen seenWord seenHour keeps kept)) rfl rfl (Nat.le_of_ble_eq_true rfl) ⟨Nat.zero_le _, Nat.zero_le _⟩ jd_M_burns_18 ?_
    refine hk_iconst (v := 0) hC jd_M_burns_21 (by decide) ?_
    refine hk_istore_n hC (i := 2) (y := (0 : Int32)) (lv2 := [(2, .int (0 : Int32)), (0, .ref (a 0)), (1, .int x1)]) jd_M_burns_22 rfl rfl (by decide) rfl ?_
    exact hk_lv [1, 2, 0] rfl (L_23 mowers ricks weathers says words weather thatch st q2 x1 (0 : Int32) _ (fun q3 h => by exact (B_60 mowers ricks weathers says words weather thatch q3.1 q2 x1 q3.2   h)) h)
  · replace h := xi_t h cc1
    refine hk_iconst (v := -1) hC jd_M_burns_8 (by decide) ?_
    obtain rfl := Option.some.inj h
    exact hk_iret hC hr jd_M_burns_9 rfl rfl
theorem jc_M_burns (l : Launch) (D : va_G) (cI cF : ClassId) (N : Nat) (a : Nat → Nat)  (text : Nat → Int32) (letters : Int32) (mowers : Int32) (cows : Int32) (ricks : Int32) (weathers : Int32) (says : Nat → Int32) (words : Nat → Int32) (weather : Nat → Int32) (kindOf : Nat → Int32) (thatch : Nat → Int32) (newMowers : Int32) (newCows : Int32) (newRicks : Int32) (newWeathers : Int32) (newSays : Nat → Int32) (newWords : Nat → Int32) (newWeather : Nat → Int32) (newKind : Nat → Int32) (newThatch : Nat → Int32) (st : Nat → Int32) (pasts : Int32) (past : Nat → Int32) (aside : Nat → Int32) (seen : Int32) (seenWord : Nat → Int32) (seenHour : Nat → Int32) (keeps : Int32) (kept : Nat → Int32) (x1 : Int32) {o : Int32 × (Nat → Int32) × (Nat → Int32)} (h : jf_M_burns N mowers ricks weathers says words weather thatch st aside x1 = some o) : hk_Mi l jy_M_burns jb_M_burns 4 (some .int) jr_M_burns D cI cF (wM cI a text letters mowers cows ricks weathers says words weather kindOf thatch newMowers newCows newRicks newWeathers newSays newWords newWeather newKind newThatch st pasts past aside seen seenWord seenHour keeps kept) [.ref (a 0), .int x1] o.1 (wM cI a text letters mowers cows ricks weathers says words weather kindOf thatch newMowers newCows newRicks newWeathers newSays newWords newWeather newKind newThatch o.2.1 pasts past o.2.2 seen seenWord seenHour keeps kept) :=
  hk_metI (by decide) (Nat.le_of_ble_eq_true rfl) rfl rfl (fun p e s m args below meth c A hC hr => jw_M_burns hC hr N a text letters mowers cows ricks weathers says words weather kindOf thatch newMowers newCows newRicks newWeathers newSays newWords newWeather newKind newThatch st pasts past aside seen seenWord seenHour keeps kept x1 h)
