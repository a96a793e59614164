set_option maxHeartbeats 8000000 in
set_option maxRecDepth 100000 in
theorem jw_L_readCow {p : Program} {l : Launch} {e : Env} {s : State} {m : MethodId} {args : Array Value} {below : List Frame} {meth : Method} {c : Code} {A : Nat → Prop} {D : va_G} {cI cF : ClassId} (hC : hk_ok p s m args meth c A 5 D cI cF "HayTalk$Land" jb_L_readCow) (hr : meth.sig.returnType = (some .boolean)) (N : Nat) (a : Nat → Nat) (aT : Nat → Nat)  (speeches : Nat → Int32) (speechLengths : Nat → Int32) (weather : Nat → Int32) (kindsOfCows : Nat → Int32) (thatches : Nat → Int32) (weatherLength : Int32) (mowers : Int32) (cows : Int32) (ricks : Int32) (t_letters : Nat → Int32) (t_length : Int32) (x2 : Int32) (x3 : Int32) {o : Int32 × (Nat → Int32) × Int32} (h : jf_L_readCow N kindsOfCows cows t_letters t_length x2 x3 = some o) : hk_W p l e jr_L_readCow s m args below meth c A (hk_Zi below args s D A o.1 ((wL cI a speeches speechLengths weather o.2.1 thatches weatherLength mowers o.2.2 ricks) ++ (wT cI aT t_letters t_length))) 5 D 0 0 ((wL cI a speeches speechLengths weather kindsOfCows thatches weatherLength mowers cows ricks) ++ (wT cI aT t_letters t_length)) 0 [(0, .ref (a 0)), (1, .ref (aT 0)), (2, .int x2), (3, .int x3)] [] := by
  delta jf_L_readCow at h
  refine hk_aload_n hC jd_L_readCow_0 1 rfl ?_
  refine hk_iload_n hC jd_L_readCow_1 2 rfl ?_
  refine hk_iload_n hC jd_L_readCow_2 3 rfl ?_
  obtain ⟨q1, h_q1, h⟩ := xb_go h
  refine hk_callSi hC (jc_L_numberIn l D cI cF N aT t_letters t_length x2 x3 h_q1) jl_L_numberIn jq_265 jq_266 rfl ⟨by decide, by decide⟩ [6, 7] rfl (by decide) rfl (ws2 := ((wL cI a speeches speechLengths weather kindsOfCows thatches weatherLength mowers cows ricks) ++ (wT cI aT t_letters t_length))) rfl rfl (Nat.le_of_ble_eq_true rfl) ⟨Nat.zero_le _, Nat.zero_le _⟩ jd_L_readCow_3 ?_
  refine hk_istore hC (i := 4) (y := q1) (lv2 := [(4, .int q1), (0, .ref (a 0)), (1, .ref (aT 0)), (2, .int x2), (3, .int x3)]) jd_L_readCow_6 rfl (by decide) rfl ?_
  refine hk_aload_n hC jd_L_readCow_8 1 rfl ?_
  refine hk_get hC jk_L 0 rfl 7 (by decide) jq_135 rfl jd_L_readCow_9 ?_
  refine hk_iconst (v := 4) hC jd_L_readCow_12 (by decide) ?_
  refine hk_icmp_ge (tgt := 26) hC jd_L_readCow_13 (by decide) (fun cc1 => ?_) (fun cc1 => ?_)
  · replace h := xi_t h cc1
    refine hk_iconst (v := 0) hC jd_L_readCow_26 (by decide) ?_
    obtain rfl := Option.some.inj h
    exact hk_zret hC hr rfl jd_L_readCow_27 rfl rfl
  · replace h := xi_f h cc1
    refine hk_iload hC jd_L_readCow_16 0 rfl ?_
    refine hk_iconst (v := 0) hC jd_L_readCow_18 (by decide) ?_
    refine hk_iconst (v := 3) hC jd_L_readCow_19 (by decide) ?_
    obtain ⟨q2, h_q2, h⟩ := xb_go h
    refine hk_callN0i hC (jc_H_isWithin l D cI cF N q1 (0 : Int32) (3 : Int32) h_q2) jl_H_isWithin jq_248 jq_249 rfl ⟨by decide, by decide⟩ rfl (Nat.le_of_ble_eq_true rfl) ⟨Nat.zero_le _, Nat.zero_le _⟩ jd_L_readCow_20 ?_
    refine hk_if_ne (tgt := 28) hC jd_L_readCow_23 (by decide) (fun cc2 => ?_) (fun cc2 => ?_)
    · replace h := xi_f h cc2
      refine hk_aload_n hC jd_L_readCow_28 1 rfl ?_
      refine hk_get hC jk_L 0 rfl 3 (by decide) jq_129 rfl jd_L_readCow_29 ?_
      refine hk_aload_n hC jd_L_readCow_32 1 rfl ?_
      refine hk_get hC jk_L 0 rfl 7 (by decide) jq_135 rfl jd_L_readCow_33 ?_
      refine hk_iload hC jd_L_readCow_36 0 rfl ?_
      obtain ⟨q3, h_q3, h⟩ := xb_go h
      refine hk_callSv hC (jc_R_put l D cI cF N (fun _ => (a 4)) 4 kindsOfCows cows q1 h_q3) jl_R_put jq_256 jq_222 rfl ⟨by decide, by decide⟩ [4] rfl (by decide) rfl (ws2 := ((wL cI a speeches speechLengths weather q3 thatches weatherLength mowers cows ricks) ++ (wT cI aT t_letters t_length))) rfl rfl (Nat.le_of_ble_eq_true rfl) ⟨Nat.zero_le _, Nat.zero_le _⟩ jd_L_readCow_38 ?_
      refine hk_aload_n hC jd_L_readCow_41 1 rfl ?_
      refine hk_dup hC jd_L_readCow_42 rfl ?_
      refine hk_get hC jk_L 0 rfl 7 (by decide) jq_135 rfl jd_L_readCow_43 ?_
      refine hk_iconst (v := 1) hC jd_L_readCow_46 (by decide) ?_
      refine hk_iadd hC jd_L_readCow_47 ?_
      obtain ⟨v1, e_v1, h⟩ := xl_go h
      refine hk_topi e_v1 ?_
      refine hk_put hC jk_L 0 rfl 7 (by decide) jq_135 rfl rfl rfl (Nat.le_of_ble_eq_true rfl) (ws2 := ((wL cI a speeches speechLengths weather q3 thatches weatherLength mowers v1 ricks) ++ (wT cI aT t_letters t_length))) rfl jd_L_readCow_48 ?_
      refine hk_iconst (v := 1) hC jd_L_readCow_51 (by decide) ?_
      obtain rfl := Option.some.inj h
      exact hk_zret hC hr rfl jd_L_readCow_52 rfl rfl
    · replace h := xi_t h cc2
      refine hk_iconst (v := 0) hC jd_L_readCow_26 (by decide) ?_
      obtain rfl := Option.some.inj h
      exact hk_zret hC hr rfl jd_L_readCow_27 rfl rfl
theorem jc_L_readCow (l : Launch) (D : va_G) (cI cF : ClassId) (N : Nat) (a : Nat → Nat) (aT : Nat → Nat)  (speeches : Nat → Int32) (speechLengths : Nat → Int32) (weather : Nat → Int32) (kindsOfCows : Nat → Int32) (thatches : Nat → Int32) (weatherLength : Int32) (mowers : Int32) (cows : Int32) (ricks : Int32) (t_letters : Nat → Int32) (t_length : Int32) (x2 : Int32) (x3 : Int32) {o : Int32 × (Nat → Int32) × Int32} (h : jf_L_readCow N kindsOfCows cows t_letters t_length x2 x3 = some o) : hk_Mi l jy_L_readCow jb_L_readCow 5 (some .boolean) jr_L_readCow D cI cF ((wL cI a speeches speechLengths weather kindsOfCows thatches weatherLength mowers cows ricks) ++ (wT cI aT t_letters t_length)) [.ref (a 0), .ref (aT 0), .int x2, .int x3] o.1 ((wL cI a speeches speechLengths weather o.2.1 thatches weatherLength mowers o.2.2 ricks) ++ (wT cI aT t_letters t_length)) :=
  hk_metI (by decide) (Nat.le_of_ble_eq_true rfl) rfl rfl (fun p e s m args below meth c A hC hr => jw_L_readCow hC hr N a aT speeches speechLengths weather kindsOfCows thatches weatherLength mowers cows ricks t_letters t_length x2 x3 h)
set_option maxHeartbeats 8000000 in
set_option maxRecDepth 100000 in
theorem jw_L_readRick {p : Program} {l : Launch} {e : Env} {s : State} {m : MethodId} {args : Array Value} {below : List Frame} {meth : Method} {c : Code} {A : Nat → Prop} {D : va_G} {cI cF : ClassId} (hC : hk_ok p s m args meth c A 5 D cI cF "HayTalk$Land" jb_L_readRick) (hr : meth.sig.returnType = (some .boolean)) (N : Nat) (a : Nat → Nat) (aT : Nat → Nat)  (speeches : Nat → Int32) (speechLengths : Nat → Int32) (weather : Nat → Int32) (kindsOfCows : Nat → Int32) (thatches : Nat → Int32) (weatherLength : Int32) (mowers : Int32) (cows : Int32) (ricks : Int32) (t_letters : Nat → Int32) (t_length : Int32) (x2 : Int32) (x3 : Int32) {o : Int32 × (Nat → Int32) × Int32} (h : jf_L_readRick N thatches ricks t_letters t_length x2 x3 = some o) : hk_W p l e jr_L_readRick s m args below meth c A (hk_Zi below args s D A o.1 ((wL cI a speeches speechLengths weather kindsOfCows o.2.1 weatherLength mowers cows o.2.2) ++ (wT cI aT t_letters t_length))) 5 D 0 0 ((wL cI a speeches speechLengths weather kindsOfCows thatches weatherLength mowers cows ricks) ++ (wT cI aT t_letters t_length)) 0 [(0, .ref (a 0)), (1, .ref (aT 0)), (2, .int x2), (3, .int x3)] [] := by
  delta jf_L_readRick at h
  refine hk_aload_n hC jd_L_readRick_0 1 rfl ?_
  refine hk_iload_n hC jd_L_readRick_1 2 rfl ?_
  refine hk_iload_n hC jd_L_readRick_2 3 rfl ?_
  obtain ⟨q1, h_q1, h⟩ := xb_go h
  refine hk_callSi hC (jc_L_numberIn l D cI cF N aT t_letters t_length x2 x3 h_q1) jl_L_numberIn jq_265 jq_266 rfl ⟨by decide, by decide⟩ [6, 7] rfl (by decide) rfl (ws2 := ((wL cI a speeches speechLengths weather kindsOfCows thatches weatherLength mowers cows ricks) ++ (wT cI aT t_letters t_length))) rfl rfl (Nat.le_of_ble_eq_true rfl) ⟨Nat.zero_le _, Nat.zero_le _⟩ jd_L_readRick_3 ?_
  refine hk_istore hC (i := 4) (y := q1) (lv2 := [(4, .int q1), (0, .ref (a 0)), (1, .ref (aT 0)), (2, .int x2), (3, .int x3)]) jd_L_readRick_6 rfl (by decide) rfl ?_
  refine hk_aload_n hC jd_L_readRick_8 1 rfl ?_
  refine hk_get hC jk_L 0 rfl 8 (by decide) jq_137 rfl jd_L_readRick_9 ?_
  refine hk_iconst (v := 3) hC jd_L_readRick_12 (by decide) ?_
  refine hk_icmp_ge (tgt := 27) hC jd_L_readRick_13 (by decide) (fun cc1 => ?_) (fun cc1 => ?_)
  · replace h := xi_t h cc1
    refine hk_iconst (v := 0) hC jd_L_readRick_27 (by decide) ?_
    obtain rfl := Option.some.inj h
    exact hk_zret hC hr rfl jd_L_readRick_28 rfl rfl
  · replace h := xi_f h cc1
    refine hk_iload hC jd_L_readRick_16 0 rfl ?_
    refine hk_iconst (v := 0) hC jd_L_readRick_18 (by decide) ?_
    refine hk_bipush (v := 9) hC jd_L_readRick_19 (by decide) ?_
    obtain ⟨q2, h_q2, h⟩ := xb_go h
    refine hk_callN0i hC (jc_H_isWithin l D cI cF N q1 (0 : Int32) (9 : Int32) h_q2) jl_H_isWithin jq_248 jq_249 rfl ⟨by decide, by decide⟩ rfl (Nat.le_of_ble_eq_true rfl) ⟨Nat.zero_le _, Nat.zero_le _⟩ jd_L_readRick_21 ?_
    refine hk_if_ne (tgt := 29) hC jd_L_readRick_24 (by decide) (fun cc2 => ?_) (fun cc2 => ?_)
    · replace h := xi_f h cc2
      refine hk_aload_n hC jd_L_readRick_29 1 rfl ?_
      refine hk_get hC jk_L 0 rfl 4 (by decide) jq_130 rfl jd_L_readRick_30 ?_
      refine hk_aload_n hC jd_L_readRick_33 1 rfl ?_
      refine hk_get hC jk_L 0 rfl 8 (by decide) jq_137 rfl jd_L_readRick_34 ?_
      refine hk_iload hC jd_L_readRick_37 0 rfl ?_
      obtain ⟨q3, h_q3, h⟩ := xb_go h
      refine hk_callSv hC (jc_R_put l D cI cF N (fun _ => (a 5)) 3 thatches ricks q1 h_q3) jl_R_put jq_256 jq_222 rfl ⟨by decide, by decide⟩ [5] rfl (by decide) rfl (ws2 := ((wL cI a speeches speechLengths weather kindsOfCows q3 weatherLength mowers cows ricks) ++ (wT cI aT t_letters t_length))) rfl rfl (Nat.le_of_ble_eq_true rfl) ⟨Nat.zero_le _, Nat.zero_le _⟩ jd_L_readRick_39 ?_
      refine hk_aload_n hC jd_L_readRick_42 1 rfl ?_
      refine hk_dup hC jd_L_readRick_43 rfl ?_
      refine hk_get hC jk_L 0 rfl 8 (by decide) jq_137 rfl jd_L_readRick_44 ?_
      refine hk_iconst (v := 1) hC jd_L_readRick_47 (by decide) ?_
      refine hk_iadd hC jd_L_readRick_48 ?_
      obtain ⟨v1, e_v1, h⟩ := xl_go h
      refine hk_topi e_v1 ?_
      refine hk_put hC jk_L 0 rfl 8 (by decide) jq_137 rfl rfl rfl (Nat.le_of_ble_eq_true rfl) (ws2 := ((wL cI a speeches speechLengths weather kindsOfCows q3 weatherLength mowers cows v1) ++ (wT cI aT t_letters t_length))) rfl jd_L_readRick_49 ?_
      refine hk_iconst (v := 1) hC jd_L_readRick_52 (by decide) ?_
      obtain rfl := Option.some.inj h
      exact hk_zret hC hr rfl jd_L_readRick_53 rfl rfl
    · replace h := xi_t h cc2
      refine hk_iconst (v := 0) hC jd_L_readRick_27 (by decide) ?_
      obtain rfl := Option.some.inj h
      exact hk_zret hC hr rfl jd_L_readRick_28 rfl rfl
theorem jc_L_readRick (l : Launch) (D : va_G) (cI cF : ClassId) (N : Nat) (a : Nat → Nat) (aT : Nat → Nat)  (speeches : Nat → Int32) (speechLengths : Nat → Int32) (weather : Nat → Int32) (kindsOfCows : Nat → Int32) (thatches : Nat → Int32) (weatherLength : Int32) (mowers : Int32) (cows : Int32) (ricks : Int32) (t_letters : Nat → Int32) (t_length : Int32) (x2 : Int32) (x3 : Int32) {o : Int32 × (Nat → Int32) × Int32} (h : jf_L_readRick N thatches ricks t_letters t_length x2 x3 = some o) : hk_Mi l jy_L_readRick jb_L_readRick 5 (some .boolean) jr_L_readRick D cI cF ((wL cI a speeches speechLengths weather kindsOfCows thatches weatherLength mowers cows ricks) ++ (wT cI aT t_letters t_length)) [.ref (a 0), .ref (aT 0), .int x2, .int x3] o.1 ((wL cI a speeches speechLengths weather kindsOfCows o.2.1 weatherLength mowers cows o.2.2) ++ (wT cI aT t_letters t_length)) :=
  hk_metI (by decide) (Nat.le_of_ble_eq_true rfl) rfl rfl (fun p e s m args below meth c A hC hr => jw_L_readRick hC hr N a aT speeches speechLengths weather kindsOfCows thatches weatherLength mowers cows ricks t_letters t_length x2 x3 h)
set_option maxHeartbeats 8000000 in
set_option maxRecDepth 100000 in
theorem jw_L_readItem {p : Program} {l : Launch} {e : Env} {s : State} {m : MethodId} {args : Array Value} {below : List Frame} {meth : Method} {c : Code} {A : Nat → Prop} {D : va_G} {cI cF : ClassId} (hC : hk_ok p s m args meth c A 4 D cI cF "HayTalk$Land" jb_L_readItem) (hr : meth.sig.returnType = (some .boolean)) (N : Nat) (a : Nat → Nat) (aT : Nat → Nat)  (speeches : Nat → Int32) (speechLengths : Nat → Int32) (weather : Nat → Int32) (kindsOfCows : Nat → Int32) (thatches : Nat → Int32) (weatherLength : Int32) (mowers : Int32) (cows : Int32) (ricks : Int32) (t_letters : Nat → Int32) (t_length : Int32) (x2 : Int32) (x3 : Int32) {o : Int32 × (Nat → Int32) × (Nat → Int32) × (Nat → Int32) × (Nat → Int32) × (Nat → Int32) × Int32 × Int32 × Int32 × Int32} (h : jf_L_readItem N speeches speechLengths weather kindsOfCows thatches weatherLength mowers cows ricks t_letters t_length x2 x3 = some o) : hk_W p l e jr_L_readItem s m args below meth c A (hk_Zi below args s D A o.1 ((wL cI a o.2.1 o.2.2.1 o.2.2.2.1 o.2.2.2.2.1 o.2.2.2.2.2.1 o.2.2.2.2.2.2.1 o.2.2.2.2.2.2.2.1 o.2.2.2.2.2.2.2.2.1 o.2.2.2.2.2.2.2.2.2) ++ (wT cI aT t_letters t_length))) 4 D 0 0 ((wL cI a speeches speechLengths weather kindsOfCows thatches weatherLength mowers cows ricks) ++ (wT cI aT t_letters t_length)) 0 [(0, .ref (a 0)), (1, .ref (aT 0)), (2, .int x2), (3, .int x3)] [] := by
  delta jf_L_readItem at h
  refine hk_aload_n hC jd_L_readItem_0 1 rfl ?_
  refine hk_iload_n hC jd_L_readItem_1 2 rfl ?_
  obtain ⟨q1, h_q1, h⟩ := xb_go h
  refine hk_callVi hC (q0 := 6) (jc_T_letterAt l D cI cF N aT t_letters t_length x2 h_q1) jl_T_letterAt rfl rfl jq_240 jq_233 jq_234 rfl ⟨by decide, by decide⟩ [6, 7] rfl (by decide) rfl (ws2 := ((wL cI a speeches speechLengths weather kindsOfCows thatches weatherLength mowers cows ricks) ++ (wT cI aT t_letters t_length))) rfl rfl (Nat.le_of_ble_eq_true rfl) ⟨Nat.zero_le _, Nat.zero_le _⟩ jd_L_readItem_2 ?_
  by_cases cc1 : q1 = (99 : Int32)
  · replace h := xi_t h cc1
    refine hk_lookup (tgt := 68) (off := 63) hC jd_L_readItem_5 (by decide) (by rw [cc1]; rfl) (by decide) ?_
    refine hk_aload_n hC jd_L_readItem_68 0 rfl ?_
    refine hk_aload_n hC jd_L_readItem_69 1 rfl ?_
    refine hk_iload_n hC jd_L_readItem_70 2 rfl ?_
    refine hk_iconst (v := 1) hC jd_L_readItem_71 (by decide) ?_
    refine hk_iadd hC jd_L_readItem_72 ?_
    refine hk_iload_n hC jd_L_readItem_73 3 rfl ?_
    obtain ⟨q2, h_q2, h⟩ := xb_go h
    refine hk_callVWi hC (q0 := 0) (jc_L_readCow l D cI cF N a aT speeches speechLengths weather kindsOfCows thatches weatherLength mowers cows ricks t_letters t_length (x2 + (1 : Int32)) x3 h_q2) jl_L_readCow rfl rfl jq_261 jq_263 jq0_3 rfl ⟨by decide, by decide⟩ rfl rfl (Nat.le_of_ble_eq_true rfl) ⟨Nat.zero_le _, Nat.zero_le _⟩ jd_L_readItem_74 ?_
    have hbo := xo_in h
    replace h := xo_go h
    obtain rfl := Option.some.inj h
    exact hk_zret hC hr hbo jd_L_readItem_77 rfl rfl
  · replace h := xi_f h cc1
    by_cases cc2 : q1 = (101 : Int32)
    · replace h := xi_t h cc2
      refine hk_lookup (tgt := 58) (off := 53) hC jd_L_readItem_5 (by decide) (by rw [cc2]; rfl) (by decide) ?_
      refine hk_aload_n hC jd_L_readItem_58 0 rfl ?_
      refine hk_aload_n hC jd_L_readItem_59 1 rfl ?_
      refine hk_iload_n hC jd_L_readItem_60 2 rfl ?_
      refine hk_iconst (v := 1) hC jd_L_readItem_61 (by decide) ?_
      refine hk_iadd hC jd_L_readItem_62 ?_
      refine hk_iload_n hC jd_L_readItem_63 3 rfl ?_
      obtain ⟨q3, h_q3, h⟩ := xb_go h
      refine hk_callVWi hC (q0 := 0) (jc_L_readWeather l D cI cF N a aT speeches speechLengths weather kindsOfCows thatches weatherLength mowers cows ricks t_letters t_length (x2 + (1 : Int32)) x3 h_q3) jl_L_readWeather rfl rfl jq_257 jq_259 jq0_2 rfl ⟨by decide, by decide⟩ rfl rfl (Nat.le_of_ble_eq_true rfl) ⟨Nat.zero_le _, Nat.zero_le _⟩ jd_L_readItem_64 ?_
      have hbo := xo_in h
      replace h := xo_go h
      obtain rfl := Option.some.inj h
      exact hk_zret hC hr hbo jd_L_readItem_67 rfl rfl
    · replace h := xi_f h cc2
      by_cases cc3 : q1 = (107 : Int32)
      · replace h := xi_t h cc3
        refine hk_lookup (tgt := 78) (off := 73) hC jd_L_readItem_5 (by decide) (by rw [cc3]; rfl) (by decide) ?_
        refine hk_aload_n hC jd_L_readItem_78 0 rfl ?_
        refine hk_aload_n hC jd_L_readItem_79 1 rfl ?_
        refine hk_iload_n hC jd_L_readItem_80 2 rfl ?_
        refine hk_iconst (v := 1) hC jd_L_readItem_81 (by decide) ?_
        refine hk_iadd hC jd_L_readItem_82 ?_
        refine hk_iload_n hC jd_L_readItem_83 3 rfl ?_
        obtain ⟨q4, h_q4, h⟩ := xb_go h
        refine hk_callVWi hC (q0 := 0) (jc_L_readRick l D cI cF N a aT speeches speechLengths weather kindsOfCows thatches weatherLength mowers cows ricks t_letters t_length (x2 + (1 : Int32)) x3 h_q4) jl_L_readRick rfl rfl jq_268 jq_270 jq0_4 rfl ⟨by decide, by decide⟩ rfl rfl (Nat.le_of_ble_eq_true rfl) ⟨Nat.zero_le _, Nat.zero_le _⟩ jd_L_readItem_84 ?_
        have hbo := xo_in h
        replace h := xo_go h
        obtain rfl := Option.some.inj h
        exact hk_zret hC hr hbo jd_L_readItem_87 rfl rfl
      · replace h := xi_f h cc3
        by_cases cc4 : q1 = (109 : Int32)
        · replace h := xi_t h cc4
          refine hk_lookup (tgt := 48) (off := 43) hC jd_L_readItem_5 (by decide) (by rw [cc4]; rfl) (by decide) ?_
          refine hk_aload_n hC jd_L_readItem_48 0 rfl ?_
          refine hk_aload_n hC jd_L_readItem_49 1 rfl ?_
          refine hk_iload_n hC jd_L_readItem_50 2 rfl ?_
          refine hk_iconst (v := 1) hC jd_L_readItem_51 (by decide) ?_
          refine hk_iadd hC jd_L_readItem_52 ?_
          refine hk_iload_n hC jd_L_readItem_53 3 rfl ?_
          obtain ⟨q5, h_q5, h⟩ := xb_go h
          refine hk_callVWi hC (q0 := 0) (jc_L_readMower l D cI cF N a aT speeches speechLengths weather kindsOfCows thatches weatherLength mowers cows ricks t_letters t_length (x2 + (1 : Int32)) x3 h_q5) jl_L_readMower rfl rfl jq_241 jq_243 jq0_1 rfl ⟨by decide, by decide⟩ rfl rfl (Nat.le_of_ble_eq_true rfl) ⟨Nat.zero_le _, Nat.zero_le _⟩ jd_L_readItem_54 ?_
          have hbo := xo_in h
          replace h := xo_go h
          obtain rfl := Option.some.inj h
          exact hk_zret hC hr hbo jd_L_readItem_57 rfl rfl
        · replace h := xi_f h cc4
          refine hk_lookup (tgt := 88) (off := 83) hC jd_L_readItem_5 (by decide) ((lv_osw cc1 (by decide)).trans ((lv_osw cc2 (by decide)).trans ((lv_osw cc3 (by decide)).trans ((lv_osw cc4 (by decide)).trans rfl)))) (by decide) ?_
          refine hk_iconst (v := 0) hC jd_L_readItem_88 (by decide) ?_
          obtain rfl := Option.some.inj h
          exact hk_zret hC hr rfl jd_L_readItem_89 rfl rfl
theorem jc_L_readItem (l : Launch) (D : va_G) (cI cF : ClassId) (N : Nat) (a : Nat → Nat) (aT : Nat → Nat)  (speeches : Nat → Int32) (speechLengths : Nat → Int32) (weather : Nat → Int32) (kindsOfCows : Nat → Int32) (thatches : Nat → Int32) (weatherLength : Int32) (mowers : Int32) (cows : Int32) (ricks : Int32) (t_letters : Nat → Int32) (t_length : Int32) (x2 : Int32) (x3 : Int32) {o : Int32 × (Nat → Int32) × (Nat → Int32) × (Nat → Int32) × (Nat → Int32) × (Nat → Int32) × Int32 × Int32 × Int32 × Int32} (h : jf_L_readItem N speeches speechLengths weather kindsOfCows thatches weatherLength mowers cows ricks t_letters t_length x2 x3 = some o) : hk_Mi l jy_L_readItem jb_L_readItem 4 (some .boolean) jr_L_readItem D cI cF ((wL cI a speeches speechLengths weather kindsOfCows thatches weatherLength mowers cows ricks) ++ (wT cI aT t_letters t_length)) [.ref (a 0), .ref (aT 0), .int x2, .int x3] o.1 ((wL cI a o.2.1 o.2.2.1 o.2.2.2.1 o.2.2.2.2.1 o.2.2.2.2.2.1 o.2.2.2.2.2.2.1 o.2.2.2.2.2.2.2.1 o.2.2.2.2.2.2.2.2.1 o.2.2.2.2.2.2.2.2.2) ++ (wT cI aT t_letters t_length)) :=
  hk_metI (by decide) (Nat.le_of_ble_eq_true rfl) rfl rfl (fun p e s m args below meth c A hC hr => jw_L_readItem hC hr N a aT speeches speechLengths weather kindsOfCows thatches weatherLength mowers cows ricks t_letters t_length x2 x3 h)
set_option maxHeartbeats 8000000 in
set_option maxRecDepth 100000 in
theorem jw_L_readText {p : Program} {l : Launch} {e : Env} {s : State} {m : MethodId} {args : Array Value} {below : List Frame} {meth : Method} {c : Code} {A : Nat → Prop} {D : va_G} {cI cF : ClassId} (hC : hk_ok p s m args meth c A 5 D cI cF "HayTalk$Land" jb_L_readText) (hr : meth.sig.returnType = (some .int)) (N : Nat) (a : Nat → Nat) (aT : Nat → Nat)  (speeches : Nat → Int32) (speechLengths : Nat → Int32) (weather : Nat → Int32) (kindsOfCows : Nat → Int32) (thatches : Nat → Int32) (weatherLength : Int32) (mowers : Int32) (cows : Int32) (ricks : Int32) (t_letters : Nat → Int32) (t_length : Int32)  {o : Int32 × (Nat → Int32) × (Nat → Int32) × (Nat → Int32) × (Nat → Int32) × (Nat → Int32) × Int32 × Int32 × Int32 × Int32} (h : jf_L_readText N speeches speechLengths weather kindsOfCows thatches weatherLength mowers cows ricks t_letters t_length = some o) : hk_W p l e jr_L_readText s m args below meth c A (hk_Zi below args s D A o.1 ((wL cI a o.2.1 o.2.2.1 o.2.2.2.1 o.2.2.2.2.1 o.2.2.2.2.2.1 o.2.2.2.2.2.2.1 o.2.2.2.2.2.2.2.1 o.2.2.2.2.2.2.2.2.1 o.2.2.2.2.2.2.2.2.2) ++ (wT cI aT t_letters t_length))) 5 D 0 0 ((wL cI a speeches speechLengths weather kindsOfCows thatches weatherLength mowers cows ricks) ++ (wT cI aT t_letters t_length)) 0 [(0, .ref (a 0)), (1, .ref (aT 0))] [] := by
  have B_24 : ∀ (speeches : Nat → Int32) (speechLengths : Nat → Int32) (weather : Nat → Int32) (kindsOfCows : Nat → Int32) (thatches : Nat → Int32) (weatherLength : Int32) (mowers : Int32) (cows : Int32) (ricks : Int32) (t_letters : Nat → Int32) (t_length : Int32) (x2 : Int32) (x3 : Int32) (kh24 : ((Nat → Int32) × (Nat → Int32) × (Nat → Int32) × (Nat → Int32) × (Nat → Int32) × Int32 × Int32 × Int32 × Int32 × Int32 × Int32) → Option (Int32 × (Nat → Int32) × (Nat → Int32) × (Nat → Int32) × (Nat → Int32) × (Nat → Int32) × Int32 × Int32 × Int32 × Int32)) (ihh24 : ∀ q, kh24 q = some o → hk_W p l e jr_L_readText s m args below meth c A (hk_Zi below args s D A o.1 ((wL cI a o.2.1 o.2.2.1 o.2.2.2.1 o.2.2.2.2.1 o.2.2.2.2.2.1 o.2.2.2.2.2.2.1 o.2.2.2.2.2.2.2.1 o.2.2.2.2.2.2.2.2.1 o.2.2.2.2.2.2.2.2.2) ++ (wT cI aT t_letters t_length))) 5 D 0 0 ((wL cI a q.1 q.2.1 q.2.2.1 q.2.2.2.1 q.2.2.2.2.1 q.2.2.2.2.2.1 q.2.2.2.2.2.2.1 q.2.2.2.2.2.2.2.1 q.2.2.2.2.2.2.2.2.1) ++ (wT cI aT t_letters t_length)) 24 [(0, .ref (a 0)), (1, .ref (aT 0)), (2, .int q.2.2.2.2.2.2.2.2.2.1), (3, .int q.2.2.2.2.2.2.2.2.2.2)] []) (_ : jf_L_readText_24B N speeches speechLengths weather kindsOfCows thatches weatherLength mowers cows ricks t_letters t_length x2 x3 kh24 = some o), hk_W p l e jr_L_readText s m args below meth c A (hk_Zi below args s D A o.1 ((wL cI a o.2.1 o.2.2.1 o.2.2.2.1 o.2.2.2.2.1 o.2.2.2.2.2.1 o.2.2.2.2.2.2.1 o.2.2.2.2.2.2.2.1 o.2.2.2.2.2.2.2.2.1 o.2.2.2.2.2.2.2.2.2) ++ (wT cI aT t_letters t_length))) 5 D 0 0 ((wL cI a speeches speechLengths weather kindsOfCows thatches weatherLength mowers cows ricks) ++ (wT cI aT t_letters t_length)) 24 [(0, .ref (a 0)), (1, .ref (aT 0)), (2, .int x2), (3, .int x3)] [] := by
    intro speeches speechLengths weather kindsOfCows thatches weatherLength mowers cows ricks t_letters t_length x2 x3 kh24 ihh24 h
    delta jf_L_readText_24B at h
    refine hk_iload_n hC jd_L_readText_24 3 rfl ?_
    refine hk_sipush (v := 200) hC jd_L_readText_25 (by decide) ?_
    refine hk_icmp_ge (tgt := 77) hC jd_L_readText_28 (by decide) (fun cc1 => ?_) (fun cc1 => ?_)
    · replace h := xi_t h cc1
      refine hk_bipush (v := -4) hC jd_L_readText_77 (by decide) ?_
      obtain rfl := Option.some.inj h
      exact hk_iret hC hr jd_L_readText_79 rfl rfl
    · replace h := xi_f h cc1
      refine hk_iload_n hC jd_L_readText_31 2 rfl ?_
      refine hk_aload_n hC jd_L_readText_32 1 rfl ?_
      refine hk_getN hC jk_T 6 rfl 1 (by decide) jq_33 rfl jd_L_readText_33 ?_
      refine hk_icmp_ge (tgt := 77) hC jd_L_readText_36 (by decide) (fun cc2 => ?_) (fun cc2 => ?_)
      · replace h := xi_t h cc2
        refine hk_bipush (v := -4) hC jd_L_readText_77 (by decide) ?_
        obtain rfl := Option.some.inj h
        exact hk_iret hC hr jd_L_readText_79 rfl rfl
      · replace h := xi_f h cc2
        refine hk_aload_n hC jd_L_readText_39 1 rfl ?_
        refine hk_iload_n hC jd_L_readText_40 2 rfl ?_
        obtain ⟨q1, h_q1, h⟩ := xb_go h
        refine hk_callVi hC (q0 := 6) (jc_T_endFrom l D cI cF N aT t_letters t_length x2 h_q1) jl_T_endFrom rfl rfl jq_228 jq_229 jq_230 rfl ⟨by decide, by decide⟩ [6, 7] rfl (by decide) rfl (ws2 := ((wL cI a speeches speechLengths weather kindsOfCows thatches weatherLength mowers cows ricks) ++ (wT cI aT t_letters t_length))) rfl rfl (Nat.le_of_ble_eq_true rfl) ⟨Nat.zero_le _, Nat.zero_le _⟩ jd_L_readText_41 ?_
        refine hk_istore hC (i := 4) (y := q1) (lv2 := [(4, .int q1), (0, .ref (a 0)), (1, .ref (aT 0)), (2, .int x2), (3, .int x3)]) jd_L_readText_44 rfl (by decide) rfl ?_
        refine hk_iload hC jd_L_readText_46 0 rfl ?_
        refine hk_bipush (v := -4) hC jd_L_readText_48 (by decide) ?_
        refine hk_icmp_eq (tgt := 64) hC jd_L_readText_50 (by decide) (fun cc3 => ?_) (fun cc3 => ?_)
        · replace h := xi_t h cc3
          refine hk_iload_n hC jd_L_readText_64 3 rfl ?_
          obtain rfl := Option.some.inj h
          exact hk_iret hC hr jd_L_readText_65 rfl rfl
        · replace h := xi_f h cc3
          refine hk_aload_n hC jd_L_readText_53 1 rfl ?_
          refine hk_aload_n hC jd_L_readText_54 2 rfl ?_
          refine hk_iload_n hC jd_L_readText_55 3 rfl ?_
          refine hk_iload hC jd_L_readText_56 0 rfl ?_
          obtain ⟨q2, h_q2, h⟩ := xb_go h
          refine hk_callVWi hC (q0 := 0) (jc_L_readItem l D cI cF N a aT speeches speechLengths weather kindsOfCows thatches weatherLength mowers cows ricks t_letters t_length x2 q1 h_q2) jl_L_readItem rfl rfl jq_236 jq_238 jq0_0 rfl ⟨by decide, by decide⟩ rfl rfl (Nat.le_of_ble_eq_true rfl) ⟨Nat.zero_le _, Nat.zero_le _⟩ jd_L_readText_58 ?_
          refine hk_if_ne (tgt := 66) hC jd_L_readText_61 (by decide) (fun cc4 => ?_) (fun cc4 => ?_)
          · replace h := xi_f h cc4
            refine hk_iload hC jd_L_readText_66 0 rfl ?_
            refine hk_iconst (v := 1) hC jd_L_readText_68 (by decide) ?_
            refine hk_iadd hC jd_L_readText_69 ?_
            obtain ⟨v1, e_v1, h⟩ := xl_go h
            refine hk_istore_n hC (i := 2) (y := v1) (lv2 := [(2, .int v1), (4, .int q1), (0, .ref (a 0)), (1, .ref (aT 0)), (3, .int x3)]) jd_L_readText_70 rfl e_v1 (by decide) rfl ?_
            obtain ⟨v2, e_v2, h⟩ := xl_go h
            refine hk_iinc hC (lv2 := [(3, .int v2), (2, .int v1), (4, .int q1), (0, .ref (a 0)), (1, .ref (aT 0))]) jd_L_readText_71 4 rfl e_v2 (by decide) rfl ?_
            refine hk_goto (tgt := 24) hC jd_L_readText_74 (by decide) ?_
            exact hk_lv [3, 4, 1, 0] rfl (ihh24 (q2.2.1, q2.2.2.1, q2.2.2.2.1, q2.2.2.2.2.1, q2.2.2.2.2.2.1, q2.2.2.2.2.2.2.1, q2.2.2.2.2.2.2.2.1, q2.2.2.2.2.2.2.2.2.1, q2.2.2.2.2.2.2.2.2.2, v1, v2) h)
          · replace h := xi_t h cc4
            refine hk_iload_n hC jd_L_readText_64 3 rfl ?_
            obtain rfl := Option.some.inj h
            exact hk_iret hC hr jd_L_readText_65 rfl rfl
  have L_24 : ∀ (speeches : Nat → Int32) (speechLengths : Nat → Int32) (weather : Nat → Int32) (kindsOfCows : Nat → Int32) (thatches : Nat → Int32) (weatherLength : Int32) (mowers : Int32) (cows : Int32) (ricks : Int32) (t_letters : Nat → Int32) (t_length : Int32) (x2 : Int32) (x3 : Int32)   (_ : jf_L_readText_24 N speeches speechLengths weather kindsOfCows thatches weatherLength mowers cows ricks t_letters t_length x2 x3  = some o), hk_W p l e jr_L_readText s m args below meth c A (hk_Zi below args s D A o.1 ((wL cI a o.2.1 o.2.2.1 o.2.2.2.1 o.2.2.2.2.1 o.2.2.2.2.2.1 o.2.2.2.2.2.2.1 o.2.2.2.2.2.2.2.1 o.2.2.2.2.2.2.2.2.1 o.2.2.2.2.2.2.2.2.2) ++ (wT cI aT t_letters t_length))) 5 D 0 0 ((wL cI a speeches speechLengths weather kindsOfCows thatches weatherLength mowers cows ricks) ++ (wT cI aT t_letters t_length)) 24 [(0, .ref (a 0)), (1, .ref (aT 0)), (2, .int x2), (3, .int x3)] [] := by
    intro speeches speechLengths weather kindsOfCows thatches weatherLength mowers cows ricks t_letters t_length x2 x3   h
    exact xloopW (fun (q : (Nat → Int32) × (Nat → Int32) × (Nat → Int32) × (Nat → Int32) × (Nat → Int32) × Int32 × Int32 × Int32 × Int32 × Int32 × Int32) => hk_W p l e jr_L_readText s m args below meth c A (hk_Zi below args s D A o.1 ((wL cI a o.2.1 o.2.2.1 o.2.2.2.1 o.2.2.2.2.1 o.2.2.2.2.2.1 o.2.2.2.2.2.2.1 o.2.2.2.2.2.2.2.1 o.2.2.2.2.2.2.2.2.1 o.2.2.2.2.2.2.2.2.2) ++ (wT cI aT t_letters t_length))) 5 D 0 0 ((wL cI a q.1 q.2.1 q.2.2.1 q.2.2.2.1 q.2.2.2.2.1 q.2.2.2.2.2.1 q.2.2.2.2.2.2.1 q.2.2.2.2.2.2.2.1 q.2.2.2.2.2.2.2.2.1) ++ (wT cI aT t_letters t_length)) 24 [(0, .ref (a 0)), (1, .ref (aT 0)), (2, .int q.2.2.2.2.2.2.2.2.2.1), (3, .int q.2.2.2.2.2.2.2.2.2.2)] []) (fun kh ih q h => B_24 q.1 q.2.1 q.2.2.1 q.2.2.2.1 q.2.2.2.2.1 q.2.2.2.2.2.1 q.2.2.2.2.2.2.1 q.2.2.2.2.2.2.2.1 q.2.2.2.2.2.2.2.2.1 t_letters t_length q.2.2.2.2.2.2.2.2.2.1 q.2.2.2.2.2.2.2.2.2.2 kh  ih  h) N (speeches, speechLengths, weather, kindsOfCows, thatches, weatherLength, mowers, cows, ricks, x2, x3) h
  delta jf_L_readText at h
  refine hk_aload_n hC jd_L_readText_0 0 rfl ?_
  refine hk_iconst (v := 0) hC jd_L_readText_1 (by decide) ?_
  refine hk_put hC jk_L 0 rfl 6 (by decide) jq_132 rfl rfl rfl (Nat.le_of_ble_eq_true rfl) (ws2 := ((wL cI a speeches speechLengths weather kindsOfCows thatches weatherLength (0 : Int32) cows ricks) ++ (wT cI aT t_letters t_length))) rfl jd_L_readText_2 ?_
  refine hk_aload_n hC jd_L_readText_5 0 rfl ?_
  refine hk_iconst (v := 0) hC jd_L_readText_6 (by decide) ?_
  refine hk_put hC jk_L 0 rfl 7 (by decide) jq_135 rfl rfl rfl (Nat.le_of_ble_eq_true rfl) (ws2 := ((wL cI a speeches speechLengths weather kindsOfCows thatches weatherLength (0 : Int32) (0 : Int32) ricks) ++ (wT cI aT t_letters t_length))) rfl jd_L_readText_7 ?_
  refine hk_aload_n hC jd_L_readText_10 0 rfl ?_
  refine hk_iconst (v := 0) hC jd_L_readText_11 (by decide) ?_
  refine hk_put hC jk_L 0 rfl 8 (by decide) jq_137 rfl rfl rfl (Nat.le_of_ble_eq_true rfl) (ws2 := ((wL cI a speeches speechLengths weather kindsOfCows thatches weatherLength (0 : Int32) (0 : Int32) (0 : Int32)) ++ (wT cI aT t_letters t_length))) rfl jd_L_readText_12 ?_
  refine hk_aload_n hC jd_L_readText_15 0 rfl ?_
  refine hk_iconst (v := 0) hC jd_L_readText_16 (by decide) ?_
  refine hk_put hC jk_L 0 rfl 5 (by decide) jq_131 rfl rfl rfl (Nat.le_of_ble_eq_true rfl) (ws2 := ((wL cI a speeches speechLengths weather kindsOfCows thatches (0 : Int32) (0 : Int32) (0 : Int32) (0 : Int32)) ++ (wT cI aT t_letters t_length))) rfl jd_L_readText_17 ?_
  refine hk_iconst (v := 0) hC jd_L_readText_20 (by decide) ?_
  refine hk_istore_n hC (i := 2) (y := (0 : Int32)) (lv2 := [(2, .int (0 : Int32)), (0, .ref (a 0)), (1, .ref (aT 0))]) jd_L_readText_21 rfl rfl (by decide) rfl ?_
  refine hk_iconst (v := 0) hC jd_L_readText_22 (by decide) ?_
  refine hk_istore_n hC (i := 3) (y := (0 : Int32)) (lv2 := [(3, .int (0 : Int32)), (2, .int (0 : Int32)), (0, .ref (a 0)), (1, .ref (aT 0))]) jd_L_readText_23 rfl rfl (by decide) rfl ?_
  exact hk_lv [2, 3, 1, 0] rfl (L_24 speeches speechLengths weather kindsOfCows thatches (0 : Int32) (0 : Int32) (0 : Int32) (0 : Int32) t_letters t_length (0 : Int32) (0 : Int32)   h)
theorem jc_L_readText (l : Launch) (D : va_G) (cI cF : ClassId) (N : Nat) (a : Nat → Nat) (aT : Nat → Nat)  (speeches : Nat → Int32) (speechLengths : Nat → Int32) (weather : Nat → Int32) (kindsOfCows : Nat → Int32) (thatches : Nat → Int32) (weatherLength : Int32) (mowers : Int32) (cows : Int32) (ricks : Int32) (t_letters : Nat → Int32) (t_length : Int32)  {o : Int32 × (Nat → Int32) × (Nat → Int32) × (Nat → Int32) × (Nat → Int32) × (Nat → Int32) × Int32 × Int32 × Int32 × Int32} (h : jf_L_readText N speeches speechLengths weather kindsOfCows thatches weatherLength mowers cows ricks t_letters t_length = some o) : hk_Mi l jy_L_readText jb_L_readText 5 (some .int) jr_L_readText D cI cF ((wL cI a speeches speechLengths weather kindsOfCows thatches weatherLength mowers cows ricks) ++ (wT cI aT t_letters t_length)) [.ref (a 0), .ref (aT 0)] o.1 ((wL cI a o.2.1 o.2.2.1 o.2.2.2.1 o.2.2.2.2.1 o.2.2.2.2.2.1 o.2.2.2.2.2.2.1 o.2.2.2.2.2.2.2.1 o.2.2.2.2.2.2.2.2.1 o.2.2.2.2.2.2.2.2.2) ++ (wT cI aT t_letters t_length)) :=
  hk_metI (by decide) (Nat.le_of_ble_eq_true rfl) rfl rfl (fun p e s m args below meth c A hC hr => jw_L_readText hC hr N a aT speeches speechLengths weather kindsOfCows thatches weatherLength mowers cows ricks t_letters t_length h)
