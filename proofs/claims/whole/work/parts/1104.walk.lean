set_option maxHeartbeats 8000000 in
set_option maxRecDepth 100000 in
theorem jw_L_isWhole {p : Program} {l : Launch} {e : Env} {s : State} {m : MethodId} {args : Array Value} {below : List Frame} {meth : Method} {c : Code} {A : Nat → Prop} {D : va_G} {cI cF : ClassId} (hC : hk_ok p s m args meth c A 1 D cI cF "HayTalk$Land" jb_L_isWhole) (hr : meth.sig.returnType = (some .boolean)) (N : Nat) (a : Nat → Nat)  (speeches : Nat → Int32) (speechLengths : Nat → Int32) (weather : Nat → Int32) (kindsOfCows : Nat → Int32) (thatches : Nat → Int32) (weatherLength : Int32) (mowers : Int32) (cows : Int32) (ricks : Int32)  {o : Int32} (h : jf_L_isWhole N mowers cows ricks = some o) : hk_W p l e jr_L_isWhole s m args below meth c A (hk_Zi below args s D A o (wL cI a speeches speechLengths weather kindsOfCows thatches weatherLength mowers cows ricks)) 1 D 0 0 (wL cI a speeches speechLengths weather kindsOfCows thatches weatherLength mowers cows ricks) 0 [(0, .ref (a 0))] [] := by
  delta jf_L_isWhole at h
  refine hk_aload_n hC jd_L_isWhole_0 0 rfl ?_
  refine hk_get hC jk_L 0 rfl 6 (by decide) jq_132 rfl jd_L_isWhole_1 ?_
  refine hk_if_le (tgt := 25) hC jd_L_isWhole_4 (by decide) (fun cc1 => ?_) (fun cc1 => ?_)
  · replace h := xi_t h cc1
    refine hk_iconst (v := 0) hC jd_L_isWhole_25 (by decide) ?_
    obtain rfl := Option.some.inj h
    exact hk_zret hC hr rfl jd_L_isWhole_26 rfl rfl
  · replace h := xi_f h cc1
    refine hk_aload_n hC jd_L_isWhole_7 0 rfl ?_
    refine hk_get hC jk_L 0 rfl 7 (by decide) jq_135 rfl jd_L_isWhole_8 ?_
    refine hk_if_le (tgt := 25) hC jd_L_isWhole_11 (by decide) (fun cc2 => ?_) (fun cc2 => ?_)
    · replace h := xi_t h cc2
      refine hk_iconst (v := 0) hC jd_L_isWhole_25 (by decide) ?_
      obtain rfl := Option.some.inj h
      exact hk_zret hC hr rfl jd_L_isWhole_26 rfl rfl
    · replace h := xi_f h cc2
      refine hk_aload_n hC jd_L_isWhole_14 0 rfl ?_
      refine hk_get hC jk_L 0 rfl 8 (by decide) jq_137 rfl jd_L_isWhole_15 ?_
      refine hk_if_le (tgt := 25) hC jd_L_isWhole_18 (by decide) (fun cc3 => ?_) (fun cc3 => ?_)
      · replace h := xi_t h cc3
        refine hk_iconst (v := 0) hC jd_L_isWhole_25 (by decide) ?_
        obtain rfl := Option.some.inj h
        exact hk_zret hC hr rfl jd_L_isWhole_26 rfl rfl
      · replace h := xi_f h cc3
        refine hk_iconst (v := 1) hC jd_L_isWhole_21 (by decide) ?_
        refine hk_goto (tgt := 26) hC jd_L_isWhole_22 (by decide) ?_
        obtain rfl := Option.some.inj h
        exact hk_zret hC hr rfl jd_L_isWhole_26 rfl rfl
theorem jc_L_isWhole (l : Launch) (D : va_G) (cI cF : ClassId) (N : Nat) (a : Nat → Nat)  (speeches : Nat → Int32) (speechLengths : Nat → Int32) (weather : Nat → Int32) (kindsOfCows : Nat → Int32) (thatches : Nat → Int32) (weatherLength : Int32) (mowers : Int32) (cows : Int32) (ricks : Int32)  {o : Int32} (h : jf_L_isWhole N mowers cows ricks = some o) : hk_Mi l jy_L_isWhole jb_L_isWhole 1 (some .boolean) jr_L_isWhole D cI cF (wL cI a speeches speechLengths weather kindsOfCows thatches weatherLength mowers cows ricks) [.ref (a 0)] o (wL cI a speeches speechLengths weather kindsOfCows thatches weatherLength mowers cows ricks) :=
  hk_metI (by decide) (Nat.le_of_ble_eq_true rfl) rfl rfl (fun p e s m args below meth c A hC hr => jw_L_isWhole hC hr N a speeches speechLengths weather kindsOfCows thatches weatherLength mowers cows ricks h)
set_option maxHeartbeats 8000000 in
set_option maxRecDepth 100000 in
theorem jw_H_remainder {p : Program} {l : Launch} {e : Env} {s : State} {m : MethodId} {args : Array Value} {below : List Frame} {meth : Method} {c : Code} {A : Nat → Prop} {D : va_G} {cI cF : ClassId} (hC : hk_ok p s m args meth c A 2 D cI cF "HayTalk" jb_H_remainder) (hr : meth.sig.returnType = (some .int)) (N : Nat)    (x0 : Int32) (x1 : Int32) {o : Int32} (h : jf_H_remainder N x0 x1 = some o) : hk_W p l e jr_H_remainder s m args below meth c A (hk_Zi below args s D A o ([] : va_W)) 2 D 0 0 ([] : va_W) 0 [(0, .int x0), (1, .int x1)] [] := by
  delta jf_H_remainder at h
  refine hk_iload_n hC jd_H_remainder_0 1 rfl ?_
  refine hk_if_le (tgt := 10) hC jd_H_remainder_1 (by decide) (fun cc1 => ?_) (fun cc1 => ?_)
  · replace h := xi_t h cc1
    refine hk_iconst (v := 0) hC jd_H_remainder_10 (by decide) ?_
    obtain rfl := Option.some.inj h
    exact hk_iret hC hr jd_H_remainder_11 rfl rfl
  · replace h := xi_f h cc1
    refine hk_iload_n hC jd_H_remainder_4 0 rfl ?_
    refine hk_iload_n hC jd_H_remainder_5 1 rfl ?_
    have hz1 := xz_in h
    replace h := xz_go h
    refine hk_irem hC jd_H_remainder_6 hz1 ?_
    refine hk_goto (tgt := 11) hC jd_H_remainder_7 (by decide) ?_
    obtain rfl := Option.some.inj h
    exact hk_iret hC hr jd_H_remainder_11 rfl rfl
theorem jc_H_remainder (l : Launch) (D : va_G) (cI cF : ClassId) (N : Nat)    (x0 : Int32) (x1 : Int32) {o : Int32} (h : jf_H_remainder N x0 x1 = some o) : hk_Mi l jy_H_remainder jb_H_remainder 2 (some .int) jr_H_remainder D cI cF ([] : va_W) [.int x0, .int x1] o ([] : va_W) :=
  hk_metI (by decide) (Nat.le_of_ble_eq_true rfl) rfl rfl (fun p e s m args below meth c A hC hr => jw_H_remainder hC hr N x0 x1 h)
set_option maxHeartbeats 8000000 in
set_option maxRecDepth 100000 in
theorem jw_L_wordOf {p : Program} {l : Launch} {e : Env} {s : State} {m : MethodId} {args : Array Value} {below : List Frame} {meth : Method} {c : Code} {A : Nat → Prop} {D : va_G} {cI cF : ClassId} (hC : hk_ok p s m args meth c A 3 D cI cF "HayTalk$Land" jb_L_wordOf) (hr : meth.sig.returnType = (some .int)) (N : Nat) (a : Nat → Nat)  (speeches : Nat → Int32) (speechLengths : Nat → Int32) (weather : Nat → Int32) (kindsOfCows : Nat → Int32) (thatches : Nat → Int32) (weatherLength : Int32) (mowers : Int32) (cows : Int32) (ricks : Int32) (x1 : Int32) (x2 : Int32) {o : Int32} (h : jf_L_wordOf N speeches speechLengths x1 x2 = some o) : hk_W p l e jr_L_wordOf s m args below meth c A (hk_Zi below args s D A o (wL cI a speeches speechLengths weather kindsOfCows thatches weatherLength mowers cows ricks)) 3 D 0 0 (wL cI a speeches speechLengths weather kindsOfCows thatches weatherLength mowers cows ricks) 0 [(0, .ref (a 0)), (1, .int x1), (2, .int x2)] [] := by
  delta jf_L_wordOf at h
  refine hk_aload_n hC jd_L_wordOf_0 0 rfl ?_
  refine hk_get hC jk_L 0 rfl 0 (by decide) jq_126 rfl jd_L_wordOf_1 ?_
  refine hk_iload_n hC jd_L_wordOf_4 1 rfl ?_
  refine hk_bipush (v := 9) hC jd_L_wordOf_5 (by decide) ?_
  refine hk_imul hC jd_L_wordOf_7 ?_
  refine hk_iload_n hC jd_L_wordOf_8 2 rfl ?_
  refine hk_aload_n hC jd_L_wordOf_9 0 rfl ?_
  refine hk_get hC jk_L 0 rfl 1 (by decide) jq_127 rfl jd_L_wordOf_10 ?_
  refine hk_iload_n hC jd_L_wordOf_13 1 rfl ?_
  obtain ⟨q1, h_q1, h⟩ := xb_go h
  refine hk_callSi hC (jc_R_at l D cI cF N (fun _ => (a 2)) 5 speechLengths x1 h_q1) jl_R_at jq_344 jq_345 rfl ⟨by decide, by decide⟩ [2] rfl (by decide) rfl (ws2 := (wL cI a speeches speechLengths weather kindsOfCows thatches weatherLength mowers cows ricks)) rfl rfl (Nat.le_of_ble_eq_true rfl) ⟨Nat.zero_le _, Nat.zero_le _⟩ jd_L_wordOf_14 ?_
  obtain ⟨q2, h_q2, h⟩ := xb_go h
  refine hk_callN0i hC (jc_H_remainder l D cI cF N x2 q1 h_q2) jl_H_remainder jq_347 jq_348 rfl ⟨by decide, by decide⟩ rfl (Nat.le_of_ble_eq_true rfl) ⟨Nat.zero_le _, Nat.zero_le _⟩ jd_L_wordOf_17 ?_
  refine hk_iadd hC jd_L_wordOf_20 ?_
  obtain ⟨q3, h_q3, h⟩ := xb_go h
  refine hk_callSi hC (jc_R_at l D cI cF N (fun _ => (a 1)) 45 speeches ((x1 * (9 : Int32)) + q2) h_q3) jl_R_at jq_344 jq_345 rfl ⟨by decide, by decide⟩ [1] rfl (by decide) rfl (ws2 := (wL cI a speeches speechLengths weather kindsOfCows thatches weatherLength mowers cows ricks)) rfl rfl (Nat.le_of_ble_eq_true rfl) ⟨Nat.zero_le _, Nat.zero_le _⟩ jd_L_wordOf_21 ?_
  obtain rfl := Option.some.inj h
  exact hk_iret hC hr jd_L_wordOf_24 rfl rfl
theorem jc_L_wordOf (l : Launch) (D : va_G) (cI cF : ClassId) (N : Nat) (a : Nat → Nat)  (speeches : Nat → Int32) (speechLengths : Nat → Int32) (weather : Nat → Int32) (kindsOfCows : Nat → Int32) (thatches : Nat → Int32) (weatherLength : Int32) (mowers : Int32) (cows : Int32) (ricks : Int32) (x1 : Int32) (x2 : Int32) {o : Int32} (h : jf_L_wordOf N speeches speechLengths x1 x2 = some o) : hk_Mi l jy_L_wordOf jb_L_wordOf 3 (some .int) jr_L_wordOf D cI cF (wL cI a speeches speechLengths weather kindsOfCows thatches weatherLength mowers cows ricks) [.ref (a 0), .int x1, .int x2] o (wL cI a speeches speechLengths weather kindsOfCows thatches weatherLength mowers cows ricks) :=
  hk_metI (by decide) (Nat.le_of_ble_eq_true rfl) rfl rfl (fun p e s m args below meth c A hC hr => jw_L_wordOf hC hr N a speeches speechLengths weather kindsOfCows thatches weatherLength mowers cows ricks x1 x2 h)
set_option maxHeartbeats 8000000 in
set_option maxRecDepth 100000 in
theorem jw_L_kindOf {p : Program} {l : Launch} {e : Env} {s : State} {m : MethodId} {args : Array Value} {below : List Frame} {meth : Method} {c : Code} {A : Nat → Prop} {D : va_G} {cI cF : ClassId} (hC : hk_ok p s m args meth c A 2 D cI cF "HayTalk$Land" jb_L_kindOf) (hr : meth.sig.returnType = (some .int)) (N : Nat) (a : Nat → Nat)  (speeches : Nat → Int32) (speechLengths : Nat → Int32) (weather : Nat → Int32) (kindsOfCows : Nat → Int32) (thatches : Nat → Int32) (weatherLength : Int32) (mowers : Int32) (cows : Int32) (ricks : Int32) (x1 : Int32) {o : Int32} (h : jf_L_kindOf N kindsOfCows x1 = some o) : hk_W p l e jr_L_kindOf s m args below meth c A (hk_Zi below args s D A o (wL cI a speeches speechLengths weather kindsOfCows thatches weatherLength mowers cows ricks)) 2 D 0 0 (wL cI a speeches speechLengths weather kindsOfCows thatches weatherLength mowers cows ricks) 0 [(0, .ref (a 0)), (1, .int x1)] [] := by
  delta jf_L_kindOf at h
  refine hk_aload_n hC jd_L_kindOf_0 0 rfl ?_
  refine hk_get hC jk_L 0 rfl 3 (by decide) jq_129 rfl jd_L_kindOf_1 ?_
  refine hk_iload_n hC jd_L_kindOf_4 1 rfl ?_
  obtain ⟨q1, h_q1, h⟩ := xb_go h
  refine hk_callSi hC (jc_R_at l D cI cF N (fun _ => (a 4)) 4 kindsOfCows x1 h_q1) jl_R_at jq_344 jq_345 rfl ⟨by decide, by decide⟩ [4] rfl (by decide) rfl (ws2 := (wL cI a speeches speechLengths weather kindsOfCows thatches weatherLength mowers cows ricks)) rfl rfl (Nat.le_of_ble_eq_true rfl) ⟨Nat.zero_le _, Nat.zero_le _⟩ jd_L_kindOf_5 ?_
  obtain rfl := Option.some.inj h
  exact hk_iret hC hr jd_L_kindOf_8 rfl rfl
theorem jc_L_kindOf (l : Launch) (D : va_G) (cI cF : ClassId) (N : Nat) (a : Nat → Nat)  (speeches : Nat → Int32) (speechLengths : Nat → Int32) (weather : Nat → Int32) (kindsOfCows : Nat → Int32) (thatches : Nat → Int32) (weatherLength : Int32) (mowers : Int32) (cows : Int32) (ricks : Int32) (x1 : Int32) {o : Int32} (h : jf_L_kindOf N kindsOfCows x1 = some o) : hk_Mi l jy_L_kindOf jb_L_kindOf 2 (some .int) jr_L_kindOf D cI cF (wL cI a speeches speechLengths weather kindsOfCows thatches weatherLength mowers cows ricks) [.ref (a 0), .int x1] o (wL cI a speeches speechLengths weather kindsOfCows thatches weatherLength mowers cows ricks) :=
  hk_metI (by decide) (Nat.le_of_ble_eq_true rfl) rfl rfl (fun p e s m args below meth c A hC hr => jw_L_kindOf hC hr N a speeches speechLengths weather kindsOfCows thatches weatherLength mowers cows ricks x1 h)
