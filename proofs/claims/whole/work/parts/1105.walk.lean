set_option maxHeartbeats 8000000 in
set_option maxRecDepth 100000 in
theorem jw_L_thatchOf {p : Program} {l : Launch} {e : Env} {s : State} {m : MethodId} {args : Array Value} {below : List Frame} {meth : Method} {c : Code} {A : Nat → Prop} {D : va_G} {cI cF : ClassId} (hC : hk_ok p s m args meth c A 2 D cI cF "HayTalk$Land" jb_L_thatchOf) (hr : meth.sig.returnType = (some .int)) (N : Nat) (a : Nat → Nat)  (speeches : Nat → Int32) (speechLengths : Nat → Int32) (weather : Nat → Int32) (kindsOfCows : Nat → Int32) (thatches : Nat → Int32) (weatherLength : Int32) (mowers : Int32) (cows : Int32) (ricks : Int32) (x1 : Int32) {o : Int32} (h : jf_L_thatchOf N thatches x1 = some o) : hk_W p l e jr_L_thatchOf s m args below meth c A (hk_Zi below args s D A o (wL cI a speeches speechLengths weather kindsOfCows thatches weatherLength mowers cows ricks)) 2 D 0 0 (wL cI a speeches speechLengths weather kindsOfCows thatches weatherLength mowers cows ricks) 0 [(0, .ref (a 0)), (1, .int x1)] [] := by
  delta jf_L_thatchOf at h
  refine hk_aload_n hC jd_L_thatchOf_0 0 rfl ?_
  refine hk_get hC jk_L 0 rfl 4 (by decide) jq_130 rfl jd_L_thatchOf_1 ?_
  refine hk_iload_n hC jd_L_thatchOf_4 1 rfl ?_
  obtain ⟨q1, h_q1, h⟩ := xb_go h
  refine hk_callSi hC (jc_R_at l D cI cF N (fun _ => (a 5)) 3 thatches x1 h_q1) jl_R_at jq_344 jq_345 rfl ⟨by decide, by decide⟩ [5] rfl (by decide) rfl (ws2 := (wL cI a speeches speechLengths weather kindsOfCows thatches weatherLength mowers cows ricks)) rfl rfl (Nat.le_of_ble_eq_true rfl) ⟨Nat.zero_le _, Nat.zero_le _⟩ jd_L_thatchOf_5 ?_
  obtain rfl := Option.some.inj h
  exact hk_iret hC hr jd_L_thatchOf_8 rfl rfl
theorem jc_L_thatchOf (l : Launch) (D : va_G) (cI cF : ClassId) (N : Nat) (a : Nat → Nat)  (speeches : Nat → Int32) (speechLengths : Nat → Int32) (weather : Nat → Int32) (kindsOfCows : Nat → Int32) (thatches : Nat → Int32) (weatherLength : Int32) (mowers : Int32) (cows : Int32) (ricks : Int32) (x1 : Int32) {o : Int32} (h : jf_L_thatchOf N thatches x1 = some o) : hk_Mi l jy_L_thatchOf jb_L_thatchOf 2 (some .int) jr_L_thatchOf D cI cF (wL cI a speeches speechLengths weather kindsOfCows thatches weatherLength mowers cows ricks) [.ref (a 0), .int x1] o (wL cI a speeches speechLengths weather kindsOfCows thatches weatherLength mowers cows ricks) :=
  hk_metI (by decide) (Nat.le_of_ble_eq_true rfl) rfl rfl (fun p e s m args below meth c A hC hr => jw_L_thatchOf hC hr N a speeches speechLengths weather kindsOfCows thatches weatherLength mowers cows ricks x1 h)
set_option maxHeartbeats 8000000 in
set_option maxRecDepth 100000 in
theorem jw_L_weatherOf {p : Program} {l : Launch} {e : Env} {s : State} {m : MethodId} {args : Array Value} {below : List Frame} {meth : Method} {c : Code} {A : Nat → Prop} {D : va_G} {cI cF : ClassId} (hC : hk_ok p s m args meth c A 2 D cI cF "HayTalk$Land" jb_L_weatherOf) (hr : meth.sig.returnType = (some .int)) (N : Nat) (a : Nat → Nat)  (speeches : Nat → Int32) (speechLengths : Nat → Int32) (weather : Nat → Int32) (kindsOfCows : Nat → Int32) (thatches : Nat → Int32) (weatherLength : Int32) (mowers : Int32) (cows : Int32) (ricks : Int32) (x1 : Int32) {o : Int32} (h : jf_L_weatherOf N weather weatherLength x1 = some o) : hk_W p l e jr_L_weatherOf s m args below meth c A (hk_Zi below args s D A o (wL cI a speeches speechLengths weather kindsOfCows thatches weatherLength mowers cows ricks)) 2 D 0 0 (wL cI a speeches speechLengths weather kindsOfCows thatches weatherLength mowers cows ricks) 0 [(0, .ref (a 0)), (1, .int x1)] [] := by
  delta jf_L_weatherOf at h
  refine hk_aload_n hC jd_L_weatherOf_0 0 rfl ?_
  refine hk_get hC jk_L 0 rfl 5 (by decide) jq_131 rfl jd_L_weatherOf_1 ?_
  refine hk_if_le (tgt := 25) hC jd_L_weatherOf_4 (by decide) (fun cc1 => ?_) (fun cc1 => ?_)
  · replace h := xi_t h cc1
    refine hk_iconst (v := 0) hC jd_L_weatherOf_25 (by decide) ?_
    obtain rfl := Option.some.inj h
    exact hk_iret hC hr jd_L_weatherOf_26 rfl rfl
  · replace h := xi_f h cc1
    refine hk_aload_n hC jd_L_weatherOf_7 0 rfl ?_
    refine hk_get hC jk_L 0 rfl 2 (by decide) jq_128 rfl jd_L_weatherOf_8 ?_
    refine hk_iload_n hC jd_L_weatherOf_11 1 rfl ?_
    refine hk_aload_n hC jd_L_weatherOf_12 0 rfl ?_
    refine hk_get hC jk_L 0 rfl 5 (by decide) jq_131 rfl jd_L_weatherOf_13 ?_
    obtain ⟨q1, h_q1, h⟩ := xb_go h
    refine hk_callN0i hC (jc_H_remainder l D cI cF N x1 weatherLength h_q1) jl_H_remainder jq_347 jq_348 rfl ⟨by decide, by decide⟩ rfl (Nat.le_of_ble_eq_true rfl) ⟨Nat.zero_le _, Nat.zero_le _⟩ jd_L_weatherOf_16 ?_
    obtain ⟨q2, h_q2, h⟩ := xb_go h
    refine hk_callSi hC (jc_R_at l D cI cF N (fun _ => (a 3)) 9 weather q1 h_q2) jl_R_at jq_344 jq_345 rfl ⟨by decide, by decide⟩ [3] rfl (by decide) rfl (ws2 := (wL cI a speeches speechLengths weather kindsOfCows thatches weatherLength mowers cows ricks)) rfl rfl (Nat.le_of_ble_eq_true rfl) ⟨Nat.zero_le _, Nat.zero_le _⟩ jd_L_weatherOf_19 ?_
    refine hk_goto (tgt := 26) hC jd_L_weatherOf_22 (by decide) ?_
    obtain rfl := Option.some.inj h
    exact hk_iret hC hr jd_L_weatherOf_26 rfl rfl
theorem jc_L_weatherOf (l : Launch) (D : va_G) (cI cF : ClassId) (N : Nat) (a : Nat → Nat)  (speeches : Nat → Int32) (speechLengths : Nat → Int32) (weather : Nat → Int32) (kindsOfCows : Nat → Int32) (thatches : Nat → Int32) (weatherLength : Int32) (mowers : Int32) (cows : Int32) (ricks : Int32) (x1 : Int32) {o : Int32} (h : jf_L_weatherOf N weather weatherLength x1 = some o) : hk_Mi l jy_L_weatherOf jb_L_weatherOf 2 (some .int) jr_L_weatherOf D cI cF (wL cI a speeches speechLengths weather kindsOfCows thatches weatherLength mowers cows ricks) [.ref (a 0), .int x1] o (wL cI a speeches speechLengths weather kindsOfCows thatches weatherLength mowers cows ricks) :=
  hk_metI (by decide) (Nat.le_of_ble_eq_true rfl) rfl rfl (fun p e s m args below meth c A hC hr => jw_L_weatherOf hC hr N a speeches speechLengths weather kindsOfCows thatches weatherLength mowers cows ricks x1 h)
set_option maxHeartbeats 8000000 in
set_option maxRecDepth 100000 in
theorem jw_S_isFull {p : Program} {l : Launch} {e : Env} {s : State} {m : MethodId} {args : Array Value} {below : List Frame} {meth : Method} {c : Code} {A : Nat → Prop} {D : va_G} {cI cF : ClassId} (hC : hk_ok p s m args meth c A 1 D cI cF "HayTalk$Seen" jb_S_isFull) (hr : meth.sig.returnType = (some .boolean)) (N : Nat) (a : Nat → Nat)  (words : Nat → Int32) (hours : Nat → Int32) (size : Int32)  {o : Int32} (h : jf_S_isFull N size = some o) : hk_W p l e jr_S_isFull s m args below meth c A (hk_Zi below args s D A o (wS cI a words hours size)) 1 D 0 0 (wS cI a words hours size) 0 [(0, .ref (a 0))] [] := by
  delta jf_S_isFull at h
  refine hk_aload_n hC jd_S_isFull_0 0 rfl ?_
  refine hk_get hC jk_S 0 rfl 2 (by decide) jq_111 rfl jd_S_isFull_1 ?_
  refine hk_bipush (v := 6) hC jd_S_isFull_4 (by decide) ?_
  refine hk_icmp_lt (tgt := 13) hC jd_S_isFull_6 (by decide) (fun cc1 => ?_) (fun cc1 => ?_)
  · replace h := xi_t h cc1
    refine hk_iconst (v := 0) hC jd_S_isFull_13 (by decide) ?_
    obtain rfl := Option.some.inj h
    exact hk_zret hC hr rfl jd_S_isFull_14 rfl rfl
  · replace h := xi_f h cc1
    refine hk_iconst (v := 1) hC jd_S_isFull_9 (by decide) ?_
    refine hk_goto (tgt := 14) hC jd_S_isFull_10 (by decide) ?_
    obtain rfl := Option.some.inj h
    exact hk_zret hC hr rfl jd_S_isFull_14 rfl rfl
theorem jc_S_isFull (l : Launch) (D : va_G) (cI cF : ClassId) (N : Nat) (a : Nat → Nat)  (words : Nat → Int32) (hours : Nat → Int32) (size : Int32)  {o : Int32} (h : jf_S_isFull N size = some o) : hk_Mi l jy_S_isFull jb_S_isFull 1 (some .boolean) jr_S_isFull D cI cF (wS cI a words hours size) [.ref (a 0)] o (wS cI a words hours size) :=
  hk_metI (by decide) (Nat.le_of_ble_eq_true rfl) rfl rfl (fun p e s m args below meth c A hC hr => jw_S_isFull hC hr N a words hours size h)
set_option maxHeartbeats 8000000 in
set_option maxRecDepth 100000 in
theorem jw_S_add {p : Program} {l : Launch} {e : Env} {s : State} {m : MethodId} {args : Array Value} {below : List Frame} {meth : Method} {c : Code} {A : Nat → Prop} {D : va_G} {cI cF : ClassId} (hC : hk_ok p s m args meth c A 3 D cI cF "HayTalk$Seen" jb_S_add) (hr : meth.sig.returnType = none) (N : Nat) (a : Nat → Nat)  (words : Nat → Int32) (hours : Nat → Int32) (size : Int32) (x1 : Int32) (x2 : Int32) {o : (Nat → Int32) × (Nat → Int32) × Int32} (h : jf_S_add N words hours size x1 x2 = some o) : hk_W p l e jr_S_add s m args below meth c A (hk_Zv below args s D A (wS cI a o.1 o.2.1 o.2.2)) 3 D 0 0 (wS cI a words hours size) 0 [(0, .ref (a 0)), (1, .int x1), (2, .int x2)] [] := by
  delta jf_S_add at h
  refine hk_aload_n hC jd_S_add_0 0 rfl ?_
  refine hk_get hC jk_S 0 rfl 0 (by decide) jq_109 rfl jd_S_add_1 ?_
  refine hk_aload_n hC jd_S_add_4 0 rfl ?_
  refine hk_get hC jk_S 0 rfl 2 (by decide) jq_111 rfl jd_S_add_5 ?_
  refine hk_iload_n hC jd_S_add_8 1 rfl ?_
  obtain ⟨q1, h_q1, h⟩ := xb_go h
  refine hk_callSv hC (jc_R_put l D cI cF N (fun _ => (a 1)) 6 words size x1 h_q1) jl_R_put jq_577 jq_222 rfl ⟨by decide, by decide⟩ [1] rfl (by decide) rfl (ws2 := (wS cI a q1 hours size)) rfl rfl (Nat.le_of_ble_eq_true rfl) ⟨Nat.zero_le _, Nat.zero_le _⟩ jd_S_add_9 ?_
  refine hk_aload_n hC jd_S_add_12 0 rfl ?_
  refine hk_get hC jk_S 0 rfl 1 (by decide) jq_110 rfl jd_S_add_13 ?_
  refine hk_aload_n hC jd_S_add_16 0 rfl ?_
  refine hk_get hC jk_S 0 rfl 2 (by decide) jq_111 rfl jd_S_add_17 ?_
  refine hk_iload_n hC jd_S_add_20 2 rfl ?_
  obtain ⟨q2, h_q2, h⟩ := xb_go h
  refine hk_callSv hC (jc_R_put l D cI cF N (fun _ => (a 2)) 6 hours size x2 h_q2) jl_R_put jq_577 jq_222 rfl ⟨by decide, by decide⟩ [2] rfl (by decide) rfl (ws2 := (wS cI a q1 q2 size)) rfl rfl (Nat.le_of_ble_eq_true rfl) ⟨Nat.zero_le _, Nat.zero_le _⟩ jd_S_add_21 ?_
  refine hk_aload_n hC jd_S_add_24 0 rfl ?_
  refine hk_dup hC jd_S_add_25 rfl ?_
  refine hk_get hC jk_S 0 rfl 2 (by decide) jq_111 rfl jd_S_add_26 ?_
  refine hk_iconst (v := 1) hC jd_S_add_29 (by decide) ?_
  refine hk_iadd hC jd_S_add_30 ?_
  obtain ⟨v1, e_v1, h⟩ := xl_go h
  refine hk_topi e_v1 ?_
  refine hk_put hC jk_S 0 rfl 2 (by decide) jq_111 rfl rfl rfl (Nat.le_of_ble_eq_true rfl) (ws2 := (wS cI a q1 q2 v1)) rfl jd_S_add_31 ?_
  obtain rfl := Option.some.inj h
  exact hk_vret hC hr jd_S_add_34 rfl
theorem jc_S_add (l : Launch) (D : va_G) (cI cF : ClassId) (N : Nat) (a : Nat → Nat)  (words : Nat → Int32) (hours : Nat → Int32) (size : Int32) (x1 : Int32) (x2 : Int32) {o : (Nat → Int32) × (Nat → Int32) × Int32} (h : jf_S_add N words hours size x1 x2 = some o) : hk_Mv l jy_S_add jb_S_add 3 jr_S_add D cI cF (wS cI a words hours size) [.ref (a 0), .int x1, .int x2] (wS cI a o.1 o.2.1 o.2.2) :=
  hk_metV (by decide) (Nat.le_of_ble_eq_true rfl) rfl rfl (fun p e s m args below meth c A hC hr => jw_S_add hC hr N a words hours size x1 x2 h)
