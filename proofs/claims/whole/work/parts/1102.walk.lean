set_option maxHeartbeats 8000000 in
set_option maxRecDepth 100000 in
theorem jw_L_readRow {p : Program} {l : Launch} {e : Env} {s : State} {m : MethodId} {args : Array Value} {below : List Frame} {meth : Method} {c : Code} {A : Nat → Prop} {D : va_G} {cI cF : ClassId} (hC : hk_ok p s m args meth c A 9 D cI cF "HayTalk$Land" jb_L_readRow) (hr : meth.sig.returnType = (some .boolean)) (N : Nat) (aT : Nat → Nat) (w0 : Nat → Nat) (n0 : Nat) (t_letters : Nat → Int32) (t_length : Int32) (u0 : Nat → Int32) (x1 : Int32) (x2 : Int32) (x3 : Int32) (x5 : Int32) {o : Int32 × (Nat → Int32)} (h : jf_L_readRow N n0 t_letters t_length u0 x1 x2 x3 x5 = some o) : hk_W p l e jr_L_readRow s m args below meth c A (hk_Zi below args s D A o.1 ((wT cI aT t_letters t_length) ++ (wA cI w0 n0 o.2))) 9 D 0 0 ((wT cI aT t_letters t_length) ++ (wA cI w0 n0 u0)) 0 [(0, .ref (aT 0)), (1, .int x1), (2, .int x2), (3, .int x3), (4, .ref (w0 0)), (5, .int x5)] [] := by
  have B_21 : ∀ (n0 : Nat) (t_letters : Nat → Int32) (t_length : Int32) (u0 : Nat → Int32) (x1 : Int32) (x3 : Int32) (x5 : Int32) (x6 : Int32) (x7 : Int32) (kh21 : ((Nat → Int32) × Int32) → Option (Int32 × (Nat → Int32))) (ihh21 : ∀ q, kh21 q = some o → hk_W p l e jr_L_readRow s m args below meth c A (hk_Zi below args s D A o.1 ((wT cI aT t_letters t_length) ++ (wA cI w0 n0 o.2))) 9 D 0 0 ((wT cI aT t_letters t_length) ++ (wA cI w0 n0 q.1)) 21 [(0, .ref (aT 0)), (1, .int x1), (3, .int x3), (4, .ref (w0 0)), (5, .int x5), (6, .int x6), (7, .int q.2)] []) (_ : jf_L_readRow_21B N n0 t_letters t_length u0 x1 x3 x5 x6 x7 kh21 = some o), hk_W p l e jr_L_readRow s m args below meth c A (hk_Zi below args s D A o.1 ((wT cI aT t_letters t_length) ++ (wA cI w0 n0 o.2))) 9 D 0 0 ((wT cI aT t_letters t_length) ++ (wA cI w0 n0 u0)) 21 [(0, .ref (aT 0)), (1, .int x1), (3, .int x3), (4, .ref (w0 0)), (5, .int x5), (6, .int x6), (7, .int x7)] [] := by
    intro n0 t_letters t_length u0 x1 x3 x5 x6 x7 kh21 ihh21 h
    delta jf_L_readRow_21B at h
    refine hk_iload hC jd_L_readRow_21 6 rfl ?_
    refine hk_iload hC jd_L_readRow_23 5 rfl ?_
    refine hk_icmp_ge (tgt := 68) hC jd_L_readRow_25 (by decide) (fun cc1 => ?_) (fun cc1 => ?_)
    · replace h := xi_t h cc1
      refine hk_iconst (v := 1) hC jd_L_readRow_68 (by decide) ?_
      obtain rfl := Option.some.inj h
      exact hk_zret hC hr rfl jd_L_readRow_69 rfl rfl
    · replace h := xi_f h cc1
      refine hk_aload_n hC jd_L_readRow_28 0 rfl ?_
      refine hk_iload_n hC jd_L_readRow_29 1 rfl ?_
      refine hk_iload hC jd_L_readRow_30 6 rfl ?_
      refine hk_iadd hC jd_L_readRow_32 ?_
      obtain ⟨q1, h_q1, h⟩ := xb_go h
      refine hk_callVi hC (q0 := 0) (jc_T_figureAt l D cI cF N aT t_letters t_length (x1 + x7) h_q1) jl_T_figureAt rfl rfl jq_251 jq_252 jq_253 rfl ⟨by decide, by decide⟩ [0, 1] rfl (by decide) rfl (ws2 := ((wT cI aT t_letters t_length) ++ (wA cI w0 n0 u0))) rfl rfl (Nat.le_of_ble_eq_true rfl) ⟨Nat.zero_le _, Nat.zero_le _⟩ jd_L_readRow_33 ?_
      refine hk_istore hC (i := 8) (y := q1) (lv2 := [(8, .int q1), (0, .ref (aT 0)), (1, .int x1), (3, .int x3), (4, .ref (w0 0)), (5, .int x5), (6, .int x6), (7, .int x7)]) jd_L_readRow_36 rfl (by decide) rfl ?_
      refine hk_iload hC jd_L_readRow_38 0 rfl ?_
      refine hk_iconst (v := 0) hC jd_L_readRow_40 (by decide) ?_
      refine hk_iload_n hC jd_L_readRow_41 3 rfl ?_
      obtain ⟨q2, h_q2, h⟩ := xb_go h
      refine hk_callN0i hC (jc_H_isWithin l D cI cF N q1 (0 : Int32) x3 h_q2) jl_H_isWithin jq_248 jq_249 rfl ⟨by decide, by decide⟩ rfl (Nat.le_of_ble_eq_true rfl) ⟨Nat.zero_le _, Nat.zero_le _⟩ jd_L_readRow_42 ?_
      refine hk_if_ne (tgt := 50) hC jd_L_readRow_45 (by decide) (fun cc2 => ?_) (fun cc2 => ?_)
      · replace h := xi_f h cc2
        refine hk_aload hC jd_L_readRow_50 4 rfl ?_
        refine hk_iload hC jd_L_readRow_52 5 rfl ?_
        refine hk_iload hC jd_L_readRow_54 7 rfl ?_
        refine hk_iadd hC jd_L_readRow_56 ?_
        refine hk_iload hC jd_L_readRow_57 0 rfl ?_
        obtain ⟨q3, h_q3, h⟩ := xb_go h
        refine hk_callSv hC (jc_R_put l D cI cF N (fun _ => (w0 0)) n0 u0 (x5 + x7) q1 h_q3) jl_R_put jq_256 jq_222 rfl ⟨by decide, by decide⟩ [2] rfl (by decide) rfl (ws2 := ((wT cI aT t_letters t_length) ++ (wA cI w0 n0 q3))) rfl rfl (Nat.le_of_ble_eq_true rfl) ⟨Nat.zero_le _, Nat.zero_le _⟩ jd_L_readRow_59 ?_
        obtain ⟨v1, e_v1, h⟩ := xl_go h
        refine hk_iinc hC (lv2 := [(7, .int v1), (8, .int q1), (0, .ref (aT 0)), (1, .int x1), (3, .int x3), (4, .ref (w0 0)), (5, .int x5), (6, .int x6)]) jd_L_readRow_62 7 rfl e_v1 (by decide) rfl ?_
        refine hk_goto (tgt := 21) hC jd_L_readRow_65 (by decide) ?_
        exact hk_lv [2, 3, 4, 5, 6, 7, 0] rfl (ihh21 (q3, v1) h)
      · replace h := xi_t h cc2
        refine hk_iconst (v := 0) hC jd_L_readRow_48 (by decide) ?_
        obtain rfl := Option.some.inj h
        exact hk_zret hC hr rfl jd_L_readRow_49 rfl rfl
  have L_21 : ∀ (n0 : Nat) (t_letters : Nat → Int32) (t_length : Int32) (u0 : Nat → Int32) (x1 : Int32) (x3 : Int32) (x5 : Int32) (x6 : Int32) (x7 : Int32)   (_ : jf_L_readRow_21 N n0 t_letters t_length u0 x1 x3 x5 x6 x7  = some o), hk_W p l e jr_L_readRow s m args below meth c A (hk_Zi below args s D A o.1 ((wT cI aT t_letters t_length) ++ (wA cI w0 n0 o.2))) 9 D 0 0 ((wT cI aT t_letters t_length) ++ (wA cI w0 n0 u0)) 21 [(0, .ref (aT 0)), (1, .int x1), (3, .int x3), (4, .ref (w0 0)), (5, .int x5), (6, .int x6), (7, .int x7)] [] := by
    intro n0 t_letters t_length u0 x1 x3 x5 x6 x7   h
    exact xloopW (fun (q : (Nat → Int32) × Int32) => hk_W p l e jr_L_readRow s m args below meth c A (hk_Zi below args s D A o.1 ((wT cI aT t_letters t_length) ++ (wA cI w0 n0 o.2))) 9 D 0 0 ((wT cI aT t_letters t_length) ++ (wA cI w0 n0 q.1)) 21 [(0, .ref (aT 0)), (1, .int x1), (3, .int x3), (4, .ref (w0 0)), (5, .int x5), (6, .int x6), (7, .int q.2)] []) (fun kh ih q h => B_21 n0 t_letters t_length q.1 x1 x3 x5 x6 q.2 kh  ih  h) N (u0, x7) h
  delta jf_L_readRow at h
  refine hk_iload_n hC jd_L_readRow_0 2 rfl ?_
  refine hk_iload_n hC jd_L_readRow_1 1 rfl ?_
  refine hk_isub hC jd_L_readRow_2 ?_
  obtain ⟨v1, e_v1, h⟩ := xl_go h
  refine hk_istore hC (i := 6) (y := v1) (lv2 := [(6, .int v1), (0, .ref (aT 0)), (1, .int x1), (2, .int x2), (3, .int x3), (4, .ref (w0 0)), (5, .int x5)]) jd_L_readRow_3 e_v1 (by decide) rfl ?_
  refine hk_iload hC jd_L_readRow_5 0 rfl ?_
  refine hk_iconst (v := 1) hC jd_L_readRow_7 (by decide) ?_
  refine hk_bipush (v := 9) hC jd_L_readRow_8 (by decide) ?_
  obtain ⟨q1, h_q1, h⟩ := xb_go h
  refine hk_callN0i hC (jc_H_isWithin l D cI cF N v1 (1 : Int32) (9 : Int32) h_q1) jl_H_isWithin jq_248 jq_249 rfl ⟨by decide, by decide⟩ rfl (Nat.le_of_ble_eq_true rfl) ⟨Nat.zero_le _, Nat.zero_le _⟩ jd_L_readRow_10 ?_
  refine hk_if_ne (tgt := 18) hC jd_L_readRow_13 (by decide) (fun cc1 => ?_) (fun cc1 => ?_)
  · replace h := xi_f h cc1
    refine hk_iconst (v := 0) hC jd_L_readRow_18 (by decide) ?_
    refine hk_istore hC (i := 7) (y := (0 : Int32)) (lv2 := [(7, .int (0 : Int32)), (6, .int v1), (0, .ref (aT 0)), (1, .int x1), (2, .int x2), (3, .int x3), (4, .ref (w0 0)), (5, .int x5)]) jd_L_readRow_19 rfl (by decide) rfl ?_
    exact hk_lv [2, 3, 5, 6, 7, 1, 0] rfl (L_21 n0 t_letters t_length u0 x1 x3 x5 v1 (0 : Int32)   h)
  · replace h := xi_t h cc1
    refine hk_iconst (v := 0) hC jd_L_readRow_16 (by decide) ?_
    obtain rfl := Option.some.inj h
    exact hk_zret hC hr rfl jd_L_readRow_17 rfl rfl
theorem jc_L_readRow (l : Launch) (D : va_G) (cI cF : ClassId) (N : Nat) (aT : Nat → Nat) (w0 : Nat → Nat) (n0 : Nat) (t_letters : Nat → Int32) (t_length : Int32) (u0 : Nat → Int32) (x1 : Int32) (x2 : Int32) (x3 : Int32) (x5 : Int32) {o : Int32 × (Nat → Int32)} (h : jf_L_readRow N n0 t_letters t_length u0 x1 x2 x3 x5 = some o) : hk_Mi l jy_L_readRow jb_L_readRow 9 (some .boolean) jr_L_readRow D cI cF ((wT cI aT t_letters t_length) ++ (wA cI w0 n0 u0)) [.ref (aT 0), .int x1, .int x2, .int x3, .ref (w0 0), .int x5] o.1 ((wT cI aT t_letters t_length) ++ (wA cI w0 n0 o.2)) :=
  hk_metI (by decide) (Nat.le_of_ble_eq_true rfl) rfl rfl (fun p e s m args below meth c A hC hr => jw_L_readRow hC hr N aT w0 n0 t_letters t_length u0 x1 x2 x3 x5 h)
set_option maxHeartbeats 8000000 in
set_option maxRecDepth 100000 in
theorem jw_L_readMower {p : Program} {l : Launch} {e : Env} {s : State} {m : MethodId} {args : Array Value} {below : List Frame} {meth : Method} {c : Code} {A : Nat → Prop} {D : va_G} {cI cF : ClassId} (hC : hk_ok p s m args meth c A 4 D cI cF "HayTalk$Land" jb_L_readMower) (hr : meth.sig.returnType = (some .boolean)) (N : Nat) (a : Nat → Nat) (aT : Nat → Nat)  (speeches : Nat → Int32) (speechLengths : Nat → Int32) (weather : Nat → Int32) (kindsOfCows : Nat → Int32) (thatches : Nat → Int32) (weatherLength : Int32) (mowers : Int32) (cows : Int32) (ricks : Int32) (t_letters : Nat → Int32) (t_length : Int32) (x2 : Int32) (x3 : Int32) {o : Int32 × (Nat → Int32) × (Nat → Int32) × Int32} (h : jf_L_readMower N speeches speechLengths mowers t_letters t_length x2 x3 = some o) : hk_W p l e jr_L_readMower s m args below meth c A (hk_Zi below args s D A o.1 ((wL cI a o.2.1 o.2.2.1 weather kindsOfCows thatches weatherLength o.2.2.2 cows ricks) ++ (wT cI aT t_letters t_length))) 4 D 0 0 ((wL cI a speeches speechLengths weather kindsOfCows thatches weatherLength mowers cows ricks) ++ (wT cI aT t_letters t_length)) 0 [(0, .ref (a 0)), (1, .ref (aT 0)), (2, .int x2), (3, .int x3)] [] := by
  delta jf_L_readMower at h
  refine hk_aload_n hC jd_L_readMower_0 0 rfl ?_
  refine hk_get hC jk_L 0 rfl 6 (by decide) jq_132 rfl jd_L_readMower_1 ?_
  refine hk_iconst (v := 5) hC jd_L_readMower_4 (by decide) ?_
  refine hk_icmp_ge (tgt := 30) hC jd_L_readMower_5 (by decide) (fun cc1 => ?_) (fun cc1 => ?_)
  · replace h := xi_t h cc1
    refine hk_iconst (v := 0) hC jd_L_readMower_30 (by decide) ?_
    obtain rfl := Option.some.inj h
    exact hk_zret hC hr rfl jd_L_readMower_31 rfl rfl
  · replace h := xi_f h cc1
    refine hk_aload_n hC jd_L_readMower_8 1 rfl ?_
    refine hk_iload_n hC jd_L_readMower_9 2 rfl ?_
    refine hk_iload_n hC jd_L_readMower_10 3 rfl ?_
    refine hk_bipush (v := 9) hC jd_L_readMower_11 (by decide) ?_
    refine hk_aload_n hC jd_L_readMower_13 0 rfl ?_
    refine hk_get hC jk_L 0 rfl 0 (by decide) jq_126 rfl jd_L_readMower_14 ?_
    refine hk_aload_n hC jd_L_readMower_17 0 rfl ?_
    refine hk_get hC jk_L 0 rfl 6 (by decide) jq_132 rfl jd_L_readMower_18 ?_
    refine hk_bipush (v := 9) hC jd_L_readMower_21 (by decide) ?_
    refine hk_imul hC jd_L_readMower_23 ?_
    obtain ⟨q1, h_q1, h⟩ := xb_go h
    refine hk_callSi hC (jc_L_readRow l D cI cF N aT (fun _ => (a 1)) 45 t_letters t_length speeches x2 x3 (9 : Int32) (mowers * (9 : Int32)) h_q1) jl_L_readRow jq_245 jq_246 rfl ⟨by decide, by decide⟩ [6, 7, 1] rfl (by decide) rfl (ws2 := ((wL cI a q1.2 speechLengths weather kindsOfCows thatches weatherLength mowers cows ricks) ++ (wT cI aT t_letters t_length))) rfl rfl (Nat.le_of_ble_eq_true rfl) ⟨Nat.zero_le _, Nat.zero_le _⟩ jd_L_readMower_24 ?_
    refine hk_if_ne (tgt := 32) hC jd_L_readMower_27 (by decide) (fun cc2 => ?_) (fun cc2 => ?_)
    · replace h := xi_f h cc2
      refine hk_aload_n hC jd_L_readMower_32 0 rfl ?_
      refine hk_get hC jk_L 0 rfl 1 (by decide) jq_127 rfl jd_L_readMower_33 ?_
      refine hk_aload_n hC jd_L_readMower_36 0 rfl ?_
      refine hk_get hC jk_L 0 rfl 6 (by decide) jq_132 rfl jd_L_readMower_37 ?_
      refine hk_iload_n hC jd_L_readMower_40 3 rfl ?_
      refine hk_iload_n hC jd_L_readMower_41 2 rfl ?_
      refine hk_isub hC jd_L_readMower_42 ?_
      obtain ⟨q2, h_q2, h⟩ := xb_go h
      refine hk_callSv hC (jc_R_put l D cI cF N (fun _ => (a 2)) 5 speechLengths mowers (x3 - x2) h_q2) jl_R_put jq_256 jq_222 rfl ⟨by decide, by decide⟩ [2] rfl (by decide) rfl (ws2 := ((wL cI a q1.2 q2 weather kindsOfCows thatches weatherLength mowers cows ricks) ++ (wT cI aT t_letters t_length))) rfl rfl (Nat.le_of_ble_eq_true rfl) ⟨Nat.zero_le _, Nat.zero_le _⟩ jd_L_readMower_43 ?_
      refine hk_aload_n hC jd_L_readMower_46 0 rfl ?_
      refine hk_dup hC jd_L_readMower_47 rfl ?_
      refine hk_get hC jk_L 0 rfl 6 (by decide) jq_132 rfl jd_L_readMower_48 ?_
      refine hk_iconst (v := 1) hC jd_L_readMower_51 (by decide) ?_
      refine hk_iadd hC jd_L_readMower_52 ?_
      obtain ⟨v1, e_v1, h⟩ := xl_go h
      refine hk_topi e_v1 ?_
      refine hk_put hC jk_L 0 rfl 6 (by decide) jq_132 rfl rfl rfl (Nat.le_of_ble_eq_true rfl) (ws2 := ((wL cI a q1.2 q2 weather kindsOfCows thatches weatherLength v1 cows ricks) ++ (wT cI aT t_letters t_length))) rfl jd_L_readMower_53 ?_
      refine hk_iconst (v := 1) hC jd_L_readMower_56 (by decide) ?_
      obtain rfl := Option.some.inj h
      exact hk_zret hC hr rfl jd_L_readMower_57 rfl rfl
    · replace h := xi_t h cc2
      refine hk_iconst (v := 0) hC jd_L_readMower_30 (by decide) ?_
      obtain rfl := Option.some.inj h
      exact hk_zret hC hr rfl jd_L_readMower_31 rfl rfl
theorem jc_L_readMower (l : Launch) (D : va_G) (cI cF : ClassId) (N : Nat) (a : Nat → Nat) (aT : Nat → Nat)  (speeches : Nat → Int32) (speechLengths : Nat → Int32) (weather : Nat → Int32) (kindsOfCows : Nat → Int32) (thatches : Nat → Int32) (weatherLength : Int32) (mowers : Int32) (cows : Int32) (ricks : Int32) (t_letters : Nat → Int32) (t_length : Int32) (x2 : Int32) (x3 : Int32) {o : Int32 × (Nat → Int32) × (Nat → Int32) × Int32} (h : jf_L_readMower N speeches speechLengths mowers t_letters t_length x2 x3 = some o) : hk_Mi l jy_L_readMower jb_L_readMower 4 (some .boolean) jr_L_readMower D cI cF ((wL cI a speeches speechLengths weather kindsOfCows thatches weatherLength mowers cows ricks) ++ (wT cI aT t_letters t_length)) [.ref (a 0), .ref (aT 0), .int x2, .int x3] o.1 ((wL cI a o.2.1 o.2.2.1 weather kindsOfCows thatches weatherLength o.2.2.2 cows ricks) ++ (wT cI aT t_letters t_length)) :=
  hk_metI (by decide) (Nat.le_of_ble_eq_true rfl) rfl rfl (fun p e s m args below meth c A hC hr => jw_L_readMower hC hr N a aT speeches speechLengths weather kindsOfCows thatches weatherLength mowers cows ricks t_letters t_length x2 x3 h)
set_option maxHeartbeats 8000000 in
set_option maxRecDepth 100000 in
theorem jw_L_readWeather {p : Program} {l : Launch} {e : Env} {s : State} {m : MethodId} {args : Array Value} {below : List Frame} {meth : Method} {c : Code} {A : Nat → Prop} {D : va_G} {cI cF : ClassId} (hC : hk_ok p s m args meth c A 4 D cI cF "HayTalk$Land" jb_L_readWeather) (hr : meth.sig.returnType = (some .boolean)) (N : Nat) (a : Nat → Nat) (aT : Nat → Nat)  (speeches : Nat → Int32) (speechLengths : Nat → Int32) (weather : Nat → Int32) (kindsOfCows : Nat → Int32) (thatches : Nat → Int32) (weatherLength : Int32) (mowers : Int32) (cows : Int32) (ricks : Int32) (t_letters : Nat → Int32) (t_length : Int32) (x2 : Int32) (x3 : Int32) {o : Int32 × (Nat → Int32) × Int32} (h : jf_L_readWeather N weather weatherLength t_letters t_length x2 x3 = some o) : hk_W p l e jr_L_readWeather s m args below meth c A (hk_Zi below args s D A o.1 ((wL cI a speeches speechLengths o.2.1 kindsOfCows thatches o.2.2 mowers cows ricks) ++ (wT cI aT t_letters t_length))) 4 D 0 0 ((wL cI a speeches speechLengths weather kindsOfCows thatches weatherLength mowers cows ricks) ++ (wT cI aT t_letters t_length)) 0 [(0, .ref (a 0)), (1, .ref (aT 0)), (2, .int x2), (3, .int x3)] [] := by
  delta jf_L_readWeather at h
  refine hk_aload_n hC jd_L_readWeather_0 1 rfl ?_
  refine hk_iload_n hC jd_L_readWeather_1 2 rfl ?_
  refine hk_iload_n hC jd_L_readWeather_2 3 rfl ?_
  refine hk_iconst (v := 3) hC jd_L_readWeather_3 (by decide) ?_
  refine hk_aload_n hC jd_L_readWeather_4 0 rfl ?_
  refine hk_get hC jk_L 0 rfl 2 (by decide) jq_128 rfl jd_L_readWeather_5 ?_
  refine hk_iconst (v := 0) hC jd_L_readWeather_8 (by decide) ?_
  obtain ⟨q1, h_q1, h⟩ := xb_go h
  refine hk_callSi hC (jc_L_readRow l D cI cF N aT (fun _ => (a 3)) 9 t_letters t_length weather x2 x3 (3 : Int32) (0 : Int32) h_q1) jl_L_readRow jq_245 jq_246 rfl ⟨by decide, by decide⟩ [6, 7, 3] rfl (by decide) rfl (ws2 := ((wL cI a speeches speechLengths q1.2 kindsOfCows thatches weatherLength mowers cows ricks) ++ (wT cI aT t_letters t_length))) rfl rfl (Nat.le_of_ble_eq_true rfl) ⟨Nat.zero_le _, Nat.zero_le _⟩ jd_L_readWeather_9 ?_
  refine hk_if_ne (tgt := 17) hC jd_L_readWeather_12 (by decide) (fun cc1 => ?_) (fun cc1 => ?_)
  · replace h := xi_f h cc1
    refine hk_aload_n hC jd_L_readWeather_17 0 rfl ?_
    refine hk_iload_n hC jd_L_readWeather_18 3 rfl ?_
    refine hk_iload_n hC jd_L_readWeather_19 2 rfl ?_
    refine hk_isub hC jd_L_readWeather_20 ?_
    obtain ⟨v1, e_v1, h⟩ := xl_go h
    refine hk_topi e_v1 ?_
    refine hk_put hC jk_L 0 rfl 5 (by decide) jq_131 rfl rfl rfl (Nat.le_of_ble_eq_true rfl) (ws2 := ((wL cI a speeches speechLengths q1.2 kindsOfCows thatches v1 mowers cows ricks) ++ (wT cI aT t_letters t_length))) rfl jd_L_readWeather_21 ?_
    refine hk_iconst (v := 1) hC jd_L_readWeather_24 (by decide) ?_
    obtain rfl := Option.some.inj h
    exact hk_zret hC hr rfl jd_L_readWeather_25 rfl rfl
  · replace h := xi_t h cc1
    refine hk_iconst (v := 0) hC jd_L_readWeather_15 (by decide) ?_
    obtain rfl := Option.some.inj h
    exact hk_zret hC hr rfl jd_L_readWeather_16 rfl rfl
theorem jc_L_readWeather (l : Launch) (D : va_G) (cI cF : ClassId) (N : Nat) (a : Nat → Nat) (aT : Nat → Nat)  (speeches : Nat → Int32) (speechLengths : Nat → Int32) (weather : Nat → Int32) (kindsOfCows : Nat → Int32) (thatches : Nat → Int32) (weatherLength : Int32) (mowers : Int32) (cows : Int32) (ricks : Int32) (t_letters : Nat → Int32) (t_length : Int32) (x2 : Int32) (x3 : Int32) {o : Int32 × (Nat → Int32) × Int32} (h : jf_L_readWeather N weather weatherLength t_letters t_length x2 x3 = some o) : hk_Mi l jy_L_readWeather jb_L_readWeather 4 (some .boolean) jr_L_readWeather D cI cF ((wL cI a speeches speechLengths weather kindsOfCows thatches weatherLength mowers cows ricks) ++ (wT cI aT t_letters t_length)) [.ref (a 0), .ref (aT 0), .int x2, .int x3] o.1 ((wL cI a speeches speechLengths o.2.1 kindsOfCows thatches o.2.2 mowers cows ricks) ++ (wT cI aT t_letters t_length)) :=
  hk_metI (by decide) (Nat.le_of_ble_eq_true rfl) rfl rfl (fun p e s m args below meth c A hC hr => jw_L_readWeather hC hr N a aT speeches speechLengths weather kindsOfCows thatches weatherLength mowers cows ricks t_letters t_length x2 x3 h)
set_option maxHeartbeats 8000000 in
set_option maxRecDepth 100000 in
theorem jw_L_numberIn {p : Program} {l : Launch} {e : Env} {s : State} {m : MethodId} {args : Array Value} {below : List Frame} {meth : Method} {c : Code} {A : Nat → Prop} {D : va_G} {cI cF : ClassId} (hC : hk_ok p s m args meth c A 7 D cI cF "HayTalk$Land" jb_L_numberIn) (hr : meth.sig.returnType = (some .int)) (N : Nat) (aT : Nat → Nat)  (t_letters : Nat → Int32) (t_length : Int32) (x1 : Int32) (x2 : Int32) {o : Int32} (h : jf_L_numberIn N t_letters t_length x1 x2 = some o) : hk_W p l e jr_L_numberIn s m args below meth c A (hk_Zi below args s D A o (wT cI aT t_letters t_length)) 7 D 0 0 (wT cI aT t_letters t_length) 0 [(0, .ref (aT 0)), (1, .int x1), (2, .int x2)] [] := by
  have B_22 : ∀ (t_letters : Nat → Int32) (t_length : Int32) (x1 : Int32) (x3 : Int32) (x4 : Int32) (x5 : Int32) (kh22 : (Int32 × Int32) → Option (Int32)) (ihh22 : ∀ q, kh22 q = some o → hk_W p l e jr_L_numberIn s m args below meth c A (hk_Zi below args s D A o (wT cI aT t_letters t_length)) 7 D 0 0 (wT cI aT t_letters t_length) 22 [(0, .ref (aT 0)), (1, .int x1), (3, .int x3), (4, .int q.1), (5, .int q.2)] []) (_ : jf_L_numberIn_22B N t_letters t_length x1 x3 x4 x5 kh22 = some o), hk_W p l e jr_L_numberIn s m args below meth c A (hk_Zi below args s D A o (wT cI aT t_letters t_length)) 7 D 0 0 (wT cI aT t_letters t_length) 22 [(0, .ref (aT 0)), (1, .int x1), (3, .int x3), (4, .int x4), (5, .int x5)] [] := by
    intro t_letters t_length x1 x3 x4 x5 kh22 ihh22 h
    delta jf_L_numberIn_22B at h
    refine hk_iload hC jd_L_numberIn_22 4 rfl ?_
    refine hk_iload_n hC jd_L_numberIn_24 2 rfl ?_
    refine hk_icmp_ge (tgt := 64) hC jd_L_numberIn_25 (by decide) (fun cc1 => ?_) (fun cc1 => ?_)
    · replace h := xi_t h cc1
      refine hk_iload hC jd_L_numberIn_64 3 rfl ?_
      obtain rfl := Option.some.inj h
      exact hk_iret hC hr jd_L_numberIn_66 rfl rfl
    · replace h := xi_f h cc1
      refine hk_aload_n hC jd_L_numberIn_28 0 rfl ?_
      refine hk_iload_n hC jd_L_numberIn_29 1 rfl ?_
      refine hk_iload hC jd_L_numberIn_30 4 rfl ?_
      refine hk_iadd hC jd_L_numberIn_32 ?_
      obtain ⟨q1, h_q1, h⟩ := xb_go h
      refine hk_callVWi hC (q0 := 0) (jc_T_figureAt l D cI cF N aT t_letters t_length (x1 + x5) h_q1) jl_T_figureAt rfl rfl jq_251 jq_252 jq_253 rfl ⟨by decide, by decide⟩ rfl rfl (Nat.le_of_ble_eq_true rfl) ⟨Nat.zero_le _, Nat.zero_le _⟩ jd_L_numberIn_33 ?_
      refine hk_istore hC (i := 6) (y := q1) (lv2 := [(6, .int q1), (0, .ref (aT 0)), (1, .int x1), (3, .int x3), (4, .int x4), (5, .int x5)]) jd_L_numberIn_36 rfl (by decide) rfl ?_
      refine hk_iload hC jd_L_numberIn_38 0 rfl ?_
      refine hk_bipush (v := -4) hC jd_L_numberIn_40 (by decide) ?_
      refine hk_icmp_ne (tgt := 48) hC jd_L_numberIn_42 (by decide) (fun cc2 => ?_) (fun cc2 => ?_)
      · replace h := xi_f h cc2
        refine hk_bipush (v := 10) hC jd_L_numberIn_48 (by decide) ?_
        refine hk_iload hC jd_L_numberIn_50 4 rfl ?_
        refine hk_imul hC jd_L_numberIn_52 ?_
        refine hk_iload hC jd_L_numberIn_53 0 rfl ?_
        refine hk_iadd hC jd_L_numberIn_55 ?_
        obtain ⟨v1, e_v1, h⟩ := xl_go h
        refine hk_istore hC (i := 4) (y := v1) (lv2 := [(4, .int v1), (6, .int q1), (0, .ref (aT 0)), (1, .int x1), (3, .int x3), (5, .int x5)]) jd_L_numberIn_56 e_v1 (by decide) rfl ?_
        obtain ⟨v2, e_v2, h⟩ := xl_go h
        refine hk_iinc hC (lv2 := [(5, .int v2), (4, .int v1), (6, .int q1), (0, .ref (aT 0)), (1, .int x1), (3, .int x3)]) jd_L_numberIn_58 5 rfl e_v2 (by decide) rfl ?_
        refine hk_goto (tgt := 22) hC jd_L_numberIn_61 (by decide) ?_
        exact hk_lv [3, 4, 5, 1, 0] rfl (ihh22 (v1, v2) h)
      · replace h := xi_t h cc2
        refine hk_bipush (v := -4) hC jd_L_numberIn_45 (by decide) ?_
        obtain rfl := Option.some.inj h
        exact hk_iret hC hr jd_L_numberIn_47 rfl rfl
  have L_22 : ∀ (t_letters : Nat → Int32) (t_length : Int32) (x1 : Int32) (x3 : Int32) (x4 : Int32) (x5 : Int32)   (_ : jf_L_numberIn_22 N t_letters t_length x1 x3 x4 x5  = some o), hk_W p l e jr_L_numberIn s m args below meth c A (hk_Zi below args s D A o (wT cI aT t_letters t_length)) 7 D 0 0 (wT cI aT t_letters t_length) 22 [(0, .ref (aT 0)), (1, .int x1), (3, .int x3), (4, .int x4), (5, .int x5)] [] := by
    intro t_letters t_length x1 x3 x4 x5   h
    exact xloopW (fun (q : Int32 × Int32) => hk_W p l e jr_L_numberIn s m args below meth c A (hk_Zi below args s D A o (wT cI aT t_letters t_length)) 7 D 0 0 (wT cI aT t_letters t_length) 22 [(0, .ref (aT 0)), (1, .int x1), (3, .int x3), (4, .int q.1), (5, .int q.2)] []) (fun kh ih q h => B_22 t_letters t_length x1 x3 q.1 q.2 kh  ih  h) N (x4, x5) h
  delta jf_L_numberIn at h
  refine hk_iload_n hC jd_L_numberIn_0 2 rfl ?_
  refine hk_iload_n hC jd_L_numberIn_1 1 rfl ?_
  refine hk_isub hC jd_L_numberIn_2 ?_
  obtain ⟨v1, e_v1, h⟩ := xl_go h
  refine hk_istore_n hC (i := 3) (y := v1) (lv2 := [(3, .int v1), (0, .ref (aT 0)), (1, .int x1), (2, .int x2)]) jd_L_numberIn_3 rfl e_v1 (by decide) rfl ?_
  refine hk_iload_n hC jd_L_numberIn_4 0 rfl ?_
  refine hk_iconst (v := 1) hC jd_L_numberIn_5 (by decide) ?_
  refine hk_iconst (v := 2) hC jd_L_numberIn_6 (by decide) ?_
  obtain ⟨q1, h_q1, h⟩ := xb_go h
  refine hk_callN0i hC (jc_H_isWithin l D cI cF N v1 (1 : Int32) (2 : Int32) h_q1) jl_H_isWithin jq_248 jq_249 rfl ⟨by decide, by decide⟩ rfl (Nat.le_of_ble_eq_true rfl) ⟨Nat.zero_le _, Nat.zero_le _⟩ jd_L_numberIn_7 ?_
  refine hk_if_ne (tgt := 16) hC jd_L_numberIn_10 (by decide) (fun cc1 => ?_) (fun cc1 => ?_)
  · replace h := xi_f h cc1
    refine hk_iconst (v := 0) hC jd_L_numberIn_16 (by decide) ?_
    refine hk_istore hC (i := 4) (y := (0 : Int32)) (lv2 := [(4, .int (0 : Int32)), (3, .int v1), (0, .ref (aT 0)), (1, .int x1), (2, .int x2)]) jd_L_numberIn_17 rfl (by decide) rfl ?_
    refine hk_iconst (v := 0) hC jd_L_numberIn_19 (by decide) ?_
    refine hk_istore hC (i := 5) (y := (0 : Int32)) (lv2 := [(5, .int (0 : Int32)), (4, .int (0 : Int32)), (3, .int v1), (0, .ref (aT 0)), (1, .int x1), (2, .int x2)]) jd_L_numberIn_20 rfl (by decide) rfl ?_
    exact hk_lv [3, 4, 2, 1, 0] rfl (L_22 t_letters t_length x1 v1 (0 : Int32) (0 : Int32)   h)
  · replace h := xi_t h cc1
    refine hk_bipush (v := -4) hC jd_L_numberIn_13 (by decide) ?_
    obtain rfl := Option.some.inj h
    exact hk_iret hC hr jd_L_numberIn_15 rfl rfl
theorem jc_L_numberIn (l : Launch) (D : va_G) (cI cF : ClassId) (N : Nat) (aT : Nat → Nat)  (t_letters : Nat → Int32) (t_length : Int32) (x1 : Int32) (x2 : Int32) {o : Int32} (h : jf_L_numberIn N t_letters t_length x1 x2 = some o) : hk_Mi l jy_L_numberIn jb_L_numberIn 7 (some .int) jr_L_numberIn D cI cF (wT cI aT t_letters t_length) [.ref (aT 0), .int x1, .int x2] o (wT cI aT t_letters t_length) :=
  hk_metI (by decide) (Nat.le_of_ble_eq_true rfl) rfl rfl (fun p e s m args below meth c A hC hr => jw_L_numberIn hC hr N aT t_letters t_length x1 x2 h)
