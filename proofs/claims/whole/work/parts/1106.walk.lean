set_option maxHeartbeats 8000000 in
set_option maxRecDepth 100000 in
theorem jw_S_isSoOf {p : Program} {l : Launch} {e : Env} {s : State} {m : MethodId} {args : Array Value} {below : List Frame} {meth : Method} {c : Code} {A : Nat → Prop} {D : va_G} {cI cF : ClassId} (hC : hk_ok p s m args meth c A 4 D cI cF "HayTalk$Seen" jb_S_isSoOf) (hr : meth.sig.returnType = (some .boolean)) (N : Nat) (a : Nat → Nat) (aL : Nat → Nat)  (words : Nat → Int32) (hours : Nat → Int32) (size : Int32) (g_speeches : Nat → Int32) (g_speechLengths : Nat → Int32) (g_weather : Nat → Int32) (g_kindsOfCows : Nat → Int32) (g_thatches : Nat → Int32) (g_weatherLength : Int32) (g_mowers : Int32) (g_cows : Int32) (g_ricks : Int32) (x2 : Int32) {o : Int32} (h : jf_S_isSoOf N words hours size g_speeches g_speechLengths x2 = some o) : hk_W p l e jr_S_isSoOf s m args below meth c A (hk_Zi below args s D A o ((wS cI a words hours size) ++ (wL cI aL g_speeches g_speechLengths g_weather g_kindsOfCows g_thatches g_weatherLength g_mowers g_cows g_ricks))) 4 D 0 0 ((wS cI a words hours size) ++ (wL cI aL g_speeches g_speechLengths g_weather g_kindsOfCows g_thatches g_weatherLength g_mowers g_cows g_ricks)) 0 [(0, .ref (a 0)), (1, .ref (aL 0)), (2, .int x2)] [] := by
  have B_2 : ∀ (words : Nat → Int32) (hours : Nat → Int32) (size : Int32) (g_speeches : Nat → Int32) (g_speechLengths : Nat → Int32) (x2 : Int32) (x3 : Int32) (kh2 : (Int32) → Option (Int32)) (ihh2 : ∀ q, kh2 q = some o → hk_W p l e jr_S_isSoOf s m args below meth c A (hk_Zi below args s D A o ((wS cI a words hours size) ++ (wL cI aL g_speeches g_speechLengths g_weather g_kindsOfCows g_thatches g_weatherLength g_mowers g_cows g_ricks))) 4 D 0 0 ((wS cI a words hours size) ++ (wL cI aL g_speeches g_speechLengths g_weather g_kindsOfCows g_thatches g_weatherLength g_mowers g_cows g_ricks)) 2 [(0, .ref (a 0)), (1, .ref (aL 0)), (2, .int x2), (3, .int q)] []) (_ : jf_S_isSoOf_2B N words hours size g_speeches g_speechLengths x2 x3 kh2 = some o), hk_W p l e jr_S_isSoOf s m args below meth c A (hk_Zi below args s D A o ((wS cI a words hours size) ++ (wL cI aL g_speeches g_speechLengths g_weather g_kindsOfCows g_thatches g_weatherLength g_mowers g_cows g_ricks))) 4 D 0 0 ((wS cI a words hours size) ++ (wL cI aL g_speeches g_speechLengths g_weather g_kindsOfCows g_thatches g_weatherLength g_mowers g_cows g_ricks)) 2 [(0, .ref (a 0)), (1, .ref (aL 0)), (2, .int x2), (3, .int x3)] [] := by
    intro words hours size g_speeches g_speechLengths x2 x3 kh2 ihh2 h
    delta jf_S_isSoOf_2B at h
    refine hk_iload_n hC jd_S_isSoOf_2 3 rfl ?_
    refine hk_aload_n hC jd_S_isSoOf_3 0 rfl ?_
    refine hk_get hC jk_S 0 rfl 2 (by decide) jq_111 rfl jd_S_isSoOf_4 ?_
    refine hk_icmp_ge (tgt := 42) hC jd_S_isSoOf_7 (by decide) (fun cc1 => ?_) (fun cc1 => ?_)
    · replace h := xi_t h cc1
      refine hk_iconst (v := 1) hC jd_S_isSoOf_42 (by decide) ?_
      obtain rfl := Option.some.inj h
      exact hk_zret hC hr rfl jd_S_isSoOf_43 rfl rfl
    · replace h := xi_f h cc1
      refine hk_aload_n hC jd_S_isSoOf_10 1 rfl ?_
      refine hk_iload_n hC jd_S_isSoOf_11 2 rfl ?_
      refine hk_aload_n hC jd_S_isSoOf_12 0 rfl ?_
      refine hk_get hC jk_S 0 rfl 1 (by decide) jq_110 rfl jd_S_isSoOf_13 ?_
      refine hk_iload_n hC jd_S_isSoOf_16 3 rfl ?_
      obtain ⟨q1, h_q1, h⟩ := xb_go h
      refine hk_callSi hC (jc_R_at l D cI cF N (fun _ => (a 2)) 6 hours x3 h_q1) jl_R_at jq_590 jq_345 rfl ⟨by decide, by decide⟩ [2] rfl (by decide) rfl (ws2 := ((wS cI a words hours size) ++ (wL cI aL g_speeches g_speechLengths g_weather g_kindsOfCows g_thatches g_weatherLength g_mowers g_cows g_ricks))) rfl rfl (Nat.le_of_ble_eq_true rfl) ⟨Nat.zero_le _, Nat.zero_le _⟩ jd_S_isSoOf_17 ?_
      obtain ⟨q2, h_q2, h⟩ := xb_go h
      refine hk_callVi hC (q0 := 3) (jc_L_wordOf l D cI cF N aL g_speeches g_speechLengths g_weather g_kindsOfCows g_thatches g_weatherLength g_mowers g_cows g_ricks x2 q1 h_q2) jl_L_wordOf rfl rfl jq_591 jq_341 jq_342 rfl ⟨by decide, by decide⟩ [3, 4, 5, 6, 7, 8] rfl (by decide) rfl (ws2 := ((wS cI a words hours size) ++ (wL cI aL g_speeches g_speechLengths g_weather g_kindsOfCows g_thatches g_weatherLength g_mowers g_cows g_ricks))) rfl rfl (Nat.le_of_ble_eq_true rfl) ⟨Nat.zero_le _, Nat.zero_le _⟩ jd_S_isSoOf_20 ?_
      refine hk_aload_n hC jd_S_isSoOf_23 0 rfl ?_
      refine hk_get hC jk_S 0 rfl 0 (by decide) jq_109 rfl jd_S_isSoOf_24 ?_
      refine hk_iload_n hC jd_S_isSoOf_27 3 rfl ?_
      obtain ⟨q3, h_q3, h⟩ := xb_go h
      refine hk_callSi hC (jc_R_at l D cI cF N (fun _ => (a 1)) 6 words x3 h_q3) jl_R_at jq_590 jq_345 rfl ⟨by decide, by decide⟩ [1] rfl (by decide) rfl (ws2 := ((wS cI a words hours size) ++ (wL cI aL g_speeches g_speechLengths g_weather g_kindsOfCows g_thatches g_weatherLength g_mowers g_cows g_ricks))) rfl rfl (Nat.le_of_ble_eq_true rfl) ⟨Nat.zero_le _, Nat.zero_le _⟩ jd_S_isSoOf_28 ?_
      refine hk_icmp_eq (tgt := 36) hC jd_S_isSoOf_31 (by decide) (fun cc2 => ?_) (fun cc2 => ?_)
      · replace h := xi_t h cc2
        obtain ⟨v1, e_v1, h⟩ := xl_go h
        refine hk_iinc hC (lv2 := [(3, .int v1), (0, .ref (a 0)), (1, .ref (aL 0)), (2, .int x2)]) jd_S_isSoOf_36 3 rfl e_v1 (by decide) rfl ?_
        refine hk_goto (tgt := 2) hC jd_S_isSoOf_39 (by decide) ?_
        exact hk_lv [1, 2, 3, 0] rfl (ihh2 v1 h)
      · replace h := xi_f h cc2
        refine hk_iconst (v := 0) hC jd_S_isSoOf_34 (by decide) ?_
        obtain rfl := Option.some.inj h
        exact hk_zret hC hr rfl jd_S_isSoOf_35 rfl rfl
  have L_2 : ∀ (words : Nat → Int32) (hours : Nat → Int32) (size : Int32) (g_speeches : Nat → Int32) (g_speechLengths : Nat → Int32) (x2 : Int32) (x3 : Int32)   (_ : jf_S_isSoOf_2 N words hours size g_speeches g_speechLengths x2 x3  = some o), hk_W p l e jr_S_isSoOf s m args below meth c A (hk_Zi below args s D A o ((wS cI a words hours size) ++ (wL cI aL g_speeches g_speechLengths g_weather g_kindsOfCows g_thatches g_weatherLength g_mowers g_cows g_ricks))) 4 D 0 0 ((wS cI a words hours size) ++ (wL cI aL g_speeches g_speechLengths g_weather g_kindsOfCows g_thatches g_weatherLength g_mowers g_cows g_ricks)) 2 [(0, .ref (a 0)), (1, .ref (aL 0)), (2, .int x2), (3, .int x3)] [] := by
    intro words hours size g_speeches g_speechLengths x2 x3   h
    exact xloopW (fun (q : Int32) => hk_W p l e jr_S_isSoOf s m args below meth c A (hk_Zi below args s D A o ((wS cI a words hours size) ++ (wL cI aL g_speeches g_speechLengths g_weather g_kindsOfCows g_thatches g_weatherLength g_mowers g_cows g_ricks))) 4 D 0 0 ((wS cI a words hours size) ++ (wL cI aL g_speeches g_speechLengths g_weather g_kindsOfCows g_thatches g_weatherLength g_mowers g_cows g_ricks)) 2 [(0, .ref (a 0)), (1, .ref (aL 0)), (2, .int x2), (3, .int q)] []) (fun kh ih q h => B_2 words hours size g_speeches g_speechLengths x2 q kh  ih  h) N x3 h
  delta jf_S_isSoOf at h
  refine hk_iconst (v := 0) hC jd_S_isSoOf_0 (by decide) ?_
  refine hk_istore_n hC (i := 3) (y := (0 : Int32)) (lv2 := [(3, .int (0 : Int32)), (0, .ref (a 0)), (1, .ref (aL 0)), (2, .int x2)]) jd_S_isSoOf_1 rfl rfl (by decide) rfl ?_
  exact hk_lv [1, 2, 3, 0] rfl (L_2 words hours size g_speeches g_speechLengths x2 (0 : Int32)   h)
theorem jc_S_isSoOf (l : Launch) (D : va_G) (cI cF : ClassId) (N : Nat) (a : Nat → Nat) (aL : Nat → Nat)  (words : Nat → Int32) (hours : Nat → Int32) (size : Int32) (g_speeches : Nat → Int32) (g_speechLengths : Nat → Int32) (g_weather : Nat → Int32) (g_kindsOfCows : Nat → Int32) (g_thatches : Nat → Int32) (g_weatherLength : Int32) (g_mowers : Int32) (g_cows : Int32) (g_ricks : Int32) (x2 : Int32) {o : Int32} (h : jf_S_isSoOf N words hours size g_speeches g_speechLengths x2 = some o) : hk_Mi l jy_S_isSoOf jb_S_isSoOf 4 (some .boolean) jr_S_isSoOf D cI cF ((wS cI a words hours size) ++ (wL cI aL g_speeches g_speechLengths g_weather g_kindsOfCows g_thatches g_weatherLength g_mowers g_cows g_ricks)) [.ref (a 0), .ref (aL 0), .int x2] o ((wS cI a words hours size) ++ (wL cI aL g_speeches g_speechLengths g_weather g_kindsOfCows g_thatches g_weatherLength g_mowers g_cows g_ricks)) :=
  hk_metI (by decide) (Nat.le_of_ble_eq_true rfl) rfl rfl (fun p e s m args below meth c A hC hr => jw_S_isSoOf hC hr N a aL words hours size g_speeches g_speechLengths g_weather g_kindsOfCows g_thatches g_weatherLength g_mowers g_cows g_ricks x2 h)
set_option maxHeartbeats 8000000 in
set_option maxRecDepth 100000 in
theorem jw_F_clear {p : Program} {l : Launch} {e : Env} {s : State} {m : MethodId} {args : Array Value} {below : List Frame} {meth : Method} {c : Code} {A : Nat → Prop} {D : va_G} {cI cF : ClassId} (hC : hk_ok p s m args meth c A 1 D cI cF "HayTalk$Field" jb_F_clear) (hr : meth.sig.returnType = none) (N : Nat) (a : Nat → Nat)  (lying : Nat → Int32) (damp : Nat → Int32) (told : Nat → Int32) (heights : Nat → Int32) (burnt : Nat → Int32) (layerWords : Nat → Int32) (layerWetness : Nat → Int32) (layerHeat : Nat → Int32) (hours : Int32)  {o : (Nat → Int32) × (Nat → Int32) × (Nat → Int32) × (Nat → Int32) × (Nat → Int32) × Int32} (h : jf_F_clear N lying damp told heights burnt hours = some o) : hk_W p l e jr_F_clear s m args below meth c A (hk_Zv below args s D A (wF cI a o.1 o.2.1 o.2.2.1 o.2.2.2.1 o.2.2.2.2.1 layerWords layerWetness layerHeat o.2.2.2.2.2)) 1 D 0 0 (wF cI a lying damp told heights burnt layerWords layerWetness layerHeat hours) 0 [(0, .ref (a 0))] [] := by
  delta jf_F_clear at h
  refine hk_aload_n hC jd_F_clear_0 0 rfl ?_
  refine hk_iconst (v := 0) hC jd_F_clear_1 (by decide) ?_
  refine hk_put hC jk_F 0 rfl 8 (by decide) jq_59 rfl rfl rfl (Nat.le_of_ble_eq_true rfl) (ws2 := (wF cI a lying damp told heights burnt layerWords layerWetness layerHeat (0 : Int32))) rfl jd_F_clear_2 ?_
  refine hk_aload_n hC jd_F_clear_5 0 rfl ?_
  refine hk_get hC jk_F 0 rfl 0 (by decide) jq_46 rfl jd_F_clear_6 ?_
  refine hk_iconst (v := 0) hC jd_F_clear_9 (by decide) ?_
  obtain ⟨q1, h_q1, h⟩ := xb_go h
  refine hk_callSv hC (jc_Arrays_fill l D cI cF N (fun _ => (a 1)) 5 lying (0 : Int32) h_q1) jl_Arrays_fill jq_325 jq_326 rfl ⟨by decide, by decide⟩ [1] rfl (by decide) rfl (ws2 := (wF cI a q1 damp told heights burnt layerWords layerWetness layerHeat (0 : Int32))) rfl rfl (Nat.le_of_ble_eq_true rfl) ⟨Nat.zero_le _, Nat.zero_le _⟩ jd_F_clear_10 ?_
  refine hk_aload_n hC jd_F_clear_13 0 rfl ?_
  refine hk_get hC jk_F 0 rfl 1 (by decide) jq_48 rfl jd_F_clear_14 ?_
  refine hk_iconst (v := 0) hC jd_F_clear_17 (by decide) ?_
  obtain ⟨q2, h_q2, h⟩ := xb_go h
  refine hk_callSv hC (jc_Arrays_fill l D cI cF N (fun _ => (a 2)) 5 damp (0 : Int32) h_q2) jl_Arrays_fill jq_325 jq_326 rfl ⟨by decide, by decide⟩ [2] rfl (by decide) rfl (ws2 := (wF cI a q1 q2 told heights burnt layerWords layerWetness layerHeat (0 : Int32))) rfl rfl (Nat.le_of_ble_eq_true rfl) ⟨Nat.zero_le _, Nat.zero_le _⟩ jd_F_clear_18 ?_
  refine hk_aload_n hC jd_F_clear_21 0 rfl ?_
  refine hk_get hC jk_F 0 rfl 2 (by decide) jq_50 rfl jd_F_clear_22 ?_
  refine hk_iconst (v := 0) hC jd_F_clear_25 (by decide) ?_
  obtain ⟨q3, h_q3, h⟩ := xb_go h
  refine hk_callSv hC (jc_Arrays_fill l D cI cF N (fun _ => (a 3)) 4 told (0 : Int32) h_q3) jl_Arrays_fill jq_325 jq_326 rfl ⟨by decide, by decide⟩ [3] rfl (by decide) rfl (ws2 := (wF cI a q1 q2 q3 heights burnt layerWords layerWetness layerHeat (0 : Int32))) rfl rfl (Nat.le_of_ble_eq_true rfl) ⟨Nat.zero_le _, Nat.zero_le _⟩ jd_F_clear_26 ?_
  refine hk_aload_n hC jd_F_clear_29 0 rfl ?_
  refine hk_get hC jk_F 0 rfl 3 (by decide) jq_52 rfl jd_F_clear_30 ?_
  refine hk_iconst (v := 0) hC jd_F_clear_33 (by decide) ?_
  obtain ⟨q4, h_q4, h⟩ := xb_go h
  refine hk_callSv hC (jc_Arrays_fill l D cI cF N (fun _ => (a 4)) 3 heights (0 : Int32) h_q4) jl_Arrays_fill jq_325 jq_326 rfl ⟨by decide, by decide⟩ [4] rfl (by decide) rfl (ws2 := (wF cI a q1 q2 q3 q4 burnt layerWords layerWetness layerHeat (0 : Int32))) rfl rfl (Nat.le_of_ble_eq_true rfl) ⟨Nat.zero_le _, Nat.zero_le _⟩ jd_F_clear_34 ?_
  refine hk_aload_n hC jd_F_clear_37 0 rfl ?_
  refine hk_get hC jk_F 0 rfl 4 (by decide) jq_54 rfl jd_F_clear_38 ?_
  refine hk_iconst (v := 0) hC jd_F_clear_41 (by decide) ?_
  obtain ⟨q5, h_q5, h⟩ := xb_go h
  refine hk_callSv hC (jc_Arrays_fill l D cI cF N (fun _ => (a 5)) 3 burnt (0 : Int32) h_q5) jl_Arrays_fill jq_325 jq_326 rfl ⟨by decide, by decide⟩ [5] rfl (by decide) rfl (ws2 := (wF cI a q1 q2 q3 q4 q5 layerWords layerWetness layerHeat (0 : Int32))) rfl rfl (Nat.le_of_ble_eq_true rfl) ⟨Nat.zero_le _, Nat.zero_le _⟩ jd_F_clear_42 ?_
  obtain rfl := Option.some.inj h
  exact hk_vret hC hr jd_F_clear_45 rfl
theorem jc_F_clear (l : Launch) (D : va_G) (cI cF : ClassId) (N : Nat) (a : Nat → Nat)  (lying : Nat → Int32) (damp : Nat → Int32) (told : Nat → Int32) (heights : Nat → Int32) (burnt : Nat → Int32) (layerWords : Nat → Int32) (layerWetness : Nat → Int32) (layerHeat : Nat → Int32) (hours : Int32)  {o : (Nat → Int32) × (Nat → Int32) × (Nat → Int32) × (Nat → Int32) × (Nat → Int32) × Int32} (h : jf_F_clear N lying damp told heights burnt hours = some o) : hk_Mv l jy_F_clear jb_F_clear 1 jr_F_clear D cI cF (wF cI a lying damp told heights burnt layerWords layerWetness layerHeat hours) [.ref (a 0)] (wF cI a o.1 o.2.1 o.2.2.1 o.2.2.2.1 o.2.2.2.2.1 layerWords layerWetness layerHeat o.2.2.2.2.2) :=
  hk_metV (by decide) (Nat.le_of_ble_eq_true rfl) rfl rfl (fun p e s m args below meth c A hC hr => jw_F_clear hC hr N a lying damp told heights burnt layerWords layerWetness layerHeat hours h)
set_option maxHeartbeats 8000000 in
set_option maxRecDepth 100000 in
theorem jw_F_heightOf {p : Program} {l : Launch} {e : Env} {s : State} {m : MethodId} {args : Array Value} {below : List Frame} {meth : Method} {c : Code} {A : Nat → Prop} {D : va_G} {cI cF : ClassId} (hC : hk_ok p s m args meth c A 2 D cI cF "HayTalk$Field" jb_F_heightOf) (hr : meth.sig.returnType = (some .int)) (N : Nat) (a : Nat → Nat)  (lying : Nat → Int32) (damp : Nat → Int32) (told : Nat → Int32) (heights : Nat → Int32) (burnt : Nat → Int32) (layerWords : Nat → Int32) (layerWetness : Nat → Int32) (layerHeat : Nat → Int32) (hours : Int32) (x1 : Int32) {o : Int32} (h : jf_F_heightOf N heights x1 = some o) : hk_W p l e jr_F_heightOf s m args below meth c A (hk_Zi below args s D A o (wF cI a lying damp told heights burnt layerWords layerWetness layerHeat hours)) 2 D 0 0 (wF cI a lying damp told heights burnt layerWords layerWetness layerHeat hours) 0 [(0, .ref (a 0)), (1, .int x1)] [] := by
  delta jf_F_heightOf at h
  refine hk_aload_n hC jd_F_heightOf_0 0 rfl ?_
  refine hk_get hC jk_F 0 rfl 3 (by decide) jq_52 rfl jd_F_heightOf_1 ?_
  refine hk_iload_n hC jd_F_heightOf_4 1 rfl ?_
  obtain ⟨q1, h_q1, h⟩ := xb_go h
  refine hk_callSi hC (jc_R_at l D cI cF N (fun _ => (a 4)) 3 heights x1 h_q1) jl_R_at jq_379 jq_345 rfl ⟨by decide, by decide⟩ [4] rfl (by decide) rfl (ws2 := (wF cI a lying damp told heights burnt layerWords layerWetness layerHeat hours)) rfl rfl (Nat.le_of_ble_eq_true rfl) ⟨Nat.zero_le _, Nat.zero_le _⟩ jd_F_heightOf_5 ?_
  obtain rfl := Option.some.inj h
  exact hk_iret hC hr jd_F_heightOf_8 rfl rfl
theorem jc_F_heightOf (l : Launch) (D : va_G) (cI cF : ClassId) (N : Nat) (a : Nat → Nat)  (lying : Nat → Int32) (damp : Nat → Int32) (told : Nat → Int32) (heights : Nat → Int32) (burnt : Nat → Int32) (layerWords : Nat → Int32) (layerWetness : Nat → Int32) (layerHeat : Nat → Int32) (hours : Int32) (x1 : Int32) {o : Int32} (h : jf_F_heightOf N heights x1 = some o) : hk_Mi l jy_F_heightOf jb_F_heightOf 2 (some .int) jr_F_heightOf D cI cF (wF cI a lying damp told heights burnt layerWords layerWetness layerHeat hours) [.ref (a 0), .int x1] o (wF cI a lying damp told heights burnt layerWords layerWetness layerHeat hours) :=
  hk_metI (by decide) (Nat.le_of_ble_eq_true rfl) rfl rfl (fun p e s m args below meth c A hC hr => jw_F_heightOf hC hr N a lying damp told heights burnt layerWords layerWetness layerHeat hours x1 h)
set_option maxHeartbeats 8000000 in
set_option maxRecDepth 100000 in
theorem jw_F_heatOf {p : Program} {l : Launch} {e : Env} {s : State} {m : MethodId} {args : Array Value} {below : List Frame} {meth : Method} {c : Code} {A : Nat → Prop} {D : va_G} {cI cF : ClassId} (hC : hk_ok p s m args meth c A 3 D cI cF "HayTalk$Field" jb_F_heatOf) (hr : meth.sig.returnType = (some .int)) (N : Nat) (a : Nat → Nat)  (lying : Nat → Int32) (damp : Nat → Int32) (told : Nat → Int32) (heights : Nat → Int32) (burnt : Nat → Int32) (layerWords : Nat → Int32) (layerWetness : Nat → Int32) (layerHeat : Nat → Int32) (hours : Int32) (x1 : Int32) (x2 : Int32) {o : Int32} (h : jf_F_heatOf N layerHeat x1 x2 = some o) : hk_W p l e jr_F_heatOf s m args below meth c A (hk_Zi below args s D A o (wF cI a lying damp told heights burnt layerWords layerWetness layerHeat hours)) 3 D 0 0 (wF cI a lying damp told heights burnt layerWords layerWetness layerHeat hours) 0 [(0, .ref (a 0)), (1, .int x1), (2, .int x2)] [] := by
  delta jf_F_heatOf at h
  refine hk_aload_n hC jd_F_heatOf_0 0 rfl ?_
  refine hk_get hC jk_F 0 rfl 7 (by decide) jq_58 rfl jd_F_heatOf_1 ?_
  refine hk_iload_n hC jd_F_heatOf_4 1 rfl ?_
  refine hk_bipush (v := 8) hC jd_F_heatOf_5 (by decide) ?_
  refine hk_imul hC jd_F_heatOf_7 ?_
  refine hk_iload_n hC jd_F_heatOf_8 2 rfl ?_
  refine hk_iadd hC jd_F_heatOf_9 ?_
  obtain ⟨q1, h_q1, h⟩ := xb_go h
  refine hk_callSi hC (jc_R_at l D cI cF N (fun _ => (a 8)) 24 layerHeat ((x1 * (8 : Int32)) + x2) h_q1) jl_R_at jq_379 jq_345 rfl ⟨by decide, by decide⟩ [8] rfl (by decide) rfl (ws2 := (wF cI a lying damp told heights burnt layerWords layerWetness layerHeat hours)) rfl rfl (Nat.le_of_ble_eq_true rfl) ⟨Nat.zero_le _, Nat.zero_le _⟩ jd_F_heatOf_10 ?_
  obtain rfl := Option.some.inj h
  exact hk_iret hC hr jd_F_heatOf_13 rfl rfl
theorem jc_F_heatOf (l : Launch) (D : va_G) (cI cF : ClassId) (N : Nat) (a : Nat → Nat)  (lying : Nat → Int32) (damp : Nat → Int32) (told : Nat → Int32) (heights : Nat → Int32) (burnt : Nat → Int32) (layerWords : Nat → Int32) (layerWetness : Nat → Int32) (layerHeat : Nat → Int32) (hours : Int32) (x1 : Int32) (x2 : Int32) {o : Int32} (h : jf_F_heatOf N layerHeat x1 x2 = some o) : hk_Mi l jy_F_heatOf jb_F_heatOf 3 (some .int) jr_F_heatOf D cI cF (wF cI a lying damp told heights burnt layerWords layerWetness layerHeat hours) [.ref (a 0), .int x1, .int x2] o (wF cI a lying damp told heights burnt layerWords layerWetness layerHeat hours) :=
  hk_metI (by decide) (Nat.le_of_ble_eq_true rfl) rfl rfl (fun p e s m args below meth c A hC hr => jw_F_heatOf hC hr N a lying damp told heights burnt layerWords layerWetness layerHeat hours x1 x2 h)
