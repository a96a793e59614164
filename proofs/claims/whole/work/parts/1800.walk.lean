set_option maxHeartbeats 8000000 in
set_option maxRecDepth 100000 in
theorem jw_P_newestField {p : Program} {l : Launch} {e : Env} {s : State} {m : MethodId} {args : Array Value} {below : List Frame} {meth : Method} {c : Code} {A : Nat → Prop} {D : va_G} {cI cF : ClassId} (hC : hk_ok p s m args meth c A 1 D cI cF "HayTalk$Pile" jb_P_newestField) (hr : meth.sig.returnType = (some (.object "HayTalk$Field"))) (N : Nat) (a : Nat → Nat) (n : Nat) (newest size : Int32) (v : Nat → jFV) {o : Option Nat} (h : jf_P_newestField N n newest = some o) : hk_W p l e jr_P_newestField s m args below meth c A (hk_Zq below args s D A (o.map (fun i => a (2 + 9 * i))) (wP cI cF n a newest size v)) 1 D 0 0 (wP cI cF n a newest size v) 0 [(0, .ref (a 0))] [] := by
  delta jf_P_newestField at h
  refine hk_aload_n hC jd_P_newestField_0 0 rfl ?_
  refine hk_get hC jk_P 0 rfl 1 (by decide) jq_93 rfl jd_P_newestField_1 ?_
  refine hk_if_lt (tgt := 31) hC jd_P_newestField_4 (by decide) (fun cc1 => ?_) (fun cc1 => ?_)
  · replace h := xi_t h cc1
    obtain rfl := Option.some.inj h
    refine hk_null hC jd_P_newestField_31 ?_
    exact hk_aret hC hr jd_P_newestField_32 rfl rfl
  · replace h := xi_f h cc1
    refine hk_aload_n hC jd_P_newestField_7 0 rfl ?_
    refine hk_get hC jk_P 0 rfl 1 (by decide) jq_93 rfl jd_P_newestField_8 ?_
    refine hk_aload_n hC jd_P_newestField_11 0 rfl ?_
    refine hk_get hC jk_P 0 rfl 0 (by decide) jq_92 rfl jd_P_newestField_12 ?_
    refine hk_alenq hC 1 rfl jd_P_newestField_15 ?_
    refine hk_icmp_ge (tgt := 31) hC jd_P_newestField_16 (by decide) (fun cc2 => ?_) (fun cc2 => ?_)
    · replace h := xi_t h cc2
      obtain rfl := Option.some.inj h
      refine hk_null hC jd_P_newestField_31 ?_
      exact hk_aret hC hr jd_P_newestField_32 rfl rfl
    · replace h := xi_f h cc2
      have hr1 := xr_in h
      replace h := xr_go h
      obtain rfl := Option.some.inj h
      refine hk_aload_n hC jd_P_newestField_19 0 rfl ?_
      refine hk_get hC jk_P 0 rfl 0 (by decide) jq_92 rfl jd_P_newestField_20 ?_
      refine hk_aload_n hC jd_P_newestField_23 0 rfl ?_
      refine hk_get hC jk_P 0 rfl 1 (by decide) jq_93 rfl jd_P_newestField_24 ?_
      refine hk_aald hC 1 rfl hr1 jd_P_newestField_27 ?_
      refine hk_goto (tgt := 32) hC jd_P_newestField_28 (by decide) ?_
      exact hk_aret hC hr jd_P_newestField_32 rfl rfl
theorem jc_P_newestField (l : Launch) (D : va_G) (cI cF : ClassId) (N : Nat) (a : Nat → Nat) (n : Nat) (newest size : Int32) (v : Nat → jFV) {o : Option Nat} (h : jf_P_newestField N n newest = some o) : hk_Mq l jy_P_newestField jb_P_newestField 1 (some (.object "HayTalk$Field")) jr_P_newestField D cI cF (wP cI cF n a newest size v) [.ref (a 0)] (o.map (fun i => a (2 + 9 * i))) (wP cI cF n a newest size v) :=
  hk_metQ (by decide) (Nat.le_of_ble_eq_true rfl) rfl rfl (fun p e s m args below meth c A hC hr => jw_P_newestField hC hr N a n newest size v h)
set_option maxHeartbeats 8000000 in
set_option maxRecDepth 100000 in
theorem jw_P_clear {p : Program} {l : Launch} {e : Env} {s : State} {m : MethodId} {args : Array Value} {below : List Frame} {meth : Method} {c : Code} {A : Nat → Prop} {D : va_G} {cI cF : ClassId} (hC : hk_ok p s m args meth c A 1 D cI cF "HayTalk$Pile" jb_P_clear) (hr : meth.sig.returnType = none) (N : Nat) (a : Nat → Nat) (n : Nat) (newest : Int32) (size : Int32) (v : Nat → jFV)  {o : Int32} (h : jf_P_clear N n size = some o) : hk_W p l e jr_P_clear s m args below meth c A (hk_Zv below args s D A (wP cI cF n a newest o v)) 1 D 0 0 (wP cI cF n a newest size v) 0 [(0, .ref (a 0))] [] := by
  delta jf_P_clear at h
  refine hk_aload_n hC jd_P_clear_0 0 rfl ?_
  refine hk_iconst (v := 0) hC jd_P_clear_1 (by decide) ?_
  refine hk_put hC jk_P 0 rfl 2 (by decide) jq_94 rfl rfl rfl (Nat.le_of_ble_eq_true rfl) (ws2 := (wP cI cF n a newest (0 : Int32) v)) rfl jd_P_clear_2 ?_
  obtain rfl := Option.some.inj h
  exact hk_vret hC hr jd_P_clear_5 rfl
theorem jc_P_clear (l : Launch) (D : va_G) (cI cF : ClassId) (N : Nat) (a : Nat → Nat) (n : Nat) (newest : Int32) (size : Int32) (v : Nat → jFV)  {o : Int32} (h : jf_P_clear N n size = some o) : hk_Mv l jy_P_clear jb_P_clear 1 jr_P_clear D cI cF (wP cI cF n a newest size v) [.ref (a 0)] (wP cI cF n a newest o v) :=
  hk_metV (by decide) (Nat.le_of_ble_eq_true rfl) rfl rfl (fun p e s m args below meth c A hC hr => jw_P_clear hC hr N a n newest size v h)
set_option maxHeartbeats 8000000 in
set_option maxRecDepth 100000 in
theorem jw_P_isFull {p : Program} {l : Launch} {e : Env} {s : State} {m : MethodId} {args : Array Value} {below : List Frame} {meth : Method} {c : Code} {A : Nat → Prop} {D : va_G} {cI cF : ClassId} (hC : hk_ok p s m args meth c A 1 D cI cF "HayTalk$Pile" jb_P_isFull) (hr : meth.sig.returnType = (some .boolean)) (N : Nat) (a : Nat → Nat) (n : Nat) (newest : Int32) (size : Int32) (v : Nat → jFV)  {o : Int32} (h : jf_P_isFull N n size = some o) : hk_W p l e jr_P_isFull s m args below meth c A (hk_Zi below args s D A o (wP cI cF n a newest size v)) 1 D 0 0 (wP cI cF n a newest size v) 0 [(0, .ref (a 0))] [] := by
  delta jf_P_isFull at h
  refine hk_aload_n hC jd_P_isFull_0 0 rfl ?_
  refine hk_get hC jk_P 0 rfl 2 (by decide) jq_94 rfl jd_P_isFull_1 ?_
  refine hk_aload_n hC jd_P_isFull_4 0 rfl ?_
  refine hk_get hC jk_P 0 rfl 0 (by decide) jq_92 rfl jd_P_isFull_5 ?_
  refine hk_alenq hC 1 rfl jd_P_isFull_8 ?_
  refine hk_icmp_lt (tgt := 16) hC jd_P_isFull_9 (by decide) (fun cc1 => ?_) (fun cc1 => ?_)
  · replace h := xi_t h cc1
    refine hk_iconst (v := 0) hC jd_P_isFull_16 (by decide) ?_
    obtain rfl := Option.some.inj h
    exact hk_zret hC hr rfl jd_P_isFull_17 rfl rfl
  · replace h := xi_f h cc1
    refine hk_iconst (v := 1) hC jd_P_isFull_12 (by decide) ?_
    refine hk_goto (tgt := 17) hC jd_P_isFull_13 (by decide) ?_
    obtain rfl := Option.some.inj h
    exact hk_zret hC hr rfl jd_P_isFull_17 rfl rfl
theorem jc_P_isFull (l : Launch) (D : va_G) (cI cF : ClassId) (N : Nat) (a : Nat → Nat) (n : Nat) (newest : Int32) (size : Int32) (v : Nat → jFV)  {o : Int32} (h : jf_P_isFull N n size = some o) : hk_Mi l jy_P_isFull jb_P_isFull 1 (some .boolean) jr_P_isFull D cI cF (wP cI cF n a newest size v) [.ref (a 0)] o (wP cI cF n a newest size v) :=
  hk_metI (by decide) (Nat.le_of_ble_eq_true rfl) rfl rfl (fun p e s m args below meth c A hC hr => jw_P_isFull hC hr N a n newest size v h)
set_option maxHeartbeats 8000000 in
set_option maxRecDepth 100000 in
theorem jw_P_push {p : Program} {l : Launch} {e : Env} {s : State} {m : MethodId} {args : Array Value} {below : List Frame} {meth : Method} {c : Code} {A : Nat → Prop} {D : va_G} {cI cF : ClassId} (hC : hk_ok p s m args meth c A 3 D cI cF "HayTalk$Pile" jb_P_push) (hr : meth.sig.returnType = none) (N : Nat) (a : Nat → Nat) (aO : Nat → Nat) (n : Nat) (newest : Int32) (size : Int32) (v : Nat → jFV) (o_lying : Nat → Int32) (o_damp : Nat → Int32) (o_told : Nat → Int32) (o_heights : Nat → Int32) (o_burnt : Nat → Int32) (o_layerWords : Nat → Int32) (o_layerWetness : Nat → Int32) (o_layerHeat : Nat → Int32) (o_hours : Int32)  {o : Int32 × Int32 × (Nat → jFV)} (h : jf_P_push N n newest size v o_lying o_damp o_told o_heights o_burnt o_layerWords o_layerWetness o_layerHeat o_hours = some o) : hk_W p l e jr_P_push s m args below meth c A (hk_Zv below args s D A ((wP cI cF n a o.1 o.2.1 o.2.2) ++ (wF cI aO o_lying o_damp o_told o_heights o_burnt o_layerWords o_layerWetness o_layerHeat o_hours))) 3 D 0 0 ((wP cI cF n a newest size v) ++ (wF cI aO o_lying o_damp o_told o_heights o_burnt o_layerWords o_layerWetness o_layerHeat o_hours)) 0 [(0, .ref (a 0)), (1, .ref (aO 0))] [] := by
  have B_42 : ∀ (n : Nat) (newest : Int32) (size : Int32) (v : Nat → jFV) (o_lying : Nat → Int32) (o_damp : Nat → Int32) (o_told : Nat → Int32) (o_heights : Nat → Int32) (o_burnt : Nat → Int32) (o_layerWords : Nat → Int32) (o_layerWetness : Nat → Int32) (o_layerHeat : Nat → Int32) (o_hours : Int32)   (_ : jf_P_push_42 N n newest size v o_lying o_damp o_told o_heights o_burnt o_layerWords o_layerWetness o_layerHeat o_hours  = some o), hk_W p l e jr_P_push s m args below meth c A (hk_Zv below args s D A ((wP cI cF n a o.1 o.2.1 o.2.2) ++ (wF cI aO o_lying o_damp o_told o_heights o_burnt o_layerWords o_layerWetness o_layerHeat o_hours))) 3 D 0 0 ((wP cI cF n a newest size v) ++ (wF cI aO o_lying o_damp o_told o_heights o_burnt o_layerWords o_layerWetness o_layerHeat o_hours)) 42 [(0, .ref (a 0))] [] := by
    intro n newest size v o_lying o_damp o_told o_heights o_burnt o_layerWords o_layerWetness o_layerHeat o_hours   h
    delta jf_P_push_42 at h
    refine hk_aload_n hC jd_P_push_42 0 rfl ?_
    refine hk_aload_n hC jd_P_push_43 0 rfl ?_
    refine hk_get hC jk_P 0 rfl 0 (by decide) jq_92 rfl jd_P_push_44 ?_
    refine hk_alenq hC 1 rfl jd_P_push_47 ?_
    refine hk_aload_n hC jd_P_push_48 0 rfl ?_
    refine hk_get hC jk_P 0 rfl 2 (by decide) jq_94 rfl jd_P_push_49 ?_
    refine hk_iconst (v := 1) hC jd_P_push_52 (by decide) ?_
    refine hk_iadd hC jd_P_push_53 ?_
    obtain ⟨v1, e_v1, h⟩ := xl_go h
    refine hk_mmin hC jq_422 ⟨Nat.le_of_ble_eq_true rfl, Nat.le_of_ble_eq_true rfl, Nat.zero_le _, Nat.zero_le _⟩ e_v1 jd_P_push_54 ?_
    refine hk_put hC jk_P 0 rfl 2 (by decide) jq_94 rfl rfl rfl (Nat.le_of_ble_eq_true rfl) (ws2 := ((wP cI cF n a newest v1 v) ++ (wF cI aO o_lying o_damp o_told o_heights o_burnt o_layerWords o_layerWetness o_layerHeat o_hours))) rfl jd_P_push_57 ?_
    obtain rfl := Option.some.inj h
    exact hk_vret hC hr jd_P_push_60 rfl
  have B_25 : ∀ (n : Nat) (newest : Int32) (size : Int32) (v : Nat → jFV) (o_lying : Nat → Int32) (o_damp : Nat → Int32) (o_told : Nat → Int32) (o_heights : Nat → Int32) (o_burnt : Nat → Int32) (o_layerWords : Nat → Int32) (o_layerWetness : Nat → Int32) (o_layerHeat : Nat → Int32) (o_hours : Int32) (y1 : Int32)   (_ : jf_P_push_25 N n newest size v o_lying o_damp o_told o_heights o_burnt o_layerWords o_layerWetness o_layerHeat o_hours y1  = some o), hk_W p l e jr_P_push s m args below meth c A (hk_Zv below args s D A ((wP cI cF n a o.1 o.2.1 o.2.2) ++ (wF cI aO o_lying o_damp o_told o_heights o_burnt o_layerWords o_layerWetness o_layerHeat o_hours))) 3 D 0 0 ((wP cI cF n a newest size v) ++ (wF cI aO o_lying o_damp o_told o_heights o_burnt o_layerWords o_layerWetness o_layerHeat o_hours)) 25 [(0, .ref (a 0)), (1, .ref (aO 0))] [.int y1, .ref (a 0)] := by
    intro n newest size v o_lying o_damp o_told o_heights o_burnt o_layerWords o_layerWetness o_layerHeat o_hours y1   h
    delta jf_P_push_25 at h
    refine hk_put hC jk_P 0 rfl 1 (by decide) jq_93 rfl rfl rfl (Nat.le_of_ble_eq_true rfl) (ws2 := ((wP cI cF n a y1 size v) ++ (wF cI aO o_lying o_damp o_told o_heights o_burnt o_layerWords o_layerWetness o_layerHeat o_hours))) rfl jd_P_push_25 ?_
    refine hk_aload_n hC jd_P_push_28 0 rfl ?_
    obtain ⟨q1, h_q1, h⟩ := xb_go h
    refine hk_callVBq hC (jc_P_newestField l D cI cF N a n y1 size v h_q1) jl_P_newestField rfl (List.mem_append_left _ List.mem_cons_self) jq_411 jq_413 jq0_8 rfl ⟨by decide, by decide⟩ (List.Perm.refl _) (List.Perm.refl _) rfl rfl (Nat.le_of_ble_eq_true rfl) ⟨Nat.zero_le _, Nat.zero_le _⟩ jd_P_push_29 ?_
    cases q1 with
    | none =>
      refine hk_astore_nN hC (i := 2) (lv2 := [(2, .null), (0, .ref (a 0)), (1, .ref (aO 0))]) jd_P_push_32 rfl (by decide) rfl ?_
      refine hk_aload_nN hC jd_P_push_33 0 rfl ?_
      refine hk_ifnullN (tgt := 42) hC jd_P_push_34 (by decide) ?_
      exact hk_lv [1] rfl (B_42 n y1 size v o_lying o_damp o_told o_heights o_burnt o_layerWords o_layerWetness o_layerHeat o_hours   h)
    | some i1 =>
      refine hk_astore_n hC (i := 2) (lv2 := [(2, .ref (a (2 + 9 * i1))), (0, .ref (a 0)), (1, .ref (aO 0))]) jd_P_push_32 rfl rfl (by decide) rfl ?_
      refine hk_aload_n hC jd_P_push_33 0 rfl ?_
      refine hk_ifnull hC jd_P_push_34 ?_
      refine hk_aload_n hC jd_P_push_37 0 rfl ?_
      refine hk_aload_n hC jd_P_push_38 2 rfl ?_
      have hg := xg_in h
      replace h := xg_go h
      obtain ⟨q2, h_q2, h⟩ := xb_go h
      refine hk_callVBv hC (jc_F_copyFrom l D cI cF N (fun j => a (2 + 9 * i1 + j)) aO (v i1).1 (v i1).2.1 (v i1).2.2.1 (v i1).2.2.2.1 (v i1).2.2.2.2.1 (v i1).2.2.2.2.2.1 (v i1).2.2.2.2.2.2.1 (v i1).2.2.2.2.2.2.2.1 (v i1).2.2.2.2.2.2.2.2 o_lying o_damp o_told o_heights o_burnt o_layerWords o_layerWetness o_layerHeat o_hours h_q2) jl_F_copyFrom rfl ((List.Perm.mem_iff (by have hh := pile_pushP (cI := cI) (cF := cF) (a := a) (newest := y1) (size := size) (v := v) hg (v i1) (wF cI aO o_lying o_damp o_told o_heights o_burnt o_layerWords o_layerWetness o_layerHeat o_hours); rw [va_up_id] at hh; exact hh)).mpr (List.mem_append_left _ (List.mem_append_left _ List.mem_cons_self))) jq_415 jq_416 jq_417 rfl ⟨by decide, by decide⟩ (by have hh := pile_pushP (cI := cI) (cF := cF) (a := a) (newest := y1) (size := size) (v := v) hg (v i1) (wF cI aO o_lying o_damp o_told o_heights o_burnt o_layerWords o_layerWetness o_layerHeat o_hours); rw [va_up_id] at hh; exact hh) (pile_pushP hg q2 _) rfl (ws2 := ((wP cI cF n a y1 size (va_up v i1 q2)) ++ (wF cI aO o_lying o_damp o_told o_heights o_burnt o_layerWords o_layerWetness o_layerHeat o_hours))) rfl (Nat.le_of_ble_eq_true rfl) ⟨Nat.zero_le _, Nat.zero_le _⟩ jd_P_push_39 ?_
      exact hk_lv [1] rfl (B_42 n y1 size (va_up v i1 q2) o_lying o_damp o_told o_heights o_burnt o_layerWords o_layerWetness o_layerHeat o_hours   h)
  delta jf_P_push at h
  refine hk_aload_n hC jd_P_push_0 0 rfl ?_
  refine hk_aload_n hC jd_P_push_1 0 rfl ?_
  refine hk_get hC jk_P 0 rfl 1 (by decide) jq_93 rfl jd_P_push_2 ?_
  refine hk_iconst (v := 1) hC jd_P_push_5 (by decide) ?_
  refine hk_iadd hC jd_P_push_6 ?_
  refine hk_aload_n hC jd_P_push_7 0 rfl ?_
  refine hk_get hC jk_P 0 rfl 0 (by decide) jq_92 rfl jd_P_push_8 ?_
  refine hk_alenq hC 1 rfl jd_P_push_11 ?_
  refine hk_icmp_ge (tgt := 24) hC jd_P_push_12 (by decide) (fun cc1 => ?_) (fun cc1 => ?_)
  · replace h := xi_t h cc1
    refine hk_iconst (v := 0) hC jd_P_push_24 (by decide) ?_
    exact (B_25 n newest size v o_lying o_damp o_told o_heights o_burnt o_layerWords o_layerWetness o_layerHeat o_hours (0 : Int32)   h)
  · replace h := xi_f h cc1
    refine hk_aload_n hC jd_P_push_15 0 rfl ?_
    refine hk_get hC jk_P 0 rfl 1 (by decide) jq_93 rfl jd_P_push_16 ?_
    refine hk_iconst (v := 1) hC jd_P_push_19 (by decide) ?_
    refine hk_iadd hC jd_P_push_20 ?_
    refine hk_goto (tgt := 25) hC jd_P_push_21 (by decide) ?_
    exact (B_25 n newest size v o_lying o_damp o_told o_heights o_burnt o_layerWords o_layerWetness o_layerHeat o_hours (newest + (1 : Int32))   h)
theorem jc_P_push (l : Launch) (D : va_G) (cI cF : ClassId) (N : Nat) (a : Nat → Nat) (aO : Nat → Nat) (n : Nat) (newest : Int32) (size : Int32) (v : Nat → jFV) (o_lying : Nat → Int32) (o_damp : Nat → Int32) (o_told : Nat → Int32) (o_heights : Nat → Int32) (o_burnt : Nat → Int32) (o_layerWords : Nat → Int32) (o_layerWetness : Nat → Int32) (o_layerHeat : Nat → Int32) (o_hours : Int32)  {o : Int32 × Int32 × (Nat → jFV)} (h : jf_P_push N n newest size v o_lying o_damp o_told o_heights o_burnt o_layerWords o_layerWetness o_layerHeat o_hours = some o) : hk_Mv l jy_P_push jb_P_push 3 jr_P_push D cI cF ((wP cI cF n a newest size v) ++ (wF cI aO o_lying o_damp o_told o_heights o_burnt o_layerWords o_layerWetness o_layerHeat o_hours)) [.ref (a 0), .ref (aO 0)] ((wP cI cF n a o.1 o.2.1 o.2.2) ++ (wF cI aO o_lying o_damp o_told o_heights o_burnt o_layerWords o_layerWetness o_layerHeat o_hours)) :=
  hk_metV (by decide) (Nat.le_of_ble_eq_true rfl) rfl rfl (fun p e s m args below meth c A hC hr => jw_P_push hC hr N a aO n newest size v o_lying o_damp o_told o_heights o_burnt o_layerWords o_layerWetness o_layerHeat o_hours h)
