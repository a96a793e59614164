set_option maxHeartbeats 8000000 in
set_option maxRecDepth 100000 in
theorem jw_P_popInto {p : Program} {l : Launch} {e : Env} {s : State} {m : MethodId} {args : Array Value} {below : List Frame} {meth : Method} {c : Code} {A : Nat → Prop} {D : va_G} {cI cF : ClassId} (hC : hk_ok p s m args meth c A 3 D cI cF "HayTalk$Pile" jb_P_popInto) (hr : meth.sig.returnType = none) (N : Nat) (a : Nat → Nat) (aO : Nat → Nat) (n : Nat) (newest : Int32) (size : Int32) (v : Nat → jFV) (o_lying : Nat → Int32) (o_damp : Nat → Int32) (o_told : Nat → Int32) (o_heights : Nat → Int32) (o_burnt : Nat → Int32) (o_layerWords : Nat → Int32) (o_layerWetness : Nat → Int32) (o_layerHeat : Nat → Int32) (o_hours : Int32)  {o : Int32 × Int32 × (Nat → Int32) × (Nat → Int32) × (Nat → Int32) × (Nat → Int32) × (Nat → Int32) × (Nat → Int32) × (Nat → Int32) × (Nat → Int32) × Int32} (h : jf_P_popInto N n newest size v o_lying o_damp o_told o_heights o_burnt o_layerWords o_layerWetness o_layerHeat o_hours = some o) : hk_W p l e jr_P_popInto s m args below meth c A (hk_Zv below args s D A ((wP cI cF n a o.1 o.2.1 v) ++ (wF cI aO o.2.2.1 o.2.2.2.1 o.2.2.2.2.1 o.2.2.2.2.2.1 o.2.2.2.2.2.2.1 o.2.2.2.2.2.2.2.1 o.2.2.2.2.2.2.2.2.1 o.2.2.2.2.2.2.2.2.2.1 o.2.2.2.2.2.2.2.2.2.2))) 3 D 0 0 ((wP cI cF n a newest size v) ++ (wF cI aO o_lying o_damp o_told o_heights o_burnt o_layerWords o_layerWetness o_layerHeat o_hours)) 0 [(0, .ref (a 0)), (1, .ref (aO 0))] [] := by
  have B_55 : ∀ (n : Nat) (newest : Int32) (size : Int32) (v : Nat → jFV) (o_lying : Nat → Int32) (o_damp : Nat → Int32) (o_told : Nat → Int32) (o_heights : Nat → Int32) (o_burnt : Nat → Int32) (o_layerWords : Nat → Int32) (o_layerWetness : Nat → Int32) (o_layerHeat : Nat → Int32) (o_hours : Int32) (y1 : Int32)   (_ : jf_P_popInto_55 N n newest size v o_lying o_damp o_told o_heights o_burnt o_layerWords o_layerWetness o_layerHeat o_hours y1  = some o), hk_W p l e jr_P_popInto s m args below meth c A (hk_Zv below args s D A ((wP cI cF n a o.1 o.2.1 v) ++ (wF cI aO o.2.2.1 o.2.2.2.1 o.2.2.2.2.1 o.2.2.2.2.2.1 o.2.2.2.2.2.2.1 o.2.2.2.2.2.2.2.1 o.2.2.2.2.2.2.2.2.1 o.2.2.2.2.2.2.2.2.2.1 o.2.2.2.2.2.2.2.2.2.2))) 3 D 0 0 ((wP cI cF n a newest size v) ++ (wF cI aO o_lying o_damp o_told o_heights o_burnt o_layerWords o_layerWetness o_layerHeat o_hours)) 55 [] [.int y1, .ref (a 0)] := by
    intro n newest size v o_lying o_damp o_told o_heights o_burnt o_layerWords o_layerWetness o_layerHeat o_hours y1   h
    delta jf_P_popInto_55 at h
    refine hk_put hC jk_P 0 rfl 1 (by decide) jq_93 rfl rfl rfl (Nat.le_of_ble_eq_true rfl) (ws2 := ((wP cI cF n a y1 size v) ++ (wF cI aO o_lying o_damp o_told o_heights o_burnt o_layerWords o_layerWetness o_layerHeat o_hours))) rfl jd_P_popInto_55 ?_
    obtain rfl := Option.some.inj h
    exact hk_vret hC hr jd_P_popInto_58 rfl
  delta jf_P_popInto at h
  refine hk_aload_n hC jd_P_popInto_0 0 rfl ?_
  obtain ⟨q1, h_q1, h⟩ := xb_go h
  refine hk_callVBq hC (jc_P_newestField l D cI cF N a n newest size v h_q1) jl_P_newestField rfl (List.mem_append_left _ List.mem_cons_self) jq_411 jq_413 jq0_8 rfl ⟨by decide, by decide⟩ (List.Perm.refl _) (List.Perm.refl _) rfl rfl (Nat.le_of_ble_eq_true rfl) ⟨Nat.zero_le _, Nat.zero_le _⟩ jd_P_popInto_1 ?_
  cases q1 with
  | none =>
    refine hk_astore_nN hC (i := 2) (lv2 := [(2, .null), (0, .ref (a 0)), (1, .ref (aO 0))]) jd_P_popInto_4 rfl (by decide) rfl ?_
    refine hk_aload_n hC jd_P_popInto_5 1 rfl ?_
    refine hk_get hC jk_P 0 rfl 2 (by decide) jq_94 rfl jd_P_popInto_6 ?_
    refine hk_if_le (tgt := 58) hC jd_P_popInto_9 (by decide) (fun cc1 => ?_) (fun cc1 => ?_)
    · replace h := xi_t h cc1
      obtain rfl := Option.some.inj h
      exact hk_vret hC hr jd_P_popInto_58 rfl
    · replace h := xi_f h cc1
      refine hk_aload_nN hC jd_P_popInto_12 0 rfl ?_
      refine hk_ifnullN (tgt := 58) hC jd_P_popInto_13 (by decide) ?_
      obtain rfl := Option.some.inj h
      exact hk_vret hC hr jd_P_popInto_58 rfl
  | some i1 =>
    refine hk_astore_n hC (i := 2) (lv2 := [(2, .ref (a (2 + 9 * i1))), (0, .ref (a 0)), (1, .ref (aO 0))]) jd_P_popInto_4 rfl rfl (by decide) rfl ?_
    refine hk_aload_n hC jd_P_popInto_5 1 rfl ?_
    refine hk_get hC jk_P 0 rfl 2 (by decide) jq_94 rfl jd_P_popInto_6 ?_
    refine hk_if_le (tgt := 58) hC jd_P_popInto_9 (by decide) (fun cc2 => ?_) (fun cc2 => ?_)
    · replace h := xi_t h cc2
      obtain rfl := Option.some.inj h
      exact hk_vret hC hr jd_P_popInto_58 rfl
    · replace h := xi_f h cc2
      refine hk_aload_n hC jd_P_popInto_12 0 rfl ?_
      refine hk_ifnull hC jd_P_popInto_13 ?_
      refine hk_aload_n hC jd_P_popInto_16 2 rfl ?_
      refine hk_aload_n hC jd_P_popInto_17 0 rfl ?_
      have hg := xg_in h
      replace h := xg_go h
      obtain ⟨q2, h_q2, h⟩ := xb_go h
      refine hk_callVBv hC (jc_F_copyFrom l D cI cF N aO (fun j => a (2 + 9 * i1 + j)) o_lying o_damp o_told o_heights o_burnt o_layerWords o_layerWetness o_layerHeat o_hours (v i1).1 (v i1).2.1 (v i1).2.2.1 (v i1).2.2.2.1 (v i1).2.2.2.2.1 (v i1).2.2.2.2.2.1 (v i1).2.2.2.2.2.2.1 (v i1).2.2.2.2.2.2.2.1 (v i1).2.2.2.2.2.2.2.2 h_q2) jl_F_copyFrom rfl (List.mem_append_right _ List.mem_cons_self) jq_415 jq_416 jq_417 rfl ⟨by decide, by decide⟩ (pile_popP hg _) (pile_popP hg _) rfl (ws2 := ((wP cI cF n a newest size v) ++ (wF cI aO q2.1 q2.2.1 q2.2.2.1 q2.2.2.2.1 q2.2.2.2.2.1 q2.2.2.2.2.2.1 q2.2.2.2.2.2.2.1 q2.2.2.2.2.2.2.2.1 q2.2.2.2.2.2.2.2.2))) rfl (Nat.le_of_ble_eq_true rfl) ⟨Nat.zero_le _, Nat.zero_le _⟩ jd_P_popInto_18 ?_
      refine hk_aload_n hC jd_P_popInto_21 1 rfl ?_
      refine hk_dup hC jd_P_popInto_22 rfl ?_
      refine hk_get hC jk_P 0 rfl 2 (by decide) jq_94 rfl jd_P_popInto_23 ?_
      refine hk_iconst (v := 1) hC jd_P_popInto_26 (by decide) ?_
      refine hk_isub hC jd_P_popInto_27 ?_
      obtain ⟨v1, e_v1, h⟩ := xl_go h
      refine hk_topi e_v1 ?_
      refine hk_put hC jk_P 0 rfl 2 (by decide) jq_94 rfl rfl rfl (Nat.le_of_ble_eq_true rfl) (ws2 := ((wP cI cF n a newest v1 v) ++ (wF cI aO q2.1 q2.2.1 q2.2.2.1 q2.2.2.2.1 q2.2.2.2.2.1 q2.2.2.2.2.2.1 q2.2.2.2.2.2.2.1 q2.2.2.2.2.2.2.2.1 q2.2.2.2.2.2.2.2.2))) rfl jd_P_popInto_28 ?_
      refine hk_aload_n hC jd_P_popInto_31 1 rfl ?_
      refine hk_aload_n hC jd_P_popInto_32 1 rfl ?_
      refine hk_get hC jk_P 0 rfl 1 (by decide) jq_93 rfl jd_P_popInto_33 ?_
      refine hk_if_le (tgt := 48) hC jd_P_popInto_36 (by decide) (fun cc3 => ?_) (fun cc3 => ?_)
      · replace h := xi_t h cc3
        refine hk_aload_n hC jd_P_popInto_48 1 rfl ?_
        refine hk_get hC jk_P 0 rfl 0 (by decide) jq_92 rfl jd_P_popInto_49 ?_
        refine hk_alenq hC 1 rfl jd_P_popInto_52 ?_
        refine hk_iconst (v := 1) hC jd_P_popInto_53 (by decide) ?_
        refine hk_isub hC jd_P_popInto_54 ?_
        exact hk_lv [] rfl (B_55 n newest v1 v q2.1 q2.2.1 q2.2.2.1 q2.2.2.2.1 q2.2.2.2.2.1 q2.2.2.2.2.2.1 q2.2.2.2.2.2.2.1 q2.2.2.2.2.2.2.2.1 q2.2.2.2.2.2.2.2.2 ((nI n) - (1 : Int32))   h)
      · replace h := xi_f h cc3
        refine hk_aload_n hC jd_P_popInto_39 1 rfl ?_
        refine hk_get hC jk_P 0 rfl 1 (by decide) jq_93 rfl jd_P_popInto_40 ?_
        refine hk_iconst (v := 1) hC jd_P_popInto_43 (by decide) ?_
        refine hk_isub hC jd_P_popInto_44 ?_
        refine hk_goto (tgt := 55) hC jd_P_popInto_45 (by decide) ?_
        exact hk_lv [] rfl (B_55 n newest v1 v q2.1 q2.2.1 q2.2.2.1 q2.2.2.2.1 q2.2.2.2.2.1 q2.2.2.2.2.2.1 q2.2.2.2.2.2.2.1 q2.2.2.2.2.2.2.2.1 q2.2.2.2.2.2.2.2.2 (newest - (1 : Int32))   h)
theorem jc_P_popInto (l : Launch) (D : va_G) (cI cF : ClassId) (N : Nat) (a : Nat → Nat) (aO : Nat → Nat) (n : Nat) (newest : Int32) (size : Int32) (v : Nat → jFV) (o_lying : Nat → Int32) (o_damp : Nat → Int32) (o_told : Nat → Int32) (o_heights : Nat → Int32) (o_burnt : Nat → Int32) (o_layerWords : Nat → Int32) (o_layerWetness : Nat → Int32) (o_layerHeat : Nat → Int32) (o_hours : Int32)  {o : Int32 × Int32 × (Nat → Int32) × (Nat → Int32) × (Nat → Int32) × (Nat → Int32) × (Nat → Int32) × (Nat → Int32) × (Nat → Int32) × (Nat → Int32) × Int32} (h : jf_P_popInto N n newest size v o_lying o_damp o_told o_heights o_burnt o_layerWords o_layerWetness o_layerHeat o_hours = some o) : hk_Mv l jy_P_popInto jb_P_popInto 3 jr_P_popInto D cI cF ((wP cI cF n a newest size v) ++ (wF cI aO o_lying o_damp o_told o_heights o_burnt o_layerWords o_layerWetness o_layerHeat o_hours)) [.ref (a 0), .ref (aO 0)] ((wP cI cF n a o.1 o.2.1 v) ++ (wF cI aO o.2.2.1 o.2.2.2.1 o.2.2.2.2.1 o.2.2.2.2.2.1 o.2.2.2.2.2.2.1 o.2.2.2.2.2.2.2.1 o.2.2.2.2.2.2.2.2.1 o.2.2.2.2.2.2.2.2.2.1 o.2.2.2.2.2.2.2.2.2.2)) :=
  hk_metV (by decide) (Nat.le_of_ble_eq_true rfl) rfl rfl (fun p e s m args below meth c A hC hr => jw_P_popInto hC hr N a aO n newest size v o_lying o_damp o_told o_heights o_burnt o_layerWords o_layerWetness o_layerHeat o_hours h)
set_option maxHeartbeats 8000000 in
set_option maxRecDepth 100000 in
theorem jw_H_write {p : Program} {l : Launch} {e : Env} {s : State} {m : MethodId} {args : Array Value} {below : List Frame} {meth : Method} {c : Code} {A : Nat → Prop} {D : va_G} {cI cF : ClassId} (hC : hk_ok p s m args meth c A 2 D cI cF "HayTalk" jb_H_write) (hr : meth.sig.returnType = (some .int)) (N : Nat) (a : Nat → Nat) (aText : Nat → Nat) (aField : Nat → Nat) (aTrial : Nat → Nat) (aPast : Nat → Nat) (aKept : Nat → Nat) (aSeen : Nat → Nat) (aLand : Nat → Nat) (aDraft : Nat → Nat)  (t_letters : Nat → Int32) (t_length : Int32) (x1 : Int32) {o : Int32 × (Nat → Int32) × Int32} (h : jf_H_write N t_letters t_length x1 = some o) : hk_W p l e jr_H_write s m args below meth c A (hk_Zi below args s D A o.1 ((wH a aText aField aTrial aPast aKept aSeen aLand aDraft) ++ (wT cI aText o.2.1 o.2.2))) 2 D 0 0 ((wH a aText aField aTrial aPast aKept aSeen aLand aDraft) ++ (wT cI aText t_letters t_length)) 0 [(0, .ref (a 0)), (1, .int x1)] [] := by
  delta jf_H_write at h
  refine hk_iload_n hC jd_H_write_0 1 rfl ?_
  refine hk_bipush (v := 32) hC jd_H_write_1 (by decide) ?_
  refine hk_bipush (v := 126) hC jd_H_write_3 (by decide) ?_
  obtain ⟨q1, h_q1, h⟩ := xb_go h
  refine hk_callS0i hC (jc_H_isWithin l D cI cF N x1 (32 : Int32) (126 : Int32) h_q1) jl_H_isWithin jq_302 jq_249 rfl ⟨by decide, by decide⟩ rfl (Nat.le_of_ble_eq_true rfl) ⟨Nat.zero_le _, Nat.zero_le _⟩ jd_H_write_5 ?_
  refine hk_if_ne (tgt := 13) hC jd_H_write_8 (by decide) (fun cc1 => ?_) (fun cc1 => ?_)
  · replace h := xi_f h cc1
    refine hk_aload_n hC jd_H_write_13 0 rfl ?_
    refine hk_get hC jk_H _ (at_l (k := 0) rfl) 0 (by decide) jq_272 rfl jd_H_write_14 ?_
    obtain ⟨q2, h_q2, h⟩ := xb_go h
    refine hk_callVBi hC (jc_T_isFull l D cI cF N aText t_letters t_length h_q2) jl_T_isFull rfl (List.mem_of_getElem? (at_r (k := 0) rfl)) jq_303 jq_218 jq_219 rfl ⟨by decide, by decide⟩ (pm_2_1 _ _) (pm_2_1 _ _) rfl (ws2 := ((wH a aText aField aTrial aPast aKept aSeen aLand aDraft) ++ (wT cI aText t_letters t_length))) rfl (Nat.le_of_ble_eq_true rfl) ⟨Nat.zero_le _, Nat.zero_le _⟩ jd_H_write_17 ?_
    refine hk_if_eq (tgt := 26) hC jd_H_write_20 (by decide) (fun cc2 => ?_) (fun cc2 => ?_)
    · replace h := xi_t h cc2
      refine hk_aload_n hC jd_H_write_26 0 rfl ?_
      refine hk_get hC jk_H _ (at_l (k := 0) rfl) 0 (by decide) jq_272 rfl jd_H_write_27 ?_
      refine hk_iload_n hC jd_H_write_30 1 rfl ?_
      obtain ⟨q3, h_q3, h⟩ := xb_go h
      refine hk_callVBv hC (jc_T_add l D cI cF N aText t_letters t_length x1 h_q3) jl_T_add rfl (List.mem_of_getElem? (at_r (k := 0) rfl)) jq_304 jq_214 jq_215 rfl ⟨by decide, by decide⟩ (pm_2_1 _ _) (pm_2_1 _ _) rfl (ws2 := ((wH a aText aField aTrial aPast aKept aSeen aLand aDraft) ++ (wT cI aText q3.1 q3.2))) rfl (Nat.le_of_ble_eq_true rfl) ⟨Nat.zero_le _, Nat.zero_le _⟩ jd_H_write_31 ?_
      refine hk_aload_n hC jd_H_write_34 0 rfl ?_
      refine hk_get hC jk_H _ (at_l (k := 0) rfl) 0 (by decide) jq_272 rfl jd_H_write_35 ?_
      refine hk_getN hC jk_T _ (at_r (k := 0) rfl) 1 (by decide) jq_31 rfl jd_H_write_38 ?_
      obtain rfl := Option.some.inj h
      exact hk_iret hC hr jd_H_write_41 rfl rfl
    · replace h := xi_f h cc2
      refine hk_bipush (v := -3) hC jd_H_write_23 (by decide) ?_
      obtain rfl := Option.some.inj h
      exact hk_iret hC hr jd_H_write_25 rfl rfl
  · replace h := xi_t h cc1
    refine hk_iconst (v := -1) hC jd_H_write_11 (by decide) ?_
    obtain rfl := Option.some.inj h
    exact hk_iret hC hr jd_H_write_12 rfl rfl
theorem jc_H_write (l : Launch) (D : va_G) (cI cF : ClassId) (N : Nat) (a : Nat → Nat) (aText : Nat → Nat) (aField : Nat → Nat) (aTrial : Nat → Nat) (aPast : Nat → Nat) (aKept : Nat → Nat) (aSeen : Nat → Nat) (aLand : Nat → Nat) (aDraft : Nat → Nat)  (t_letters : Nat → Int32) (t_length : Int32) (x1 : Int32) {o : Int32 × (Nat → Int32) × Int32} (h : jf_H_write N t_letters t_length x1 = some o) : hk_Mi l jy_H_write jb_H_write 2 (some .int) jr_H_write D cI cF ((wH a aText aField aTrial aPast aKept aSeen aLand aDraft) ++ (wT cI aText t_letters t_length)) [.ref (a 0), .int x1] o.1 ((wH a aText aField aTrial aPast aKept aSeen aLand aDraft) ++ (wT cI aText o.2.1 o.2.2)) :=
  hk_metI (by decide) (Nat.le_of_ble_eq_true rfl) rfl rfl (fun p e s m args below meth c A hC hr => jw_H_write hC hr N a aText aField aTrial aPast aKept aSeen aLand aDraft t_letters t_length x1 h)
set_option maxHeartbeats 8000000 in
set_option maxRecDepth 100000 in
theorem jw_H_wipe {p : Program} {l : Launch} {e : Env} {s : State} {m : MethodId} {args : Array Value} {below : List Frame} {meth : Method} {c : Code} {A : Nat → Prop} {D : va_G} {cI cF : ClassId} (hC : hk_ok p s m args meth c A 2 D cI cF "HayTalk" jb_H_wipe) (hr : meth.sig.returnType = (some .int)) (N : Nat) (a : Nat → Nat) (aText : Nat → Nat) (aField : Nat → Nat) (aTrial : Nat → Nat) (aPast : Nat → Nat) (aKept : Nat → Nat) (aSeen : Nat → Nat) (aLand : Nat → Nat) (aDraft : Nat → Nat)  (t_letters : Nat → Int32) (t_length : Int32)  {o : Int32 × Int32} (h : jf_H_wipe N t_length = some o) : hk_W p l e jr_H_wipe s m args below meth c A (hk_Zi below args s D A o.1 ((wH a aText aField aTrial aPast aKept aSeen aLand aDraft) ++ (wT cI aText t_letters o.2))) 2 D 0 0 ((wH a aText aField aTrial aPast aKept aSeen aLand aDraft) ++ (wT cI aText t_letters t_length)) 0 [(0, .ref (a 0))] [] := by
  delta jf_H_wipe at h
  refine hk_aload_n hC jd_H_wipe_0 0 rfl ?_
  refine hk_get hC jk_H _ (at_l (k := 0) rfl) 0 (by decide) jq_272 rfl jd_H_wipe_1 ?_
  refine hk_getN hC jk_T _ (at_r (k := 0) rfl) 1 (by decide) jq_31 rfl jd_H_wipe_4 ?_
  refine hk_istore_n hC (i := 1) (y := t_length) (lv2 := [(1, .int t_length), (0, .ref (a 0))]) jd_H_wipe_7 rfl rfl (by decide) rfl ?_
  refine hk_aload_n hC jd_H_wipe_8 1 rfl ?_
  refine hk_get hC jk_H _ (at_l (k := 0) rfl) 0 (by decide) jq_272 rfl jd_H_wipe_9 ?_
  refine hk_iconst (v := 0) hC jd_H_wipe_12 (by decide) ?_
  refine hk_putN hC jk_T _ (at_r (k := 0) rfl) 1 (by decide) jq_31 rfl rfl rfl (Nat.le_of_ble_eq_true rfl) (ws2 := ((wH a aText aField aTrial aPast aKept aSeen aLand aDraft) ++ (wT cI aText t_letters (0 : Int32)))) (set_r rfl) jd_H_wipe_13 ?_
  refine hk_iload_n hC jd_H_wipe_16 0 rfl ?_
  obtain rfl := Option.some.inj h
  exact hk_iret hC hr jd_H_wipe_17 rfl rfl
theorem jc_H_wipe (l : Launch) (D : va_G) (cI cF : ClassId) (N : Nat) (a : Nat → Nat) (aText : Nat → Nat) (aField : Nat → Nat) (aTrial : Nat → Nat) (aPast : Nat → Nat) (aKept : Nat → Nat) (aSeen : Nat → Nat) (aLand : Nat → Nat) (aDraft : Nat → Nat)  (t_letters : Nat → Int32) (t_length : Int32)  {o : Int32 × Int32} (h : jf_H_wipe N t_length = some o) : hk_Mi l jy_H_wipe jb_H_wipe 2 (some .int) jr_H_wipe D cI cF ((wH a aText aField aTrial aPast aKept aSeen aLand aDraft) ++ (wT cI aText t_letters t_length)) [.ref (a 0)] o.1 ((wH a aText aField aTrial aPast aKept aSeen aLand aDraft) ++ (wT cI aText t_letters o.2)) :=
  hk_metI (by decide) (Nat.le_of_ble_eq_true rfl) rfl rfl (fun p e s m args below meth c A hC hr => jw_H_wipe hC hr N a aText aField aTrial aPast aKept aSeen aLand aDraft t_letters t_length h)
set_option maxHeartbeats 8000000 in
set_option maxRecDepth 100000 in
theorem jw_H_fault {p : Program} {l : Launch} {e : Env} {s : State} {m : MethodId} {args : Array Value} {below : List Frame} {meth : Method} {c : Code} {A : Nat → Prop} {D : va_G} {cI cF : ClassId} (hC : hk_ok p s m args meth c A 1 D cI cF "HayTalk" jb_H_fault) (hr : meth.sig.returnType = (some .int)) (N : Nat) (a : Nat → Nat) (aText : Nat → Nat) (aField : Nat → Nat) (aTrial : Nat → Nat) (aPast : Nat → Nat) (aKept : Nat → Nat) (aSeen : Nat → Nat) (aLand : Nat → Nat) (aDraft : Nat → Nat)  (t_letters : Nat → Int32) (t_length : Int32) (d_speeches : Nat → Int32) (d_speechLengths : Nat → Int32) (d_weather : Nat → Int32) (d_kindsOfCows : Nat → Int32) (d_thatches : Nat → Int32) (d_weatherLength : Int32) (d_mowers : Int32) (d_cows : Int32) (d_ricks : Int32)  {o : Int32 × (Nat → Int32) × (Nat → Int32) × (Nat → Int32) × (Nat → Int32) × (Nat → Int32) × Int32 × Int32 × Int32 × Int32} (h : jf_H_fault N t_letters t_length d_speeches d_speechLengths d_weather d_kindsOfCows d_thatches d_weatherLength d_mowers d_cows d_ricks = some o) : hk_W p l e jr_H_fault s m args below meth c A (hk_Zi below args s D A o.1 ((wH a aText aField aTrial aPast aKept aSeen aLand aDraft) ++ ((wT cI aText t_letters t_length) ++ (wL cI aDraft o.2.1 o.2.2.1 o.2.2.2.1 o.2.2.2.2.1 o.2.2.2.2.2.1 o.2.2.2.2.2.2.1 o.2.2.2.2.2.2.2.1 o.2.2.2.2.2.2.2.2.1 o.2.2.2.2.2.2.2.2.2)))) 1 D 0 0 ((wH a aText aField aTrial aPast aKept aSeen aLand aDraft) ++ ((wT cI aText t_letters t_length) ++ (wL cI aDraft d_speeches d_speechLengths d_weather d_kindsOfCows d_thatches d_weatherLength d_mowers d_cows d_ricks))) 0 [(0, .ref (a 0))] [] := by
  delta jf_H_fault at h
  refine hk_aload_n hC jd_H_fault_0 0 rfl ?_
  refine hk_get hC jk_H _ (at_l (k := 0) rfl) 7 (by decide) jq_279 rfl jd_H_fault_1 ?_
  refine hk_aload_n hC jd_H_fault_4 0 rfl ?_
  refine hk_get hC jk_H _ (at_l (k := 0) rfl) 0 (by decide) jq_272 rfl jd_H_fault_5 ?_
  obtain ⟨q1, h_q1, h⟩ := xb_go h
  refine hk_callVBi hC (jc_L_readText l D cI cF N aDraft aText d_speeches d_speechLengths d_weather d_kindsOfCows d_thatches d_weatherLength d_mowers d_cows d_ricks t_letters t_length h_q1) jl_L_readText rfl (List.mem_of_getElem? (at_r (at_r (k := 0) rfl))) jq_224 jq_225 jq_226 rfl ⟨by decide, by decide⟩ (pm_3_2_1 _ _ _) (pm_3_2_1 _ _ _) rfl (ws2 := ((wH a aText aField aTrial aPast aKept aSeen aLand aDraft) ++ ((wT cI aText t_letters t_length) ++ (wL cI aDraft q1.2.1 q1.2.2.1 q1.2.2.2.1 q1.2.2.2.2.1 q1.2.2.2.2.2.1 q1.2.2.2.2.2.2.1 q1.2.2.2.2.2.2.2.1 q1.2.2.2.2.2.2.2.2.1 q1.2.2.2.2.2.2.2.2.2)))) rfl (Nat.le_of_ble_eq_true rfl) ⟨Nat.zero_le _, Nat.zero_le _⟩ jd_H_fault_8 ?_
  obtain rfl := Option.some.inj h
  exact hk_iret hC hr jd_H_fault_11 rfl rfl
theorem jc_H_fault (l : Launch) (D : va_G) (cI cF : ClassId) (N : Nat) (a : Nat → Nat) (aText : Nat → Nat) (aField : Nat → Nat) (aTrial : Nat → Nat) (aPast : Nat → Nat) (aKept : Nat → Nat) (aSeen : Nat → Nat) (aLand : Nat → Nat) (aDraft : Nat → Nat)  (t_letters : Nat → Int32) (t_length : Int32) (d_speeches : Nat → Int32) (d_speechLengths : Nat → Int32) (d_weather : Nat → Int32) (d_kindsOfCows : Nat → Int32) (d_thatches : Nat → Int32) (d_weatherLength : Int32) (d_mowers : Int32) (d_cows : Int32) (d_ricks : Int32)  {o : Int32 × (Nat → Int32) × (Nat → Int32) × (Nat → Int32) × (Nat → Int32) × (Nat → Int32) × Int32 × Int32 × Int32 × Int32} (h : jf_H_fault N t_letters t_length d_speeches d_speechLengths d_weather d_kindsOfCows d_thatches d_weatherLength d_mowers d_cows d_ricks = some o) : hk_Mi l jy_H_fault jb_H_fault 1 (some .int) jr_H_fault D cI cF ((wH a aText aField aTrial aPast aKept aSeen aLand aDraft) ++ ((wT cI aText t_letters t_length) ++ (wL cI aDraft d_speeches d_speechLengths d_weather d_kindsOfCows d_thatches d_weatherLength d_mowers d_cows d_ricks))) [.ref (a 0)] o.1 ((wH a aText aField aTrial aPast aKept aSeen aLand aDraft) ++ ((wT cI aText t_letters t_length) ++ (wL cI aDraft o.2.1 o.2.2.1 o.2.2.2.1 o.2.2.2.2.1 o.2.2.2.2.2.1 o.2.2.2.2.2.2.1 o.2.2.2.2.2.2.2.1 o.2.2.2.2.2.2.2.2.1 o.2.2.2.2.2.2.2.2.2))) :=
  hk_metI (by decide) (Nat.le_of_ble_eq_true rfl) rfl rfl (fun p e s m args below meth c A hC hr => jw_H_fault hC hr N a aText aField aTrial aPast aKept aSeen aLand aDraft t_letters t_length d_speeches d_speechLengths d_weather d_kindsOfCows d_thatches d_weatherLength d_mowers d_cows d_ricks h)
