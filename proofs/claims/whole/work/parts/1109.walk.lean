set_option maxHeartbeats 8000000 in
set_option maxRecDepth 100000 in
theorem jw_F_addLayer {p : Program} {l : Launch} {e : Env} {s : State} {m : MethodId} {args : Array Value} {below : List Frame} {meth : Method} {c : Code} {A : Nat → Prop} {D : va_G} {cI cF : ClassId} (hC : hk_ok p s m args meth c A 6 D cI cF "HayTalk$Field" jb_F_addLayer) (hr : meth.sig.returnType = none) (N : Nat) (a : Nat → Nat)  (lying : Nat → Int32) (damp : Nat → Int32) (told : Nat → Int32) (heights : Nat → Int32) (burnt : Nat → Int32) (layerWords : Nat → Int32) (layerWetness : Nat → Int32) (layerHeat : Nat → Int32) (hours : Int32) (x1 : Int32) (x2 : Int32) (x3 : Int32) (x4 : Int32) {o : (Nat → Int32) × (Nat → Int32) × (Nat → Int32) × (Nat → Int32)} (h : jf_F_addLayer N heights layerWords layerWetness layerHeat x1 x2 x3 x4 = some o) : hk_W p l e jr_F_addLayer s m args below meth c A (hk_Zv below args s D A (wF cI a lying damp told o.1 burnt o.2.1 o.2.2.1 o.2.2.2 hours)) 6 D 0 0 (wF cI a lying damp told heights burnt layerWords layerWetness layerHeat hours) 0 [(0, .ref (a 0)), (1, .int x1), (2, .int x2), (3, .int x3), (4, .int x4)] [] := by
  delta jf_F_addLayer at h
  refine hk_aload_n hC jd_F_addLayer_0 0 rfl ?_
  refine hk_iload_n hC jd_F_addLayer_1 1 rfl ?_
  obtain ⟨q1, h_q1, h⟩ := xb_go h
  refine hk_callVWi hC (q0 := 0) (jc_F_heightOf l D cI cF N a lying damp told heights burnt layerWords layerWetness layerHeat hours x1 h_q1) jl_F_heightOf rfl rfl jq_384 jq_376 jq_377 rfl ⟨by decide, by decide⟩ rfl rfl (Nat.le_of_ble_eq_true rfl) ⟨Nat.zero_le _, Nat.zero_le _⟩ jd_F_addLayer_2 ?_
  refine hk_istore hC (i := 5) (y := q1) (lv2 := [(5, .int q1), (0, .ref (a 0)), (1, .int x1), (2, .int x2), (3, .int x3), (4, .int x4)]) jd_F_addLayer_5 rfl (by decide) rfl ?_
  refine hk_iload hC jd_F_addLayer_7 0 rfl ?_
  refine hk_bipush (v := 8) hC jd_F_addLayer_9 (by decide) ?_
  refine hk_icmp_ge (tgt := 72) hC jd_F_addLayer_11 (by decide) (fun cc1 => ?_) (fun cc1 => ?_)
  · replace h := xi_t h cc1
    obtain rfl := Option.some.inj h
    exact hk_vret hC hr jd_F_addLayer_72 rfl
  · replace h := xi_f h cc1
    refine hk_aload_n hC jd_F_addLayer_14 1 rfl ?_
    refine hk_get hC jk_F 0 rfl 5 (by decide) jq_56 rfl jd_F_addLayer_15 ?_
    refine hk_iload_n hC jd_F_addLayer_18 2 rfl ?_
    refine hk_bipush (v := 8) hC jd_F_addLayer_19 (by decide) ?_
    refine hk_imul hC jd_F_addLayer_21 ?_
    refine hk_iload hC jd_F_addLayer_22 0 rfl ?_
    refine hk_iadd hC jd_F_addLayer_24 ?_
    refine hk_iload_n hC jd_F_addLayer_25 3 rfl ?_
    obtain ⟨q2, h_q2, h⟩ := xb_go h
    refine hk_callSv hC (jc_R_put l D cI cF N (fun _ => (a 6)) 24 layerWords ((x1 * (8 : Int32)) + q1) x2 h_q2) jl_R_put jq_439 jq_222 rfl ⟨by decide, by decide⟩ [6] rfl (by decide) rfl (ws2 := (wF cI a lying damp told heights burnt q2 layerWetness layerHeat hours)) rfl rfl (Nat.le_of_ble_eq_true rfl) ⟨Nat.zero_le _, Nat.zero_le _⟩ jd_F_addLayer_26 ?_
    refine hk_aload_n hC jd_F_addLayer_29 1 rfl ?_
    refine hk_get hC jk_F 0 rfl 6 (by decide) jq_57 rfl jd_F_addLayer_30 ?_
    refine hk_iload_n hC jd_F_addLayer_33 2 rfl ?_
    refine hk_bipush (v := 8) hC jd_F_addLayer_34 (by decide) ?_
    refine hk_imul hC jd_F_addLayer_36 ?_
    refine hk_iload hC jd_F_addLayer_37 0 rfl ?_
    refine hk_iadd hC jd_F_addLayer_39 ?_
    refine hk_iload_n hC jd_F_addLayer_40 4 rfl ?_
    obtain ⟨q3, h_q3, h⟩ := xb_go h
    refine hk_callSv hC (jc_R_put l D cI cF N (fun _ => (a 7)) 24 layerWetness ((x1 * (8 : Int32)) + q1) x3 h_q3) jl_R_put jq_439 jq_222 rfl ⟨by decide, by decide⟩ [7] rfl (by decide) rfl (ws2 := (wF cI a lying damp told heights burnt q2 q3 layerHeat hours)) rfl rfl (Nat.le_of_ble_eq_true rfl) ⟨Nat.zero_le _, Nat.zero_le _⟩ jd_F_addLayer_41 ?_
    refine hk_aload_n hC jd_F_addLayer_44 1 rfl ?_
    refine hk_get hC jk_F 0 rfl 7 (by decide) jq_58 rfl jd_F_addLayer_45 ?_
    refine hk_iload_n hC jd_F_addLayer_48 2 rfl ?_
    refine hk_bipush (v := 8) hC jd_F_addLayer_49 (by decide) ?_
    refine hk_imul hC jd_F_addLayer_51 ?_
    refine hk_iload hC jd_F_addLayer_52 0 rfl ?_
    refine hk_iadd hC jd_F_addLayer_54 ?_
    refine hk_iload hC jd_F_addLayer_55 5 rfl ?_
    obtain ⟨q4, h_q4, h⟩ := xb_go h
    refine hk_callSv hC (jc_R_put l D cI cF N (fun _ => (a 8)) 24 layerHeat ((x1 * (8 : Int32)) + q1) x4 h_q4) jl_R_put jq_439 jq_222 rfl ⟨by decide, by decide⟩ [8] rfl (by decide) rfl (ws2 := (wF cI a lying damp told heights burnt q2 q3 q4 hours)) rfl rfl (Nat.le_of_ble_eq_true rfl) ⟨Nat.zero_le _, Nat.zero_le _⟩ jd_F_addLayer_57 ?_
    refine hk_aload_n hC jd_F_addLayer_60 1 rfl ?_
    refine hk_get hC jk_F 0 rfl 3 (by decide) jq_52 rfl jd_F_addLayer_61 ?_
    refine hk_iload_n hC jd_F_addLayer_64 2 rfl ?_
    refine hk_iload hC jd_F_addLayer_65 0 rfl ?_
    refine hk_iconst (v := 1) hC jd_F_addLayer_67 (by decide) ?_
    refine hk_iadd hC jd_F_addLayer_68 ?_
    obtain ⟨q5, h_q5, h⟩ := xb_go h
    refine hk_callSv hC (jc_R_put l D cI cF N (fun _ => (a 4)) 3 heights x1 (q1 + (1 : Int32)) h_q5) jl_R_put jq_439 jq_222 rfl ⟨by decide, by decide⟩ [4] rfl (by decide) rfl (ws2 := (wF cI a lying damp told q5 burnt q2 q3 q4 hours)) rfl rfl (Nat.le_of_ble_eq_true rfl) ⟨Nat.zero_le _, Nat.zero_le _⟩ jd_F_addLayer_69 ?_
    obtain rfl := Option.some.inj h
    exact hk_vret hC hr jd_F_addLayer_72 rfl
theorem jc_F_addLayer (l : Launch) (D : va_G) (cI cF : ClassId) (N : Nat) (a : Nat → Nat)  (lying : Nat → Int32) (damp : Nat → Int32) (told : Nat → Int32) (heights : Nat → Int32) (burnt : Nat → Int32) (layerWords : Nat → Int32) (layerWetness : Nat → Int32) (layerHeat : Nat → Int32) (hours : Int32) (x1 : Int32) (x2 : Int32) (x3 : Int32) (x4 : Int32) {o : (Nat → Int32) × (Nat → Int32) × (Nat → Int32) × (Nat → Int32)} (h : jf_F_addLayer N heights layerWords layerWetness layerHeat x1 x2 x3 x4 = some o) : hk_Mv l jy_F_addLayer jb_F_addLayer 6 jr_F_addLayer D cI cF (wF cI a lying damp told heights burnt layerWords layerWetness layerHeat hours) [.ref (a 0), .int x1, .int x2, .int x3, .int x4] (wF cI a lying damp told o.1 burnt o.2.1 o.2.2.1 o.2.2.2 hours) :=
  hk_metV (by decide) (Nat.le_of_ble_eq_true rfl) rfl rfl (fun p e s m args below meth c A hC hr => jw_F_addLayer hC hr N a lying damp told heights burnt layerWords layerWetness layerHeat hours x1 x2 x3 x4 h)
set_option maxHeartbeats 8000000 in
set_option maxRecDepth 100000 in
theorem jw_F_gather {p : Program} {l : Launch} {e : Env} {s : State} {m : MethodId} {args : Array Value} {below : List Frame} {meth : Method} {c : Code} {A : Nat → Prop} {D : va_G} {cI cF : ClassId} (hC : hk_ok p s m args meth c A 6 D cI cF "HayTalk$Field" jb_F_gather) (hr : meth.sig.returnType = none) (N : Nat) (a : Nat → Nat)  (lying : Nat → Int32) (damp : Nat → Int32) (told : Nat → Int32) (heights : Nat → Int32) (burnt : Nat → Int32) (layerWords : Nat → Int32) (layerWetness : Nat → Int32) (layerHeat : Nat → Int32) (hours : Int32) (x1 : Int32) (x2 : Int32) (x3 : Int32) {o : (Nat → Int32) × (Nat → Int32) × (Nat → Int32) × (Nat → Int32) × (Nat → Int32) × (Nat → Int32)} (h : jf_F_gather N lying damp heights layerWords layerWetness layerHeat x1 x2 x3 = some o) : hk_W p l e jr_F_gather s m args below meth c A (hk_Zv below args s D A (wF cI a o.1 o.2.1 told o.2.2.1 burnt o.2.2.2.1 o.2.2.2.2.1 o.2.2.2.2.2 hours)) 6 D 0 0 (wF cI a lying damp told heights burnt layerWords layerWetness layerHeat hours) 0 [(0, .ref (a 0)), (1, .int x1), (2, .int x2), (3, .int x3)] [] := by
  have B_6 : ∀ (lying : Nat → Int32) (damp : Nat → Int32) (heights : Nat → Int32) (layerWords : Nat → Int32) (layerWetness : Nat → Int32) (layerHeat : Nat → Int32) (x1 : Int32) (x2 : Int32) (x3 : Int32) (x4 : Int32) (x5 : Int32) (kh6 : (Int32 × Int32) → Option ((Nat → Int32) × (Nat → Int32) × (Nat → Int32) × (Nat → Int32) × (Nat → Int32) × (Nat → Int32))) (kx38 : (Int32) → Option ((Nat → Int32) × (Nat → Int32) × (Nat → Int32) × (Nat → Int32) × (Nat → Int32) × (Nat → Int32))) (ihh6 : ∀ q, kh6 q = some o → hk_W p l e jr_F_gather s m args below meth c A (hk_Zv below args s D A (wF cI a o.1 o.2.1 told o.2.2.1 burnt o.2.2.2.1 o.2.2.2.2.1 o.2.2.2.2.2 hours)) 6 D 0 0 (wF cI a lying damp told heights burnt layerWords layerWetness layerHeat hours) 6 [(0, .ref (a 0)), (1, .int x1), (2, .int x2), (3, .int x3), (4, .int q.1), (5, .int q.2)] []) (ihx38 : ∀ q, kx38 q = some o → hk_W p l e jr_F_gather s m args below meth c A (hk_Zv below args s D A (wF cI a o.1 o.2.1 told o.2.2.1 burnt o.2.2.2.1 o.2.2.2.2.1 o.2.2.2.2.2 hours)) 6 D 0 0 (wF cI a lying damp told heights burnt layerWords layerWetness layerHeat hours) 38 [(0, .ref (a 0)), (1, .int x1), (2, .int x2), (3, .int x3), (4, .int q)] []) (_ : jf_F_gather_6B N lying damp heights layerWords layerWetness layerHeat x1 x2 x3 x4 x5 kh6 kx38 = some o), hk_W p l e jr_F_gather s m args below meth c A (hk_Zv below args s D A (wF cI a o.1 o.2.1 told o.2.2.1 burnt o.2.2.2.1 o.2.2.2.2.1 o.2.2.2.2.2 hours)) 6 D 0 0 (wF cI a lying damp told heights burnt layerWords layerWetness layerHeat hours) 6 [(0, .ref (a 0)), (1, .int x1), (2, .int x2), (3, .int x3), (4, .int x4), (5, .int x5)] [] := by
    intro lying damp heights layerWords layerWetness layerHeat x1 x2 x3 x4 x5 kh6 kx38 ihh6 ihx38 h
    delta jf_F_gather_6B at h
    refine hk_iload hC jd_F_gather_6 5 rfl ?_
    refine hk_iload_n hC jd_F_gather_8 2 rfl ?_
    refine hk_icmp_gt (tgt := 38) hC jd_F_gather_9 (by decide) (fun cc1 => ?_) (fun cc1 => ?_)
    · replace h := xi_t h cc1
      exact hk_lv [0, 1, 2, 3, 4] rfl (ihx38 x4 h)
    · replace h := xi_f h cc1
      refine hk_iload hC jd_F_gather_12 5 rfl ?_
      refine hk_iconst (v := 5) hC jd_F_gather_14 (by decide) ?_
      refine hk_icmp_ge (tgt := 38) hC jd_F_gather_15 (by decide) (fun cc2 => ?_) (fun cc2 => ?_)
      · replace h := xi_t h cc2
        exact hk_lv [0, 1, 2, 3, 4] rfl (ihx38 x4 h)
      · replace h := xi_f h cc2
        refine hk_iload hC jd_F_gather_18 4 rfl ?_
        refine hk_aload_n hC jd_F_gather_20 0 rfl ?_
        refine hk_get hC jk_F 0 rfl 1 (by decide) jq_48 rfl jd_F_gather_21 ?_
        refine hk_iload hC jd_F_gather_24 5 rfl ?_
        obtain ⟨q1, h_q1, h⟩ := xb_go h
        refine hk_callSi hC (jc_R_at l D cI cF N (fun _ => (a 2)) 5 damp x5 h_q1) jl_R_at jq_379 jq_345 rfl ⟨by decide, by decide⟩ [2] rfl (by decide) rfl (ws2 := (wF cI a lying damp told heights burnt layerWords layerWetness layerHeat hours)) rfl rfl (Nat.le_of_ble_eq_true rfl) ⟨Nat.zero_le _, Nat.zero_le _⟩ jd_F_gather_26 ?_
        refine hk_iadd hC jd_F_gather_29 ?_
        obtain ⟨v1, e_v1, h⟩ := xl_go h
        refine hk_istore hC (i := 4) (y := v1) (lv2 := [(4, .int v1), (0, .ref (a 0)), (1, .int x1), (2, .int x2), (3, .int x3), (5, .int x5)]) jd_F_gather_30 e_v1 (by decide) rfl ?_
        obtain ⟨v2, e_v2, h⟩ := xl_go h
        refine hk_iinc hC (lv2 := [(5, .int v2), (4, .int v1), (0, .ref (a 0)), (1, .int x1), (2, .int x2), (3, .int x3)]) jd_F_gather_32 5 rfl e_v2 (by decide) rfl ?_
        refine hk_goto (tgt := 6) hC jd_F_gather_35 (by decide) ?_
        exact hk_lv [2, 3, 4, 5, 1, 0] rfl (ihh6 (v1, v2) h)
  have L_6 : ∀ (lying : Nat → Int32) (damp : Nat → Int32) (heights : Nat → Int32) (layerWords : Nat → Int32) (layerWetness : Nat → Int32) (layerHeat : Nat → Int32) (x1 : Int32) (x2 : Int32) (x3 : Int32) (x4 : Int32) (x5 : Int32) (kx38 : (Int32) → Option ((Nat → Int32) × (Nat → Int32) × (Nat → Int32) × (Nat → Int32) × (Nat → Int32) × (Nat → Int32))) (ihx38 : ∀ q, kx38 q = some o → hk_W p l e jr_F_gather s m args below meth c A (hk_Zv below args s D A (wF cI a o.1 o.2.1 told o.2.2.1 burnt o.2.2.2.1 o.2.2.2.2.1 o.2.2.2.2.2 hours)) 6 D 0 0 (wF cI a lying damp told heights burnt layerWords layerWetness layerHeat hours) 38 [(0, .ref (a 0)), (1, .int x1), (2, .int x2), (3, .int x3), (4, .int q)] []) (_ : jf_F_gather_6 N lying damp heights layerWords layerWetness layerHeat x1 x2 x3 x4 x5 kx38 = some o), hk_W p l e jr_F_gather s m args below meth c A (hk_Zv below args s D A (wF cI a o.1 o.2.1 told o.2.2.1 burnt o.2.2.2.1 o.2.2.2.2.1 o.2.2.2.2.2 hours)) 6 D 0 0 (wF cI a lying damp told heights burnt layerWords layerWetness layerHeat hours) 6 [(0, .ref (a 0)), (1, .int x1), (2, .int x2), (3, .int x3), (4, .int x4), (5, .int x5)] [] := by
    intro lying damp heights layerWords layerWetness layerHeat x1 x2 x3 x4 x5 kx38 ihx38 h
    exact xloopW (fun (q : Int32 × Int32) => hk_W p l e jr_F_gather s m args below meth c A (hk_Zv below args s D A (wF cI a o.1 o.2.1 told o.2.2.1 burnt o.2.2.2.1 o.2.2.2.2.1 o.2.2.2.2.2 hours)) 6 D 0 0 (wF cI a lying damp told heights burnt layerWords layerWetness layerHeat hours) 6 [(0, .ref (a 0)), (1, .int x1), (2, .int x2), (3, .int x3), (4, .int q.1), (5, .int q.2)] []) (fun kh ih q h => B_6 lying damp heights layerWords layerWetness layerHeat x1 x2 x3 q.1 q.2 kh kx38 ih ihx38 h) N (x4, x5) h
  have B_60 : ∀ (lying : Nat → Int32) (damp : Nat → Int32) (heights : Nat → Int32) (layerWords : Nat → Int32) (layerWetness : Nat → Int32) (layerHeat : Nat → Int32) (x2 : Int32) (x5 : Int32) (kh60 : ((Nat → Int32) × (Nat → Int32) × Int32) → Option ((Nat → Int32) × (Nat → Int32) × (Nat → Int32) × (Nat → Int32) × (Nat → Int32) × (Nat → Int32))) (ihh60 : ∀ q, kh60 q = some o → hk_W p l e jr_F_gather s m args below meth c A (hk_Zv below args s D A (wF cI a o.1 o.2.1 told o.2.2.1 burnt o.2.2.2.1 o.2.2.2.2.1 o.2.2.2.2.2 hours)) 6 D 0 0 (wF cI a q.1 q.2.1 told heights burnt layerWords layerWetness layerHeat hours) 60 [(0, .ref (a 0)), (2, .int x2), (5, .int q.2.2)] []) (_ : jf_F_gather_60B N lying damp heights layerWords layerWetness layerHeat x2 x5 kh60 = some o), hk_W p l e jr_F_gather s m args below meth c A (hk_Zv below args s D A (wF cI a o.1 o.2.1 told o.2.2.1 burnt o.2.2.2.1 o.2.2.2.2.1 o.2.2.2.2.2 hours)) 6 D 0 0 (wF cI a lying damp told heights burnt layerWords layerWetness layerHeat hours) 60 [(0, .ref (a 0)), (2, .int x2), (5, .int x5)] [] := by
    intro lying damp heights layerWords layerWetness layerHeat x2 x5 kh60 ihh60 h
    delta jf_F_gather_60B at h
    refine hk_iload hC jd_F_gather_60 2 rfl ?_
    refine hk_iload_n hC jd_F_gather_62 1 rfl ?_
    refine hk_icmp_gt (tgt := 98) hC jd_F_gather_63 (by decide) (fun cc1 => ?_) (fun cc1 => ?_)
    · replace h := xi_t h cc1
      obtain rfl := Option.some.inj h
      exact hk_vret hC hr jd_F_gather_98 rfl
    · replace h := xi_f h cc1
      refine hk_iload hC jd_F_gather_66 2 rfl ?_
      refine hk_iconst (v := 5) hC jd_F_gather_68 (by decide) ?_
      refine hk_icmp_ge (tgt := 98) hC jd_F_gather_69 (by decide) (fun cc2 => ?_) (fun cc2 => ?_)
      · replace h := xi_t h cc2
        obtain rfl := Option.some.inj h
        exact hk_vret hC hr jd_F_gather_98 rfl
      · replace h := xi_f h cc2
        refine hk_aload_n hC jd_F_gather_72 0 rfl ?_
        refine hk_get hC jk_F 0 rfl 0 (by decide) jq_46 rfl jd_F_gather_73 ?_
        refine hk_iload hC jd_F_gather_76 2 rfl ?_
        refine hk_iconst (v := 0) hC jd_F_gather_78 (by decide) ?_
        obtain ⟨q1, h_q1, h⟩ := xb_go h
        refine hk_callSv hC (jc_R_put l D cI cF N (fun _ => (a 1)) 5 lying x5 (0 : Int32) h_q1) jl_R_put jq_439 jq_222 rfl ⟨by decide, by decide⟩ [1] rfl (by decide) rfl (ws2 := (wF cI a q1 damp told heights burnt layerWords layerWetness layerHeat hours)) rfl rfl (Nat.le_of_ble_eq_true rfl) ⟨Nat.zero_le _, Nat.zero_le _⟩ jd_F_gather_79 ?_
        refine hk_aload_n hC jd_F_gather_82 0 rfl ?_
        refine hk_get hC jk_F 0 rfl 1 (by decide) jq_48 rfl jd_F_gather_83 ?_
        refine hk_iload hC jd_F_gather_86 2 rfl ?_
        refine hk_iconst (v := 0) hC jd_F_gather_88 (by decide) ?_
        obtain ⟨q2, h_q2, h⟩ := xb_go h
        refine hk_callSv hC (jc_R_put l D cI cF N (fun _ => (a 2)) 5 damp x5 (0 : Int32) h_q2) jl_R_put jq_439 jq_222 rfl ⟨by decide, by decide⟩ [2] rfl (by decide) rfl (ws2 := (wF cI a q1 q2 told heights burnt layerWords layerWetness layerHeat hours)) rfl rfl (Nat.le_of_ble_eq_true rfl) ⟨Nat.zero_le _, Nat.zero_le _⟩ jd_F_gather_89 ?_
        obtain ⟨v1, e_v1, h⟩ := xl_go h
        refine hk_iinc hC (lv2 := [(5, .int v1), (0, .ref (a 0)), (2, .int x2)]) jd_F_gather_92 2 rfl e_v1 (by decide) rfl ?_
        refine hk_goto (tgt := 60) hC jd_F_gather_95 (by decide) ?_
        exact hk_lv [1, 2, 0] rfl (ihh60 (q1, q2, v1) h)
  have L_60 : ∀ (lying : Nat → Int32) (damp : Nat → Int32) (heights : Nat → Int32) (layerWords : Nat → Int32) (layerWetness : Nat → Int32) (layerHeat : Nat → Int32) (x2 : Int32) (x5 : Int32)   (_ : jf_F_gather_60 N lying damp heights layerWords layerWetness layerHeat x2 x5  = some o), hk_W p l e jr_F_gather s m args below meth c A (hk_Zv below args s D A (wF cI a o.1 o.2.1 told o.2.2.1 burnt o.2.2.2.1 o.2.2.2.2.1 o.2.2.2.2.2 hours)) 6 D 0 0 (wF cI a lying damp told heights burnt layerWords layerWetness layerHeat hours) 60 [(0, .ref (a 0)), (2, .int x2), (5, .int x5)] [] := by
    intro lying damp heights layerWords layerWetness layerHeat x2 x5   h
    exact xloopW (fun (q : (Nat → Int32) × (Nat → Int32) × Int32) => hk_W p l e jr_F_gather s m args below meth c A (hk_Zv below args s D A (wF cI a o.1 o.2.1 told o.2.2.1 burnt o.2.2.2.1 o.2.2.2.2.1 o.2.2.2.2.2 hours)) 6 D 0 0 (wF cI a q.1 q.2.1 told heights burnt layerWords layerWetness layerHeat hours) 60 [(0, .ref (a 0)), (2, .int x2), (5, .int q.2.2)] []) (fun kh ih q h => B_60 q.1 q.2.1 heights layerWords layerWetness layerHeat x2 q.2.2 kh  ih  h) N (lying, damp, x5) h
  have B_38 : ∀ (lying : Nat → Int32) (damp : Nat → Int32) (heights : Nat → Int32) (layerWords : Nat → Int32) (layerWetness : Nat → Int32) (layerHeat : Nat → Int32) (x1 : Int32) (x2 : Int32) (x3 : Int32) (x4 : Int32)   (_ : jf_F_gather_38 N lying damp heights layerWords layerWetness layerHeat x1 x2 x3 x4  = some o), hk_W p l e jr_F_gather s m args below meth c A (hk_Zv below args s D A (wF cI a o.1 o.2.1 told o.2.2.1 burnt o.2.2.2.1 o.2.2.2.2.1 o.2.2.2.2.2 hours)) 6 D 0 0 (wF cI a lying damp told heights burnt layerWords layerWetness layerHeat hours) 38 [(0, .ref (a 0)), (1, .int x1), (2, .int x2), (3, .int x3), (4, .int x4)] [] := by
    intro lying damp heights layerWords layerWetness layerHeat x1 x2 x3 x4   h
    delta jf_F_gather_38 at h
    refine hk_aload_n hC jd_F_gather_38 0 rfl ?_
    refine hk_iload_n hC jd_F_gather_39 3 rfl ?_
    refine hk_aload_n hC jd_F_gather_40 0 rfl ?_
    refine hk_iload_n hC jd_F_gather_41 1 rfl ?_
    refine hk_iload_n hC jd_F_gather_42 2 rfl ?_
    obtain ⟨q1, h_q1, h⟩ := xb_go h
    refine hk_callVWi hC (q0 := 0) (jc_F_lyingIn l D cI cF N a lying damp told heights burnt layerWords layerWetness layerHeat hours x1 x2 h_q1) jl_F_lyingIn rfl rfl jq_459 jq_452 jq_453 rfl ⟨by decide, by decide⟩ rfl rfl (Nat.le_of_ble_eq_true rfl) ⟨Nat.zero_le _, Nat.zero_le _⟩ jd_F_gather_43 ?_
    refine hk_bipush (v := 99) hC jd_F_gather_46 (by decide) ?_
    refine hk_iload hC jd_F_gather_48 4 rfl ?_
    obtain ⟨v1, e_v1, h⟩ := xl_go h
    refine hk_mmin hC jq_446 ⟨Nat.le_of_ble_eq_true rfl, Nat.le_of_ble_eq_true rfl, Nat.zero_le _, Nat.zero_le _⟩ e_v1 jd_F_gather_50 ?_
    refine hk_iconst (v := 0) hC jd_F_gather_53 (by decide) ?_
    obtain ⟨q2, h_q2, h⟩ := xb_go h
    refine hk_callVWv hC (q0 := 0) (jc_F_addLayer l D cI cF N a lying damp told heights burnt layerWords layerWetness layerHeat hours x3 q1 v1 (0 : Int32) h_q2) jl_F_addLayer rfl rfl jq_460 jq_462 jq0_10 rfl ⟨by decide, by decide⟩ rfl rfl (Nat.le_of_ble_eq_true rfl) ⟨Nat.zero_le _, Nat.zero_le _⟩ jd_F_gather_54 ?_
    refine hk_iload_n hC jd_F_gather_57 1 rfl ?_
    refine hk_istore hC (i := 5) (y := x1) (lv2 := [(5, .int x1), (0, .ref (a 0)), (1, .int x1), (2, .int x2), (3, .int x3), (4, .int x4)]) jd_F_gather_58 rfl (by decide) rfl ?_
    exact hk_lv [1, 3, 0] rfl (L_60 lying damp q2.1 q2.2.1 q2.2.2.1 q2.2.2.2 x2 x1   h)
  delta jf_F_gather at h
  refine hk_iconst (v := 0) hC jd_F_gather_0 (by decide) ?_
  refine hk_istore hC (i := 4) (y := (0 : Int32)) (lv2 := [(4, .int (0 : Int32)), (0, .ref (a 0)), (1, .int x1), (2, .int x2), (3, .int x3)]) jd_F_gather_1 rfl (by decide) rfl ?_
  refine hk_iload_n hC jd_F_gather_3 2 rfl ?_
  refine hk_istore hC (i := 5) (y := x1) (lv2 := [(5, .int x1), (4, .int (0 : Int32)), (0, .ref (a 0)), (1, .int x1), (2, .int x2), (3, .int x3)]) jd_F_gather_4 rfl (by decide) rfl ?_
  exact hk_lv [2, 3, 4, 5, 1, 0] rfl (L_6 lying damp heights layerWords layerWetness layerHeat x1 x2 x3 (0 : Int32) x1 _ (fun q1 h => by exact (B_38 lying damp heights layerWords layerWetness layerHeat x1 x2 x3 q1   h)) h)
theorem jc_F_gather (l : Launch) (D : va_G) (cI cF : ClassId) (N : Nat) (a : Nat → Nat)  (lying : Nat → Int32) (damp : Nat → Int32) (told : Nat → Int32) (heights : Nat → Int32) (burnt : Nat → Int32) (layerWords : Nat → Int32) (layerWetness : Nat → Int32) (layerHeat : Nat → Int32) (hours : Int32) (x1 : Int32) (x2 : Int32) (x3 : Int32) {o : (Nat → Int32) × (Nat → Int32) × (Nat → Int32) × (Nat → Int32) × (Nat → Int32) × (Nat → Int32)} (h : jf_F_gather N lying damp heights layerWords layerWetness layerHeat x1 x2 x3 = some o) : hk_Mv l jy_F_gather jb_F_gather 6 jr_F_gather D cI cF (wF cI a lying damp told heights burnt layerWords layerWetness layerHeat hours) [.ref (a 0), .int x1, .int x2, .int x3] (wF cI a o.1 o.2.1 told o.2.2.1 burnt o.2.2.2.1 o.2.2.2.2.1 o.2.2.2.2.2 hours) :=
  hk_metV (by decide) (Nat.le_of_ble_eq_true rfl) rfl rfl (fun p e s m args below meth c A hC hr => jw_F_gather hC hr N a lying damp told heights burnt layerWords layerWetness layerHeat hours x1 x2 x3 h)
set_option maxHeartbeats 8000000 in
set_option maxRecDepth 100000 in
theorem jw_F_wordsFromTop {p : Program} {l : Launch} {e : Env} {s : State} {m : MethodId} {args : Array Value} {below : List Frame} {meth : Method} {c : Code} {A : Nat → Prop} {D : va_G} {cI cF : ClassId} (hC : hk_ok p s m args meth c A 3 D cI cF "HayTalk$Field" jb_F_wordsFromTop) (hr : meth.sig.returnType = (some .int)) (N : Nat) (a : Nat → Nat)  (lying : Nat → Int32) (damp : Nat → Int32) (told : Nat → Int32) (heights : Nat → Int32) (burnt : Nat → Int32) (layerWords : Nat → Int32) (layerWetness : Nat → Int32) (layerHeat : Nat → Int32) (hours : Int32) (x1 : Int32) (x2 : Int32) {o : Int32} (h : jf_F_wordsFromTop N heights layerWords x1 x2 = some o) : hk_W p l e jr_F_wordsFromTop s m args below meth c A (hk_Zi below args s D A o (wF cI a lying damp told heights burnt layerWords layerWetness layerHeat hours)) 3 D 0 0 (wF cI a lying damp told heights burnt layerWords layerWetness layerHeat hours) 0 [(0, .ref (a 0)), (1, .int x1), (2, .int x2)] [] := by
  delta jf_F_wordsFromTop at h
  refine hk_iload_n hC jd_F_wordsFromTop_0 2 rfl ?_
  refine hk_aload_n hC jd_F_wordsFromTop_1 0 rfl ?_
  refine hk_iload_n hC jd_F_wordsFromTop_2 1 rfl ?_
  obtain ⟨q1, h_q1, h⟩ := xb_go h
  refine hk_callVWi hC (q0 := 0) (jc_F_heightOf l D cI cF N a lying damp told heights burnt layerWords layerWetness layerHeat hours x1 h_q1) jl_F_heightOf rfl rfl jq_384 jq_376 jq_377 rfl ⟨by decide, by decide⟩ rfl rfl (Nat.le_of_ble_eq_true rfl) ⟨Nat.zero_le _, Nat.zero_le _⟩ jd_F_wordsFromTop_3 ?_
  refine hk_icmp_ge (tgt := 26) hC jd_F_wordsFromTop_6 (by decide) (fun cc1 => ?_) (fun cc1 => ?_)
  · replace h := xi_t h cc1
    refine hk_iconst (v := 0) hC jd_F_wordsFromTop_26 (by decide) ?_
    obtain rfl := Option.some.inj h
    exact hk_iret hC hr jd_F_wordsFromTop_27 rfl rfl
  · replace h := xi_f h cc1
    refine hk_aload_n hC jd_F_wordsFromTop_9 0 rfl ?_
    refine hk_iload_n hC jd_F_wordsFromTop_10 1 rfl ?_
    refine hk_aload_n hC jd_F_wordsFromTop_11 0 rfl ?_
    refine hk_iload_n hC jd_F_wordsFromTop_12 1 rfl ?_
    obtain ⟨q2, h_q2, h⟩ := xb_go h
    refine hk_callVWi hC (q0 := 0) (jc_F_heightOf l D cI cF N a lying damp told heights burnt layerWords layerWetness layerHeat hours x1 h_q2) jl_F_heightOf rfl rfl jq_384 jq_376 jq_377 rfl ⟨by decide, by decide⟩ rfl rfl (Nat.le_of_ble_eq_true rfl) ⟨Nat.zero_le _, Nat.zero_le _⟩ jd_F_wordsFromTop_13 ?_
    refine hk_iconst (v := 1) hC jd_F_wordsFromTop_16 (by decide) ?_
    refine hk_isub hC jd_F_wordsFromTop_17 ?_
    refine hk_iload_n hC jd_F_wordsFromTop_18 2 rfl ?_
    refine hk_isub hC jd_F_wordsFromTop_19 ?_
    obtain ⟨q3, h_q3, h⟩ := xb_go h
    refine hk_callVWi hC (q0 := 0) (jc_F_wordsOf l D cI cF N a lying damp told heights burnt layerWords layerWetness layerHeat hours x1 ((q2 - (1 : Int32)) - x2) h_q3) jl_F_wordsOf rfl rfl jq_480 jq_395 jq_396 rfl ⟨by decide, by decide⟩ rfl rfl (Nat.le_of_ble_eq_true rfl) ⟨Nat.zero_le _, Nat.zero_le _⟩ jd_F_wordsFromTop_20 ?_
    refine hk_goto (tgt := 27) hC jd_F_wordsFromTop_23 (by decide) ?_
    obtain rfl := Option.some.inj h
    exact hk_iret hC hr jd_F_wordsFromTop_27 rfl rfl
theorem jc_F_wordsFromTop (l : Launch) (D : va_G) (cI cF : ClassId) (N : Nat) (a : Nat → Nat)  (lying : Nat → Int32) (damp : Nat → Int32) (told : Nat → Int32) (heights : Nat → Int32) (burnt : Nat → Int32) (layerWords : Nat → Int32) (layerWetness : Nat → Int32) (layerHeat : Nat → Int32) (hours : Int32) (x1 : Int32) (x2 : Int32) {o : Int32} (h : jf_F_wordsFromTop N heights layerWords x1 x2 = some o) : hk_Mi l jy_F_wordsFromTop jb_F_wordsFromTop 3 (some .int) jr_F_wordsFromTop D cI cF (wF cI a lying damp told heights burnt layerWords layerWetness layerHeat hours) [.ref (a 0), .int x1, .int x2] o (wF cI a lying damp told heights burnt layerWords layerWetness layerHeat hours) :=
  hk_metI (by decide) (Nat.le_of_ble_eq_true rfl) rfl rfl (fun p e s m args below meth c A hC hr => jw_F_wordsFromTop hC hr N a lying damp told heights burnt layerWords layerWetness layerHeat hours x1 x2 h)
set_option maxHeartbeats 8000000 in
set_option maxRecDepth 100000 in
theorem jw_H_wordsAboveAll {p : Program} {l : Launch} {e : Env} {s : State} {m : MethodId} {args : Array Value} {below : List Frame} {meth : Method} {c : Code} {A : Nat → Prop} {D : va_G} {cI cF : ClassId} (hC : hk_ok p s m args meth c A 4 D cI cF "HayTalk" jb_H_wordsAboveAll) (hr : meth.sig.returnType = (some .int)) (N : Nat)    (x0 : Int32) (x1 : Int32) {o : Int32} (h : jf_H_wordsAboveAll N x0 x1 = some o) : hk_W p l e jr_H_wordsAboveAll s m args below meth c A (hk_Zi below args s D A o ([] : va_W)) 4 D 0 0 ([] : va_W) 0 [(0, .int x0), (1, .int x1)] [] := by
  have B_24 : ∀ (x1 : Int32) (x2 : Int32) (x3 : Int32) (kh4 : (Int32 × Int32) → Option (Int32)) (ihh4 : ∀ q, kh4 q = some o → hk_W p l e jr_H_wordsAboveAll s m args below meth c A (hk_Zi below args s D A o ([] : va_W)) 4 D 0 0 ([] : va_W) 4 [(1, .int x1), (2, .int q.1), (3, .int q.2)] []) (_ : jf_H_wordsAboveAll_24 N x1 x2 x3 kh4 = some o), hk_W p l e jr_H_wordsAboveAll s m args below meth c A (hk_Zi below args s D A o ([] : va_W)) 4 D 0 0 ([] : va_W) 24 [(1, .int x1), (2, .int x2), (3, .int x3)] [] := by
    intro x1 x2 x3 kh4 ihh4 h
    delta jf_H_wordsAboveAll_24 at h
    obtain ⟨v1, e_v1, h⟩ := xl_go h
    refine hk_iinc hC (lv2 := [(3, .int v1), (1, .int x1), (2, .int x2)]) jd_H_wordsAboveAll_24 2 rfl e_v1 (by decide) rfl ?_
    refine hk_goto (tgt := 4) hC jd_H_wordsAboveAll_27 (by decide) ?_
    exact hk_lv [1, 2, 0] rfl (ihh4 (x2, v1) h)
  have B_4 : ∀ (x1 : Int32) (x2 : Int32) (x3 : Int32) (kh4 : (Int32 × Int32) → Option (Int32)) (ihh4 : ∀ q, kh4 q = some o → hk_W p l e jr_H_wordsAboveAll s m args below meth c A (hk_Zi below args s D A o ([] : va_W)) 4 D 0 0 ([] : va_W) 4 [(1, .int x1), (2, .int q.1), (3, .int q.2)] []) (_ : jf_H_wordsAboveAll_4B N x1 x2 x3 kh4 = some o), hk_W p l e jr_H_wordsAboveAll s m args below meth c A (hk_Zi below args s D A o ([] : va_W)) 4 D 0 0 ([] : va_W) 4 [(1, .int x1), (2, .int x2), (3, .int x3)] [] := by
    intro x1 x2 x3 kh4 ihh4 h
    delta jf_H_wordsAboveAll_4B at h
    refine hk_iload_n hC jd_H_wordsAboveAll_4 2 rfl ?_
    refine hk_bipush (v := 9) hC jd_H_wordsAboveAll_5 (by decide) ?_
    refine hk_icmp_gt (tgt := 30) hC jd_H_wordsAboveAll_7 (by decide) (fun cc1 => ?_) (fun cc1 => ?_)
    · replace h := xi_t h cc1
      refine hk_iload_n hC jd_H_wordsAboveAll_30 1 rfl ?_
      obtain rfl := Option.some.inj h
      exact hk_iret hC hr jd_H_wordsAboveAll_31 rfl rfl
    · replace h := xi_f h cc1
      refine hk_iload_n hC jd_H_wordsAboveAll_10 0 rfl ?_
      refine hk_iload_n hC jd_H_wordsAboveAll_11 2 rfl ?_
      refine hk_ishr hC jd_H_wordsAboveAll_12 ?_
      refine hk_if_eq (tgt := 24) hC jd_H_wordsAboveAll_13 (by decide) (fun cc2 => ?_) (fun cc2 => ?_)
      · replace h := xi_t h cc2
        exact (B_24 x1 x2 x3 kh4 ihh4 h)
      · replace h := xi_f h cc2
        refine hk_iload_n hC jd_H_wordsAboveAll_16 1 rfl ?_
        refine hk_iconst (v := 1) hC jd_H_wordsAboveAll_17 (by decide) ?_
        refine hk_iload_n hC jd_H_wordsAboveAll_18 2 rfl ?_
        refine hk_ishl hC jd_H_wordsAboveAll_19 ?_
        refine hk_iconst (v := -1) hC jd_H_wordsAboveAll_20 (by decide) ?_
        refine hk_ixor hC jd_H_wordsAboveAll_21 ?_
        refine hk_iand hC jd_H_wordsAboveAll_22 ?_
        obtain ⟨v1, e_v1, h⟩ := xl_go h
        refine hk_istore_n hC (i := 2) (y := v1) (lv2 := [(2, .int v1), (1, .int x1), (3, .int x3)]) jd_H_wordsAboveAll_23 rfl e_v1 (by decide) rfl ?_
        exact hk_lv [1, 0, 2] rfl (B_24 x1 v1 x3 kh4 ihh4 h)
  have L_4 : ∀ (x1 : Int32) (x2 : Int32) (x3 : Int32)   (_ : jf_H_wordsAboveAll_4 N x1 x2 x3  = some o), hk_W p l e jr_H_wordsAboveAll s m args below meth c A (hk_Zi below args s D A o ([] : va_W)) 4 D 0 0 ([] : va_W) 4 [(1, .int x1), (2, .int x2), (3, .int x3)] [] := by
    intro x1 x2 x3   h
    exact xloopW (fun (q : Int32 × Int32) => hk_W p l e jr_H_wordsAboveAll s m args below meth c A (hk_Zi below args s D A o ([] : va_W)) 4 D 0 0 ([] : va_W) 4 [(1, .int x1), (2, .int q.1), (3, .int q.2)] []) (fun kh ih q h => B_4 x1 q.1 q.2 kh  ih  h) N (x2, x3) h
  delta jf_H_wordsAboveAll at h
  refine hk_iload_n hC jd_H_wordsAboveAll_0 0 rfl ?_
  refine hk_istore_n hC (i := 2) (y := x0) (lv2 := [(2, .int x0), (0, .int x0), (1, .int x1)]) jd_H_wordsAboveAll_1 rfl rfl (by decide) rfl ?_
  refine hk_iconst (v := 0) hC jd_H_wordsAboveAll_2 (by decide) ?_
  refine hk_istore_n hC (i := 3) (y := (0 : Int32)) (lv2 := [(3, .int (0 : Int32)), (2, .int x0), (0, .int x0), (1, .int x1)]) jd_H_wordsAboveAll_3 rfl rfl (by decide) rfl ?_
  exact hk_lv [3, 1, 0] rfl (L_4 x1 x0 (0 : Int32)   h)
theorem jc_H_wordsAboveAll (l : Launch) (D : va_G) (cI cF : ClassId) (N : Nat)    (x0 : Int32) (x1 : Int32) {o : Int32} (h : jf_H_wordsAboveAll N x0 x1 = some o) : hk_Mi l jy_H_wordsAboveAll jb_H_wordsAboveAll 4 (some .int) jr_H_wordsAboveAll D cI cF ([] : va_W) [.int x0, .int x1] o ([] : va_W) :=
  hk_metI (by decide) (Nat.le_of_ble_eq_true rfl) rfl rfl (fun p e s m args below meth c A hC hr => jw_H_wordsAboveAll hC hr N x0 x1 h)
