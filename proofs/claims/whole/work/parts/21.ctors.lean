theorem jq_28 : Jvm.Cond.code ({ cls := "HayTalk$Text", name := "<init>", desc := "()V" } : Jvm.MethodName) prog_7_method_1_code (1 : Nat) (Option.none : Option Jvm.ClassFile.FieldType) ∈ lw_gd := lw_in 28 (by decide +kernel) rfl
theorem jq_29 : Jvm.Cond.methodLink "HayTalk$Text" (3 : Nat) ({ cls := "java/lang/Object", name := "<init>", desc := "()V" } : Jvm.MethodName) ∈ lw_gd := lw_in 29 (by decide +kernel) rfl
theorem jq_44 : Jvm.Cond.code ({ cls := "HayTalk$Field", name := "<init>", desc := "()V" } : Jvm.MethodName) prog_2_method_1_code (1 : Nat) (Option.none : Option Jvm.ClassFile.FieldType) ∈ lw_gd := lw_in 44 (by decide +kernel) rfl
theorem jq_45 : Jvm.Cond.methodLink "HayTalk$Field" (3 : Nat) ({ cls := "java/lang/Object", name := "<init>", desc := "()V" } : Jvm.MethodName) ∈ lw_gd := lw_in 45 (by decide +kernel) rfl
theorem jq_107 : Jvm.Cond.code ({ cls := "HayTalk$Seen", name := "<init>", desc := "()V" } : Jvm.MethodName) prog_6_method_1_code (1 : Nat) (Option.none : Option Jvm.ClassFile.FieldType) ∈ lw_gd := lw_in 107 (by decide +kernel) rfl
theorem jq_108 : Jvm.Cond.methodLink "HayTalk$Seen" (1 : Nat) ({ cls := "java/lang/Object", name := "<init>", desc := "()V" } : Jvm.MethodName) ∈ lw_gd := lw_in 108 (by decide +kernel) rfl
theorem jq_124 : Jvm.Cond.code ({ cls := "HayTalk$Land", name := "<init>", desc := "()V" } : Jvm.MethodName) prog_3_method_1_code (1 : Nat) (Option.none : Option Jvm.ClassFile.FieldType) ∈ lw_gd := lw_in 124 (by decide +kernel) rfl
theorem jq_125 : Jvm.Cond.methodLink "HayTalk$Land" (3 : Nat) ({ cls := "java/lang/Object", name := "<init>", desc := "()V" } : Jvm.MethodName) ∈ lw_gd := lw_in 125 (by decide +kernel) rfl
abbrev jb_T_init : ByteArray := prog_7_method_1_code
abbrev jy_T_init : MethodName := ⟨"HayTalk$Text", "<init>", "()V"⟩
abbrev jr_T_init : Room := { frames := 1, cells := 1, slots := 200, locals := 12 }
abbrev jb_S_init : ByteArray := prog_6_method_1_code
abbrev jy_S_init : MethodName := ⟨"HayTalk$Seen", "<init>", "()V"⟩
abbrev jr_S_init : Room := { frames := 1, cells := 2, slots := 12, locals := 12 }
abbrev jb_L_init : ByteArray := prog_3_method_1_code
abbrev jy_L_init : MethodName := ⟨"HayTalk$Land", "<init>", "()V"⟩
abbrev jr_L_init : Room := { frames := 1, cells := 5, slots := 66, locals := 12 }
abbrev jb_F_init : ByteArray := prog_2_method_1_code
abbrev jy_F_init : MethodName := ⟨"HayTalk$Field", "<init>", "()V"⟩
abbrev jr_F_init : Room := { frames := 1, cells := 8, slots := 92, locals := 12 }
theorem jl_T_init : hk_L jy_T_init jb_T_init 1 none 0 := ⟨jq_28, jq_2, by decide, by decide, by decide +kernel⟩
theorem jl_S_init : hk_L jy_S_init jb_S_init 1 none 0 := ⟨jq_107, jq_6, by decide, by decide, by decide +kernel⟩
theorem jl_L_init : hk_L jy_L_init jb_L_init 1 none 0 := ⟨jq_124, jq_7, by decide, by decide, by decide +kernel⟩
theorem jl_F_init : hk_L jy_F_init jb_F_init 1 none 0 := ⟨jq_44, jq_3, by decide, by decide, by decide +kernel⟩
theorem jd_T_init_0 : decode jb_T_init 0 = .ok (.aload_n 0, 1) := by decide +kernel
theorem jd_T_init_1 : decode jb_T_init 1 = .ok (.invokespecial 3, 3) := by decide +kernel
theorem jd_T_init_4 : decode jb_T_init 4 = .ok (.aload_n 0, 1) := by decide +kernel
theorem jd_T_init_5 : decode jb_T_init 5 = .ok (.sipush 200, 3) := by decide +kernel
theorem jd_T_init_8 : decode jb_T_init 8 = .ok (.newarray .int, 2) := by decide +kernel
theorem jd_T_init_10 : decode jb_T_init 10 = .ok (.putfield 11, 3) := by decide +kernel
theorem jd_T_init_13 : decode jb_T_init 13 = .ok (.return_, 1) := by decide +kernel
theorem jd_S_init_0 : decode jb_S_init 0 = .ok (.aload_n 0, 1) := by decide +kernel
theorem jd_S_init_1 : decode jb_S_init 1 = .ok (.invokespecial 1, 3) := by decide +kernel
theorem jd_S_init_4 : decode jb_S_init 4 = .ok (.aload_n 0, 1) := by decide +kernel
theorem jd_S_init_5 : decode jb_S_init 5 = .ok (.bipush 6, 2) := by decide +kernel
theorem jd_S_init_7 : decode jb_S_init 7 = .ok (.newarray .int, 2) := by decide +kernel
theorem jd_S_init_9 : decode jb_S_init 9 = .ok (.putfield 9, 3) := by decide +kernel
theorem jd_S_init_12 : decode jb_S_init 12 = .ok (.aload_n 0, 1) := by decide +kernel
theorem jd_S_init_13 : decode jb_S_init 13 = .ok (.bipush 6, 2) := by decide +kernel
theorem jd_S_init_15 : decode jb_S_init 15 = .ok (.newarray .int, 2) := by decide +kernel
theorem jd_S_init_17 : decode jb_S_init 17 = .ok (.putfield 13, 3) := by decide +kernel
theorem jd_S_init_20 : decode jb_S_init 20 = .ok (.return_, 1) := by decide +kernel
theorem jd_L_init_0 : decode jb_L_init 0 = .ok (.aload_n 0, 1) := by decide +kernel
theorem jd_L_init_1 : decode jb_L_init 1 = .ok (.invokespecial 3, 3) := by decide +kernel
theorem jd_L_init_4 : decode jb_L_init 4 = .ok (.aload_n 0, 1) := by decide +kernel
theorem jd_L_init_5 : decode jb_L_init 5 = .ok (.bipush 45, 2) := by decide +kernel
theorem jd_L_init_7 : decode jb_L_init 7 = .ok (.newarray .int, 2) := by decide +kernel
theorem jd_L_init_9 : decode jb_L_init 9 = .ok (.putfield 11, 3) := by decide +kernel
theorem jd_L_init_12 : decode jb_L_init 12 = .ok (.aload_n 0, 1) := by decide +kernel
theorem jd_L_init_13 : decode jb_L_init 13 = .ok (.iconst 5, 1) := by decide +kernel
theorem jd_L_init_14 : decode jb_L_init 14 = .ok (.newarray .int, 2) := by decide +kernel
theorem jd_L_init_16 : decode jb_L_init 16 = .ok (.putfield 15, 3) := by decide +kernel
theorem jd_L_init_19 : decode jb_L_init 19 = .ok (.aload_n 0, 1) := by decide +kernel
theorem jd_L_init_20 : decode jb_L_init 20 = .ok (.bipush 9, 2) := by decide +kernel
theorem jd_L_init_22 : decode jb_L_init 22 = .ok (.newarray .int, 2) := by decide +kernel
theorem jd_L_init_24 : decode jb_L_init 24 = .ok (.putfield 18, 3) := by decide +kernel
theorem jd_L_init_27 : decode jb_L_init 27 = .ok (.aload_n 0, 1) := by decide +kernel
theorem jd_L_init_28 : decode jb_L_init 28 = .ok (.iconst 4, 1) := by decide +kernel
theorem jd_L_init_29 : decode jb_L_init 29 = .ok (.newarray .int, 2) := by decide +kernel
theorem jd_L_init_31 : decode jb_L_init 31 = .ok (.putfield 21, 3) := by decide +kernel
theorem jd_L_init_34 : decode jb_L_init 34 = .ok (.aload_n 0, 1) := by decide +kernel
theorem jd_L_init_35 : decode jb_L_init 35 = .ok (.iconst 3, 1) := by decide +kernel
theorem jd_L_init_36 : decode jb_L_init 36 = .ok (.newarray .int, 2) := by decide +kernel
theorem jd_L_init_38 : decode jb_L_init 38 = .ok (.putfield 24, 3) := by decide +kernel
theorem jd_L_init_41 : decode jb_L_init 41 = .ok (.return_, 1) := by decide +kernel
theorem jd_F_init_0 : decode jb_F_init 0 = .ok (.aload_n 0, 1) := by decide +kernel
theorem jd_F_init_1 : decode jb_F_init 1 = .ok (.invokespecial 3, 3) := by decide +kernel
theorem jd_F_init_4 : decode jb_F_init 4 = .ok (.aload_n 0, 1) := by decide +kernel
theorem jd_F_init_5 : decode jb_F_init 5 = .ok (.iconst 5, 1) := by decide +kernel
theorem jd_F_init_6 : decode jb_F_init 6 = .ok (.newarray .int, 2) := by decide +kernel
theorem jd_F_init_8 : decode jb_F_init 8 = .ok (.putfield 9, 3) := by decide +kernel
theorem jd_F_init_11 : decode jb_F_init 11 = .ok (.aload_n 0, 1) := by decide +kernel
theorem jd_F_init_12 : decode jb_F_init 12 = .ok (.iconst 5, 1) := by decide +kernel
theorem jd_F_init_13 : decode jb_F_init 13 = .ok (.newarray .int, 2) := by decide +kernel
theorem jd_F_init_15 : decode jb_F_init 15 = .ok (.putfield 15, 3) := by decide +kernel
theorem jd_F_init_18 : decode jb_F_init 18 = .ok (.aload_n 0, 1) := by decide +kernel
theorem jd_F_init_19 : decode jb_F_init 19 = .ok (.iconst 4, 1) := by decide +kernel
theorem jd_F_init_20 : decode jb_F_init 20 = .ok (.newarray .int, 2) := by decide +kernel
theorem jd_F_init_22 : decode jb_F_init 22 = .ok (.putfield 18, 3) := by decide +kernel
theorem jd_F_init_25 : decode jb_F_init 25 = .ok (.aload_n 0, 1) := by decide +kernel
theorem jd_F_init_26 : decode jb_F_init 26 = .ok (.iconst 3, 1) := by decide +kernel
theorem jd_F_init_27 : decode jb_F_init 27 = .ok (.newarray .int, 2) := by decide +kernel
theorem jd_F_init_29 : decode jb_F_init 29 = .ok (.putfield 21, 3) := by decide +kernel
theorem jd_F_init_32 : decode jb_F_init 32 = .ok (.aload_n 0, 1) := by decide +kernel
theorem jd_F_init_33 : decode jb_F_init 33 = .ok (.iconst 3, 1) := by decide +kernel
theorem jd_F_init_34 : decode jb_F_init 34 = .ok (.newarray .int, 2) := by decide +kernel
theorem jd_F_init_36 : decode jb_F_init 36 = .ok (.putfield 24, 3) := by decide +kernel
theorem jd_F_init_39 : decode jb_F_init 39 = .ok (.aload_n 0, 1) := by decide +kernel
theorem jd_F_init_40 : decode jb_F_init 40 = .ok (.bipush 24, 2) := by decide +kernel
theorem jd_F_init_42 : decode jb_F_init 42 = .ok (.newarray .int, 2) := by decide +kernel
theorem jd_F_init_44 : decode jb_F_init 44 = .ok (.putfield 27, 3) := by decide +kernel
theorem jd_F_init_47 : decode jb_F_init 47 = .ok (.aload_n 0, 1) := by decide +kernel
theorem jd_F_init_48 : decode jb_F_init 48 = .ok (.bipush 24, 2) := by decide +kernel
theorem jd_F_init_50 : decode jb_F_init 50 = .ok (.newarray .int, 2) := by decide +kernel
theorem jd_F_init_52 : decode jb_F_init 52 = .ok (.putfield 30, 3) := by decide +kernel
theorem jd_F_init_55 : decode jb_F_init 55 = .ok (.aload_n 0, 1) := by decide +kernel
theorem jd_F_init_56 : decode jb_F_init 56 = .ok (.bipush 24, 2) := by decide +kernel
theorem jd_F_init_58 : decode jb_F_init 58 = .ok (.newarray .int, 2) := by decide +kernel
theorem jd_F_init_60 : decode jb_F_init 60 = .ok (.putfield 33, 3) := by decide +kernel
theorem jd_F_init_63 : decode jb_F_init 63 = .ok (.return_, 1) := by decide +kernel
set_option maxHeartbeats 8000000 in
set_option maxRecDepth 100000 in
theorem jw_T_init {p : Program} {l : Launch} {e : Env} {s : State} {m : MethodId} {args : Array Value} {below : List Frame} {meth : Method} {c : Code} {A : Nat → Prop} {D : va_G} {cI cF : ClassId} (hC : hk_ok p s m args meth c A 1 D cI cF "HayTalk$Text" jb_T_init) (hr : meth.sig.returnType = none) (hnm : meth.name = "<init>") (h0 : Nat) : hk_W p l e jr_T_init s m args below meth c A (hk_Zx below args s D A h0 1 200 (fun a2 => wT cI a2 (fun _ => 0) 0)) 1 D 0 0 [(h0, .inr (1, [.null, .int 0]))] 0 [(0, .ref h0)] [] := by
  refine hk_aload_n hC jd_T_init_0 0 rfl ?_
  refine hk_objInit hC jq_29 ⟨Nat.le_of_ble_eq_true rfl, Nat.le_of_ble_eq_true rfl⟩ jd_T_init_1 ?_
  refine hk_aload_n hC jd_T_init_4 0 rfl ?_
  refine hk_sipush (v := 200) hC jd_T_init_5 (by decide) ?_
  refine hk_newa (N' := 200) hC (by decide) (by decide) (by decide) ⟨Nat.le_of_ble_eq_true rfl, Nat.le_of_ble_eq_true rfl⟩ jd_T_init_8 (fun q1 => ?_)
  refine hk_ws (ws2 := [(h0, .inr (1, [.null, .int 0])), (q1, .inl (cI, 200, .inl (fun _ => 0)))]) rfl ?_
  refine hk_widen (k1 := 1) (k2 := 200) (Nat.le_of_ble_eq_true rfl) (Nat.le_of_ble_eq_true rfl) ?_
  refine hk_putF hC jk_T 0 rfl 0 (by decide) jq_30 rfl hnm rfl rfl rfl (Nat.le_of_ble_eq_true rfl) (ws2 := [(h0, .inr (1, [.ref q1, .int 0])), (q1, .inl (cI, 200, .inl (fun _ => 0)))]) rfl jd_T_init_10 ?_
  exact hk_cret hC hr jd_T_init_13 (fun j => ([h0, q1] : List Nat).getD j 0) rfl (wr := []) (List.Perm.of_eq rfl)
theorem jc_T_init (l : Launch) (D : va_G) (cI cF : ClassId) (h0 : Nat) : hk_Mx l jy_T_init jb_T_init 1 jr_T_init D cI cF [(h0, .inr (1, [.null, .int 0]))] [.ref h0] h0 1 200 (fun a2 => wT cI a2 (fun _ => 0) 0) :=
  hk_metX (by decide) (Nat.le_of_ble_eq_true rfl) rfl rfl (fun p e s m args below meth c A hC hr hnm => jw_T_init hC hr hnm h0)
set_option maxHeartbeats 8000000 in
set_option maxRecDepth 100000 in
theorem jw_S_init {p : Program} {l : Launch} {e : Env} {s : State} {m : MethodId} {args : Array Value} {below : List Frame} {meth : Method} {c : Code} {A : Nat → Prop} {D : va_G} {cI cF : ClassId} (hC : hk_ok p s m args meth c A 1 D cI cF "HayTalk$Seen" jb_S_init) (hr : meth.sig.returnType = none) (hnm : meth.name = "<init>") (h0 : Nat) : hk_W p l e jr_S_init s m args below meth c A (hk_Zx below args s D A h0 2 12 (fun a2 => wS cI a2 (fun _ => 0) (fun _ => 0) 0)) 1 D 0 0 [(h0, .inr (4, [.null, .null, .int 0]))] 0 [(0, .ref h0)] [] := by
  refine hk_aload_n hC jd_S_init_0 0 rfl ?_
  refine hk_objInit hC jq_108 ⟨Nat.le_of_ble_eq_true rfl, Nat.le_of_ble_eq_true rfl⟩ jd_S_init_1 ?_
  refine hk_aload_n hC jd_S_init_4 0 rfl ?_
  refine hk_bipush (v := 6) hC jd_S_init_5 (by decide) ?_
  refine hk_newa (N' := 6) hC (by decide) (by decide) (by decide) ⟨Nat.le_of_ble_eq_true rfl, Nat.le_of_ble_eq_true rfl⟩ jd_S_init_7 (fun q1 => ?_)
  refine hk_ws (ws2 := [(h0, .inr (4, [.null, .null, .int 0])), (q1, .inl (cI, 6, .inl (fun _ => 0)))]) rfl ?_
  refine hk_widen (k1 := 1) (k2 := 6) (Nat.le_of_ble_eq_true rfl) (Nat.le_of_ble_eq_true rfl) ?_
  refine hk_putF hC jk_S 0 rfl 0 (by decide) jq_109 rfl hnm rfl rfl rfl (Nat.le_of_ble_eq_true rfl) (ws2 := [(h0, .inr (4, [.ref q1, .null, .int 0])), (q1, .inl (cI, 6, .inl (fun _ => 0)))]) rfl jd_S_init_9 ?_
  refine hk_aload_n hC jd_S_init_12 0 rfl ?_
  refine hk_bipush (v := 6) hC jd_S_init_13 (by decide) ?_
  refine hk_newa (N' := 6) hC (by decide) (by decide) (by decide) ⟨Nat.le_of_ble_eq_true rfl, Nat.le_of_ble_eq_true rfl⟩ jd_S_init_15 (fun q2 => ?_)
  refine hk_ws (ws2 := [(h0, .inr (4, [.ref q1, .null, .int 0])), (q1, .inl (cI, 6, .inl (fun _ => 0))), (q2, .inl (cI, 6, .inl (fun _ => 0)))]) rfl ?_
  refine hk_widen (k1 := 2) (k2 := 12) (Nat.le_of_ble_eq_true rfl) (Nat.le_of_ble_eq_true rfl) ?_
  refine hk_putF hC jk_S 0 rfl 1 (by decide) jq_110 rfl hnm rfl rfl rfl (Nat.le_of_ble_eq_true rfl) (ws2 := [(h0, .inr (4, [.ref q1, .ref q2, .int 0])), (q1, .inl (cI, 6, .inl (fun _ => 0))), (q2, .inl (cI, 6, .inl (fun _ => 0)))]) rfl jd_S_init_17 ?_
  exact hk_cret hC hr jd_S_init_20 (fun j => ([h0, q1, q2] : List Nat).getD j 0) rfl (wr := []) (List.Perm.of_eq rfl)
theorem jc_S_init (l : Launch) (D : va_G) (cI cF : ClassId) (h0 : Nat) : hk_Mx l jy_S_init jb_S_init 1 jr_S_init D cI cF [(h0, .inr (4, [.null, .null, .int 0]))] [.ref h0] h0 2 12 (fun a2 => wS cI a2 (fun _ => 0) (fun _ => 0) 0) :=
  hk_metX (by decide) (Nat.le_of_ble_eq_true rfl) rfl rfl (fun p e s m args below meth c A hC hr hnm => jw_S_init hC hr hnm h0)
set_option maxHeartbeats 8000000 in
set_option maxRecDepth 100000 in
theorem jw_L_init {p : Program} {l : Launch} {e : Env} {s : State} {m : MethodId} {args : Array Value} {below : List Frame} {meth : Method} {c : Code} {A : Nat → Prop} {D : va_G} {cI cF : ClassId} (hC : hk_ok p s m args meth c A 1 D cI cF "HayTalk$Land" jb_L_init) (hr : meth.sig.returnType = none) (hnm : meth.name = "<init>") (h0 : Nat) : hk_W p l e jr_L_init s m args below meth c A (hk_Zx below args s D A h0 5 66 (fun a2 => wL cI a2 (fun _ => 0) (fun _ => 0) (fun _ => 0) (fun _ => 0) (fun _ => 0) 0 0 0 0)) 1 D 0 0 [(h0, .inr (5, [.null, .null, .null, .null, .null, .int 0, .int 0, .int 0, .int 0]))] 0 [(0, .ref h0)] [] := by
  refine hk_aload_n hC jd_L_init_0 0 rfl ?_
  refine hk_objInit hC jq_125 ⟨Nat.le_of_ble_eq_true rfl, Nat.le_of_ble_eq_true rfl⟩ jd_L_init_1 ?_
  refine hk_aload_n hC jd_L_init_4 0 rfl ?_
  refine hk_bipush (v := 45) hC jd_L_init_5 (by decide) ?_
  refine hk_newa (N' := 45) hC (by decide) (by decide) (by decide) ⟨Nat.le_of_ble_eq_true rfl, Nat.le_of_ble_eq_true rfl⟩ jd_L_init_7 (fun q1 => ?_)
  refine hk_ws (ws2 := [(h0, .inr (5, [.null, .null, .null, .null, .null, .int 0, .int 0, .int 0, .int 0])), (q1, .inl (cI, 45, .inl (fun _ => 0)))]) rfl ?_
  refine hk_widen (k1 := 1) (k2 := 45) (Nat.le_of_ble_eq_true rfl) (Nat.le_of_ble_eq_true rfl) ?_
  refine hk_putF hC jk_L 0 rfl 0 (by decide) jq_126 rfl hnm rfl rfl rfl (Nat.le_of_ble_eq_true rfl) (ws2 := [(h0, .inr (5, [.ref q1, .null, .null, .null, .null, .int 0, .int 0, .int 0, .int 0])), (q1, .inl (cI, 45, .inl (fun _ => 0)))]) rfl jd_L_init_9 ?_
  refine hk_aload_n hC jd_L_init_12 0 rfl ?_
  refine hk_iconst (v := 5) hC jd_L_init_13 (by decide) ?_
  refine hk_newa (N' := 5) hC (by decide) (by decide) (by decide) ⟨Nat.le_of_ble_eq_true rfl, Nat.le_of_ble_eq_true rfl⟩ jd_L_init_14 (fun q2 => ?_)
  refine hk_ws (ws2 := [(h0, .inr (5, [.ref q1, .null, .null, .null, .null, .int 0, .int 0, .int 0, .int 0])), (q1, .inl (cI, 45, .inl (fun _ => 0))), (q2, .inl (cI, 5, .inl (fun _ => 0)))]) rfl ?_
  refine hk_widen (k1 := 2) (k2 := 50) (Nat.le_of_ble_eq_true rfl) (Nat.le_of_ble_eq_true rfl) ?_
  refine hk_putF hC jk_L 0 rfl 1 (by decide) jq_127 rfl hnm rfl rfl rfl (Nat.le_of_ble_eq_true rfl) (ws2 := [(h0, .inr (5, [.ref q1, .ref q2, .null, .null, .null, .int 0, .int 0, .int 0, .int 0])), (q1, .inl (cI, 45, .inl (fun _ => 0))), (q2, .inl (cI, 5, .inl (fun _ => 0)))]) rfl jd_L_init_16 ?_
  refine hk_aload_n hC jd_L_init_19 0 rfl ?_
  refine hk_bipush (v := 9) hC jd_L_init_20 (by decide) ?_
  refine hk_newa (N' := 9) hC (by decide) (by decide) (by decide) ⟨Nat.le_of_ble_eq_true rfl, Nat.le_of_ble_eq_true rfl⟩ jd_L_init_22 (fun q3 => ?_)
  refine hk_ws (ws2 := [(h0, .inr (5, [.ref q1, .ref q2, .null, .null, .null, .int 0, .int 0, .int 0, .int 0])), (q1, .inl (cI, 45, .inl (fun _ => 0))), (q2, .inl (cI, 5, .inl (fun _ => 0))), (q3, .inl (cI, 9, .inl (fun _ => 0)))]) rfl ?_
  refine hk_widen (k1 := 3) (k2 := 59) (Nat.le_of_ble_eq_true rfl) (Nat.le_of_ble_eq_true rfl) ?_
  refine hk_putF hC jk_L 0 rfl 2 (by decide) jq_128 rfl hnm rfl rfl rfl (Nat.le_of_ble_eq_true rfl) (ws2 := [(h0, .inr (5, [.ref q1, .ref q2, .ref q3, .null, .null, .int 0, .int 0, .int 0, .int 0])), (q1, .inl (cI, 45, .inl (fun _ => 0))), (q2, .inl (cI, 5, .inl (fun _ => 0))), (q3, .inl (cI, 9, .inl (fun _ => 0)))]) rfl jd_L_init_24 ?_
  refine hk_aload_n hC jd_L_init_27 0 rfl ?_
  refine hk_iconst (v := 4) hC jd_L_init_28 (by decide) ?_
  refine hk_newa (N' := 4) hC (by decide) (by decide) (by decide) ⟨Nat.le_of_ble_eq_true rfl, Nat.le_of_ble_eq_true rfl⟩ jd_L_init_29 (fun q4 => ?_)
  refine hk_ws (ws2 := [(h0, .inr (5, [.ref q1, .ref q2, .ref q3, .null, .null, .int 0, .int 0, .int 0, .int 0])), (q1, .inl (cI, 45, .inl (fun _ => 0))), (q2, .inl (cI, 5, .inl (fun _ => 0))), (q3, .inl (cI, 9, .inl (fun _ => 0))), (q4, .inl (cI, 4, .inl (fun _ => 0)))]) rfl ?_
  refine hk_widen (k1 := 4) (k2 := 63) (Nat.le_of_ble_eq_true rfl) (Nat.le_of_ble_eq_true rfl) ?_
  refine hk_putF hC jk_L 0 rfl 3 (by decide) jq_129 rfl hnm rfl rfl rfl (Nat.le_of_ble_eq_true rfl) (ws2 := [(h0, .inr (5, [.ref q1, .ref q2, .ref q3, .ref q4, .null, .int 0, .int 0, .int 0, .int 0])), (q1, .inl (cI, 45, .inl (fun _ => 0))), (q2, .inl (cI, 5, .inl (fun _ => 0))), (q3, .inl (cI, 9, .inl (fun _ => 0))), (q4, .inl (cI, 4, .inl (fun _ => 0)))]) rfl jd_L_init_31 ?_
  refine hk_aload_n hC jd_L_init_34 0 rfl ?_
  refine hk_iconst (v := 3) hC jd_L_init_35 (by decide) ?_
  refine hk_newa (N' := 3) hC (by decide) (by decide) (by decide) ⟨Nat.le_of_ble_eq_true rfl, Nat.le_of_ble_eq_true rfl⟩ jd_L_init_36 (fun q5 => ?_)
  refine hk_ws (ws2 := [(h0, .inr (5, [.ref q1, .ref q2, .ref q3, .ref q4, .null, .int 0, .int 0, .int 0, .int 0])), (q1, .inl (cI, 45, .inl (fun _ => 0))), (q2, .inl (cI, 5, .inl (fun _ => 0))), (q3, .inl (cI, 9, .inl (fun _ => 0))), (q4, .inl (cI, 4, .inl (fun _ => 0))), (q5, .inl (cI, 3, .inl (fun _ => 0)))]) rfl ?_
  refine hk_widen (k1 := 5) (k2 := 66) (Nat.le_of_ble_eq_true rfl) (Nat.le_of_ble_eq_true rfl) ?_
  refine hk_putF hC jk_L 0 rfl 4 (by decide) jq_130 rfl hnm rfl rfl rfl (Nat.le_of_ble_eq_true rfl) (ws2 := [(h0, .inr (5, [.ref q1, .ref q2, .ref q3, .ref q4, .ref q5, .int 0, .int 0, .int 0, .int 0])), (q1, .inl (cI, 45, .inl (fun _ => 0))), (q2, .inl (cI, 5, .inl (fun _ => 0))), (q3, .inl (cI, 9, .inl (fun _ => 0))), (q4, .inl (cI, 4, .inl (fun _ => 0))), (q5, .inl (cI, 3, .inl (fun _ => 0)))]) rfl jd_L_init_38 ?_
  exact hk_cret hC hr jd_L_init_41 (fun j => ([h0, q1, q2, q3, q4, q5] : List Nat).getD j 0) rfl (wr := []) (List.Perm.of_eq rfl)
theorem jc_L_init (l : Launch) (D : va_G) (cI cF : ClassId) (h0 : Nat) : hk_Mx l jy_L_init jb_L_init 1 jr_L_init D cI cF [(h0, .inr (5, [.null, .null, .null, .null, .null, .int 0, .int 0, .int 0, .int 0]))] [.ref h0] h0 5 66 (fun a2 => wL cI a2 (fun _ => 0) (fun _ => 0) (fun _ => 0) (fun _ => 0) (fun _ => 0) 0 0 0 0) :=
  hk_metX (by decide) (Nat.le_of_ble_eq_true rfl) rfl rfl (fun p e s m args below meth c A hC hr hnm => jw_L_init hC hr hnm h0)
set_option maxHeartbeats 8000000 in
set_option maxRecDepth 100000 in
theorem jw_F_init {p : Program} {l : Launch} {e : Env} {s : State} {m : MethodId} {args : Array Value} {below : List Frame} {meth : Method} {c : Code} {A : Nat → Prop} {D : va_G} {cI cF : ClassId} (hC : hk_ok p s m args meth c A 1 D cI cF "HayTalk$Field" jb_F_init) (hr : meth.sig.returnType = none) (hnm : meth.name = "<init>") (h0 : Nat) : hk_W p l e jr_F_init s m args below meth c A (hk_Zx below args s D A h0 8 92 (fun a2 => wF cI a2 (fun _ => 0) (fun _ => 0) (fun _ => 0) (fun _ => 0) (fun _ => 0) (fun _ => 0) (fun _ => 0) (fun _ => 0) 0)) 1 D 0 0 [(h0, .inr (2, [.null, .null, .null, .null, .null, .null, .null, .null, .int 0]))] 0 [(0, .ref h0)] [] := by
  refine hk_aload_n hC jd_F_init_0 0 rfl ?_
  refine hk_objInit hC jq_45 ⟨Nat.le_of_ble_eq_true rfl, Nat.le_of_ble_eq_true rfl⟩ jd_F_init_1 ?_
  refine hk_aload_n hC jd_F_init_4 0 rfl ?_
  refine hk_iconst (v := 5) hC jd_F_init_5 (by decide) ?_
  refine hk_newa (N' := 5) hC (by decide) (by decide) (by decide) ⟨Nat.le_of_ble_eq_true rfl, Nat.le_of_ble_eq_true rfl⟩ jd_F_init_6 (fun q1 => ?_)
  refine hk_ws (ws2 := [(h0, .inr (2, [.null, .null, .null, .null, .null, .null, .null, .null, .int 0])), (q1, .inl (cI, 5, .inl (fun _ => 0)))]) rfl ?_
  refine hk_widen (k1 := 1) (k2 := 5) (Nat.le_of_ble_eq_true rfl) (Nat.le_of_ble_eq_true rfl) ?_
  refine hk_putF hC jk_F 0 rfl 0 (by decide) jq_46 rfl hnm rfl rfl rfl (Nat.le_of_ble_eq_true rfl) (ws2 := [(h0, .inr (2, [.ref q1, .null, .null, .null, .null, .null, .null, .null, .int 0])), (q1, .inl (cI, 5, .inl (fun _ => 0)))]) rfl jd_F_init_8 ?_
  refine hk_aload_n hC jd_F_init_11 0 rfl ?_
  refine hk_iconst (v := 5) hC jd_F_init_12 (by decide) ?_
  refine hk_newa (N' := 5) hC (by decide) (by decide) (by decide) ⟨Nat.le_of_ble_eq_true rfl, Nat.le_of_ble_eq_true rfl⟩ jd_F_init_13 (fun q2 => ?_)
  refine hk_ws (ws2 := [(h0, .inr (2, [.ref q1, .null, .null, .null, .null, .null, .null, .null, .int 0])), (q1, .inl (cI, 5, .inl (fun _ => 0))), (q2, .inl (cI, 5, .inl (fun _ => 0)))]) rfl ?_
  refine hk_widen (k1 := 2) (k2 := 10) (Nat.le_of_ble_eq_true rfl) (Nat.le_of_ble_eq_true rfl) ?_
  refine hk_putF hC jk_F 0 rfl 1 (by decide) jq_48 rfl hnm rfl rfl rfl (Nat.le_of_ble_eq_true rfl) (ws2 := [(h0, .inr (2, [.ref q1, .ref q2, .null, .null, .null, .null, .null, .null, .int 0])), (q1, .inl (cI, 5, .inl (fun _ => 0))), (q2, .inl (cI, 5, .inl (fun _ => 0)))]) rfl jd_F_init_15 ?_
  refine hk_aload_n hC jd_F_init_18 0 rfl ?_
  refine hk_iconst (v := 4) hC jd_F_init_19 (by decide) ?_
  refine hk_newa (N' := 4) hC (by decide) (by decide) (by decide) ⟨Nat.le_of_ble_eq_true rfl, Nat.le_of_ble_eq_true rfl⟩ jd_F_init_20 (fun q3 => ?_)
  refine hk_ws (ws2 := [(h0, .inr (2, [.ref q1, .ref q2, .null, .null, .null, .null, .null, .null, .int 0])), (q1, .inl (cI, 5, .inl (fun _ => 0))), (q2, .inl (cI, 5, .inl (fun _ => 0))), (q3, .inl (cI, 4, .inl (fun _ => 0)))]) rfl ?_
  refine hk_widen (k1 := 3) (k2 := 14) (Nat.le_of_ble_eq_true rfl) (Nat.le_of_ble_eq_true rfl) ?_
  refine hk_putF hC jk_F 0 rfl 2 (by decide) jq_50 rfl hnm rfl rfl rfl (Nat.le_of_ble_eq_true rfl) (ws2 := [(h0, .inr (2, [.ref q1, .ref q2, .ref q3, .null, .null, .null, .null, .null, .int 0])), (q1, .inl (cI, 5, .inl (fun _ => 0))), (q2, .inl (cI, 5, .inl (fun _ => 0))), (q3, .inl (cI, 4, .inl (fun _ => 0)))]) rfl jd_F_init_22 ?_
  refine hk_aload_n hC jd_F_init_25 0 rfl ?_
  refine hk_iconst (v := 3) hC jd_F_init_26 (by decide) ?_
  refine hk_newa (N' := 3) hC (by decide) (by decide) (by decide) ⟨Nat.le_of_ble_eq_true rfl, Nat.le_of_ble_eq_true rfl⟩ jd_F_init_27 (fun q4 => ?_)
  refine hk_ws (ws2 := [(h0, .inr (2, [.ref q1, .ref q2, .ref q3, .null, .null, .null, .null, .null, .int 0])), (q1, .inl (cI, 5, .inl (fun _ => 0))), (q2, .inl (cI, 5, .inl (fun _ => 0))), (q3, .inl (cI, 4, .inl (fun _ => 0))), (q4, .inl (cI, 3, .inl (fun _ => 0)))]) rfl ?_
  refine hk_widen (k1 := 4) (k2 := 17) (Nat.le_of_ble_eq_true rfl) (Nat.le_of_ble_eq_true rfl) ?_
  refine hk_putF hC jk_F 0 rfl 3 (by decide) jq_52 rfl hnm rfl rfl rfl (Nat.le_of_ble_eq_true rfl) (ws2 := [(h0, .inr (2, [.ref q1, .ref q2, .ref q3, .ref q4, .null, .null, .null, .null, .int 0])), (q1, .inl (cI, 5, .inl (fun _ => 0))), (q2, .inl (cI, 5, .inl (fun _ => 0))), (q3, .inl (cI, 4, .inl (fun _ => 0))), (q4, .inl (cI, 3, .inl (fun _ => 0)))]) rfl jd_F_init_29 ?_
  refine hk_aload_n hC jd_F_init_32 0 rfl ?_
  refine hk_iconst (v := 3) hC jd_F_init_33 (by decide) ?_
  refine hk_newa (N' := 3) hC (by decide) (by decide) (by decide) ⟨Nat.le_of_ble_eq_true rfl, Nat.le_of_ble_eq_true rfl⟩ jd_F_init_34 (fun q5 => ?_)
  refine hk_ws (ws2 := [(h0, .inr (2, [.ref q1, .ref q2, .ref q3, .ref q4, .null, .null, .null, .null, .int 0])), (q1, .inl (cI, 5, .inl (fun _ => 0))), (q2, .inl (cI, 5, .inl (fun _ => 0))), (q3, .inl (cI, 4, .inl (fun _ => 0))), (q4, .inl (cI, 3, .inl (fun _ => 0))), (q5, .inl (cI, 3, .inl (fun _ => 0)))]) rfl ?_
  refine hk_widen (k1 := 5) (k2 := 20) (Nat.le_of_ble_eq_true rfl) (Nat.le_of_ble_eq_true rfl) ?_
  refine hk_putF hC jk_F 0 rfl 4 (by decide) jq_54 rfl hnm rfl rfl rfl (Nat.le_of_ble_eq_true rfl) (ws2 := [(h0, .inr (2, [.ref q1, .ref q2, .ref q3, .ref q4, .ref q5, .null, .null, .null, .int 0])), (q1, .inl (cI, 5, .inl (fun _ => 0))), (q2, .inl (cI, 5, .inl (fun _ => 0))), (q3, .inl (cI, 4, .inl (fun _ => 0))), (q4, .inl (cI, 3, .inl (fun _ => 0))), (q5, .inl (cI, 3, .inl (fun _ => 0)))]) rfl jd_F_init_36 ?_
  refine hk_aload_n hC jd_F_init_39 0 rfl ?_
  refine hk_bipush (v := 24) hC jd_F_init_40 (by decide) ?_
  refine hk_newa (N' := 24) hC (by decide) (by decide) (by decide) ⟨Nat.le_of_ble_eq_true rfl, Nat.le_of_ble_eq_true rfl⟩ jd_F_init_42 (fun q6 => ?_)
  refine hk_ws (ws2 := [(h0, .inr (2, [.ref q1, .ref q2, .ref q3, .ref q4, .ref q5, .null, .null, .null, .int 0])), (q1, .inl (cI, 5, .inl (fun _ => 0))), (q2, .inl (cI, 5, .inl (fun _ => 0))), (q3, .inl (cI, 4, .inl (fun _ => 0))), (q4, .inl (cI, 3, .inl (fun _ => 0))), (q5, .inl (cI, 3, .inl (fun _ => 0))), (q6, .inl (cI, 24, .inl (fun _ => 0)))]) rfl ?_
  refine hk_widen (k1 := 6) (k2 := 44) (Nat.le_of_ble_eq_true rfl) (Nat.le_of_ble_eq_true rfl) ?_
  refine hk_putF hC jk_F 0 rfl 5 (by decide) jq_56 rfl hnm rfl rfl rfl (Nat.le_of_ble_eq_true rfl) (ws2 := [(h0, .inr (2, [.ref q1, .ref q2, .ref q3, .ref q4, .ref q5, .ref q6, .null, .null, .int 0])), (q1, .inl (cI, 5, .inl (fun _ => 0))), (q2, .inl (cI, 5, .inl (fun _ => 0))), (q3, .inl (cI, 4, .inl (fun _ => 0))), (q4, .inl (cI, 3, .inl (fun _ => 0))), (q5, .inl (cI, 3, .inl (fun _ => 0))), (q6, .inl (cI, 24, .inl (fun _ => 0)))]) rfl jd_F_init_44 ?_
  refine hk_aload_n hC jd_F_init_47 0 rfl ?_
  refine hk_bipush (v := 24) hC jd_F_init_48 (by decide) ?_
  refine hk_newa (N' := 24) hC (by decide) (by decide) (by decide) ⟨Nat.le_of_ble_eq_true rfl, Nat.le_of_ble_eq_true rfl⟩ jd_F_init_50 (fun q7 => ?_)
  refine hk_ws (ws2 := [(h0, .inr (2, [.ref q1, .ref q2, .ref q3, .ref q4, .ref q5, .ref q6, .null, .null, .int 0])), (q1, .inl (cI, 5, .inl (fun _ => 0))), (q2, .inl (cI, 5, .inl (fun _ => 0))), (q3, .inl (cI, 4, .inl (fun _ => 0))), (q4, .inl (cI, 3, .inl (fun _ => 0))), (q5, .inl (cI, 3, .inl (fun _ => 0))), (q6, .inl (cI, 24, .inl (fun _ => 0))), (q7, .inl (cI, 24, .inl (fun _ => 0)))]) rfl ?_
  refine hk_widen (k1 := 7) (k2 := 68) (Nat.le_of_ble_eq_true rfl) (Nat.le_of_ble_eq_true rfl) ?_
  refine hk_putF hC jk_F 0 rfl 6 (by decide) jq_57 rfl hnm rfl rfl rfl (Nat.le_of_ble_eq_true rfl) (ws2 := [(h0, .inr (2, [.ref q1, .ref q2, .ref q3, .ref q4, .ref q5, .ref q6, .ref q7, .null, .int 0])), (q1, .inl (cI, 5, .inl (fun _ => 0))), (q2, .inl (cI, 5, .inl (fun _ => 0))), (q3, .inl (cI, 4, .inl (fun _ => 0))), (q4, .inl (cI, 3, .inl (fun _ => 0))), (q5, .inl (cI, 3, .inl (fun _ => 0))), (q6, .inl (cI, 24, .inl (fun _ => 0))), (q7, .inl (cI, 24, .inl (fun _ => 0)))]) rfl jd_F_init_52 ?_
  refine hk_aload_n hC jd_F_init_55 0 rfl ?_
  refine hk_bipush (v := 24) hC jd_F_init_56 (by decide) ?_
  refine hk_newa (N' := 24) hC (by decide) (by decide) (by decide) ⟨Nat.le_of_ble_eq_true rfl, Nat.le_of_ble_eq_true rfl⟩ jd_F_init_58 (fun q8 => ?_)
  refine hk_ws (ws2 := [(h0, .inr (2, [.ref q1, .ref q2, .ref q3, .ref q4, .ref q5, .ref q6, .ref q7, .null, .int 0])), (q1, .inl (cI, 5, .inl (fun _ => 0))), (q2, .inl (cI, 5, .inl (fun _ => 0))), (q3, .inl (cI, 4, .inl (fun _ => 0))), (q4, .inl (cI, 3, .inl (fun _ => 0))), (q5, .inl (cI, 3, .inl (fun _ => 0))), (q6, .inl (cI, 24, .inl (fun _ => 0))), (q7, .inl (cI, 24, .inl (fun _ => 0))), (q8, .inl (cI, 24, .inl (fun _ => 0)))]) rfl ?_
  refine hk_widen (k1 := 8) (k2 := 92) (Nat.le_of_ble_eq_true rfl) (Nat.le_of_ble_eq_true rfl) ?_
  refine hk_putF hC jk_F 0 rfl 7 (by decide) jq_58 rfl hnm rfl rfl rfl (Nat.le_of_ble_eq_true rfl) (ws2 := [(h0, .inr (2, [.ref q1, .ref q2, .ref q3, .ref q4, .ref q5, .ref q6, .ref q7, .ref q8, .int 0])), (q1, .inl (cI, 5, .inl (fun _ => 0))), (q2, .inl (cI, 5, .inl (fun _ => 0))), (q3, .inl (cI, 4, .inl (fun _ => 0))), (q4, .inl (cI, 3, .inl (fun _ => 0))), (q5, .inl (cI, 3, .inl (fun _ => 0))), (q6, .inl (cI, 24, .inl (fun _ => 0))), (q7, .inl (cI, 24, .inl (fun _ => 0))), (q8, .inl (cI, 24, .inl (fun _ => 0)))]) rfl jd_F_init_60 ?_
  exact hk_cret hC hr jd_F_init_63 (fun j => ([h0, q1, q2, q3, q4, q5, q6, q7, q8] : List Nat).getD j 0) rfl (wr := []) (List.Perm.of_eq rfl)
theorem jc_F_init (l : Launch) (D : va_G) (cI cF : ClassId) (h0 : Nat) : hk_Mx l jy_F_init jb_F_init 1 jr_F_init D cI cF [(h0, .inr (2, [.null, .null, .null, .null, .null, .null, .null, .null, .int 0]))] [.ref h0] h0 8 92 (fun a2 => wF cI a2 (fun _ => 0) (fun _ => 0) (fun _ => 0) (fun _ => 0) (fun _ => 0) (fun _ => 0) (fun _ => 0) (fun _ => 0) 0) :=
  hk_metX (by decide) (Nat.le_of_ble_eq_true rfl) rfl rfl (fun p e s m args below meth c A hC hr hnm => jw_F_init hC hr hnm h0)
