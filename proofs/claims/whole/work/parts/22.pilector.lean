theorem jq_41 : Jvm.Cond.instantiable "HayTalk$Field" (9 : Nat) ∈ lw_gd := lw_in 41 (by decide +kernel) rfl
theorem jq_43 : Jvm.Cond.instanceMethod ({ cls := "HayTalk$Field", name := "<init>", desc := "()V" } : Jvm.MethodName) ∈ lw_gd := lw_in 43 (by decide +kernel) rfl
theorem jq_84 : Jvm.Cond.code ({ cls := "HayTalk$Pile", name := "<init>", desc := "(I)V" } : Jvm.MethodName) prog_4_method_1_code (3 : Nat) (Option.none : Option Jvm.ClassFile.FieldType) ∈ lw_gd := lw_in 84 (by decide +kernel) rfl
theorem jq_85 : Jvm.Cond.methodLink "HayTalk$Pile" (1 : Nat) ({ cls := "java/lang/Object", name := "<init>", desc := "()V" } : Jvm.MethodName) ∈ lw_gd := lw_in 85 (by decide +kernel) rfl
theorem jq_86 : Jvm.Cond.methodLink "HayTalk$Pile" (7 : Nat) ({ cls := "java/lang/Math", name := "max", desc := "(II)I" } : Jvm.MethodName) ∈ lw_gd := lw_in 86 (by decide +kernel) rfl
theorem jq_89 : Jvm.Cond.classLink "HayTalk$Pile" (13 : Nat) "HayTalk$Field" ∈ lw_gd := lw_in 89 (by decide +kernel) rfl
theorem jq_91 : Jvm.Cond.methodLinkNest "HayTalk$Pile" (21 : Nat) ({ cls := "HayTalk$Field", name := "<init>", desc := "()V" } : Jvm.MethodName) "HayTalk" ∈ lw_nt := lw_inN 91 (by decide +kernel) rfl
abbrev jb_P_init : ByteArray := prog_4_method_1_code
abbrev jy_P_init : MethodName := ⟨"HayTalk$Pile", "<init>", "(I)V"⟩
abbrev jr_P_init (n : Nat) : Room := { frames := 2, cells := 1 + 9 * n, slots := 102 * n, locals := 32 }
theorem jl_P_init : hk_L jy_P_init jb_P_init 3 none 1 := ⟨jq_84, jq_4, by decide, by decide, by decide +kernel⟩
theorem jd_P_init_0 : decode jb_P_init 0 = .ok (.aload_n 0, 1) := by decide +kernel
theorem jd_P_init_1 : decode jb_P_init 1 = .ok (.invokespecial 1, 3) := by decide +kernel
theorem jd_P_init_4 : decode jb_P_init 4 = .ok (.aload_n 0, 1) := by decide +kernel
theorem jd_P_init_5 : decode jb_P_init 5 = .ok (.iconst 1, 1) := by decide +kernel
theorem jd_P_init_6 : decode jb_P_init 6 = .ok (.iload_n 1, 1) := by decide +kernel
theorem jd_P_init_7 : decode jb_P_init 7 = .ok (.invokestatic 7, 3) := by decide +kernel
theorem jd_P_init_10 : decode jb_P_init 10 = .ok (.anewarray 13, 3) := by decide +kernel
theorem jd_P_init_13 : decode jb_P_init 13 = .ok (.putfield 15, 3) := by decide +kernel
theorem jd_P_init_16 : decode jb_P_init 16 = .ok (.iconst 0, 1) := by decide +kernel
theorem jd_P_init_17 : decode jb_P_init 17 = .ok (.istore_n 2, 1) := by decide +kernel
theorem jd_P_init_18 : decode jb_P_init 18 = .ok (.iload_n 2, 1) := by decide +kernel
theorem jd_P_init_19 : decode jb_P_init 19 = .ok (.aload_n 0, 1) := by decide +kernel
theorem jd_P_init_20 : decode jb_P_init 20 = .ok (.getfield 15, 3) := by decide +kernel
theorem jd_P_init_23 : decode jb_P_init 23 = .ok (.arraylength, 1) := by decide +kernel
theorem jd_P_init_24 : decode jb_P_init 24 = .ok (.if_icmp .ge 22, 3) := by decide +kernel
theorem jd_P_init_27 : decode jb_P_init 27 = .ok (.aload_n 0, 1) := by decide +kernel
theorem jd_P_init_28 : decode jb_P_init 28 = .ok (.getfield 15, 3) := by decide +kernel
theorem jd_P_init_31 : decode jb_P_init 31 = .ok (.iload_n 2, 1) := by decide +kernel
theorem jd_P_init_32 : decode jb_P_init 32 = .ok (.new 13, 3) := by decide +kernel
theorem jd_P_init_35 : decode jb_P_init 35 = .ok (.dup, 1) := by decide +kernel
theorem jd_P_init_36 : decode jb_P_init 36 = .ok (.invokespecial 21, 3) := by decide +kernel
theorem jd_P_init_39 : decode jb_P_init 39 = .ok (.aastore, 1) := by decide +kernel
theorem jd_P_init_40 : decode jb_P_init 40 = .ok (.iinc 2 1, 3) := by decide +kernel
theorem jd_P_init_43 : decode jb_P_init 43 = .ok (.goto (-25), 3) := by decide +kernel
theorem jd_P_init_46 : decode jb_P_init 46 = .ok (.return_, 1) := by decide +kernel
def hk_PcE (E : State → Prop) (D : va_G) (cI cF : ClassId) (wc : va_W) (as : List Value) (sz : Nat) : Array Value → State → Prop := va_Pc as (fun U => U.heap.size = sz ∧ va_P D classes wc U.heap ∧ va_K D classes (hk_tys cI cF) U ∧ va_D (fun _ => True) wc ∧ hk_nw U ∧ E U)
def hk_MxE (E : State → Prop) (l : Launch) (y : MethodName) (b : ByteArray) (n : Nat) (rm : Room) (D : va_G) (cI cF : ClassId) (wc : va_W) (as : List Value) (h0 mc ms : Nat) (Wf : (Nat → Nat) → va_W) : Prop :=
  rm.cells = mc ∧ rm.slots = ms ∧ (∀ U g mk a, E U → E (U.calling g mk a)) ∧ ∀ sz : Nat, Met l y (.code y b n none :: lw_gd) rm (hk_PcE E D cI cF wc as sz) (va_Qv (S := Nat → Nat) (fun a2 => a2 0 = h0) (fun a2 t => va_P D classes (Wf a2) t.heap ∧ va_D (va_A wc sz) (Wf a2)) (va_A wc sz)) mc ms (va_A wc sz)
theorem hk_blindE {E : State → Prop} (hE : ∀ U g mk a, E U → E (U.calling g mk a)) {D : va_G} {cI cF : ClassId} {wc : va_W} {as : List Value} {sz : Nat} : FrameBlind (hk_PcE E D cI cF wc as sz) := fun a U g mk q => by
  obtain ⟨q0, q1, qP, qK, qD, qN, qE⟩ := q
  exact ⟨q0, q1, qP, va_K.moved (u := U) (U := U.calling g mk a) (Vm.Alike.refl U.vm) qK, qD, hk_nw_call qN, hE U g mk a qE⟩
theorem hk_entryE {E : State → Prop} {y : MethodName} {b : ByteArray} {n mc ms : Nat} {ret : Option FieldType} {rm : Room} {D : va_G} {cI cF : ClassId} {wc : va_W} {as : List Value} {sz : Nat} {l : Launch} {Qc : Array Value → State → Outcome → State → Prop} (hy : plainName y.cls = true) (hn : (lg_sl as).length ≤ n)
    (body : ∀ (p : Program) (e : Env) (s : State) (m : MethodId) (args : Array Value) (below : List Frame) (meth : Method) (c : Code) (A : Nat → Prop), A = va_A wc s.heap.size → s.heap.size = sz → hk_ok p s m args meth c A n D cI cF y.cls b → meth.sig.returnType = ret → meth.name = y.name → E s → hk_W p l e rm s m args below meth c A (MQ below Qc args s mc ms A) n D 0 0 wc 0 (lv_args 0 as) []) :
    Met l y (.code y b n ret :: lw_gd) rm (hk_PcE E D cI cF wc as sz) Qc mc ms (va_A wc sz) := by
  refine Met.ofW (cc := b) (maxL := n) (ret := ret) hy rfl ?_
  intro p e s m args below meth c s₁ B hml hv
  obtain ⟨rfl, hsz, hP, hK, hD0, hN, hE⟩ := hv
  have hts := atoms_spec (ws := Cond.code y b n ret :: lw_gd) B.pre
  subst hsz
  have hD := hD0.self (sz := s.heap.size)
  have hl := lv_entry as hn
  rw [lg_entry_eq]
  exact body p e s m as.toArray below meth c _ rfl rfl ⟨B.exec, B.bytes, hml, findClass_of_methodNamed B.named, fun w hw => hts w (List.mem_cons_of_mem _ hw), hK, B.notSynchronized, fun q h => Or.inr h, hN⟩ B.returns (name_of_methodNamed B.named B.method).1 hE s.heap [] _ hP hD va_S.rf hl
theorem hk_preE {p : Program} {s : State} {m : MethodId} {args : Array Value} {meth : Method} {c : Code} {A : Nat → Prop} {nL : Nat} {D : va_G} {cI cF : ClassId} {own : String} {cc : ByteArray} {E : State → Prop} (hC : hk_ok p s m args meth c A nL D cI cF own cc) {wc : va_W} {as : List Value} {H : Heap} (hPc : va_P D classes wc H) (hDc : va_D A wc) (hEs : ∀ U : State, U.heap = H → s.WarmedH U.vm → E U) : ∀ U : State, U.heap = H → s.WarmedH U.vm → hk_PcE E D cI cF wc as H.size as.toArray U :=
  fun U hU hW => ⟨rfl, by rw [hU], by rw [hU]; exact hPc, va_K.moved hW.alike hC.2.2.2.2.2.1, hDc.weaken (fun _ _ _ _ => trivial), hk_nw_warm hW hC.2.2.2.2.2.2.2.2, hEs U hU hW⟩
theorem cellq_eq {cA : ClassId} {n : Nat} {f g : Nat → Option Nat} (h : ∀ j, j < n → f j = g j) : vp_cell cA (n, .inr (.inr (.inr (.inr f)))) = vp_cell cA (n, .inr (.inr (.inr (.inr g)))) := by
  rw [vp_cell_q, vp_cell_q]
  unfold arrV
  congr
  funext j
  show va_rf (f j.val) = va_rf (g j.val)
  rw [h j.val j.isLt]
theorem wF_congr {cI : ClassId} {a b : Nat → Nat} (h : ∀ j, j < 9 → a j = b j) (x : jFV) : wFv cI a x = wFv cI b x := by
  simp only [wFv, wF, h 0 (by decide), h 1 (by decide), h 2 (by decide), h 3 (by decide), h 4 (by decide), h 5 (by decide), h 6 (by decide), h 7 (by decide), h 8 (by decide)]
def jFV0 : jFV := (fun _ => 0, fun _ => 0, fun _ => 0, fun _ => 0, fun _ => 0, fun _ => 0, fun _ => 0, fun _ => 0, 0)
def wQ (cI cF : ClassId) (n i : Nat) (a : Nat → Nat) : va_W := (a 0, .inr (3, [.ref (a 1), .int 0, .int 0])) :: (a 1, .inl (cF, n, .inr (.inr (.inr (.inr (fun j => if j < i then some (a (2 + 9 * j)) else none)))))) :: (wPb cI i a (fun _ => jFV0)).flatten
theorem wQ_step {cI cF : ClassId} {n i : Nat} (a a2 : Nat → Nat) : wQ cI cF n (i + 1) (fun k => if k < 2 + 9 * i then a k else a2 (k - (2 + 9 * i))) = (a 0, .inr (3, [.ref (a 1), .int 0, .int 0])) :: (a 1, .inl (cF, n, .inr (.inr (.inr (.inr (va_up (fun j => if j < i then some (a (2 + 9 * j)) else none) i (some (a2 0)))))))) :: ((wPb cI i a (fun _ => jFV0)).flatten ++ wFv cI a2 jFV0) := by
  have e1 : wPb cI (i + 1) (fun k => if k < 2 + 9 * i then a k else a2 (k - (2 + 9 * i))) (fun _ => jFV0) = wPb cI i a (fun _ => jFV0) ++ [wFv cI a2 jFV0] := by
    unfold wPb
    rw [List.range_succ, List.map_append]
    congr 1
    · apply List.map_congr_left
      intro k hk
      have hk := List.mem_range.mp hk
      apply wF_congr
      intro j hj
      show (if 2 + 9 * k + j < 2 + 9 * i then _ else _) = _
      rw [if_pos (by omega)]
    · show [wFv cI (fun j => (fun k => if k < 2 + 9 * i then a k else a2 (k - (2 + 9 * i))) (2 + 9 * i + j)) jFV0] = [wFv cI a2 jFV0]
      congr 1
      apply wF_congr
      intro j hj
      show (if 2 + 9 * i + j < 2 + 9 * i then _ else _) = _
      rw [if_neg (by omega)]
      congr 1
      omega
  have e2 : (fun j => if j < i + 1 then some ((fun k => if k < 2 + 9 * i then a k else a2 (k - (2 + 9 * i))) (2 + 9 * j)) else none) = va_up (fun j => if j < i then some (a (2 + 9 * j)) else none) i (some (a2 0)) := by
    funext j
    unfold va_up
    by_cases h1 : j = i
    · subst h1
      simp
    · by_cases h2 : j < i
      · have h3 : j < i + 1 := by omega
        have h4 : 2 + 9 * j < 2 + 9 * i := by omega
        simp [h1, h2, h3, h4]
      · have h3 : ¬ j < i + 1 := by omega
        simp [h1, h2, h3]
  unfold wQ
  rw [e1, e2, List.flatten_append]
  have g0 : (0 : Nat) < 2 + 9 * i := by omega
  have g1 : (1 : Nat) < 2 + 9 * i := by omega
  simp [g0, g1]
theorem jn_max {n : Nat} (h : 1 ≤ n) (hn : n < 2 ^ 31) : nI n = (if (1 : Int32) < nI n then nI n else 1) := by
  by_cases h1 : n = 1
  · subst h1; decide
  · have : (1 : Int32) < nI n := nI_lt (a := 1) (by omega) hn
    rw [if_pos this]
section HKR6
variable {p : Program} {l : Launch} {e : Env} {R : Room} {s : State} {m : MethodId} {args : Array Value} {below : List Frame} {meth : Method} {c : Code} {A : Nat → Prop} {Q : State → Prop} {nL : Nat} {D : va_G} {cI cF : ClassId} {own : String} {cc : ByteArray} {cells slots : Nat} {ws : va_W} {pc : Nat} {lv : List (Nat × Value)} {st : List Value}
theorem hk_newq (hC : hk_ok p s m args meth c A nL D cI cF own cc) {index : Nat} {n : Int32} {N' : Nat} (hl0 : Cond.classLink own index "HayTalk$Field" ∈ lw_gd) (hov : va_AO "HayTalk$Field" s) (hn : ¬ n < 0) (hN : n.toNatClampNeg = N') (hb : N' * 4 ≤ 536870912) (hR : cells + 1 ≤ R.cells ∧ slots + N' ≤ R.slots) (d : decode cc pc = .ok (.anewarray index, 3))
    (k : ∀ q : Nat, hk_W p l e R s m args below meth c A Q nL D (cells + 1) (slots + N') (ws ++ [(q, .inl (cF, N', .inr (.inr (.inr (.inr (fun _ => none))))))]) (pc + 3) lv (.ref q :: st)) : hk_W p l e R s m args below meth c A Q nL D cells slots ws pc lv (.int n :: st) := by
  intro H locs ls hP hD hS hl
  refine va_newq (C := "HayTalk$Field") hC.1 hC.2.1 hC.2.2.2.1 (hC.2.2.2.2.1 _ hl0) hov hC.2.2.2.2.2.1 hP hD hS hC.2.2.2.2.2.2.2.1 hn hN hb hR.1 hR.2 d (fun q cA H1 hK hP hD hS => ?_)
  obtain ⟨_, _, _, _, _, e1⟩ := (hK.2 2 (cA, .object "HayTalk$Field") rfl).2
  obtain ⟨_, _, _, _, _, e2⟩ := (hC.2.2.2.2.2.1.2 1 (cF, .object "HayTalk$Field") rfl).2
  have e3 : some cA = some cF := Eq.trans (Eq.symm e1) e2
  have e4 := Option.some.inj e3
  subst e4
  exact k q H1 locs ls hP hD hS hl
theorem hk_aast (hC : hk_ok p s m args meth c A nL D cI cF own cc) (q0 qk : Nat) {a n v : Nat} {vs : List Value} {f : Nat → Option Nat} (ha : ws[q0]? = some (a, .inl (cF, n, .inr (.inr (.inr (.inr f)))))) (hv : ws[qk]? = some (v, .inr (2, vs))) {i : Int32} (hin : vp_in i n) {ws2 : va_W} (hws : ws.set q0 (a, .inl (cF, n, .inr (.inr (.inr (.inr (va_up f i.toNatClampNeg (some v))))))) = ws2) (d : decode cc pc = .ok (.aastore, 1))
    (k : hk_W p l e R s m args below meth c A Q nL D cells slots ws2 (pc + 1) lv st) : hk_W p l e R s m args below meth c A Q nL D cells slots ws pc lv (.ref v :: .int i :: .ref a :: st) := by
  subst hws
  exact fun H locs ls hP hD hS hl => va_astq (r := (cR_F, cF_F, 9)) hC.1 hC.2.1 hC.2.2.2.2.2.1 hP hD hS q0 1 qk 2 ha rfl hv rfl hin d (fun H locs hP hD hS => k H locs ls hP hD hS hl)
theorem hk_arrq {x : Nat × va_E} {b n : Nat} {f g : Nat → Option Nat} {rest : va_W} (h : ∀ j, j < n → f j = g j) (k : hk_W p l e R s m args below meth c A Q nL D cells slots (x :: (b, .inl (cF, n, .inr (.inr (.inr (.inr g))))) :: rest) pc lv st) : hk_W p l e R s m args below meth c A Q nL D cells slots (x :: (b, .inl (cF, n, .inr (.inr (.inr (.inr f))))) :: rest) pc lv st := by
  intro H locs ls hP hD hS hl
  refine k H locs ls (va_P_iff.mpr fun q hq => ?_) (va_D_map hD rfl) hS hl
  rcases List.mem_cons.mp hq with h1 | h1
  · exact va_P_iff.mp hP q (by rw [h1]; exact List.mem_cons_self)
  · rcases List.mem_cons.mp h1 with h2 | h2
    · have h3 := va_P_iff.mp hP (b, .inl (cF, n, .inr (.inr (.inr (.inr f))))) (List.mem_cons_of_mem _ List.mem_cons_self)
      rw [h2]
      show H[b]? = some (vp_cell cF (n, .inr (.inr (.inr (.inr g)))))
      rw [← cellq_eq h]
      exact h3
    · exact va_P_iff.mp hP q (List.mem_cons_of_mem _ (List.mem_cons_of_mem _ h2))
end HKR6
set_option maxHeartbeats 8000000 in
set_option maxRecDepth 100000 in
theorem jw_P_init {p : Program} {l : Launch} {e : Env} {s : State} {m : MethodId} {args : Array Value} {below : List Frame} {meth : Method} {c : Code} {A : Nat → Prop} {D : va_G} {cI cF : ClassId} (n : Nat) (hn1 : 1 ≤ n) (hn2 : n ≤ 100) (hC : hk_ok p s m args meth c A 3 D cI cF "HayTalk$Pile" jb_P_init) (hr : meth.sig.returnType = none) (hnm : meth.name = "<init>") (hE : va_AO "HayTalk$Field" s) (h0 : Nat) : hk_W p l e (jr_P_init n) s m args below meth c A (hk_Zx below args s D A h0 (1 + 9 * n) (102 * n) (fun a2 => wP cI cF n a2 0 0 (fun _ => jFV0))) 3 D 0 0 [(h0, .inr (3, [.null, .int 0, .int 0]))] 0 [(0, .ref h0), (1, .int (nI n))] [] := by
  have loop : ∀ (k i : Nat), i + k = n → ∀ a : Nat → Nat, a 0 = h0 → hk_W p l e (jr_P_init n) s m args below meth c A (hk_Zx below args s D A h0 (1 + 9 * n) (102 * n) (fun a2 => wP cI cF n a2 0 0 (fun _ => jFV0))) 3 D (1 + 9 * i) (n + 101 * i) (wQ cI cF n i a) 18 [(0, .ref (a 0)), (1, .int (nI n)), (2, .int (nI i))] [] := by
    intro k
    induction k with
    | zero =>
      intro i hi a ha
      have hi : i = n := by omega
      subst hi
      refine hk_iload_n hC jd_P_init_18 2 rfl ?_
      refine hk_aload_n hC jd_P_init_19 0 rfl ?_
      refine hk_get hC jk_P 0 rfl 0 (by decide) jq_92 rfl jd_P_init_20 ?_
      refine hk_alenq hC 1 rfl jd_P_init_23 ?_
      refine hk_icmp_ge (tgt := 46) hC jd_P_init_24 (by decide) (fun _ => ?_) (fun cc => absurd (nI_le (Nat.le_refl _) (by omega)) cc)
      refine hk_arrq (g := fun j => some (a (2 + 9 * j))) (fun j hj => if_pos hj) ?_
      refine hk_widen (k1 := 1 + 9 * i) (k2 := 102 * i) (by omega) (by omega) ?_
      exact hk_cret hC hr jd_P_init_46 a ha (wr := []) (List.Perm.of_eq (by rw [List.append_nil]))
    | succ k ih =>
      intro i hi a ha
      refine hk_iload_n hC jd_P_init_18 2 rfl ?_
      refine hk_aload_n hC jd_P_init_19 0 rfl ?_
      refine hk_get hC jk_P 0 rfl 0 (by decide) jq_92 rfl jd_P_init_20 ?_
      refine hk_alenq hC 1 rfl jd_P_init_23 ?_
      refine hk_icmp_ge (tgt := 46) hC jd_P_init_24 (by decide) (fun cc => absurd cc (nI_ge (by omega) (by omega))) (fun _ => ?_)
      refine hk_aload_n hC jd_P_init_27 0 rfl ?_
      refine hk_get hC jk_P 0 rfl 0 (by decide) jq_92 rfl jd_P_init_28 ?_
      refine hk_iload_n hC jd_P_init_31 2 rfl ?_
      refine hk_new (fs := [.null, .null, .null, .null, .null, .null, .null, .null, .int 0]) hC jk_F (fun j hj => by rcases (show j = 0 ∨ j = 1 ∨ j = 2 ∨ j = 3 ∨ j = 4 ∨ j = 5 ∨ j = 6 ∨ j = 7 ∨ j = 8 by omega) with rfl | rfl | rfl | rfl | rfl | rfl | rfl | rfl | rfl <;> rfl) jq_89 jq_41 jq_3 ⟨by show 1 + 9 * i + 1 ≤ 1 + 9 * n; omega, by show n + 101 * i + 9 ≤ 102 * n; omega⟩ jd_P_init_32 (fun q => ?_)
      refine hk_dup hC jd_P_init_35 rfl ?_
      refine hk_callIN hC (jc_F_init l D cI cF q) jl_F_init jq_91 jq_43 rfl rfl ⟨by show 1 + 1 ≤ 2; decide, by show 8 + (1 + 11) + 12 ≤ 32; decide⟩ List.perm_append_comm rfl (Nat.le_of_ble_eq_true rfl) ⟨by show 1 + 9 * i + 1 + 8 ≤ 1 + 9 * n; omega, by show n + 101 * i + 9 + 92 ≤ 102 * n; omega⟩ jd_P_init_36 (fun a2 ha2 => ?_)
      refine hk_aast hC 1 ((wQ cI cF n i a).length + 0) (at_l rfl) (at_r (by rw [← ha2]; rfl)) (vp_in_nI (by omega) (by omega)) (ws2 := wQ cI cF n (i + 1) (fun k => if k < 2 + 9 * i then a k else a2 (k - (2 + 9 * i)))) (by rw [wQ_step, nI_clamp (by omega), ha2]; rfl) jd_P_init_39 ?_
      refine hk_iinc (v := nI (i + 1)) hC (lv2 := [(2, .int (nI (i + 1))), (0, .ref (a 0)), (1, .int (nI n))]) jd_P_init_40 2 rfl (nI_succ i) (by decide) rfl ?_
      refine hk_goto (tgt := 18) hC jd_P_init_43 (by decide) ?_
      have e0 : (fun k => if k < 2 + 9 * i then a k else a2 (k - (2 + 9 * i))) 0 = a 0 := if_pos (by omega)
      have hh := ih (i + 1) (by omega) (fun k => if k < 2 + 9 * i then a k else a2 (k - (2 + 9 * i))) (e0.trans ha)
      have hh : hk_W p l e (jr_P_init n) s m args below meth c A (hk_Zx below args s D A h0 (1 + 9 * n) (102 * n) (fun a2 => wP cI cF n a2 0 0 (fun _ => jFV0))) 3 D (1 + 9 * (i + 1)) (n + 101 * (i + 1)) (wQ cI cF n (i + 1) (fun k => if k < 2 + 9 * i then a k else a2 (k - (2 + 9 * i)))) 18 [(0, .ref (a 0)), (1, .int (nI n)), (2, .int (nI (i + 1)))] [] := by rw [← e0]; exact hh
      refine hk_widen (k1 := 1 + 9 * (i + 1)) (k2 := n + 101 * (i + 1)) (by omega) (by omega) ?_
      exact hk_lv [1, 2, 0] rfl hh
  refine hk_aload_n hC jd_P_init_0 0 rfl ?_
  refine hk_objInit hC jq_85 ⟨by show 1 ≤ 2; decide, by show _ + 12 ≤ 32; decide⟩ jd_P_init_1 ?_
  refine hk_aload_n hC jd_P_init_4 0 rfl ?_
  refine hk_iconst (v := 1) hC jd_P_init_5 (by decide) ?_
  refine hk_iload_n hC jd_P_init_6 1 rfl ?_
  refine hk_mmax (v := nI n) hC jq_86 ⟨by show 1 ≤ 2; decide, by show 1 + 13 ≤ 32; decide, Nat.zero_le _, Nat.zero_le _⟩ (jn_max hn1 (by omega)) jd_P_init_7 ?_
  refine hk_newq (N' := n) hC jq_89 hE (nI_pos (by omega)) (nI_clamp (by omega)) (by omega) ⟨by show 0 + 1 ≤ 1 + 9 * n; omega, by show 0 + n ≤ 102 * n; omega⟩ jd_P_init_10 (fun q => ?_)
  refine hk_putF hC jk_P 0 rfl 0 (by decide) jq_92 rfl hnm rfl rfl rfl (Nat.le_of_ble_eq_true rfl) (ws2 := wQ cI cF n 0 (fun k => if k = 0 then h0 else q)) (by rfl) jd_P_init_13 ?_
  refine hk_iconst (v := 0) hC jd_P_init_16 (by decide) ?_
  refine hk_istore_n hC (i := 2) (y := (0 : Int32)) (lv2 := [(2, .int (0 : Int32)), (0, .ref h0), (1, .int (nI n))]) jd_P_init_17 rfl rfl (by decide) rfl ?_
  refine hk_widen (k1 := 1 + 9 * 0) (k2 := n + 101 * 0) (by omega) (by omega) ?_
  exact hk_lv [1, 2, 0] rfl (loop n 0 (by omega) (fun k => if k = 0 then h0 else q) rfl)
theorem jc_P_init (l : Launch) (D : va_G) (cI cF : ClassId) (h0 n : Nat) (hn1 : 1 ≤ n) (hn2 : n ≤ 100) : hk_MxE (va_AO "HayTalk$Field") l jy_P_init jb_P_init 3 (jr_P_init n) D cI cF [(h0, .inr (3, [.null, .int 0, .int 0]))] [.ref h0, .int (nI n)] h0 (1 + 9 * n) (102 * n) (fun a2 => wP cI cF n a2 0 0 (fun _ => jFV0)) :=
  ⟨rfl, rfl, fun U g mk a h => h, fun sz => hk_entryE (by decide) (Nat.le_of_ble_eq_true rfl) fun p e s m args below meth c A hA hs hC hr hnm hE => by subst hs; subst hA; exact jw_P_init n hn1 hn2 hC hr hnm hE h0⟩
