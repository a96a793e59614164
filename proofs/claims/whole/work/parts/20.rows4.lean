/-! rows that make cells: constructors -/
theorem jo_1 : Cond.instanceMethod objectInit ∈ lw_gd := lw_in 22 (by decide +kernel) rfl
theorem jo_2 : Cond.code objectInit ⟨#[0xb1]⟩ 1 none ∈ lw_gd := lw_in 23 (by decide +kernel) rfl
theorem jo_3 : Cond.arrayClass .int ∈ lw_gd := lw_in 39 (by decide +kernel) rfl
theorem pm_grow {A0 : Nat → Prop} {D : va_G} {cl : List vw_C} {w wc wr w1 : va_W} {H H1 : Heap} (hp : w.Perm (wc ++ wr)) (hP : va_P D cl w H) (hD : va_D A0 w)
    (hk : ∀ q : Nat, q < H.size → ¬ va_A wc H.size q → H1[q]? = H[q]?) (hF : ∀ q, va_A wc H.size q → A0 q) (hP1 : va_P D cl w1 H1) (hD1 : va_D (va_A wc H.size) w1) : va_P D cl (wr ++ w1) H1 ∧ va_D A0 (wr ++ w1) := by
  obtain ⟨d1, d2⟩ := va_D_iff.mp hD
  have d3 := ((hp.map Prod.fst).nodup_iff).mp d1
  rw [List.map_append] at d3
  have apart : ∀ q ∈ wr, q.1 < H.size ∧ ¬ va_A wc H.size q.1 := by
    intro q h
    have hlt := (va_P_iff.mp hP q (hp.mem_iff.mpr (List.mem_append_right _ h))).lt
    refine ⟨hlt, fun hA => ?_⟩
    rcases hA with ⟨k2, e2, h2⟩ | h2
    · exact (List.nodup_append.mp d3).2.2 q.1 (List.mem_map.mpr ⟨_, List.mem_of_getElem? h2, rfl⟩) q.1 (List.mem_map.mpr ⟨q, h, rfl⟩) rfl
    · omega
  obtain ⟨e1, e2⟩ := va_D_iff.mp hD1
  refine ⟨va_P_iff.mpr fun q hq => ?_, va_D_iff.mpr ⟨?_, fun q hq => ?_⟩⟩
  · rcases List.mem_append.mp hq with h | h
    · exact (va_P_iff.mp hP q (hp.mem_iff.mpr (List.mem_append_right _ h))).kept (hk q.1 (apart q h).1 (apart q h).2)
    · exact va_P_iff.mp hP1 q h
  · rw [List.map_append]
    refine List.nodup_append.mpr ⟨(List.nodup_append.mp d3).2.1, e1, fun x hx y hy hxy => ?_⟩
    obtain ⟨q, h1, h2⟩ := List.mem_map.mp hx
    obtain ⟨q', h3, h4⟩ := List.mem_map.mp hy
    exact (apart q h1).2 (by rw [h2, hxy, ← h4]; exact e2 q' h3)
  · rcases List.mem_append.mp hq with h | h
    · exact d2 q (hp.mem_iff.mpr (List.mem_append_right _ h))
    · exact hF q.1 (e2 q h)
def hk_Zx (below : List Frame) (args : Array Value) (s : State) (D : va_G) (A : Nat → Prop) (h0 mc ms : Nat) (Wf : (Nat → Nat) → va_W) : State → Prop := MQ below (va_Qv (S := Nat → Nat) (fun a2 => a2 0 = h0) (fun a2 t => va_P D classes (Wf a2) t.heap ∧ va_D A (Wf a2)) A) args s mc ms A
def hk_Mx (l : Launch) (y : MethodName) (b : ByteArray) (n : Nat) (rm : Room) (D : va_G) (cI cF : ClassId) (wc : va_W) (as : List Value) (h0 mc ms : Nat) (Wf : (Nat → Nat) → va_W) : Prop :=
  rm.cells = mc ∧ rm.slots = ms ∧ ∀ sz : Nat, Met l y (.code y b n none :: lw_gd) rm (hk_Pc D cI cF wc as sz) (va_Qv (S := Nat → Nat) (fun a2 => a2 0 = h0) (fun a2 t => va_P D classes (Wf a2) t.heap ∧ va_D (va_A wc sz) (Wf a2)) (va_A wc sz)) mc ms (va_A wc sz)
theorem hk_entryX {y : MethodName} {b : ByteArray} {n mc ms : Nat} {ret : Option FieldType} {rm : Room} {D : va_G} {cI cF : ClassId} {wc : va_W} {as : List Value} {sz : Nat} {l : Launch} {Qc : Array Value → State → Outcome → State → Prop} (hy : plainName y.cls = true) (hn : (lg_sl as).length ≤ n)
    (body : ∀ (p : Program) (e : Env) (s : State) (m : MethodId) (args : Array Value) (below : List Frame) (meth : Method) (c : Code) (A : Nat → Prop), A = va_A wc sz → hk_ok p s m args meth c A n D cI cF y.cls b → meth.sig.returnType = ret → meth.name = y.name → hk_W p l e rm s m args below meth c A (MQ below Qc args s mc ms A) n D 0 0 wc 0 (lv_args 0 as) []) :
    Met l y (.code y b n ret :: lw_gd) rm (hk_Pc D cI cF wc as sz) Qc mc ms (va_A wc sz) := by
  refine Met.ofW (cc := b) (maxL := n) (ret := ret) hy rfl ?_
  intro p e s m args below meth c s₁ B hml hv
  obtain ⟨rfl, hsz, hP, hK, hD0, hN⟩ := hv
  have hts := atoms_spec (ws := Cond.code y b n ret :: lw_gd) B.pre
  subst hsz
  have hD := hD0.self (sz := s.heap.size)
  have hl := lv_entry as hn
  rw [lg_entry_eq]
  exact body p e s m as.toArray below meth c _ rfl ⟨B.exec, B.bytes, hml, findClass_of_methodNamed B.named, fun w hw => hts w (List.mem_cons_of_mem _ hw), hK, B.notSynchronized, fun q h => Or.inr h, hN⟩ B.returns (name_of_methodNamed B.named B.method).1 s.heap [] _ hP hD va_S.rf hl
theorem hk_metX {y : MethodName} {b : ByteArray} {n mc ms : Nat} {rm : Room} {D : va_G} {cI cF : ClassId} {wc : va_W} {as : List Value} {l : Launch} {h0 : Nat} {Wf : (Nat → Nat) → va_W} (hy : plainName y.cls = true) (hn : (lg_sl as).length ≤ n) (hrc : rm.cells = mc) (hrs : rm.slots = ms)
    (body : ∀ (p : Program) (e : Env) (s : State) (m : MethodId) (args : Array Value) (below : List Frame) (meth : Method) (c : Code) (A : Nat → Prop), hk_ok p s m args meth c A n D cI cF y.cls b → meth.sig.returnType = none → meth.name = y.name → hk_W p l e rm s m args below meth c A (hk_Zx below args s D A h0 mc ms Wf) n D 0 0 wc 0 (lv_args 0 as) []) :
    hk_Mx l y b n rm D cI cF wc as h0 mc ms Wf := ⟨hrc, hrs, fun sz => hk_entryX hy hn fun p e s m args below meth c A hA hC hr hnm => by subst hA; exact body p e s m args below meth c _ hC hr hnm⟩
section HKR5
variable {p : Program} {l : Launch} {e : Env} {R : Room} {s : State} {m : MethodId} {args : Array Value} {below : List Frame} {meth : Method} {c : Code} {A : Nat → Prop} {Q : State → Prop} {nL : Nat} {D : va_G} {cI cF : ClassId} {own : String} {cc : ByteArray} {cells slots : Nat} {ws : va_W} {pc : Nat} {lv : List (Nat × Value)} {st : List Value}
theorem hk_objInit (hC : hk_ok p s m args meth c A nL D cI cF own cc) {index a : Nat} (hl0 : Cond.methodLink own index objectInit ∈ lw_gd) (hR : 1 ≤ R.frames ∧ (st.map fun v => v.category).sum + 12 ≤ R.locals) (d : decode cc pc = .ok (.invokespecial index, 3))
    (k : hk_W p l e R s m args below meth c A Q nL D cells slots ws (pc + 3) lv st) : hk_W p l e R s m args below meth c A Q nL D cells slots ws pc lv (.ref a :: st) :=
  fun H locs ls hP hD hS hl => W.objInit hC.1 hC.2.1 hC.2.2.2.1 (hC.2.2.2.2.1 _ hl0) (hC.2.2.2.2.1 _ jo_1) (hC.2.2.2.2.1 _ jo_2) rfl (hl.1.trans hC.2.2.1.symm) rfl d hR.1 (by show 2 * 0 + _ + 12 ≤ _; omega) (W.eq (g2 := F0 m (pc + 3) ls st) rfl (k H locs ls hP hD hS hl))
theorem hk_new (hC : hk_ok p s m args meth c A nL D cI cF own cc) {C : String} {T : u_T} {N ci index : Nat} {ty0 : Nat → FieldType} (hF : hk_cls ci C T N ty0) {fs : List Value} (hfs : ∀ j, j < N → defaultValue (ty0 j) = vp_V fs j) (hl0 : Cond.classLink own index C ∈ lw_gd) (hin : Cond.instantiable C N ∈ lw_gd) (hini : Cond.initialized C ∈ lw_gd) (hR : cells + 1 ≤ R.cells ∧ slots + N ≤ R.slots) (d : decode cc pc = .ok (.new index, 3))
    (k : ∀ q : Nat, hk_W p l e R s m args below meth c A Q nL D (cells + 1) (slots + N) (ws ++ [(q, .inr (ci, fs))]) (pc + 3) lv (.ref q :: st)) : hk_W p l e R s m args below meth c A Q nL D cells slots ws pc lv st :=
  fun H locs ls hP hD hS hl => va_new hC.1 hC.2.1 hC.2.2.2.2.1 hF.2.1 ty0 hF.2.2.1 hC.2.2.2.1 (hC.2.2.2.2.1 _ hl0) (hC.2.2.2.2.1 _ hin) (hC.2.2.2.2.1 _ hini) hC.2.2.2.2.2.1 hP hD hS hC.2.2.2.2.2.2.2.1 hF.1 hfs hR.1 hR.2 d (fun q H1 hP hD hS => k q H1 locs ls hP hD hS hl)
theorem hk_newa (hC : hk_ok p s m args meth c A nL D cI cF own cc) {n : Int32} {N' : Nat} (hn : ¬ n < 0) (hN : n.toNatClampNeg = N') (hb : N' * 4 ≤ 536870912) (hR : cells + 1 ≤ R.cells ∧ slots + N' ≤ R.slots) (d : decode cc pc = .ok (.newarray .int, 2))
    (k : ∀ q : Nat, hk_W p l e R s m args below meth c A Q nL D (cells + 1) (slots + N') (ws ++ [(q, .inl (cI, N', .inl (fun _ => 0)))]) (pc + 2) lv (.ref q :: st)) : hk_W p l e R s m args below meth c A Q nL D cells slots ws pc lv (.int n :: st) := by
  intro H locs ls hP hD hS hl
  refine va_newa (atype := .int) (ty := .int) (a0 := (N', .inl (fun _ => 0))) hC.1 hC.2.1 (hC.2.2.2.2.1 _ jo_3) rfl hC.2.2.2.2.2.1 hP hD hS hC.2.2.2.2.2.2.2.1 (fun _ => rfl) hn hN hb hR.1 hR.2 d (fun q cA H1 hK hP hD hS => ?_)
  have e1 := (hK.2 2 (cA, .int) rfl).2
  have e2 := (hC.2.2.2.2.2.1.2 0 (cI, .int) rfl).2
  have e3 : some cA = some cI := Eq.trans (Eq.symm e1) e2
  have e4 := Option.some.inj e3
  subst e4
  exact k q H1 locs ls hP hD hS hl
theorem hk_putF (hC : hk_ok p s m args meth c A nL D cI cF own cc) {C : String} {T : u_T} {N ci index a : Nat} {ty0 : Nat → FieldType} (hF : hk_cls ci C T N ty0) (q0 : Nat) {fs : List Value} (he : ws[q0]? = some (a, .inr (ci, fs))) (k0 : Nat) (hk : k0 < N) (hw : Cond.fieldLink own index (T k0).1 (T k0).2.1 (T k0).2.2.1 ∈ lw_gd) (hfin : (T k0).2.2.2 = true) (hnm : meth.name = "<init>") (hdc : (T k0).1 = own) {v : Value} (hn : narrow (ty0 k0) v = v) (hfit : fits (ty0 k0) v = true) (hl0 : k0 < fs.length) {ws2 : va_W} (hws : ws.set q0 (a, .inr (ci, fs.set k0 v)) = ws2) (d : decode cc pc = .ok (.putfield index, 3))
    (k : hk_W p l e R s m args below meth c A Q nL D cells slots ws2 (pc + 3) lv st) : hk_W p l e R s m args below meth c A Q nL D cells slots ws pc lv (v :: .ref a :: st) := by
  subst hws
  exact fun H locs ls hP hD hS hl => va_putF hC.1 hC.2.1 hC.2.2.2.2.1 hF.2.1 ty0 hF.2.2.1 hF.2.2.2 hC.2.2.2.1 hC.2.2.2.2.2.1 hP hD hS q0 he hF.1 k0 hk (hC.2.2.2.2.1 _ hw) (fun _ h9 => h9) hfin hnm hdc (hF.2.2.1 k0 hk) hn hfit hl0 d (fun H locs hP hD hS => k H locs ls hP hD hS hl)
theorem hk_cret (hC : hk_ok p s m args meth c A nL D cI cF own cc) {h0 : Nat} {Wf : (Nat → Nat) → va_W} (hr : meth.sig.returnType = none) (d : decode cc pc = .ok (.return_, 1)) (a2 : Nat → Nat) (h1 : a2 0 = h0) {wr : va_W} (hp : ws.Perm (Wf a2 ++ wr)) : hk_W p l e R s m args below meth c A (hk_Zx below args s D A h0 cells slots Wf) nL D cells slots ws pc lv [] :=
  fun H locs ls hP hD hS hl => W.vret hC.1 hC.2.1 hr (fun t ht hW => ⟨⟨a2, rfl, h1, (by show va_P D classes (Wf a2) t.heap; rw [ht]; exact pm_P hp hP), pm_D hp hD⟩, hS.F ht⟩) hS.2.2 d hC.2.2.2.2.2.2.1
theorem hk_perm {ws2 : va_W} (h : ws.Perm ws2) (k : hk_W p l e R s m args below meth c A Q nL D cells slots ws2 pc lv st) : hk_W p l e R s m args below meth c A Q nL D cells slots ws pc lv st :=
  fun H locs ls hP hD hS hl => k H locs ls (pm_P (wr := []) (by rw [List.append_nil]; exact h) hP) (pm_D (wr := []) (by rw [List.append_nil]; exact h) hD) hS hl
theorem hk_widen {k1 k2 : Nat} (h1 : cells ≤ k1) (h2 : slots ≤ k2) (k : hk_W p l e R s m args below meth c A Q nL D k1 k2 ws pc lv st) : hk_W p l e R s m args below meth c A Q nL D cells slots ws pc lv st :=
  fun H locs ls hP hD hS hl => W.widen h1 h2 (k H locs ls hP hD hS hl)
theorem hk_callI (hC : hk_ok p s m args meth c A nL D cI cF own cc) {y : MethodName} {b : ByteArray} {n np index mc ms : Nat} {rm : Room} {wc wr : va_W} {Wf : (Nat → Nat) → va_W} {as st0 : List Value} {bref : Nat} (hM : hk_Mx l y b n rm D cI cF wc (.ref bref :: as) bref mc ms Wf) (hL : hk_L y b n none np) (hl0 : Cond.methodLink own index y ∈ lw_gd) (hin : Cond.instanceMethod y ∈ lw_gd) (hy1 : y.name = "<init>") (hnp : as.length = np) (hR : rm.frames + 1 ≤ R.frames ∧ 8 + (n + 11) + rm.locals ≤ R.locals) (hp : ws.Perm (wc ++ wr)) (hst : st0 = as.reverse ++ .ref bref :: st) (hcat : (st.map fun v => v.category).sum ≤ 8) (hcs : cells + mc ≤ R.cells ∧ slots + ms ≤ R.slots) (d : decode cc pc = .ok (.invokespecial index, 3))
    (k : ∀ a2 : Nat → Nat, a2 0 = bref → hk_W p l e R s m args below meth c A Q nL D (cells + mc) (slots + ms) (wr ++ Wf a2) (pc + 3) lv st) : hk_W p l e R s m args below meth c A Q nL D cells slots ws pc lv st0 := by
  intro H locs ls hP hD hS hl
  have hPc := pm_P hp hP
  have hDc := pm_D hp hD
  have hFc := hk_freeW hC hDc hS
  refine va_callv (va_runI (As := as) (rest := st) ⟨hC.1, hC.2.1, hC.2.2.1, hC.2.2.2.1, hC.2.2.2.2.1⟩ (hM.2.2 H.size) ⟨callB_of np hC.2.2.2.2.1 (hk_goodL hL) rfl hM.1 hM.2.1 (hC.2.2.2.2.1 _ hL.2.1) (hC.2.2.2.2.1 _ hl0) hL.2.2 hR, hy1, hC.2.2.2.2.1 _ hin⟩ ⟨hk_blind, fun U hU hW => hk_pre hC hPc hDc U hU hW⟩ rfl hnp hl.1 hst (lv_room hcat) d hcs) hS (fun q _ h => hFc q h) hFc (fun u t H1 locs ht hvm hw hB hz1 hk1 hS => ?_)
  rw [ht] at hB
  obtain ⟨hP2, hD2⟩ := pm_grow hp hP hD hk1 hFc hB.1 hB.2
  exact k u hw H1 locs ls hP2 hD2 hS hl
theorem hk_callIN (hC : hk_ok p s m args meth c A nL D cI cF own cc) {y : MethodName} {b : ByteArray} {n np index mc ms : Nat} {host : String} {rm : Room} {wc wr : va_W} {Wf : (Nat → Nat) → va_W} {as st0 : List Value} {bref : Nat} (hM : hk_Mx l y b n rm D cI cF wc (.ref bref :: as) bref mc ms Wf) (hL : hk_L y b n none np) (hl0 : Cond.methodLinkNest own index y host ∈ lw_nt) (hin : Cond.instanceMethod y ∈ lw_gd) (hy1 : y.name = "<init>") (hnp : as.length = np) (hR : rm.frames + 1 ≤ R.frames ∧ 8 + (n + 11) + rm.locals ≤ R.locals) (hp : ws.Perm (wc ++ wr)) (hst : st0 = as.reverse ++ .ref bref :: st) (hcat : (st.map fun v => v.category).sum ≤ 8) (hcs : cells + mc ≤ R.cells ∧ slots + ms ≤ R.slots) (d : decode cc pc = .ok (.invokespecial index, 3))
    (k : ∀ a2 : Nat → Nat, a2 0 = bref → hk_W p l e R s m args below meth c A Q nL D (cells + mc) (slots + ms) (wr ++ Wf a2) (pc + 3) lv st) : hk_W p l e R s m args below meth c A Q nL D cells slots ws pc lv st0 := by
  intro H locs ls hP hD hS hl
  have hPc := pm_P hp hP
  have hDc := pm_D hp hD
  have hFc := hk_freeW hC hDc hS
  refine va_callv (va_runIN (As := as) (rest := st) ⟨hC.1, hC.2.1, hC.2.2.1, hC.2.2.2.1, hC.2.2.2.2.1⟩ (hM.2.2 H.size) ⟨va_cnB np hC.2.2.2.2.1 (hk_goodL hL) rfl hM.1 hM.2.1 (hC.2.2.2.2.2.2.2.2 _ hl0) (hC.2.2.2.2.1 _ hL.2.1) hL.2.2 hR, hy1, hC.2.2.2.2.1 _ hin⟩ ⟨hk_blind, fun U hU hW => hk_pre hC hPc hDc U hU hW⟩ rfl hnp hl.1 hst (lv_room hcat) d hcs) hS (fun q _ h => hFc q h) hFc (fun u t H1 locs ht hvm hw hB hz1 hk1 hS => ?_)
  rw [ht] at hB
  obtain ⟨hP2, hD2⟩ := pm_grow hp hP hD hk1 hFc hB.1 hB.2
  exact k u hw H1 locs ls hP2 hD2 hS hl
end HKR5
