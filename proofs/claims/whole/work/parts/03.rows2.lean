section HKR2
variable {p : Program} {l : Launch} {e : Env} {R : Room} {s : State} {m : MethodId} {args : Array Value} {below : List Frame} {meth : Method} {c : Code} {A : Nat → Prop} {Q : State → Prop} {nL : Nat} {D : va_G} {cI cF : ClassId} {own : String} {cc : ByteArray} {cells slots : Nat} {ws : va_W} {pc : Nat} {lv : List (Nat × Value)} {st : List Value}
theorem hk_topi {x y : Int32} (h : y = x) (k : hk_W p l e R s m args below meth c A Q nL D cells slots ws pc lv (.int y :: st)) : hk_W p l e R s m args below meth c A Q nL D cells slots ws pc lv (.int x :: st) := by
  subst h
  exact k
theorem jm_max1 : Cond.static Lib.Math.max.name ∈ lw_gd := lw_in 87 (by decide +kernel) rfl
theorem jm_max2 : Cond.initialized "java/lang/Math" ∈ lw_gd := lw_in 5 (by decide +kernel) rfl
theorem jm_max3 : Cond.code Lib.Math.max.name Lib.Math.max.code 2 (some .int) ∈ lw_gd := lw_in 88 (by decide +kernel) rfl
theorem jm_min1 : Cond.static Lib.Math.min.name ∈ lw_gd := lw_in 423 (by decide +kernel) rfl
theorem jm_min3 : Cond.code Lib.Math.min.name Lib.Math.min.code 2 (some .int) ∈ lw_gd := lw_in 424 (by decide +kernel) rfl
theorem hk_mmax (hC : hk_ok p s m args meth c A nL D cI cF own cc) {index : Nat} {x y v : Int32} (hl0 : Cond.methodLink own index Lib.Math.max.name ∈ lw_gd) (hR : 1 ≤ R.frames ∧ (st.map fun v => v.category).sum + 13 ≤ R.locals ∧ cells ≤ R.cells ∧ slots ≤ R.slots) (hv : v = (if x < y then y else x)) (d : decode cc pc = .ok (.invokestatic index, 3))
    (k : hk_W p l e R s m args below meth c A Q nL D cells slots ws (pc + 3) lv (.int v :: st)) : hk_W p l e R s m args below meth c A Q nL D cells slots ws pc lv (.int y :: .int x :: st) := by
  subst hv
  exact fun H locs ls hP hD hS hl => va_mmax hC.1 hC.2.1 (hC.2.2.1.trans hl.1.symm) hC.2.2.2.1 (hC.2.2.2.2.1 _ hl0) (hC.2.2.2.2.1 _ jm_max1) (hC.2.2.2.2.1 _ jm_max2) (hC.2.2.2.2.1 _ jm_max3) hR.1 hR.2.1 hR.2.2.1 hR.2.2.2 d (k H locs ls hP hD hS hl)
theorem hk_mmin (hC : hk_ok p s m args meth c A nL D cI cF own cc) {index : Nat} {x y v : Int32} (hl0 : Cond.methodLink own index Lib.Math.min.name ∈ lw_gd) (hR : 1 ≤ R.frames ∧ (st.map fun v => v.category).sum + 13 ≤ R.locals ∧ cells ≤ R.cells ∧ slots ≤ R.slots) (hv : v = (if y < x then y else x)) (d : decode cc pc = .ok (.invokestatic index, 3))
    (k : hk_W p l e R s m args below meth c A Q nL D cells slots ws (pc + 3) lv (.int v :: st)) : hk_W p l e R s m args below meth c A Q nL D cells slots ws pc lv (.int y :: .int x :: st) := by
  subst hv
  exact fun H locs ls hP hD hS hl => va_mmin hC.1 hC.2.1 (hC.2.2.1.trans hl.1.symm) hC.2.2.2.1 (hC.2.2.2.2.1 _ hl0) (hC.2.2.2.2.1 _ jm_min1) (hC.2.2.2.2.1 _ jm_max2) (hC.2.2.2.2.1 _ jm_min3) hR.1 hR.2.1 hR.2.2.1 hR.2.2.2 d (k H locs ls hP hD hS hl)
end HKR2
section HKR3
variable {p : Program} {l : Launch} {e : Env} {R : Room} {s : State} {m : MethodId} {args : Array Value} {below : List Frame} {meth : Method} {c : Code} {A : Nat → Prop} {Q : State → Prop} {nL : Nat} {D : va_G} {cI cF : ClassId} {own : String} {cc : ByteArray} {cells slots : Nat} {ws : va_W} {pc : Nat} {lv : List (Nat × Value)} {st : List Value}
theorem hk_freeW (hC : hk_ok p s m args meth c A nL D cI cF own cc) {H : Heap} {locs : List Loc} (hD : va_D A ws) (hS : va_S A s.heap H locs) : ∀ q, va_A ws H.size q → A q := by
  intro q h
  rcases h with ⟨k, e, h⟩ | h
  · exact hD.2 k (q, e) h
  · exact hC.2.2.2.2.2.2.2.1 q (Nat.le_trans hS.1 h)
theorem hk_P0 {H H1 : Heap} (hP : va_P D classes ws H) (hk1 : ∀ q : Nat, q < H.size → ¬ va_A [] H.size q → H1[q]? = H[q]?) : va_P D classes ws H1 := by
  intro k q hq
  have hlt := (hP k q hq).lt
  refine (hP k q hq).kept (hk1 q.1 hlt (fun hA => ?_))
  rcases hA with ⟨k2, e, h⟩ | h
  · simp at h
  · omega
theorem hk_callVWi (hC : hk_ok p s m args meth c A nL D cI cF own cc) {y : MethodName} {b : ByteArray} {n np index : Nat} {ret : Option FieldType} {r0 : Int32} {rm : Room} {w1 : va_W} {as st0 : List Value} {bref ci q0 N : Nat} {T : u_T} {fs : List Value} (hM : hk_Mi l y b n ret rm D cI cF ws (.ref bref :: as) r0 w1) (hL : hk_L y b n ret np) (hcl : classes[ci]? = some (y.cls, T, N)) (hrecv : ws[q0]? = some (bref, .inr (ci, fs))) (hl0 : Cond.methodLink own index y ∈ lw_gd) (hin : Cond.instanceMethod y ∈ lw_gd) (hse : Cond.selects y.cls y y ∈ lw_gd) (hnp : as.length = np) (hR : rm.frames + 1 ≤ R.frames ∧ 8 + (n + 11) + rm.locals ≤ R.locals) (hw1 : w1.map Prod.fst = ws.map Prod.fst) (hst : st0 = as.reverse ++ .ref bref :: st) (hcat : (st.map fun v => v.category).sum ≤ 8) (hcs : cells ≤ R.cells ∧ slots ≤ R.slots) (d : decode cc pc = .ok (.invokevirtual index, 3))
    (k : hk_W p l e R s m args below meth c A Q nL D cells slots w1 (pc + 3) lv (.int r0 :: st)) : hk_W p l e R s m args below meth c A Q nL D cells slots ws pc lv st0 := by
  intro H locs ls hP hD hS hl
  have hFc := hk_freeW hC hD hS
  refine va_calli (va_runV (As := as) (rest := st) ⟨hC.1, hC.2.1, hC.2.2.1, hC.2.2.2.1, hC.2.2.2.2.1⟩ (hM.2.2 H.size) ⟨hk_B hC hL hM.1 hM.2.1 hl0 hR, hC.2.2.2.2.1 _ hin, hC.2.2.2.2.1 _ hse⟩ ⟨hk_blind, va_recv hC.2.2.2.2.2.1 hP hcl hrecv, fun U hU hW => hk_pre hC hP hD U hU hW⟩ rfl hnp hl.1 hst (lv_room hcat) d ⟨hcs.1, hcs.2⟩) hS (fun q _ h => hFc q h) hFc (fun r u t H1 locs ht hvm hw hB hz1 hk1 hS => ?_)
  rw [ht] at hB
  have hw : r = r0 := hw
  subst hw
  exact k H1 locs ls hB (va_D_map hD hw1) hS hl
theorem hk_callVWv (hC : hk_ok p s m args meth c A nL D cI cF own cc) {y : MethodName} {b : ByteArray} {n np index : Nat} {rm : Room} {w1 : va_W} {as st0 : List Value} {bref ci q0 N : Nat} {T : u_T} {fs : List Value} (hM : hk_Mv l y b n rm D cI cF ws (.ref bref :: as) w1) (hL : hk_L y b n none np) (hcl : classes[ci]? = some (y.cls, T, N)) (hrecv : ws[q0]? = some (bref, .inr (ci, fs))) (hl0 : Cond.methodLink own index y ∈ lw_gd) (hin : Cond.instanceMethod y ∈ lw_gd) (hse : Cond.selects y.cls y y ∈ lw_gd) (hnp : as.length = np) (hR : rm.frames + 1 ≤ R.frames ∧ 8 + (n + 11) + rm.locals ≤ R.locals) (hw1 : w1.map Prod.fst = ws.map Prod.fst) (hst : st0 = as.reverse ++ .ref bref :: st) (hcat : (st.map fun v => v.category).sum ≤ 8) (hcs : cells ≤ R.cells ∧ slots ≤ R.slots) (d : decode cc pc = .ok (.invokevirtual index, 3))
    (k : hk_W p l e R s m args below meth c A Q nL D cells slots w1 (pc + 3) lv (st)) : hk_W p l e R s m args below meth c A Q nL D cells slots ws pc lv st0 := by
  intro H locs ls hP hD hS hl
  have hFc := hk_freeW hC hD hS
  refine va_callv (va_runV (As := as) (rest := st) ⟨hC.1, hC.2.1, hC.2.2.1, hC.2.2.2.1, hC.2.2.2.2.1⟩ (hM.2.2 H.size) ⟨hk_B hC hL hM.1 hM.2.1 hl0 hR, hC.2.2.2.2.1 _ hin, hC.2.2.2.2.1 _ hse⟩ ⟨hk_blind, va_recv hC.2.2.2.2.2.1 hP hcl hrecv, fun U hU hW => hk_pre hC hP hD U hU hW⟩ rfl hnp hl.1 hst (lv_room hcat) d ⟨hcs.1, hcs.2⟩) hS (fun q _ h => hFc q h) hFc (fun u t H1 locs ht hvm hw hB hz1 hk1 hS => ?_)
  rw [ht] at hB
  exact k H1 locs ls hB (va_D_map hD hw1) hS hl
theorem hk_callVWq (hC : hk_ok p s m args meth c A nL D cI cF own cc) {y : MethodName} {b : ByteArray} {n np index : Nat} {ret : Option FieldType} {r0 : Option Nat} {rm : Room} {w1 : va_W} {as st0 : List Value} {bref ci q0 N : Nat} {T : u_T} {fs : List Value} (hM : hk_Mq l y b n ret rm D cI cF ws (.ref bref :: as) r0 w1) (hL : hk_L y b n ret np) (hcl : classes[ci]? = some (y.cls, T, N)) (hrecv : ws[q0]? = some (bref, .inr (ci, fs))) (hl0 : Cond.methodLink own index y ∈ lw_gd) (hin : Cond.instanceMethod y ∈ lw_gd) (hse : Cond.selects y.cls y y ∈ lw_gd) (hnp : as.length = np) (hR : rm.frames + 1 ≤ R.frames ∧ 8 + (n + 11) + rm.locals ≤ R.locals) (hw1 : w1.map Prod.fst = ws.map Prod.fst) (hst : st0 = as.reverse ++ .ref bref :: st) (hcat : (st.map fun v => v.category).sum ≤ 8) (hcs : cells ≤ R.cells ∧ slots ≤ R.slots) (d : decode cc pc = .ok (.invokevirtual index, 3))
    (k : hk_W p l e R s m args below meth c A Q nL D cells slots w1 (pc + 3) lv (va_rf r0 :: st)) : hk_W p l e R s m args below meth c A Q nL D cells slots ws pc lv st0 := by
  intro H locs ls hP hD hS hl
  have hFc := hk_freeW hC hD hS
  refine va_callq (va_runV (As := as) (rest := st) ⟨hC.1, hC.2.1, hC.2.2.1, hC.2.2.2.1, hC.2.2.2.2.1⟩ (hM.2.2 H.size) ⟨hk_B hC hL hM.1 hM.2.1 hl0 hR, hC.2.2.2.2.1 _ hin, hC.2.2.2.2.1 _ hse⟩ ⟨hk_blind, va_recv hC.2.2.2.2.2.1 hP hcl hrecv, fun U hU hW => hk_pre hC hP hD U hU hW⟩ rfl hnp hl.1 hst (lv_room hcat) d ⟨hcs.1, hcs.2⟩) hS (fun q _ h => hFc q h) hFc (fun r u t H1 locs ht hvm hw hB hz1 hk1 hS => ?_)
  rw [ht] at hB
  have hw : r = r0 := hw
  subst hw
  exact k H1 locs ls hB (va_D_map hD hw1) hS hl
theorem hk_callS0i (hC : hk_ok p s m args meth c A nL D cI cF own cc) {y : MethodName} {b : ByteArray} {n np index : Nat} {ret : Option FieldType} {r0 : Int32} {rm : Room} {as st0 : List Value} (hM : hk_Mi l y b n ret rm D cI cF ([] : va_W) (as) r0 ([] : va_W)) (hL : hk_L y b n ret np) (hl0 : Cond.methodLink own index y ∈ lw_gd) (hst1 : Cond.static y ∈ lw_gd) (hnp : as.length = np) (hR : rm.frames + 1 ≤ R.frames ∧ 8 + (n + 11) + rm.locals ≤ R.locals) (hst : st0 = as.reverse ++ st) (hcat : (st.map fun v => v.category).sum ≤ 8) (hcs : cells ≤ R.cells ∧ slots ≤ R.slots) (d : decode cc pc = .ok (.invokestatic index, 3))
    (k : hk_W p l e R s m args below meth c A Q nL D cells slots ws (pc + 3) lv (.int r0 :: st)) : hk_W p l e R s m args below meth c A Q nL D cells slots ws pc lv st0 := by
  intro H locs ls hP hD hS hl
  have hFc := hk_freeW (ws := []) hC ⟨fun i j p q h => by simp at h, fun k q h => by simp at h⟩ hS
  refine va_calli (va_runS (As := as) (rest := st) ⟨hC.1, hC.2.1, hC.2.2.1, hC.2.2.2.1, hC.2.2.2.2.1⟩ (hM.2.2 H.size) ⟨hk_B hC hL hM.1 hM.2.1 hl0 hR, hC.2.2.2.2.1 _ hst1⟩ ⟨hk_blind, fun U hU hW => hk_pre hC (fun k q h => by simp at h) ⟨fun i j p q h => by simp at h, fun k q h => by simp at h⟩ U hU hW⟩ rfl hnp hl.1 hst (lv_room hcat) d ⟨hcs.1, hcs.2⟩) hS (fun q _ h => hFc q h) hFc (fun r u t H1 locs ht hvm hw hB hz1 hk1 hS => ?_)
  rw [ht] at hB
  have hw : r = r0 := hw
  subst hw
  exact k H1 locs ls (hk_P0 hP hk1) hD hS hl
theorem hk_callN0i (hC : hk_ok p s m args meth c A nL D cI cF own cc) {y : MethodName} {b : ByteArray} {n np index : Nat} {ret : Option FieldType} {r0 : Int32} {rm : Room} {as st0 : List Value} {host : String} (hM : hk_Mi l y b n ret rm D cI cF ([] : va_W) (as) r0 ([] : va_W)) (hL : hk_L y b n ret np) (hl0 : Cond.methodLinkNest own index y host ∈ lw_nt) (hst1 : Cond.static y ∈ lw_gd) (hnp : as.length = np) (hR : rm.frames + 1 ≤ R.frames ∧ 8 + (n + 11) + rm.locals ≤ R.locals) (hst : st0 = as.reverse ++ st) (hcat : (st.map fun v => v.category).sum ≤ 8) (hcs : cells ≤ R.cells ∧ slots ≤ R.slots) (d : decode cc pc = .ok (.invokestatic index, 3))
    (k : hk_W p l e R s m args below meth c A Q nL D cells slots ws (pc + 3) lv (.int r0 :: st)) : hk_W p l e R s m args below meth c A Q nL D cells slots ws pc lv st0 := by
  intro H locs ls hP hD hS hl
  have hFc := hk_freeW (ws := []) hC ⟨fun i j p q h => by simp at h, fun k q h => by simp at h⟩ hS
  refine va_calli (va_runSN (As := as) (rest := st) ⟨hC.1, hC.2.1, hC.2.2.1, hC.2.2.2.1, hC.2.2.2.2.1⟩ (hM.2.2 H.size) ⟨hk_N hC hL hM.1 hM.2.1 hl0 hR, hC.2.2.2.2.1 _ hst1, trivial⟩ ⟨hk_blind, fun U hU hW => hk_pre hC (fun k q h => by simp at h) ⟨fun i j p q h => by simp at h, fun k q h => by simp at h⟩ U hU hW⟩ rfl hnp hl.1 hst (lv_room hcat) d ⟨hcs.1, hcs.2⟩) hS (fun q _ h => hFc q h) hFc (fun r u t H1 locs ht hvm hw hB hz1 hk1 hS => ?_)
  rw [ht] at hB
  have hw : r = r0 := hw
  subst hw
  exact k H1 locs ls (hk_P0 hP hk1) hD hS hl
theorem hk_callS0v (hC : hk_ok p s m args meth c A nL D cI cF own cc) {y : MethodName} {b : ByteArray} {n np index : Nat} {rm : Room} {as st0 : List Value} (hM : hk_Mv l y b n rm D cI cF ([] : va_W) (as) ([] : va_W)) (hL : hk_L y b n none np) (hl0 : Cond.methodLink own index y ∈ lw_gd) (hst1 : Cond.static y ∈ lw_gd) (hnp : as.length = np) (hR : rm.frames + 1 ≤ R.frames ∧ 8 + (n + 11) + rm.locals ≤ R.locals) (hst : st0 = as.reverse ++ st) (hcat : (st.map fun v => v.category).sum ≤ 8) (hcs : cells ≤ R.cells ∧ slots ≤ R.slots) (d : decode cc pc = .ok (.invokestatic index, 3))
    (k : hk_W p l e R s m args below meth c A Q nL D cells slots ws (pc + 3) lv (st)) : hk_W p l e R s m args below meth c A Q nL D cells slots ws pc lv st0 := by
  intro H locs ls hP hD hS hl
  have hFc := hk_freeW (ws := []) hC ⟨fun i j p q h => by simp at h, fun k q h => by simp at h⟩ hS
  refine va_callv (va_runS (As := as) (rest := st) ⟨hC.1, hC.2.1, hC.2.2.1, hC.2.2.2.1, hC.2.2.2.2.1⟩ (hM.2.2 H.size) ⟨hk_B hC hL hM.1 hM.2.1 hl0 hR, hC.2.2.2.2.1 _ hst1⟩ ⟨hk_blind, fun U hU hW => hk_pre hC (fun k q h => by simp at h) ⟨fun i j p q h => by simp at h, fun k q h => by simp at h⟩ U hU hW⟩ rfl hnp hl.1 hst (lv_room hcat) d ⟨hcs.1, hcs.2⟩) hS (fun q _ h => hFc q h) hFc (fun u t H1 locs ht hvm hw hB hz1 hk1 hS => ?_)
  rw [ht] at hB
  exact k H1 locs ls (hk_P0 hP hk1) hD hS hl
theorem hk_callN0v (hC : hk_ok p s m args meth c A nL D cI cF own cc) {y : MethodName} {b : ByteArray} {n np index : Nat} {rm : Room} {as st0 : List Value} {host : String} (hM : hk_Mv l y b n rm D cI cF ([] : va_W) (as) ([] : va_W)) (hL : hk_L y b n none np) (hl0 : Cond.methodLinkNest own index y host ∈ lw_nt) (hst1 : Cond.static y ∈ lw_gd) (hnp : as.length = np) (hR : rm.frames + 1 ≤ R.frames ∧ 8 + (n + 11) + rm.locals ≤ R.locals) (hst : st0 = as.reverse ++ st) (hcat : (st.map fun v => v.category).sum ≤ 8) (hcs : cells ≤ R.cells ∧ slots ≤ R.slots) (d : decode cc pc = .ok (.invokestatic index, 3))
    (k : hk_W p l e R s m args below meth c A Q nL D cells slots ws (pc + 3) lv (st)) : hk_W p l e R s m args below meth c A Q nL D cells slots ws pc lv st0 := by
  intro H locs ls hP hD hS hl
  have hFc := hk_freeW (ws := []) hC ⟨fun i j p q h => by simp at h, fun k q h => by simp at h⟩ hS
  refine va_callv (va_runSN (As := as) (rest := st) ⟨hC.1, hC.2.1, hC.2.2.1, hC.2.2.2.1, hC.2.2.2.2.1⟩ (hM.2.2 H.size) ⟨hk_N hC hL hM.1 hM.2.1 hl0 hR, hC.2.2.2.2.1 _ hst1, trivial⟩ ⟨hk_blind, fun U hU hW => hk_pre hC (fun k q h => by simp at h) ⟨fun i j p q h => by simp at h, fun k q h => by simp at h⟩ U hU hW⟩ rfl hnp hl.1 hst (lv_room hcat) d ⟨hcs.1, hcs.2⟩) hS (fun q _ h => hFc q h) hFc (fun u t H1 locs ht hvm hw hB hz1 hk1 hS => ?_)
  rw [ht] at hB
  exact k H1 locs ls (hk_P0 hP hk1) hD hS hl
end HKR3
