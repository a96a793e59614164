/-! blocks of a world -/
theorem at_l {w1 w2 : va_W} {k : Nat} {q : Nat × va_E} (h : w1[k]? = some q) : (w1 ++ w2)[k]? = some q := by
  rw [List.getElem?_append_left (List.getElem?_eq_some_iff.mp h).1]
  exact h
theorem at_r {w1 w2 : va_W} {k : Nat} {q : Nat × va_E} (h : w2[k]? = some q) : (w1 ++ w2)[w1.length + k]? = some q := by
  rw [List.getElem?_append_right (Nat.le_add_right _ _), Nat.add_sub_cancel_left]
  exact h
theorem set_l {w1 w1' w2 : va_W} {k : Nat} {q : Nat × va_E} (h : k < w1.length) (e : w1.set k q = w1') : (w1 ++ w2).set k q = w1' ++ w2 := by
  rw [List.set_append_left _ _ h, e]
theorem set_r {w1 w2 w2' : va_W} {k : Nat} {q : Nat × va_E} (e : w2.set k q = w2') : (w1 ++ w2).set (w1.length + k) q = w1 ++ w2' := by
  rw [List.set_append_right _ _ (Nat.le_add_right _ _), Nat.add_sub_cancel_left, e]
theorem fst_app {w1 w2 v1 v2 : va_W} (h1 : w1.map Prod.fst = v1.map Prod.fst) (h2 : w2.map Prod.fst = v2.map Prod.fst) : (w1 ++ w2).map Prod.fst = (v1 ++ v2).map Prod.fst := by
  rw [List.map_append, List.map_append, h1, h2]
theorem wPb_fst {cI : ClassId} {n : Nat} {a : Nat → Nat} (v v2 : Nat → jFV) : (wPb cI n a v).flatten.map Prod.fst = (wPb cI n a v2).flatten.map Prod.fst := by
  unfold wPb
  rw [List.map_flatten, List.map_flatten, List.map_map, List.map_map]
  rfl
theorem fst_P {cI cF : ClassId} {n : Nat} {a : Nat → Nat} {v v2 : Nat → jFV} (newest size newest2 size2 : Int32) : (wP cI cF n a newest size v).map Prod.fst = (wP cI cF n a newest2 size2 v2).map Prod.fst := by
  simp only [wP, List.map_cons]
  rw [wPb_fst v v2]
theorem pm_ok (bs bs2 : List va_W) (is : List Nat) (h1 : is.Perm (List.range bs.length)) (h2 : is.map (fun i => bs.getD i []) = bs2) : bs.flatten.Perm bs2.flatten := by
  have h3 : bs = (List.range bs.length).map (fun i => bs.getD i []) := by
    apply List.ext_getElem?
    intro i
    by_cases hi : i < bs.length
    · simp [hi]
    · simp [Nat.not_lt.mp hi]
  have h4 := (h1.map (fun i => bs.getD i [])).symm
  rw [← h3, h2] at h4
  exact h4.flatten
theorem va_P_iff {D : va_G} {cl : List vw_C} {w : va_W} {H : Heap} : va_P D cl w H ↔ ∀ q ∈ w, va_at D cl q H := by
  constructor
  · intro h q hq
    obtain ⟨i, hi⟩ := List.getElem?_of_mem hq
    exact h i q hi
  · intro h k q hq
    exact h q (List.mem_of_getElem? hq)
theorem va_D_iff {A : Nat → Prop} {w : va_W} : va_D A w ↔ (w.map Prod.fst).Nodup ∧ ∀ q ∈ w, A q.1 := by
  constructor
  · intro h
    refine ⟨?_, fun q hq => ?_⟩
    · rw [List.Nodup, List.pairwise_iff_getElem]
      intro i j hi hj hij he
      simp only [List.length_map] at hi hj
      simp only [List.getElem_map] at he
      have := h.1 i j _ _ (List.getElem?_eq_getElem hi) (List.getElem?_eq_getElem hj) he
      omega
    · obtain ⟨i, hi⟩ := List.getElem?_of_mem hq
      exact h.2 i q hi
  · intro ⟨h1, h2⟩
    refine ⟨fun i j p q hi hj he => ?_, fun k q hk => h2 q (List.mem_of_getElem? hk)⟩
    obtain ⟨hi1, hi2⟩ := List.getElem?_eq_some_iff.mp hi
    obtain ⟨hj1, hj2⟩ := List.getElem?_eq_some_iff.mp hj
    rw [List.Nodup, List.pairwise_iff_getElem] at h1
    rcases Nat.lt_trichotomy i j with h | h | h
    · exact absurd (show (w.map Prod.fst)[i]'(by simpa using hi1) = (w.map Prod.fst)[j]'(by simpa using hj1) by simp only [List.getElem_map, hi2, hj2]; exact he) (h1 i j (by simpa using hi1) (by simpa using hj1) h)
    · exact h
    · exact absurd (show (w.map Prod.fst)[j]'(by simpa using hj1) = (w.map Prod.fst)[i]'(by simpa using hi1) by simp only [List.getElem_map, hi2, hj2]; exact he.symm) (h1 j i (by simpa using hj1) (by simpa using hi1) h)
/-- a part of a world, by a permutation, and its return -/
theorem pm_P {D : va_G} {cl : List vw_C} {w wc wr : va_W} {H : Heap} (hp : w.Perm (wc ++ wr)) (h : va_P D cl w H) : va_P D cl wc H :=
  va_P_iff.mpr fun q hq => va_P_iff.mp h q (hp.mem_iff.mpr (List.mem_append_left _ hq))
theorem pm_D {A : Nat → Prop} {w wc wr : va_W} (hp : w.Perm (wc ++ wr)) (h : va_D A w) : va_D A wc := by
  obtain ⟨h1, h2⟩ := va_D_iff.mp h
  have h3 := ((hp.map Prod.fst).nodup_iff).mp h1
  rw [List.map_append] at h3
  exact va_D_iff.mpr ⟨(List.nodup_append.mp h3).1, fun q hq => h2 q (hp.mem_iff.mpr (List.mem_append_left _ hq))⟩
theorem pm_join {A0 : Nat → Prop} {D : va_G} {cl : List vw_C} {w wc wr w1 w2 : va_W} {H H1 : Heap} (hp : w.Perm (wc ++ wr)) (hp2 : w2.Perm (w1 ++ wr)) (hw : w1.map Prod.fst = wc.map Prod.fst) (hP : va_P D cl w H) (hD : va_D A0 w)
    (hk : ∀ q : Nat, q < H.size → ¬ va_A wc H.size q → H1[q]? = H[q]?) (hP1 : va_P D cl w1 H1) : va_P D cl w2 H1 ∧ va_D A0 w2 := by
  obtain ⟨d1, d2⟩ := va_D_iff.mp hD
  have e : (w2.map Prod.fst).Perm (w.map Prod.fst) := by
    refine (hp2.map _).trans (List.Perm.trans ?_ (hp.map _).symm)
    rw [List.map_append, List.map_append, hw]
  have d3 := ((hp.map Prod.fst).nodup_iff).mp d1
  rw [List.map_append] at d3
  refine ⟨va_P_iff.mpr fun q hq => ?_, va_D_iff.mpr ⟨e.nodup_iff.mpr d1, fun q hq => ?_⟩⟩
  · rcases List.mem_append.mp (hp2.mem_iff.mp hq) with h | h
    · exact va_P_iff.mp hP1 q h
    · have hq' := va_P_iff.mp hP q (hp.mem_iff.mpr (List.mem_append_right _ h))
      have hlt := hq'.lt
      refine hq'.kept (hk q.1 hlt (fun hA => ?_))
      rcases hA with ⟨k2, e2, h2⟩ | h2
      · exact (List.nodup_append.mp d3).2.2 q.1 (List.mem_map.mpr ⟨_, List.mem_of_getElem? h2, rfl⟩) q.1 (List.mem_map.mpr ⟨q, h, rfl⟩) rfl
      · omega
  · have h := e.mem_iff.mp (List.mem_map.mpr ⟨q, hq, rfl⟩)
    obtain ⟨q0, h1, h2⟩ := List.mem_map.mp h
    rw [← h2]
    exact d2 q0 h1
section HKR4
variable {p : Program} {l : Launch} {e : Env} {R : Room} {s : State} {m : MethodId} {args : Array Value} {below : List Frame} {meth : Method} {c : Code} {A : Nat → Prop} {Q : State → Prop} {nL : Nat} {D : va_G} {cI cF : ClassId} {own : String} {cc : ByteArray} {cells slots : Nat} {ws : va_W} {pc : Nat} {lv : List (Nat × Value)} {st : List Value}
theorem hk_callVBi (hC : hk_ok p s m args meth c A nL D cI cF own cc) {y : MethodName} {b : ByteArray} {n np index : Nat} {ret : Option FieldType} {r0 : Int32} {rm : Room} {wc wr w1 ws2 : va_W} {as st0 : List Value} {bref ci N : Nat} {T : u_T} {fs : List Value} (hM : hk_Mi l y b n ret rm D cI cF wc (.ref bref :: as) r0 w1) (hL : hk_L y b n ret np) (hcl : classes[ci]? = some (y.cls, T, N)) (hrecv : (bref, .inr (ci, fs)) ∈ ws) (hl0 : Cond.methodLink own index y ∈ lw_gd) (hin : Cond.instanceMethod y ∈ lw_gd) (hse : Cond.selects y.cls y y ∈ lw_gd) (hnp : as.length = np) (hR : rm.frames + 1 ≤ R.frames ∧ 8 + (n + 11) + rm.locals ≤ R.locals) (hp : ws.Perm (wc ++ wr)) (hp2 : ws2.Perm (w1 ++ wr)) (hw1 : w1.map Prod.fst = wc.map Prod.fst) (hst : st0 = as.reverse ++ .ref bref :: st) (hcat : (st.map fun v => v.category).sum ≤ 8) (hcs : cells ≤ R.cells ∧ slots ≤ R.slots) (d : decode cc pc = .ok (.invokevirtual index, 3))
    (k : hk_W p l e R s m args below meth c A Q nL D cells slots ws2 (pc + 3) lv (.int r0 :: st)) : hk_W p l e R s m args below meth c A Q nL D cells slots ws pc lv st0 := by
  obtain ⟨q0, hq0⟩ := List.getElem?_of_mem hrecv
  intro H locs ls hP hD hS hl
  have hPc := pm_P hp hP
  have hDc := pm_D hp hD
  have hFc := hk_freeW hC hDc hS
  refine va_calli (va_runV (As := as) (rest := st) ⟨hC.1, hC.2.1, hC.2.2.1, hC.2.2.2.1, hC.2.2.2.2.1⟩ (hM.2.2 H.size) ⟨hk_B hC hL hM.1 hM.2.1 hl0 hR, hC.2.2.2.2.1 _ hin, hC.2.2.2.2.1 _ hse⟩ ⟨hk_blind, va_recv hC.2.2.2.2.2.1 hP hcl hq0, fun U hU hW => hk_pre hC hPc hDc U hU hW⟩ rfl hnp hl.1 hst (lv_room hcat) d ⟨hcs.1, hcs.2⟩) hS (fun q _ h => hFc q h) hFc (fun r u t H1 locs ht hvm hw hB hz1 hk1 hS => ?_)
  rw [ht] at hB
  have hw : r = r0 := hw
  subst hw
  obtain ⟨hP2, hD2⟩ := pm_join hp hp2 hw1 hP hD hk1 hB
  exact k H1 locs ls hP2 hD2 hS hl
theorem hk_callVBv (hC : hk_ok p s m args meth c A nL D cI cF own cc) {y : MethodName} {b : ByteArray} {n np index : Nat} {rm : Room} {wc wr w1 ws2 : va_W} {as st0 : List Value} {bref ci N : Nat} {T : u_T} {fs : List Value} (hM : hk_Mv l y b n rm D cI cF wc (.ref bref :: as) w1) (hL : hk_L y b n none np) (hcl : classes[ci]? = some (y.cls, T, N)) (hrecv : (bref, .inr (ci, fs)) ∈ ws) (hl0 : Cond.methodLink own index y ∈ lw_gd) (hin : Cond.instanceMethod y ∈ lw_gd) (hse : Cond.selects y.cls y y ∈ lw_gd) (hnp : as.length = np) (hR : rm.frames + 1 ≤ R.frames ∧ 8 + (n + 11) + rm.locals ≤ R.locals) (hp : ws.Perm (wc ++ wr)) (hp2 : ws2.Perm (w1 ++ wr)) (hw1 : w1.map Prod.fst = wc.map Prod.fst) (hst : st0 = as.reverse ++ .ref bref :: st) (hcat : (st.map fun v => v.category).sum ≤ 8) (hcs : cells ≤ R.cells ∧ slots ≤ R.slots) (d : decode cc pc = .ok (.invokevirtual index, 3))
    (k : hk_W p l e R s m args below meth c A Q nL D cells slots ws2 (pc + 3) lv (st)) : hk_W p l e R s m args below meth c A Q nL D cells slots ws pc lv st0 := by
  obtain ⟨q0, hq0⟩ := List.getElem?_of_mem hrecv
  intro H locs ls hP hD hS hl
  have hPc := pm_P hp hP
  have hDc := pm_D hp hD
  have hFc := hk_freeW hC hDc hS
  refine va_callv (va_runV (As := as) (rest := st) ⟨hC.1, hC.2.1, hC.2.2.1, hC.2.2.2.1, hC.2.2.2.2.1⟩ (hM.2.2 H.size) ⟨hk_B hC hL hM.1 hM.2.1 hl0 hR, hC.2.2.2.2.1 _ hin, hC.2.2.2.2.1 _ hse⟩ ⟨hk_blind, va_recv hC.2.2.2.2.2.1 hP hcl hq0, fun U hU hW => hk_pre hC hPc hDc U hU hW⟩ rfl hnp hl.1 hst (lv_room hcat) d ⟨hcs.1, hcs.2⟩) hS (fun q _ h => hFc q h) hFc (fun u t H1 locs ht hvm hw hB hz1 hk1 hS => ?_)
  rw [ht] at hB
  obtain ⟨hP2, hD2⟩ := pm_join hp hp2 hw1 hP hD hk1 hB
  exact k H1 locs ls hP2 hD2 hS hl
theorem hk_callVBq (hC : hk_ok p s m args meth c A nL D cI cF own cc) {y : MethodName} {b : ByteArray} {n np index : Nat} {ret : Option FieldType} {r0 : Option Nat} {rm : Room} {wc wr w1 ws2 : va_W} {as st0 : List Value} {bref ci N : Nat} {T : u_T} {fs : List Value} (hM : hk_Mq l y b n ret rm D cI cF wc (.ref bref :: as) r0 w1) (hL : hk_L y b n ret np) (hcl : classes[ci]? = some (y.cls, T, N)) (hrecv : (bref, .inr (ci, fs)) ∈ ws) (hl0 : Cond.methodLink own index y ∈ lw_gd) (hin : Cond.instanceMethod y ∈ lw_gd) (hse : Cond.selects y.cls y y ∈ lw_gd) (hnp : as.length = np) (hR : rm.frames + 1 ≤ R.frames ∧ 8 + (n + 11) + rm.locals ≤ R.locals) (hp : ws.Perm (wc ++ wr)) (hp2 : ws2.Perm (w1 ++ wr)) (hw1 : w1.map Prod.fst = wc.map Prod.fst) (hst : st0 = as.reverse ++ .ref bref :: st) (hcat : (st.map fun v => v.category).sum ≤ 8) (hcs : cells ≤ R.cells ∧ slots ≤ R.slots) (d : decode cc pc = .ok (.invokevirtual index, 3))
    (k : hk_W p l e R s m args below meth c A Q nL D cells slots ws2 (pc + 3) lv (va_rf r0 :: st)) : hk_W p l e R s m args below meth c A Q nL D cells slots ws pc lv st0 := by
  obtain ⟨q0, hq0⟩ := List.getElem?_of_mem hrecv
  intro H locs ls hP hD hS hl
  have hPc := pm_P hp hP
  have hDc := pm_D hp hD
  have hFc := hk_freeW hC hDc hS
  refine va_callq (va_runV (As := as) (rest := st) ⟨hC.1, hC.2.1, hC.2.2.1, hC.2.2.2.1, hC.2.2.2.2.1⟩ (hM.2.2 H.size) ⟨hk_B hC hL hM.1 hM.2.1 hl0 hR, hC.2.2.2.2.1 _ hin, hC.2.2.2.2.1 _ hse⟩ ⟨hk_blind, va_recv hC.2.2.2.2.2.1 hP hcl hq0, fun U hU hW => hk_pre hC hPc hDc U hU hW⟩ rfl hnp hl.1 hst (lv_room hcat) d ⟨hcs.1, hcs.2⟩) hS (fun q _ h => hFc q h) hFc (fun r u t H1 locs ht hvm hw hB hz1 hk1 hS => ?_)
  rw [ht] at hB
  have hw : r = r0 := hw
  subst hw
  obtain ⟨hP2, hD2⟩ := pm_join hp hp2 hw1 hP hD hk1 hB
  exact k H1 locs ls hP2 hD2 hS hl
theorem hk_alenq (hC : hk_ok p s m args meth c A nL D cI cF own cc) (q0 : Nat) {a n : Nat} {f : Nat → Option Nat} (ha : ws[q0]? = some (a, .inl (cF, n, .inr (.inr (.inr (.inr f)))))) (d : decode cc pc = .ok (.arraylength, 1))
    (k : hk_W p l e R s m args below meth c A Q nL D cells slots ws (pc + 1) lv (.int (nI n) :: st)) : hk_W p l e R s m args below meth c A Q nL D cells slots ws pc lv (.ref a :: st) :=
  fun H locs ls hP hD hS hl => va_alen hC.1 hC.2.1 hC.2.2.2.2.2.1 hP q0 1 ha rfl rfl d (k H locs ls hP hD hS hl)
theorem hk_aald (hC : hk_ok p s m args meth c A nL D cI cF own cc) (q0 : Nat) {a n : Nat} {f : Nat → Option Nat} (ha : ws[q0]? = some (a, .inl (cF, n, .inr (.inr (.inr (.inr f)))))) {i : Int32} (hin : vp_in i n) (d : decode cc pc = .ok (.aaload, 1))
    (k : hk_W p l e R s m args below meth c A Q nL D cells slots ws (pc + 1) lv (va_rf (f i.toNatClampNeg) :: st)) : hk_W p l e R s m args below meth c A Q nL D cells slots ws pc lv (.int i :: .ref a :: st) :=
  fun H locs ls hP hD hS hl => va_aldq hC.1 hC.2.1 hC.2.2.2.2.2.1 hP q0 1 (C := "HayTalk$Field") ha rfl hin d (k H locs ls hP hD hS hl)
theorem hk_null (hC : hk_ok p s m args meth c A nL D cI cF own cc) (d : decode cc pc = .ok (.aconst_null, 1))
    (k : hk_W p l e R s m args below meth c A Q nL D cells slots ws (pc + 1) lv (.null :: st)) : hk_W p l e R s m args below meth c A Q nL D cells slots ws pc lv st :=
  fun H locs ls hP hD hS hl => lv_null hC.1 hC.2.1 d (k H locs ls hP hD hS hl)
theorem hk_ifnullN (hC : hk_ok p s m args meth c A nL D cI cF own cc) {off : Int} {tgt : Nat} (d : decode cc pc = .ok (.ifnull off, 3)) (ht : (pc : Int) + off = (tgt : Int))
    (k : hk_W p l e R s m args below meth c A Q nL D cells slots ws tgt lv st) : hk_W p l e R s m args below meth c A Q nL D cells slots ws pc lv (.null :: st) :=
  fun H locs ls hP hD hS hl => lv_ifnullN hC.1 hC.2.1 d ht (k H locs ls hP hD hS hl)
theorem hk_ifnull (hC : hk_ok p s m args meth c A nL D cI cF own cc) {x : Nat} {off : Int} (d : decode cc pc = .ok (.ifnull off, 3))
    (k : hk_W p l e R s m args below meth c A Q nL D cells slots ws (pc + 3) lv st) : hk_W p l e R s m args below meth c A Q nL D cells slots ws pc lv (.ref x :: st) :=
  fun H locs ls hP hD hS hl => lv_ifnull hC.1 hC.2.1 d (k H locs ls hP hD hS hl)
theorem hk_aload_nN (hC : hk_ok p s m args meth c A nL D cI cF own cc) {k0 : Fin 4} (d : decode cc pc = .ok (.aload_n k0, 1)) (j : Nat) (hj : lv[j]? = some ((k0 : Nat), .null))
    (k : hk_W p l e R s m args below meth c A Q nL D cells slots ws (pc + 1) lv (.null :: st)) : hk_W p l e R s m args below meth c A Q nL D cells slots ws pc lv st :=
  fun H locs ls hP hD hS hl => lv_aload_nN hC.1 hC.2.1 d rfl (lv_at hl j hj) (k H locs ls hP hD hS hl)
theorem hk_astore_nN (hC : hk_ok p s m args meth c A nL D cI cF own cc) {k0 : Fin 4} {i : Nat} {lv2 : List (Nat × Value)} (d : decode cc pc = .ok (.astore_n k0, 1)) (hi : (k0 : Nat) = i) (hn : i < nL) (hl2 : (i, Value.null) :: lv.filter (fun q => !(q.1 == i) && !(q.1 + 1 == i && q.2.category == 2)) = lv2)
    (k : hk_W p l e R s m args below meth c A Q nL D cells slots ws (pc + 1) lv2 st) : hk_W p l e R s m args below meth c A Q nL D cells slots ws pc lv (.null :: st) :=
  fun H locs ls hP hD hS hl => lv_astore_nN hC.1 hC.2.1 d hi hl hn hl2 (fun ls' hl' => k H locs ls' hP hD hS hl')
theorem hk_aret (hC : hk_ok p s m args meth c A nL D cI cF own cc) {r : Value} {r0 : Option Nat} {w1 : va_W} {C : String} (hr : meth.sig.returnType = some (.object C)) (d : decode cc pc = .ok (.areturn, 1)) (h1 : r = va_rf r0) (h2 : ws = w1) : hk_W p l e R s m args below meth c A (hk_Zq below args s D A r0 w1) nL D 0 0 ws pc lv [r] := by
  subst h1
  subst h2
  exact fun H locs ls hP hD hS hl => W.aret hC.1 hC.2.1 hr (Or.inl ⟨_, rfl⟩) (by cases r0 with | none => exact Or.inl rfl | some a => exact Or.inr ⟨a, rfl⟩) (fun t ht hW => ⟨⟨r0, (), rfl, rfl, (by show va_P D classes ws t.heap; rw [ht]; exact hP)⟩, hS.F ht⟩) hS.2.2 d hC.2.2.2.2.2.2.1
end HKR4
/-! a pile's fields: one of them, and the rest -/
def xg {β : Type} (P : Prop) [Decidable P] (B : Option β) : Option β := if P then B else none
theorem xg_in {β : Type} {P : Prop} {_ : Decidable P} {B : Option β} {o : β} (h : xg P B = some o) : P := by
  unfold xg at h
  split at h
  · assumption
  · cases h
theorem xg_go {β : Type} {P : Prop} {_ : Decidable P} {B : Option β} {o : β} (h : xg P B = some o) : B = some o := by
  unfold xg at h
  split at h
  · exact h
  · cases h
def xc {β : Type} (q : Option Nat) (B0 : Option β) (B1 : Nat → Option β) : Option β := match q with
  | none => B0
  | some i => B1 i
def wPr (cI cF : ClassId) (n : Nat) (a : Nat → Nat) (newest size : Int32) (v : Nat → jFV) (i : Nat) : va_W := wPh cF n a newest size ++ ((wPb cI n a v).eraseIdx i).flatten
theorem wPb_set {cI : ClassId} {n : Nat} {a : Nat → Nat} {v : Nat → jFV} {i : Nat} (hi : i < n) (x : jFV) : wPb cI n a (va_up v i x) = (wPb cI n a v).set i (wFv cI (fun j => a (2 + 9 * i + j)) x) := by
  apply List.ext_getElem?
  intro k
  unfold wPb
  rw [List.getElem?_set]
  by_cases hk : i = k
  · subst hk
    simp [hi, va_up]
  · by_cases hkn : k < n
    · simp [hkn, va_up, hk, Ne.symm hk]
    · simp [Nat.not_lt.mp hkn, hk]
theorem pm_erase {α : Type} : ∀ (l : List α) (i : Nat) (h : i < l.length), l.Perm (l[i] :: l.eraseIdx i)
  | _ :: _, 0, _ => List.Perm.refl _
  | a :: l, i + 1, h => ((pm_erase l i (Nat.lt_of_succ_lt_succ h)).cons a).trans (List.Perm.swap _ _ _)
theorem pile_perm {cI cF : ClassId} {n : Nat} {a : Nat → Nat} {newest size : Int32} {v : Nat → jFV} {i : Nat} (hi : i < n) (x : jFV) : (wP cI cF n a newest size (va_up v i x)).Perm (wFv cI (fun j => a (2 + 9 * i + j)) x ++ wPr cI cF n a newest size v i) := by
  have hl : i < (wPb cI n a (va_up v i x)).length := by simp [wPb, hi]
  have h1 := (pm_erase _ i hl).symm
  have h2 : (wPb cI n a (va_up v i x))[i] = wFv cI (fun j => a (2 + 9 * i + j)) x := by simp [wPb, va_up]
  have h3 : (wPb cI n a (va_up v i x)).eraseIdx i = (wPb cI n a v).eraseIdx i := by rw [wPb_set hi, List.eraseIdx_set_eq]
  rw [h2, h3] at h1
  have h4 := h1.symm.flatten
  rw [List.flatten_cons] at h4
  show (wPh cF n a newest size ++ (wPb cI n a (va_up v i x)).flatten).Perm _
  refine (h4.append_left _).trans ?_
  unfold wPr
  rw [← List.append_assoc, ← List.append_assoc]
  exact (List.perm_append_comm).append_right _
theorem va_up_id {α : Type} (v : Nat → α) (i : Nat) : va_up v i (v i) = v := by
  funext j
  unfold va_up
  split
  · rename_i h; rw [h]
  · rfl
theorem pile_pushP {cI cF : ClassId} {n : Nat} {a : Nat → Nat} {newest size : Int32} {v : Nat → jFV} {i : Nat} (hi : i < n) (x : jFV) (wo : va_W) : (wP cI cF n a newest size (va_up v i x) ++ wo).Perm ((wFv cI (fun j => a (2 + 9 * i + j)) x ++ wo) ++ wPr cI cF n a newest size v i) := by
  refine ((pile_perm hi x).append_right wo).trans ?_
  rw [List.append_assoc, List.append_assoc]
  exact (List.perm_append_comm).append_left _
theorem pile_popP {cI cF : ClassId} {n : Nat} {a : Nat → Nat} {newest size : Int32} {v : Nat → jFV} {i : Nat} (hi : i < n) (wo : va_W) : (wP cI cF n a newest size v ++ wo).Perm ((wo ++ wFv cI (fun j => a (2 + 9 * i + j)) (v i)) ++ wPr cI cF n a newest size v i) := by
  have h := pile_pushP (cI := cI) (cF := cF) (a := a) (newest := newest) (size := size) (v := v) hi (v i) wo
  rw [va_up_id] at h
  exact h.trans ((List.perm_append_comm).append_right _)
