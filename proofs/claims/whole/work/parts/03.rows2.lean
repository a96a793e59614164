section HKR2
variable {p : Program} {l : Launch} {e : Env} {R : Room} {s : State} {m : MethodId} {args : Array Value} {below : List Frame} {meth : Method} {c : Code} {A : Nat → Prop} {Q : State → Prop} {nL : Nat} {D : va_G} {cI cF : ClassId} {own : String} {cc : ByteArray} {cells slots : Nat} {ws : va_W} {pc : Nat} {lv : List (Nat × Value)} {st : List Value}
theorem hk_topi {x y : Int32} (h : y = x) (k : hk_W p l e R s m args below meth c A Q nL D cells slots ws pc lv (.int y :: st)) : hk_W p l e R s m args below meth c A Q nL D cells slots ws pc lv (.int x :: st) := by
  subst h
  exact k
theorem jm_max1 : Cond.static Lib.Math.max.name ∈ lw_gd := lw_in 87 (by decide +kernel) rfl
theorem jm_max2 : Cond.initialized "java/lang/Math" ∈ lw_gd := lw_in 5 (by decide +kernel) rfl
theorem jm_max3 : Cond.code Lib.Math.max.name Lib.Math.max.code 2 (some .int) ∈ lw_gd := lw_in 88 (by decide +kernel) rfl
theorem jm_min1 : Cond.static Lib.Math.min.name ∈ lw_gd := lw_in 423 (by decide +kernel) rfl
theorem jm_min3 : Cond.code Lib.Math.min.name Lib.Math.min.code 2 (some .int) ∈ lw_gd := lw_in 424 (by decide +kernel) rfl
theorem hk_mmax (hC : hk_ok p s m args meth c A nL D cI cF own cc) {index : Nat} {x y v : Int32} (hl0 : Cond.methodLink own index Lib.Math.max.name ∈ lw_gd) (hR : 1 ≤ R.frames ∧ (st.map fun v => v.category).sum + 13 ≤ R.locals ∧ cells ≤ R.cells ∧ slots ≤ R.slots) (hv : v = (if x < y then y else x)) (d : decode cc pc = .ok (.invokestatic index, 3))
    (k : hk_W p l e R s m args below meth c A Q nL D cells slots ws (pc + 3) lv (.int v :: st)) : hk_W p l e R s m args below meth c A Q nL D cells slots ws pc lv (.int y :: .int x :: st) := by
  subst hv
  exact fun H locs ls hP hD hS hl => va_mmax hC.1 hC.2.1 (hC.2.2.1.trans hl.1.symm) hC.2.2.2.1 (hC.2.2.2.2.1 _ hl0) (hC.2.2.2.2.1 _ jm_max1) (hC.2.2.2.2.1 _ jm_max2) (hC.2.2.2.2.1 _ jm_max3) hR.1 hR.2.1 hR.2.2.1 hR.2.2.2 d (k H locs ls hP hD hS hl)
theorem hk_mmin (hC : hk_ok p s m args meth c A nL D cI cF own cc) {index : Nat} {x y v : Int32} (hl0 : Cond.methodLink own index Lib.Math.min.name ∈ lw_gd) (hR : 1 ≤ R.frames ∧ (st.map fun v => v.category).sum + 13 ≤ R.locals ∧ cells ≤ R.cells ∧ slots ≤ R.slots) (hv : v = (if y < x then y else x)) (d : decode cc pc = .ok (.invokestatic index, 3))
    (k : hk_W p l e R s m args below meth c A Q nL D cells slots ws (pc + 3) lv (.int v :: st)) : hk_W p l e R s m args below meth c A Q nL D cells slots ws pc lv (.int y :: .int x :: st) := by
  subst hv
  exact fun H locs ls hP hD hS hl => va_mmin hC.1 hC.2.1 (hC.2.2.1.trans hl.1.symm) hC.2.2.2.1 (hC.2.2.2.2.1 _ hl0) (hC.2.2.2.2.1 _ jm_min1) (hC.2.2.2.2.1 _ jm_max2) (hC.2.2.2.2.1 _ jm_min3) hR.1 hR.2.1 hR.2.2.1 hR.2.2.2 d (k H locs ls hP hD hS hl)
end HKR2
