/-! the start: what the first text lays -/
def ji_L (m : Nat) : Nat := [3, 4, 1, 4].getD m 0
def ji_S (m j : Nat) : Nat := ([[3, 1, 4], [2, 7, 1, 8], [5], [9, 9, 0, 2]].getD m []).getD j 0
def ji_W (j : Nat) : Nat := [0, 1, 2, 0].getD j 0
def ji_T (k : Nat) : Nat := [2, 0, 5].getD k 0
def ji_E : Option ((Nat → Int32) × Int32 × Int32 × Int32 × Int32 × Int32 × (Nat → Int32) × (Nat → Int32) × (Nat → Int32) × (Nat → Int32) × (Nat → Int32) × Int32 × Int32 × Int32 × Int32 × (Nat → Int32) × (Nat → Int32) × (Nat → Int32) × (Nat → Int32) × (Nat → Int32) × (Nat → Int32) × Int32 × Int32 × Int32 × (Nat → Int32)) := jf_M_init 4000 (fun _ => 0) 0 0 0 0 0 (fun _ => 0) (fun _ => 0) (fun _ => 0) (fun _ => 0) (fun _ => 0) 0 0 0 0 (fun _ => 0) (fun _ => 0) (fun _ => 0) (fun _ => 0) (fun _ => 0) (fun _ => 0) 0 0 0 (fun _ => 0)
theorem ji_H0 : (jf_H_init 4000 jtx).map (fun o => (o.1, o.2.2.2.2.2.2.1, o.2.2.2.2.2.2.2.1, o.2.2.2.2.2.2.2.2.1, o.2.2.2.2.2.2.2.2.2)) = some (-4, 4, 4, 4, 3) := by decide +kernel
theorem ji_H1 : ∀ m, m < 4 → (jf_H_init 4000 jtx).map (fun o => o.2.2.1 m) = some (nI (ji_L m)) ∧ 1 ≤ ji_L m ∧ ji_L m ≤ 9 := by decide +kernel
theorem ji_H2 : ∀ m, m < 4 → ∀ j, j < ji_L m → (jf_H_init 4000 jtx).map (fun o => o.2.1 (9 * m + j)) = some (nI (ji_S m j)) ∧ ji_S m j ≤ 9 := by decide +kernel
theorem ji_H3 : ∀ j, j < 4 → (jf_H_init 4000 jtx).map (fun o => o.2.2.2.1 j) = some (nI (ji_W j)) ∧ ji_W j ≤ 3 := by decide +kernel
theorem ji_H4 : ∀ j, j < 4 → (jf_H_init 4000 jtx).map (fun o => o.2.2.2.2.1 j) = some (nI j) := by decide +kernel
theorem ji_H5 : ∀ j, j < 3 → (jf_H_init 4000 jtx).map (fun o => o.2.2.2.2.2.1 j) = some (nI (ji_T j)) ∧ ji_T j ≤ 9 := by decide +kernel
theorem ji_M0 : ji_E.map (fun o => (o.2.1, o.2.2.1, o.2.2.2.1, o.2.2.2.2.1)) = some (0, 4, 4, 3) := by decide +kernel
theorem ji_M7 : ji_E.map (fun o => (o.2.2.2.2.2.1, o.2.2.2.2.2.2.2.2.2.2.2.2.2.2.2.2.2.2.2.2.2.1, o.2.2.2.2.2.2.2.2.2.2.2.2.2.2.2.2.2.2.2.2.2.2.1, o.2.2.2.2.2.2.2.2.2.2.2.2.2.2.2.2.2.2.2.2.2.2.2.1)) = some (4, 0, 0, 0) := by decide +kernel
theorem ji_M1 : ∀ m, m < 4 → ji_E.map (fun o => o.2.2.2.2.2.2.1 m) = some (nI (ji_L m)) := by decide +kernel
theorem ji_M2 : ∀ m, m < 4 → ∀ j, j < ji_L m → ji_E.map (fun o => o.2.2.2.2.2.2.2.1 (9 * m + j)) = some (nI (ji_S m j)) := by decide +kernel
theorem ji_M3 : ∀ j, j < 4 → ji_E.map (fun o => o.2.2.2.2.2.2.2.2.1 j) = some (nI (ji_W j)) := by decide +kernel
theorem ji_M4 : ∀ j, j < 4 → ji_E.map (fun o => o.2.2.2.2.2.2.2.2.2.1 j) = some (nI j) := by decide +kernel
theorem ji_M5 : ∀ j, j < 3 → ji_E.map (fun o => o.2.2.2.2.2.2.2.2.2.2.1 j) = some (nI (ji_T j)) := by decide +kernel
theorem ji_M6 : ∀ j, j < 93 → ji_E.map (fun o => o.2.2.2.2.2.2.2.2.2.2.2.2.2.2.2.2.2.2.2.2.1 j) = some 0 := by decide +kernel
theorem ji_of {α β : Type} {E : Option α} {o : α} {f : α → β} {v : β} (e : E = some o) (h : E.map f = some v) : f o = v := by
  rw [e] at h
  exact Option.some.inj h
theorem ji_some {α β : Type} {E : Option α} {f : α → β} {v : β} (h : E.map f = some v) : ∃ o, E = some o := by
  cases E with
  | none => exact absurd h (by intro z; cases z)
  | some o => exact ⟨o, rfl⟩
theorem ji_start : ∃ (o1 : Int32 × jLV) (o2 : (Nat → Int32) × Int32 × Int32 × Int32 × Int32 × Int32 × (Nat → Int32) × (Nat → Int32) × (Nat → Int32) × (Nat → Int32) × (Nat → Int32) × Int32 × Int32 × Int32 × Int32 × (Nat → Int32) × (Nat → Int32) × (Nat → Int32) × (Nat → Int32) × (Nat → Int32) × (Nat → Int32) × Int32 × Int32 × Int32 × (Nat → Int32)), jf_H_init 4000 jtx = some o1 ∧ jf_M_init 4000 (fun _ => 0) 0 0 0 0 0 (fun _ => 0) (fun _ => 0) (fun _ => 0) (fun _ => 0) (fun _ => 0) 0 0 0 0 (fun _ => 0) (fun _ => 0) (fun _ => 0) (fun _ => 0) (fun _ => 0) (fun _ => 0) 0 0 0 (fun _ => 0) = some o2 ∧ jRel (jx0 o1) (jy0 o2) := by
  obtain ⟨o1, e1⟩ := ji_some ji_H0
  obtain ⟨o2, e2⟩ := ji_some ji_M0
  have h0 := ji_of e1 ji_H0
  have m0 := ji_of e2 ji_M0
  have m1 := ji_of e2 ji_M7
  have e3 := e2
  unfold ji_E at e3
  have h01 : o1.2.2.2.2.2.2.1 = nI 4 := congrArg (fun q => q.2.1) h0
  have h02 : o1.2.2.2.2.2.2.2.1 = nI 4 := congrArg (fun q => q.2.2.1) h0
  have h03 : o1.2.2.2.2.2.2.2.2.1 = nI 4 := congrArg (fun q => q.2.2.2.1) h0
  have h04 : o1.2.2.2.2.2.2.2.2.2 = nI 3 := congrArg (fun q => q.2.2.2.2) h0
  have m01 : o2.2.1 = nI 0 := congrArg (fun q => q.1) m0
  have m02 : o2.2.2.1 = nI 4 := congrArg (fun q => q.2.1) m0
  have m03 : o2.2.2.2.1 = nI 4 := congrArg (fun q => q.2.2.1) m0
  have m04 : o2.2.2.2.2.1 = nI 3 := congrArg (fun q => q.2.2.2) m0
  have m05 : o2.2.2.2.2.2.1 = nI 4 := congrArg (fun q => q.1) m1
  have m06 : o2.2.2.2.2.2.2.2.2.2.2.2.2.2.2.2.2.2.2.2.2.2.1 = nI 0 := congrArg (fun q => q.2.1) m1
  have m07 : o2.2.2.2.2.2.2.2.2.2.2.2.2.2.2.2.2.2.2.2.2.2.2.1 = nI 0 := congrArg (fun q => q.2.2.1) m1
  have m08 : o2.2.2.2.2.2.2.2.2.2.2.2.2.2.2.2.2.2.2.2.2.2.2.2.1 = nI 0 := congrArg (fun q => q.2.2.2) m1
  have hst : ∀ j, j < 93 → o2.2.2.2.2.2.2.2.2.2.2.2.2.2.2.2.2.2.2.2.2.1 j = 0 := by
    intro j hj
    have a := ji_M6 j hj
    rw [e2] at a
    exact Option.some.inj a
  have k1 : ∀ m, m < 4 → o1.2.2.1 m = nI (ji_L m) := by
    intro m hm
    have a := (ji_H1 m hm).1
    rw [e1] at a
    exact Option.some.inj a
  have k2 : ∀ m, m < 4 → ∀ j, j < ji_L m → o1.2.1 (9 * m + j) = nI (ji_S m j) := by
    intro m hm j hj
    have a := (ji_H2 m hm j hj).1
    rw [e1] at a
    exact Option.some.inj a
  have k3 : ∀ j, j < 4 → o1.2.2.2.1 j = nI (ji_W j) := by
    intro j hj
    have a := (ji_H3 j hj).1
    rw [e1] at a
    exact Option.some.inj a
  have k4 : ∀ j, j < 4 → o1.2.2.2.2.1 j = nI j := by
    intro j hj
    have a := ji_H4 j hj
    rw [e1] at a
    exact Option.some.inj a
  have k5 : ∀ j, j < 3 → o1.2.2.2.2.2.1 j = nI (ji_T j) := by
    intro j hj
    have a := (ji_H5 j hj).1
    rw [e1] at a
    exact Option.some.inj a
  have l1 : ∀ m, m < 4 → o2.2.2.2.2.2.2.1 m = nI (ji_L m) := by
    intro m hm
    have a := ji_M1 m hm
    rw [e2] at a
    exact Option.some.inj a
  have l2 : ∀ m, m < 4 → ∀ j, j < ji_L m → o2.2.2.2.2.2.2.2.1 (9 * m + j) = nI (ji_S m j) := by
    intro m hm j hj
    have a := ji_M2 m hm j hj
    rw [e2] at a
    exact Option.some.inj a
  have l3 : ∀ j, j < 4 → o2.2.2.2.2.2.2.2.2.1 j = nI (ji_W j) := by
    intro j hj
    have a := ji_M3 j hj
    rw [e2] at a
    exact Option.some.inj a
  have l4 : ∀ j, j < 4 → o2.2.2.2.2.2.2.2.2.2.1 j = nI j := by
    intro j hj
    have a := ji_M4 j hj
    rw [e2] at a
    exact Option.some.inj a
  have l5 : ∀ j, j < 3 → o2.2.2.2.2.2.2.2.2.2.2.1 j = nI (ji_T j) := by
    intro j hj
    have a := ji_M5 j hj
    rw [e2] at a
    exact Option.some.inj a
  have hfld : RField 999 4 3 jFV0 (o2.2.2.2.2.2.2.2.2.2.2.2.2.2.2.2.2.2.2.2.2.1) := RField_zero (fun _ _ => rfl) (fun _ _ => rfl) (fun _ _ => rfl) (fun _ _ => rfl) (fun _ _ => rfl) rfl hst
  refine ⟨o1, o2, e1, e3, 4, 4, 3, ⟨⟨by decide, by decide, by decide, by decide, by decide, by decide⟩, ⟨h02, m02⟩, ⟨h03, m03⟩, ⟨h04, m04⟩, fun m hm => ?_, Or.inr ⟨4, by decide, by decide, h01, m05, fun j hj => ?_⟩, fun j hj => ?_, fun j hj => ?_⟩, hfld, ⟨0, by decide, rfl, m01, fun j hj => by omega⟩, ⟨0, by decide, rfl, m07, fun j hj => by omega⟩, ⟨0, 0, by decide, by decide, rfl, rfl, m06, fun j hj => by omega⟩, ⟨0, 0, by decide, by decide, rfl, rfl, m08, fun j hj => by omega⟩⟩
  · obtain ⟨a1, a2, a3⟩ := ji_H1 m hm
    refine ⟨ji_L m, a2, a3, k1 m hm, l1 m hm, fun j hj => ?_⟩
    obtain ⟨b1, b2⟩ := ji_H2 m hm j hj
    exact ⟨ji_S m j, b2, k2 m hm j hj, l2 m hm j hj⟩
  · obtain ⟨a1, a2⟩ := ji_H3 j hj
    exact ⟨ji_W j, a2, k3 j hj, l3 j hj⟩
  · exact ⟨j, by omega, k4 j hj, l4 j hj⟩
  · obtain ⟨a1, a2⟩ := ji_H5 j hj
    exact ⟨ji_T j, a2, k5 j hj, l5 j hj⟩
theorem ji_steps : jSteps 4000 jRel := by
  intro op hop x y v h
  rcases (show op = 0 ∨ op = 1 ∨ op = 2 ∨ op = 3 ∨ op = 4 ∨ op = 5 ∨ op = 6 ∨ op = 7 ∨ op = 8 ∨ op = 9 ∨ op = 10 ∨ op = 11 ∨ op = 12 ∨ op = 13 ∨ op = 14 ∨ op = 15 ∨ op = 16 ∨ op = 17 ∨ op = 18 ∨ op = 19 ∨ op = 20 ∨ op = 21 ∨ op = 22 ∨ op = 23 ∨ op = 24 ∨ op = 25 ∨ op = 26 ∨ op = 27 ∨ op = 28 ∨ op = 29 by omega) with rfl | rfl | rfl | rfl | rfl | rfl | rfl | rfl | rfl | rfl | rfl | rfl | rfl | rfl | rfl | rfl | rfl | rfl | rfl | rfl | rfl | rfl | rfl | rfl | rfl | rfl | rfl | rfl | rfl | rfl
  · exact jop_0 x y v h
  · exact jop_1 x y v h
  · exact jop_2 x y v h
  · exact jop_3 x y v h
  · exact jop_4 x y v h
  · exact jop_5 x y v h
  · exact jop_6 x y v h
  · exact jop_7 x y v h
  · exact jop_8 x y v h
  · exact jop_9 x y v h
  · exact jop_10 x y v h
  · exact jop_11 x y v h
  · exact jop_12 x y v h
  · exact jop_13 x y v h
  · exact jop_14 x y v h
  · exact jop_15 x y v h
  · exact jop_16 x y v h
  · exact jop_17 x y v h
  · exact jop_18 x y v h
  · exact jop_19 x y v h
  · exact jop_20 x y v h
  · exact jop_21 x y v h
  · exact jop_22 x y v h
  · exact jop_23 x y v h
  · exact jop_24 x y v h
  · exact jop_25 x y v h
  · exact jop_26 x y v h
  · exact jop_27 x y v h
  · exact jop_28 x y v h
  · exact jop_29 x y v h
