theorem jq_16 : Jvm.Cond.classLink "HayTalkLaw" (7 : Nat) "HayTalk" ∈ lw_gd := lw_in 16 (by decide +kernel) rfl
theorem jq_17 : Jvm.Cond.instantiable "HayTalk" (8 : Nat) ∈ lw_gd := lw_in 17 (by decide +kernel) rfl
theorem jq_18 : Jvm.Cond.methodLink "HayTalkLaw" (9 : Nat) ({ cls := "HayTalk", name := "<init>", desc := "()V" } : Jvm.MethodName) ∈ lw_gd := lw_in 18 (by decide +kernel) rfl
theorem jq_19 : Jvm.Cond.instanceMethod ({ cls := "HayTalk", name := "<init>", desc := "()V" } : Jvm.MethodName) ∈ lw_gd := lw_in 19 (by decide +kernel) rfl
theorem jq_646 : Jvm.Cond.classLink "HayTalkLaw" (10 : Nat) "HayTalkModel" ∈ lw_gd := lw_in 646 (by decide +kernel) rfl
theorem jq_647 : Jvm.Cond.instantiable "HayTalkModel" (29 : Nat) ∈ lw_gd := lw_in 647 (by decide +kernel) rfl
theorem jq_648 : Jvm.Cond.methodLink "HayTalkLaw" (12 : Nat) ({ cls := "HayTalkModel", name := "<init>", desc := "()V" } : Jvm.MethodName) ∈ lw_gd := lw_in 648 (by decide +kernel) rfl
theorem jq_649 : Jvm.Cond.instanceMethod ({ cls := "HayTalkModel", name := "<init>", desc := "()V" } : Jvm.MethodName) ∈ lw_gd := lw_in 649 (by decide +kernel) rfl
/-! THE CLAIM OUT OF ONE WALK OF THE LAW'S BODY. Your part is whole_start (and what it stands on); all else here is the same for every law, but numbers. -/
def R_law : String := "HayTalkLaw"
def lw_P (b : Addr) (xs : List Int32) (args : Array Value) (s : State) : Prop := args = #[.ref b] ∧ s.IntsAt b xs ∧ xs.length ≤ 3072 ∧ (Jvm.Cond.and given_1 narrow_1).before args s = true
def lw_Q (_ : Array Value) (s : State) (o : Outcome) (t : State) : Prop := o = .returned (some (.int 1)) ∧ Framed s o t [] 600000 7302250
def lw_Z (below : List Frame) (a : Array Value) (s : State) : State → Prop := fun t => ∃ o, t.status = .running ∧ Ended t below o ∧ lw_Q a s o t
/-- the law's own end, with 1 on the stack, nothing written that was there before, its room as the claim has it -/
theorem lw_ret {p : Program} {l : Launch} {e : Env} {s : State} {m : MethodId} {below : List Frame} {meth : Method} {c : Code} {b : Nat} (hx : p.tables.exec = Jvm.exec) (hb : c.code = code) (hr : meth.sig.returnType = ret) (hlocks : meth.locks = false) {pc : Nat} {H : Heap} {ls : Array Slot} (hdg : decode code pc = .ok (.ireturn, 1)) : W p l e room_1 s m #[Value.ref b] below meth c H [] 600000 7302250 (lw_Z below #[Value.ref b] s) (F0 m pc ls [.int 1]) := by
  intro T hT X
  obtain ⟨fs, hret, hrun, hended, hW, hframe⟩ := X.leave (v := some (.int 1)) (hlocks := hlocks) (fun h => by rw [hr] at h; cases h)
  have hmeth' : T.vm.method? m = some meth := X.method'
  refine ⟨T.setFrames fs, ?_, .returned (some (.int 1)), hrun, hended, rfl, ⟨_, rfl⟩, hW, hframe⟩
  jvm_step X.here [X.here.top, hx, hb, hdg, hmeth', hr, ret, narrow_b1]
  (try refine ⟨rfl, ?_⟩); (try refine ⟨rfl, ?_⟩)
  first | (intro acts; rw [hret _ acts rfl rfl rfl]) | rw [hret _ _ rfl rfl rfl]
  exact Steps.refl _
/-- what holds at the law's entry: the machine, the code, the tables' words (any of lw_tbl by 'hts w (by decide +kernel)'), the script of L ints xs at the cell b, what the Statement gives of the start (any of its parts by flat_of_before) -/
def lw_At (p : Program) (s : State) (m : MethodId) (meth : Method) (c : Code) (b L : Nat) (xs : Nat → Int32) : Prop :=
  p.tables.exec = Jvm.exec ∧ c.code = code ∧ meth.sig.returnType = ret ∧ c.maxLocals = 4 ∧ s.vm.findClass R_law = some m.cls ∧ (∀ w ∈ lw_tbl, w.before #[Value.ref b] s = true) ∧ va_X b L xs s s.heap ∧ b < s.heap.size ∧ meth.locks = false ∧ (Jvm.Cond.and given_1 narrow_1).before #[Value.ref b] s = true
def jbyt : List (List Int32) := [[109, 51, 49, 52, 59, 109, 50, 55, 49, 56, 59, 109, 53, 59, 109, 57, 57, 48, 50, 59, 101, 48, 49, 50, 48, 59, 99, 48, 59, 99, 49, 59, 99, 50, 59, 99, 51, 59, 107, 50, 59, 107, 48, 59, 107, 53, 59]]
def jtx : Nat → Int32 := fun j => (jbyt.getD 0 []).getD j 0
def jx0 (o1 : Int32 × jLV) : jX := (fun _ => 0, 0, jFV0, jFV0, fun _ => 0, fun _ => 0, 0, o1.2, jLV0, 0, 0, fun _ => jFV0, 0, 0, fun _ => jFV0)
def jy0 (o2 : (Nat → Int32) × Int32 × Int32 × Int32 × Int32 × Int32 × (Nat → Int32) × (Nat → Int32) × (Nat → Int32) × (Nat → Int32) × (Nat → Int32) × Int32 × Int32 × Int32 × Int32 × (Nat → Int32) × (Nat → Int32) × (Nat → Int32) × (Nat → Int32) × (Nat → Int32) × (Nat → Int32) × Int32 × Int32 × Int32 × (Nat → Int32)) : jM := (o2.1, o2.2.1, o2.2.2.1, o2.2.2.2.1, o2.2.2.2.2.1, o2.2.2.2.2.2.1, o2.2.2.2.2.2.2.1, o2.2.2.2.2.2.2.2.1, o2.2.2.2.2.2.2.2.2.1, o2.2.2.2.2.2.2.2.2.2.1, o2.2.2.2.2.2.2.2.2.2.2.1, o2.2.2.2.2.2.2.2.2.2.2.2.1, o2.2.2.2.2.2.2.2.2.2.2.2.2.1, o2.2.2.2.2.2.2.2.2.2.2.2.2.2.1, o2.2.2.2.2.2.2.2.2.2.2.2.2.2.2.1, o2.2.2.2.2.2.2.2.2.2.2.2.2.2.2.2.1, o2.2.2.2.2.2.2.2.2.2.2.2.2.2.2.2.2.1, o2.2.2.2.2.2.2.2.2.2.2.2.2.2.2.2.2.2.1, o2.2.2.2.2.2.2.2.2.2.2.2.2.2.2.2.2.2.2.1, o2.2.2.2.2.2.2.2.2.2.2.2.2.2.2.2.2.2.2.2.1, o2.2.2.2.2.2.2.2.2.2.2.2.2.2.2.2.2.2.2.2.2.1, o2.2.2.2.2.2.2.2.2.2.2.2.2.2.2.2.2.2.2.2.2.2.1, fun _ => 0, fun _ => 0, o2.2.2.2.2.2.2.2.2.2.2.2.2.2.2.2.2.2.2.2.2.2.2.1, fun _ => 0, fun _ => 0, o2.2.2.2.2.2.2.2.2.2.2.2.2.2.2.2.2.2.2.2.2.2.2.2.1, fun _ => 0)
theorem app10 (b0 b1 b2 b3 b4 b5 b6 b7 b8 b9 : va_W) : (b0 ++ (b1 ++ (b2 ++ (b3 ++ (b4 ++ (b5 ++ (b6 ++ (b7 ++ b8)))))))) ++ b9 = b0 ++ (b1 ++ (b2 ++ (b3 ++ (b4 ++ (b5 ++ (b6 ++ (b7 ++ (b8 ++ b9)))))))) := by
  simp only [List.append_assoc]
theorem jn_go {i L : Nat} (hi : i ≤ L) (hL : L ≤ 3072) (h : ¬ nI L - nI 6 < nI i) : i + 6 ≤ L := by
  have h1 : (nI L - nI 6).toInt = (L : Int) - 6 := pk_sub_toInt (by omega) (by omega)
  have h2 : (nI i).toInt = (i : Int) := nI_toInt (by omega)
  rw [Int32.lt_iff_toInt_lt, h1, h2] at h
  omega
set_option maxHeartbeats 16000000 in
set_option maxRecDepth 100000 in
theorem law_loop {p : Program} {l : Launch} {e : Env} {s : State} {m : MethodId} {below : List Frame} {meth : Method} {c : Code} {D : va_G} {cI cF : ClassId} {b L : Nat} {xs : Nat → Int32} (hL : L ≤ 3072) (C0 : lw_At p s m meth c b L xs) (hC : hk_ok p s m #[Value.ref b] meth c (fun q => s.heap.size ≤ q) 4 D cI cF "HayTalkLaw" code) {N : Nat} {Rel : jX → jM → Prop} (hs : jSteps N Rel) (a : Nat → Nat) :
    ∀ (n i : Nat) (u : Nat → Nat → Nat) (x : jX) (y : jM), i ≤ L → L < i + 6 * n → Rel x y → hk_W p l e room_1 s m #[Value.ref b] below meth c (fun q => s.heap.size ≤ q) (lw_Z below #[Value.ref b] s) 4 D 151 3341 (wX cI cF u a x y) 18 [(0, .ref b), (1, .ref (u 0 0)), (2, .ref (a 0)), (3, .int (nI i))] [] := by
  obtain ⟨hx, hb, hr, hml, hown, hts, hX, hbl, hlocks, hgv⟩ := C0
  have hbA : ¬ (fun q : Nat => s.heap.size ≤ q) b := Nat.not_le.mpr hbl
  intro n
  induction n with
  | zero => intro i u x y hi hn; exact absurd hn (by omega)
  | succ n ih =>
    intro i u x y hi hn hrel
    refine hk_iload_n hC jd_law_18 3 rfl ?_
    refine hk_aload_n hC jd_law_19 0 rfl ?_
    refine hk_slen hC hX hbl hbA jd_law_20 ?_
    refine hk_bipush (v := nI 6) hC jd_law_21 (by decide) ?_
    refine hk_isub hC jd_law_23 ?_
    refine hk_icmp_gt (tgt := 1034) hC jd_law_24 (by decide) (fun _ => ?_) (fun cc => ?_)
    · refine hk_iconst (v := 1) hC jd_law_1034 (by decide) ?_
      intro H locs ls hP hD hS hl
      refine va_forget (fun q hq => hS.2.2 q hq) ?_
      refine W.widen (k := 600000) (n := 7302250) (Nat.le_of_ble_eq_true rfl) (Nat.le_of_ble_eq_true rfl) ?_
      exact lw_ret hx hb hr hlocks jd_law_1035
    · have hi6 := jn_go hi hL cc
      have kont : ∀ (u2 : Nat → Nat → Nat) (x2 : jX) (y2 : jM), u2 0 0 = u 0 0 → Rel x2 y2 → hk_W p l e room_1 s m #[Value.ref b] below meth c (fun q => s.heap.size ≤ q) (lw_Z below #[Value.ref b] s) 4 D 151 3341 (wX cI cF u2 a x2 y2) 1028 [(0, .ref b), (1, .ref (u 0 0)), (2, .ref (a 0)), (3, .int (nI i))] [] := by
        intro u2 x2 y2 hu2 hrel2
        refine hk_iinc (v := nI (i + 6)) hC (lv2 := [(3, .int (nI (i + 6))), (0, .ref b), (1, .ref (u 0 0)), (2, .ref (a 0))]) jd_law_1028 3 rfl (jn_add i 6) (by decide) rfl ?_
        refine hk_goto (tgt := 18) hC jd_law_1031 (by decide) ?_
        rw [← hu2]
        exact hk_lv [1, 2, 3, 0] rfl (ih (i + 6) u2 x2 y2 hi6 (by omega) hrel2)
      refine hk_aload_n hC jd_law_27 0 rfl ?_
      refine hk_iload_n hC jd_law_28 3 rfl ?_
      refine hk_sld hC hX hbl hbA (n := i) (by omega) hL jd_law_29 ?_
      refine hk_bipush (v := 31) hC jd_law_30 (by decide) ?_
      refine hk_iand hC jd_law_32 ?_
      obtain ⟨j, hj, ej⟩ := pk_andE (xs i) (m := 31) 5 (by decide)
      refine hk_topi (y := nI j) ej.symm ?_
      have hj : j < 32 := hj
      rcases (show j = 0 ∨ j = 1 ∨ j = 2 ∨ j = 3 ∨ j = 4 ∨ j = 5 ∨ j = 6 ∨ j = 7 ∨ j = 8 ∨ j = 9 ∨ j = 10 ∨ j = 11 ∨ j = 12 ∨ j = 13 ∨ j = 14 ∨ j = 15 ∨ j = 16 ∨ j = 17 ∨ j = 18 ∨ j = 19 ∨ j = 20 ∨ j = 21 ∨ j = 22 ∨ j = 23 ∨ j = 24 ∨ j = 25 ∨ j = 26 ∨ j = 27 ∨ j = 28 ∨ j = 29 ∨ j = 30 ∨ j = 31 by omega) with rfl | rfl | rfl | rfl | rfl | rfl | rfl | rfl | rfl | rfl | rfl | rfl | rfl | rfl | rfl | rfl | rfl | rfl | rfl | rfl | rfl | rfl | rfl | rfl | rfl | rfl | rfl | rfl | rfl | rfl | rfl | rfl
      · refine hk_tabIn (tgt := 168) (off := 135) hC jd_law_33 (by decide) (by decide) (by rfl) (by decide) ?_
        obtain ⟨o1, o2, g1, g2, ge, gr⟩ := hs 0 (by decide) x y (fun j => xs (i + j)) hrel
        exact jlw_0 hC hX hbl hbA hL N u a x y i hi6 g1 g2 ge (fun u2 hu2 => kont u2 o1.2 o2.2 hu2 gr)
      · refine hk_tabIn (tgt := 191) (off := 158) hC jd_law_33 (by decide) (by decide) (by rfl) (by decide) ?_
        obtain ⟨o1, o2, g1, g2, ge, gr⟩ := hs 1 (by decide) x y (fun j => xs (i + j)) hrel
        exact jlw_1 hC hX hbl hbA hL N u a x y i hi6 g1 g2 ge (fun u2 hu2 => kont u2 o1.2 o2.2 hu2 gr)
      · refine hk_tabIn (tgt := 204) (off := 171) hC jd_law_33 (by decide) (by decide) (by rfl) (by decide) ?_
        obtain ⟨o1, o2, g1, g2, ge, gr⟩ := hs 2 (by decide) x y (fun j => xs (i + j)) hrel
        exact jlw_2 hC hX hbl hbA hL N u a x y i hi6 g1 g2 ge (fun u2 hu2 => kont u2 o1.2 o2.2 hu2 gr)
      · refine hk_tabIn (tgt := 217) (off := 184) hC jd_law_33 (by decide) (by decide) (by rfl) (by decide) ?_
        obtain ⟨o1, o2, g1, g2, ge, gr⟩ := hs 3 (by decide) x y (fun j => xs (i + j)) hrel
        exact jlw_3 hC hX hbl hbA hL N u a x y i hi6 g1 g2 ge (fun u2 hu2 => kont u2 o1.2 o2.2 hu2 gr)
      · refine hk_tabIn (tgt := 230) (off := 197) hC jd_law_33 (by decide) (by decide) (by rfl) (by decide) ?_
        obtain ⟨o1, o2, g1, g2, ge, gr⟩ := hs 4 (by decide) x y (fun j => xs (i + j)) hrel
        exact jlw_4 hC hX hbl hbA hL N u a x y i hi6 g1 g2 ge (fun u2 hu2 => kont u2 o1.2 o2.2 hu2 gr)
      · refine hk_tabIn (tgt := 263) (off := 230) hC jd_law_33 (by decide) (by decide) (by rfl) (by decide) ?_
        obtain ⟨o1, o2, g1, g2, ge, gr⟩ := hs 5 (by decide) x y (fun j => xs (i + j)) hrel
        exact jlw_5 hC hX hbl hbA hL N u a x y i hi6 g1 g2 ge (fun u2 hu2 => kont u2 o1.2 o2.2 hu2 gr)
      · refine hk_tabIn (tgt := 296) (off := 263) hC jd_law_33 (by decide) (by decide) (by rfl) (by decide) ?_
        obtain ⟨o1, o2, g1, g2, ge, gr⟩ := hs 6 (by decide) x y (fun j => xs (i + j)) hrel
        exact jlw_6 hC hX hbl hbA hL N u a x y i hi6 g1 g2 ge (fun u2 hu2 => kont u2 o1.2 o2.2 hu2 gr)
      · refine hk_tabIn (tgt := 329) (off := 296) hC jd_law_33 (by decide) (by decide) (by rfl) (by decide) ?_
        obtain ⟨o1, o2, g1, g2, ge, gr⟩ := hs 7 (by decide) x y (fun j => xs (i + j)) hrel
        exact jlw_7 hC hX hbl hbA hL N u a x y i hi6 g1 g2 ge (fun u2 hu2 => kont u2 o1.2 o2.2 hu2 gr)
      · refine hk_tabIn (tgt := 372) (off := 339) hC jd_law_33 (by decide) (by decide) (by rfl) (by decide) ?_
        obtain ⟨o1, o2, g1, g2, ge, gr⟩ := hs 8 (by decide) x y (fun j => xs (i + j)) hrel
        exact jlw_8 hC hX hbl hbA hL N u a x y i hi6 g1 g2 ge (fun u2 hu2 => kont u2 o1.2 o2.2 hu2 gr)
      · refine hk_tabIn (tgt := 395) (off := 362) hC jd_law_33 (by decide) (by decide) (by rfl) (by decide) ?_
        obtain ⟨o1, o2, g1, g2, ge, gr⟩ := hs 9 (by decide) x y (fun j => xs (i + j)) hrel
        exact jlw_9 hC hX hbl hbA hL N u a x y i hi6 g1 g2 ge (fun u2 hu2 => kont u2 o1.2 o2.2 hu2 gr)
      · refine hk_tabIn (tgt := 438) (off := 405) hC jd_law_33 (by decide) (by decide) (by rfl) (by decide) ?_
        obtain ⟨o1, o2, g1, g2, ge, gr⟩ := hs 10 (by decide) x y (fun j => xs (i + j)) hrel
        exact jlw_10 hC hX hbl hbA hL N u a x y i hi6 g1 g2 ge (fun u2 hu2 => kont u2 o1.2 o2.2 hu2 gr)
      · refine hk_tabIn (tgt := 471) (off := 438) hC jd_law_33 (by decide) (by decide) (by rfl) (by decide) ?_
        obtain ⟨o1, o2, g1, g2, ge, gr⟩ := hs 11 (by decide) x y (fun j => xs (i + j)) hrel
        exact jlw_11 hC hX hbl hbA hL N u a x y i hi6 g1 g2 ge (fun u2 hu2 => kont u2 o1.2 o2.2 hu2 gr)
      · refine hk_tabIn (tgt := 494) (off := 461) hC jd_law_33 (by decide) (by decide) (by rfl) (by decide) ?_
        obtain ⟨o1, o2, g1, g2, ge, gr⟩ := hs 12 (by decide) x y (fun j => xs (i + j)) hrel
        exact jlw_12 hC hX hbl hbA hL N u a x y i hi6 g1 g2 ge (fun u2 hu2 => kont u2 o1.2 o2.2 hu2 gr)
      · refine hk_tabIn (tgt := 527) (off := 494) hC jd_law_33 (by decide) (by decide) (by rfl) (by decide) ?_
        obtain ⟨o1, o2, g1, g2, ge, gr⟩ := hs 13 (by decide) x y (fun j => xs (i + j)) hrel
        exact jlw_13 hC hX hbl hbA hL N u a x y i hi6 g1 g2 ge (fun u2 hu2 => kont u2 o1.2 o2.2 hu2 gr)
      · refine hk_tabIn (tgt := 540) (off := 507) hC jd_law_33 (by decide) (by decide) (by rfl) (by decide) ?_
        obtain ⟨o1, o2, g1, g2, ge, gr⟩ := hs 14 (by decide) x y (fun j => xs (i + j)) hrel
        exact jlw_14 hC hX hbl hbA hL N u a x y i hi6 g1 g2 ge (fun u2 hu2 => kont u2 o1.2 o2.2 hu2 gr)
      · refine hk_tabIn (tgt := 583) (off := 550) hC jd_law_33 (by decide) (by decide) (by rfl) (by decide) ?_
        obtain ⟨o1, o2, g1, g2, ge, gr⟩ := hs 15 (by decide) x y (fun j => xs (i + j)) hrel
        exact jlw_15 hC hX hbl hbA hL N u a x y i hi6 g1 g2 ge (fun u2 hu2 => kont u2 o1.2 o2.2 hu2 gr)
      · refine hk_tabIn (tgt := 606) (off := 573) hC jd_law_33 (by decide) (by decide) (by rfl) (by decide) ?_
        obtain ⟨o1, o2, g1, g2, ge, gr⟩ := hs 16 (by decide) x y (fun j => xs (i + j)) hrel
        exact jlw_16 hC hX hbl hbA hL N u a x y i hi6 g1 g2 ge (fun u2 hu2 => kont u2 o1.2 o2.2 hu2 gr)
      · refine hk_tabIn (tgt := 649) (off := 616) hC jd_law_33 (by decide) (by decide) (by rfl) (by decide) ?_
        obtain ⟨o1, o2, g1, g2, ge, gr⟩ := hs 17 (by decide) x y (fun j => xs (i + j)) hrel
        exact jlw_17 hC hX hbl hbA hL N u a x y i hi6 g1 g2 ge (fun u2 hu2 => kont u2 o1.2 o2.2 hu2 gr)
      · refine hk_tabIn (tgt := 672) (off := 639) hC jd_law_33 (by decide) (by decide) (by rfl) (by decide) ?_
        obtain ⟨o1, o2, g1, g2, ge, gr⟩ := hs 18 (by decide) x y (fun j => xs (i + j)) hrel
        exact jlw_18 hC hX hbl hbA hL N u a x y i hi6 g1 g2 ge (fun u2 hu2 => kont u2 o1.2 o2.2 hu2 gr)
      · refine hk_tabIn (tgt := 705) (off := 672) hC jd_law_33 (by decide) (by decide) (by rfl) (by decide) ?_
        obtain ⟨o1, o2, g1, g2, ge, gr⟩ := hs 19 (by decide) x y (fun j => xs (i + j)) hrel
        exact jlw_19 hC hX hbl hbA hL N u a x y i hi6 g1 g2 ge (fun u2 hu2 => kont u2 o1.2 o2.2 hu2 gr)
      · refine hk_tabIn (tgt := 738) (off := 705) hC jd_law_33 (by decide) (by decide) (by rfl) (by decide) ?_
        obtain ⟨o1, o2, g1, g2, ge, gr⟩ := hs 20 (by decide) x y (fun j => xs (i + j)) hrel
        exact jlw_20 hC hX hbl hbA hL N u a x y i hi6 g1 g2 ge (fun u2 hu2 => kont u2 o1.2 o2.2 hu2 gr)
      · refine hk_tabIn (tgt := 781) (off := 748) hC jd_law_33 (by decide) (by decide) (by rfl) (by decide) ?_
        obtain ⟨o1, o2, g1, g2, ge, gr⟩ := hs 21 (by decide) x y (fun j => xs (i + j)) hrel
        exact jlw_21 hC hX hbl hbA hL N u a x y i hi6 g1 g2 ge (fun u2 hu2 => kont u2 o1.2 o2.2 hu2 gr)
      · refine hk_tabIn (tgt := 814) (off := 781) hC jd_law_33 (by decide) (by decide) (by rfl) (by decide) ?_
        obtain ⟨o1, o2, g1, g2, ge, gr⟩ := hs 22 (by decide) x y (fun j => xs (i + j)) hrel
        exact jlw_22 hC hX hbl hbA hL N u a x y i hi6 g1 g2 ge (fun u2 hu2 => kont u2 o1.2 o2.2 hu2 gr)
      · refine hk_tabIn (tgt := 827) (off := 794) hC jd_law_33 (by decide) (by decide) (by rfl) (by decide) ?_
        obtain ⟨o1, o2, g1, g2, ge, gr⟩ := hs 23 (by decide) x y (fun j => xs (i + j)) hrel
        exact jlw_23 hC hX hbl hbA hL N u a x y i hi6 g1 g2 ge (fun u2 hu2 => kont u2 o1.2 o2.2 hu2 gr)
      · refine hk_tabIn (tgt := 840) (off := 807) hC jd_law_33 (by decide) (by decide) (by rfl) (by decide) ?_
        obtain ⟨o1, o2, g1, g2, ge, gr⟩ := hs 24 (by decide) x y (fun j => xs (i + j)) hrel
        exact jlw_24 hC hX hbl hbA hL N u a x y i hi6 g1 g2 ge (fun u2 hu2 => kont u2 o1.2 o2.2 hu2 gr)
      · refine hk_tabIn (tgt := 873) (off := 840) hC jd_law_33 (by decide) (by decide) (by rfl) (by decide) ?_
        obtain ⟨o1, o2, g1, g2, ge, gr⟩ := hs 25 (by decide) x y (fun j => xs (i + j)) hrel
        exact jlw_25 hC hX hbl hbA hL N u a x y i hi6 g1 g2 ge (fun u2 hu2 => kont u2 o1.2 o2.2 hu2 gr)
      · refine hk_tabIn (tgt := 936) (off := 903) hC jd_law_33 (by decide) (by decide) (by rfl) (by decide) ?_
        obtain ⟨o1, o2, g1, g2, ge, gr⟩ := hs 26 (by decide) x y (fun j => xs (i + j)) hrel
        exact jlw_26 hC hX hbl hbA hL N u a x y i hi6 g1 g2 ge (fun u2 hu2 => kont u2 o1.2 o2.2 hu2 gr)
      · refine hk_tabIn (tgt := 979) (off := 946) hC jd_law_33 (by decide) (by decide) (by rfl) (by decide) ?_
        obtain ⟨o1, o2, g1, g2, ge, gr⟩ := hs 27 (by decide) x y (fun j => xs (i + j)) hrel
        exact jlw_27 hC hX hbl hbA hL N u a x y i hi6 g1 g2 ge (fun u2 hu2 => kont u2 o1.2 o2.2 hu2 gr)
      · refine hk_tabIn (tgt := 992) (off := 959) hC jd_law_33 (by decide) (by decide) (by rfl) (by decide) ?_
        obtain ⟨o1, o2, g1, g2, ge, gr⟩ := hs 28 (by decide) x y (fun j => xs (i + j)) hrel
        exact jlw_28 hC hX hbl hbA hL N u a x y i hi6 g1 g2 ge (fun u2 hu2 => kont u2 o1.2 o2.2 hu2 gr)
      · refine hk_tabIn (tgt := 1005) (off := 972) hC jd_law_33 (by decide) (by decide) (by rfl) (by decide) ?_
        obtain ⟨o1, o2, g1, g2, ge, gr⟩ := hs 29 (by decide) x y (fun j => xs (i + j)) hrel
        exact jlw_29 hC hX hbl hbA hL N u a x y i hi6 g1 g2 ge (fun u2 hu2 => kont u2 o1.2 o2.2 hu2 gr)
      · refine hk_tabOut (tgt := 1028) hC jd_law_33 (Or.inr (by decide)) (by decide) ?_
        exact kont u x y rfl hrel
      · refine hk_tabOut (tgt := 1028) hC jd_law_33 (Or.inr (by decide)) (by decide) ?_
        exact kont u x y rfl hrel
theorem jw_bytes : ∀ j : Nat, j < 47 → (Cond.eq (.elem (.field (.string "HayTalk" 55) "java/lang/String" "value" "[B") (.int (Int32.ofNat j))) (.int ((jbyt.getD 0 []).getD j 0))) ∈ flatC (Jvm.Cond.and given_1 narrow_1) := by decide +kernel
/-- what the start gives of the text constant and of the statics -/
theorem jw_start {s : State} {args : Array Value} (hts : ∀ w ∈ lw_tbl, w.before args s = true) (hgv : (Jvm.Cond.and given_1 narrow_1).before args s = true) : ∃ sa va : Nat, jEs sa va jtx (fun q => s.heap.size ≤ q) s s.heap ∧ vk_R "HayTalk" 55 jtext sa s := by
  have hf := flat_of_before _ hgv
  have hA : ∀ a : Nat, a < s.heap.size → ¬ (fun q => s.heap.size ≤ q) a := fun a h => Nat.not_le.mpr h
  have lt1 : ∀ {i : Nat}, i < 1 → i = 0 := fun h => by omega
  obtain ⟨adK, adV, hS, hev⟩ := vk_Sof (args := args) (s := s) (N := 1) (tm := fun _ => .string "HayTalk" 55) (len := [47]) (byt := jbyt) (A := fun q => s.heap.size ≤ q)
    (fun i hi => by rw [lt1 hi]; decide)
    (fun i hi => hf _ (by decide +kernel))
    (fun i hi => hf _ (by decide +kernel))
    (fun i hi => hf _ (by decide +kernel))
    (fun i hi => by rw [lt1 hi]; exact hf _ (by decide +kernel))
    (fun i hi j hj => by rw [lt1 hi] at hj ⊢; exact hf _ (jw_bytes j hj))
    (fun i j hi hj hij => absurd ((lt1 hi).trans (lt1 hj).symm) hij) hA
  obtain ⟨h1, h2, h3, h4⟩ := hS.1 0 (by decide)
  have hl1 : (Cond.laysStatic "java/lang/String" "COMPACT_STRINGS" "Z").before args s = true := hts _ (List.mem_append_right _ (List.mem_of_getElem? (i := 174) (by decide +kernel)))
  have hl2 : (Cond.laysStatic "jdk/internal/util/Preconditions" "SIOOBE_FORMATTER" "Ljava/util/function/BiFunction;").before args s = true := hts _ (List.mem_append_right _ (List.mem_of_getElem? (i := 190) (by decide +kernel)))
  have hi1 : (Cond.initialized "java/lang/String").before args s = true := hts _ (List.mem_append_right _ (List.mem_of_getElem? (i := 8) (by decide +kernel)))
  have hi2 : (Cond.initialized "jdk/internal/util/Preconditions").before args s = true := hts _ (List.mem_append_right _ (List.mem_of_getElem? (i := 10) (by decide +kernel)))
  have hsr : (Cond.stringRef "HayTalk" 55 jtext).before args s = true := hts _ (List.mem_append_right _ (List.mem_of_getElem? (i := 159) (by decide +kernel)))
  have hc : (Cond.eq (.static "java/lang/String" "COMPACT_STRINGS" "Z") (.int 1)).before args s = true := hf _ (by decide +kernel)
  have hz : (Cond.isRef (.static "jdk/internal/util/Preconditions" "SIOOBE_FORMATTER" "Ljava/util/function/BiFunction;")).before args s = true := hf _ (by decide +kernel)
  exact ⟨adK 0, adV 0, ⟨h1, h2, h3, h4, va_Zof hl1 hi1 (va_eqt hc) hA, va_Zqof hl2 hi2 hz hA⟩, vk_R.of hsr (hev 0 (by decide))⟩
/-- the tables' classes at the start -/
theorem jw_known {s : State} {args : Array Value} (hts : ∀ w ∈ lw_tbl, w.before args s = true) : ∃ (D : va_G) (cI cF : ClassId), va_K D classes (hk_tys cI cF) s := by
  obtain ⟨c0, s0, hKn0⟩ := u_known (C := cR_H) (T := cF_H) (N := 8) (n := 8) hts ci_H (hts _ (List.mem_append_right _ (List.mem_of_getElem? (i := 17) (by decide +kernel))))
  obtain ⟨c1, s1, hKn1⟩ := u_known (C := cR_T) (T := cF_T) (N := 2) (n := 2) hts ci_T (hts _ (List.mem_append_right _ (List.mem_of_getElem? (i := 25) (by decide +kernel))))
  obtain ⟨c2, s2, hKn2⟩ := u_known (C := cR_F) (T := cF_F) (N := 9) (n := 9) hts ci_F (hts _ (List.mem_append_right _ (List.mem_of_getElem? (i := 41) (by decide +kernel))))
  obtain ⟨c3, s3, hKn3⟩ := u_known (C := cR_P) (T := cF_P) (N := 3) (n := 3) hts ci_P (hts _ (List.mem_append_right _ (List.mem_of_getElem? (i := 81) (by decide +kernel))))
  obtain ⟨c4, s4, hKn4⟩ := u_known (C := cR_S) (T := cF_S) (N := 3) (n := 3) hts ci_S (hts _ (List.mem_append_right _ (List.mem_of_getElem? (i := 104) (by decide +kernel))))
  obtain ⟨c5, s5, hKn5⟩ := u_known (C := cR_L) (T := cF_L) (N := 9) (n := 9) hts ci_L (hts _ (List.mem_append_right _ (List.mem_of_getElem? (i := 121) (by decide +kernel))))
  obtain ⟨c6, s6, hKn6⟩ := u_known (C := cR_M) (T := cF_M) (N := 29) (n := 29) hts ci_M (hts _ (List.mem_append_right _ (List.mem_of_getElem? (i := 647) (by decide +kernel))))
  have ha : (Cond.arrayClass .int).before args s = true := hts _ (List.mem_append_right _ (List.mem_of_getElem? (i := 39) (by decide +kernel)))
  have ho : (Cond.arrayOver (.object "HayTalk$Field")).before args s = true := hts _ (List.mem_append_right _ (List.mem_of_getElem? (i := 90) (by decide +kernel)))
  obtain ⟨cI, kI, compI, g1, g2, g3⟩ := Cond.arrayClass_spec ha
  obtain ⟨comp, cF, kF, f1, -, f3, f4, f5⟩ := Cond.arrayOver_spec ho
  refine ⟨((fun k => match k with | 0 => c0 | 1 => c1 | 2 => c2 | 3 => c3 | 4 => c4 | 5 => c5 | _ => c6), (fun k => match k with | 0 => s0 | 1 => s1 | 2 => s2 | 3 => s3 | 4 => s4 | 5 => s5 | _ => s6)), cI, cF, fun k q hq => ?_, fun k q hq => ?_⟩
  · match k, hq with
    | 0, hq => cases hq; exact hKn0
    | 1, hq => cases hq; exact hKn1
    | 2, hq => cases hq; exact hKn2
    | 3, hq => cases hq; exact hKn3
    | 4, hq => cases hq; exact hKn4
    | 5, hq => cases hq; exact hKn5
    | 6, hq => cases hq; exact hKn6
    | k + 7, hq => simp [classes] at hq
  · match k, hq with
    | 0, hq => cases hq; exact ⟨fun n z => ⟨fun k h => (by cases h), kI, g2, compI, g3⟩, g1⟩
    | 1, hq => cases hq; exact ⟨fun n z => ⟨fun k h => (by cases h), kF, f3, comp, f4⟩, kF, comp, f3, f4, f1, f5⟩
    | k + 2, hq => simp [hk_tys] at hq
set_option maxHeartbeats 16000000 in
set_option maxRecDepth 100000 in
/-- the law from its entry, if the pure sides agree -/
theorem whole_of {N : Nat} {Rel : jX → jM → Prop} (hs : jSteps N Rel) (h0 : ∃ (o1 : Int32 × jLV) (o2 : (Nat → Int32) × Int32 × Int32 × Int32 × Int32 × Int32 × (Nat → Int32) × (Nat → Int32) × (Nat → Int32) × (Nat → Int32) × (Nat → Int32) × Int32 × Int32 × Int32 × Int32 × (Nat → Int32) × (Nat → Int32) × (Nat → Int32) × (Nat → Int32) × (Nat → Int32) × (Nat → Int32) × Int32 × Int32 × Int32 × (Nat → Int32)), jf_H_init N jtx = some o1 ∧ jf_M_init N (fun _ => 0) 0 0 0 0 0 (fun _ => 0) (fun _ => 0) (fun _ => 0) (fun _ => 0) (fun _ => 0) 0 0 0 0 (fun _ => 0) (fun _ => 0) (fun _ => 0) (fun _ => 0) (fun _ => 0) (fun _ => 0) 0 0 0 (fun _ => 0) = some o2 ∧ Rel (jx0 o1) (jy0 o2)) {p : Program} {e : Env} {s : State} {m : MethodId} {below : List Frame} {meth : Method} {c : Code} (l : Launch) {b L : Nat} {xs : Nat → Int32} (hL : L ≤ 3072) (C0 : lw_At p s m meth c b L xs) : W p l e room_1 s m #[Value.ref b] below meth c s.heap [] 0 0 (lw_Z below #[Value.ref b] s) (entryFrame m ([Value.ref b] : List Value).toArray 4) := by
  obtain ⟨hx, hb, hr, hml, hown, hts, hX, hbl, hlocks, hgv⟩ := id C0
  obtain ⟨o1, o2, g1, g2, hrel⟩ := h0
  obtain ⟨D, cI, cF, hK⟩ := jw_known hts
  obtain ⟨sa, va, hE, hR⟩ := jw_start hts hgv
  have hao : va_AO "HayTalk$Field" s := hts (.arrayOver (.object "HayTalk$Field")) (List.mem_append_right _ (List.mem_of_getElem? (i := 90) (by decide +kernel)))
  have hC : hk_ok p s m #[Value.ref b] meth c (fun q => s.heap.size ≤ q) 4 D cI cF "HayTalkLaw" code := ⟨hx, hb, hml, hown, fun w hw => hts w (List.mem_filter.mp hw).1, hK, hlocks, fun q h => h, hk_nw_of hts⟩
  have hl := lv_entry ([.ref b]) (n := 4) (Nat.le_of_ble_eq_true rfl)
  rw [lg_entry_eq]
  generalize (lg_sl ([.ref b]) ++ List.replicate (4 - (lg_sl ([.ref b])).length) Slot.unset).toArray = ls at hl ⊢
  have hl : lv_has ls 4 [(0, .ref b)] := hl
  have hP : va_P D classes [] s.heap := hk_P0t
  have hD : va_D (fun q : Nat => s.heap.size ≤ q) [] := hk_D0t
  refine (show hk_W p l e room_1 s m #[Value.ref b] below meth c (fun q => s.heap.size ≤ q) (lw_Z below #[Value.ref b] s) 4 D 0 0 [] 0 [(0, .ref b)] [] from ?_) s.heap [] ls hP hD va_S.rf hl
  refine hk_new (fs := [.null, .null, .null, .null, .null, .null, .null, .null]) hC jk_H (fun j hj => by rcases (show j = 0 ∨ j = 1 ∨ j = 2 ∨ j = 3 ∨ j = 4 ∨ j = 5 ∨ j = 6 ∨ j = 7 by omega) with rfl | rfl | rfl | rfl | rfl | rfl | rfl | rfl <;> rfl) jq_16 jq_17 jq_1 ⟨Nat.le_of_ble_eq_true rfl, Nat.le_of_ble_eq_true rfl⟩ jd_law_0 (fun q => ?_)
  refine hk_ws (ws2 := [(q, .inr (0, [.null, .null, .null, .null, .null, .null, .null, .null]))]) rfl ?_
  refine hk_dup hC jd_law_3 rfl ?_
  refine hk_callIH hC (wr := []) (jc_H_init l D cI cF sa va jtx q N g1) jl_H_init jq_18 jq_19 rfl rfl ⟨by decide, by decide⟩ (List.Perm.refl _) (fun U H locs hP hD hS hU hW => ⟨va_AO.moved hW.alike hao, jEs_go hE hS hU hW.alike (fun z hz => ?_), hR.warm hW⟩) rfl (Nat.le_of_ble_eq_true rfl) ⟨Nat.le_of_ble_eq_true rfl, Nat.le_of_ble_eq_true rfl⟩ jd_law_4 (fun u hu => ?_)
  · rcases hz with ⟨k, w, hz⟩ | hz
    · exact hD.2 k (z, w) hz
    · exact Nat.le_trans hS.1 (by rw [← hU]; exact hz)
  refine hk_astore_n hC (i := 1) (lv2 := [(1, .ref q), (0, .ref b)]) jd_law_7 rfl rfl (by decide) rfl ?_
  refine hk_new (fs := [.null, .int 0, .int 0, .int 0, .int 0, .int 0, .null, .null, .null, .null, .null, .int 0, .int 0, .int 0, .int 0, .null, .null, .null, .null, .null, .null, .int 0, .null, .null, .int 0, .null, .null, .int 0, .null]) hC jk_M (fun j hj => by rcases (show j = 0 ∨ j = 1 ∨ j = 2 ∨ j = 3 ∨ j = 4 ∨ j = 5 ∨ j = 6 ∨ j = 7 ∨ j = 8 ∨ j = 9 ∨ j = 10 ∨ j = 11 ∨ j = 12 ∨ j = 13 ∨ j = 14 ∨ j = 15 ∨ j = 16 ∨ j = 17 ∨ j = 18 ∨ j = 19 ∨ j = 20 ∨ j = 21 ∨ j = 22 ∨ j = 23 ∨ j = 24 ∨ j = 25 ∨ j = 26 ∨ j = 27 ∨ j = 28 by omega) with rfl | rfl | rfl | rfl | rfl | rfl | rfl | rfl | rfl | rfl | rfl | rfl | rfl | rfl | rfl | rfl | rfl | rfl | rfl | rfl | rfl | rfl | rfl | rfl | rfl | rfl | rfl | rfl | rfl <;> rfl) jq_646 jq_647 jq_13 ⟨Nat.le_of_ble_eq_true rfl, Nat.le_of_ble_eq_true rfl⟩ jd_law_8 (fun q2 => ?_)
  refine hk_dup hC jd_law_11 rfl ?_
  refine hk_callI hC (jc_M_init l D cI cF N q2 g2) jl_M_init jq_648 jq_649 rfl rfl ⟨by decide, by decide⟩ List.perm_append_comm rfl (Nat.le_of_ble_eq_true rfl) ⟨Nat.le_of_ble_eq_true rfl, Nat.le_of_ble_eq_true rfl⟩ jd_law_12 (fun a ha => ?_)
  subst hu
  subst ha
  refine hk_ws (ws2 := wX cI cF u a (jx0 o1) (jy0 o2)) (app10 _ _ _ _ _ _ _ _ _ _) ?_
  refine hk_widen (k1 := 151) (k2 := 3341) (Nat.le_of_ble_eq_true rfl) (Nat.le_of_ble_eq_true rfl) ?_
  refine hk_astore_n hC (i := 2) (lv2 := [(2, .ref (a 0)), (1, .ref (u 0 0)), (0, .ref b)]) jd_law_15 rfl rfl (by decide) rfl ?_
  refine hk_iconst (v := nI 0) hC jd_law_16 (by decide) ?_
  refine hk_istore_n hC (i := 3) (y := nI 0) (lv2 := [(3, .int (nI 0)), (2, .ref (a 0)), (1, .ref (u 0 0)), (0, .ref b)]) jd_law_17 rfl rfl (by decide) rfl ?_
  exact hk_lv [3, 2, 1, 0] rfl (law_loop hL C0 hC hs a (L + 1) 0 u (jx0 o1) (jy0 o2) (Nat.zero_le _) (by omega) hrel)
