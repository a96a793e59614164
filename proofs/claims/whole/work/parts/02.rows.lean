/-! rows over a symbolic state: the world, the named locals, the stack; the heap and the locals' array stay hidden -/
def lw_gd : List Cond := lw_tbl.filter goodWord
theorem lw_in {w : Cond} (n : Nat) (h : tables_1[n]? = some w) (hg : goodWord w = true) : w ∈ lw_gd := List.mem_filter.mpr ⟨List.mem_append_right _ (List.mem_of_getElem? h), hg⟩
theorem lw_in0 {w : Cond} (n : Nat) (h : (k2_sels lw_privs)[n]? = some w) (hg : goodWord w = true) : w ∈ lw_gd := List.mem_filter.mpr ⟨List.mem_append_left _ (List.mem_of_getElem? h), hg⟩
def hk_isN : Cond → Bool
  | .fieldLinkNest .. => true
  | .methodLinkNest .. => true
  | _ => false
def lw_nt : List Cond := lw_tbl.filter hk_isN
theorem lw_inN {w : Cond} (n : Nat) (h : tables_1[n]? = some w) (hg : hk_isN w = true) : w ∈ lw_nt := List.mem_filter.mpr ⟨List.mem_append_right _ (List.mem_of_getElem? h), hg⟩
/-- the words of nest mates hold -/
def hk_nw (U : State) : Prop := ∀ w ∈ lw_nt, va_Nw w U
theorem hk_nwT {w : Cond} (h : hk_isN w = true) : w.onTables = true := by cases w <;> first | rfl | cases h
theorem hk_nw_of {args : Array Value} {s : State} (hts : ∀ w ∈ lw_tbl, w.before args s = true) : hk_nw s := fun w hw => va_Nw.of (hk_nwT (List.mem_filter.mp hw).2) (hts w (List.mem_filter.mp hw).1)
theorem hk_nw_warm {s U : State} (hW : s.WarmedH U.vm) (h : hk_nw s) : hk_nw U := by
  intro w hw
  have hn := (List.mem_filter.mp hw).2
  have h1 := h w hw
  cases w <;> first | exact va_Nw.warmF hW h1 | exact va_Nw.warmM hW h1 | cases hn
theorem hk_nw_call {U : State} {g : JFrame} {mk : MethodId} {a : Array Value} (h : hk_nw U) : hk_nw (U.calling g mk a) := fun w hw => va_Nw.same (u := U) (U := U.calling g mk a) (hk_nwT (List.mem_filter.mp hw).2) rfl (h w hw)
theorem hk_good : ∀ w ∈ lw_gd, w ∈ lw_gd ∧ ((w.onTables && w.keeps) = true ∨ ∃ ty, w = .arrayClass ty) := fun w hw => ⟨hw, good_of_word (List.mem_filter.mp hw).2⟩
theorem hk_gdws {Ts : List Cond} (h : ∀ w ∈ Ts, w ∈ lw_tbl) (hg : Ts.all goodWord = true) : ∀ w ∈ Ts, w ∈ lw_gd := fun w hw => List.mem_filter.mpr ⟨h w hw, List.all_eq_true.mp hg w hw⟩
-- the pure side: a run that comes to no end, or to a wrong index, has no value
def xl {α β : Type} (e : α) (B : α → β) : β := B e
def xb {α β : Type} (f : Option α) (B : α → Option β) : Option β := match f with
  | none => none
  | some q => B q
def xr {β : Type} (i : Int32) (n : Nat) (B : Option β) : Option β := if i < 0 ∨ n ≤ i.toNatClampNeg then none else B
def xz {β : Type} (d : Int32) (B : Option β) : Option β := if d = 0 then none else B
def xzl {β : Type} (d : Int64) (B : Option β) : Option β := if d = 0 then none else B
def xo {β : Type} (v : Int32) (B : Option β) : Option β := if v = 0 ∨ v = 1 then B else none
def xloop {σ β : Type} (B : (σ → Option β) → σ → Option β) : Nat → σ → Option β
  | 0, _ => none
  | n + 1, q => B (xloop B n) q
theorem xl_go {α β : Type} {e : α} {B : α → Option β} {o : β} (h : xl e B = some o) : ∃ y, y = e ∧ B y = some o := ⟨e, rfl, h⟩
theorem xb_go {α β : Type} {f : Option α} {B : α → Option β} {o : β} (h : xb f B = some o) : ∃ q, f = some q ∧ B q = some o := by
  cases f with
  | none => cases h
  | some q => exact ⟨q, rfl, h⟩
theorem xr_in {β : Type} {i : Int32} {n : Nat} {B : Option β} {o : β} (h : xr i n B = some o) : vp_in i n := by
  unfold xr at h
  split at h
  · cases h
  · assumption
theorem xr_go {β : Type} {i : Int32} {n : Nat} {B : Option β} {o : β} (h : xr i n B = some o) : B = some o := by
  unfold xr at h
  split at h
  · cases h
  · assumption
theorem xz_in {β : Type} {d : Int32} {B : Option β} {o : β} (h : xz d B = some o) : ¬ d = 0 := by
  unfold xz at h
  split at h
  · cases h
  · assumption
theorem xz_go {β : Type} {d : Int32} {B : Option β} {o : β} (h : xz d B = some o) : B = some o := by
  unfold xz at h
  split at h
  · cases h
  · assumption
theorem xzl_in {β : Type} {d : Int64} {B : Option β} {o : β} (h : xzl d B = some o) : ¬ d = 0 := by
  unfold xzl at h
  split at h
  · cases h
  · assumption
theorem xzl_go {β : Type} {d : Int64} {B : Option β} {o : β} (h : xzl d B = some o) : B = some o := by
  unfold xzl at h
  split at h
  · cases h
  · assumption
theorem xo_in {β : Type} {v : Int32} {B : Option β} {o : β} (h : xo v B = some o) : narrow .boolean (.int v) = .int v := by
  unfold xo at h
  split at h
  · rename_i q
    rcases q with rfl | rfl <;> rfl
  · cases h
theorem xo_go {β : Type} {v : Int32} {B : Option β} {o : β} (h : xo v B = some o) : B = some o := by
  unfold xo at h
  split at h
  · exact h
  · cases h
theorem xi_t {β : Type} {c : Prop} {_ : Decidable c} {a b : Option β} {o : β} (h : (if c then a else b) = some o) (hc : c) : a = some o := by
  rw [if_pos hc] at h
  exact h
theorem xi_f {β : Type} {c : Prop} {_ : Decidable c} {a b : Option β} {o : β} (h : (if c then a else b) = some o) (hc : ¬ c) : b = some o := by
  rw [if_neg hc] at h
  exact h
theorem xloopW {σ β : Type} {B : (σ → Option β) → σ → Option β} {o : β} (Wt : σ → Prop) (hB : ∀ k : σ → Option β, (∀ q, k q = some o → Wt q) → ∀ q, B k q = some o → Wt q) : ∀ n q, xloop B n q = some o → Wt q := by
  intro n
  induction n with
  | zero => intro q h; cases h
  | succ n ih => intro q h; exact hB _ ih q h
-- a part of a world put back in its place
def va_rep : va_W → List Nat → va_W → va_W
  | ws, i :: is, q :: w1 => va_rep (ws.set i q) is w1
  | ws, [], _ => ws
  | ws, _ :: _, [] => ws
theorem va_rep_at : ∀ (is : List Nat) (w1 ws : va_W) (k : Nat) (q : Nat × va_E), w1.length = is.length → (va_rep ws is w1)[k]? = some q → (∃ j : Nat, is[j]? = some k ∧ ∃ q' ∈ w1, q' = q) ∨ (k ∉ is ∧ ws[k]? = some q) := by
  intro is
  induction is with
  | nil => intro w1 ws k q _ h; exact Or.inr ⟨List.not_mem_nil, by simpa [va_rep] using h⟩
  | cons i is ih =>
    intro w1 ws k q hl h
    cases w1 with
    | nil => simp at hl
    | cons q1 w1 =>
      have hl' : w1.length = is.length := by simpa using hl
      rcases ih w1 (ws.set i q1) k q hl' h with ⟨j, h1, q', h2, h3⟩ | ⟨h1, h2⟩
      · exact Or.inl ⟨j + 1, by simpa using h1, q', List.mem_cons_of_mem _ h2, h3⟩
      · by_cases hk : i = k
        · subst hk
          rw [List.getElem?_set] at h2
          simp only [if_true] at h2
          split at h2
          · have e := Option.some.inj h2
            exact Or.inl ⟨0, rfl, q, by rw [← e]; exact List.mem_cons_self, rfl⟩
          · cases h2
        · rw [List.getElem?_set_ne hk] at h2
          exact Or.inr ⟨by simp only [List.mem_cons, not_or]; exact ⟨fun z => hk z.symm, h1⟩, h2⟩
theorem va_D_map {A : Nat → Prop} {ws ws' : va_W} (h : va_D A ws) (he : ws'.map Prod.fst = ws.map Prod.fst) : va_D A ws' := by
  have key : ∀ (k : Nat) (q : Nat × va_E), ws'[k]? = some q → ∃ q0, ws[k]? = some q0 ∧ q0.1 = q.1 := by
    intro k q hk
    have h1 : (ws'.map Prod.fst)[k]? = some q.1 := by rw [List.getElem?_map, hk]; rfl
    rw [he, List.getElem?_map] at h1
    cases h2 : ws[k]? with
    | none => rw [h2] at h1; cases h1
    | some q0 => rw [h2] at h1; exact ⟨q0, rfl, Option.some.inj h1⟩
  refine ⟨fun i j x y hi hj hxy => ?_, fun k q hk => ?_⟩
  · obtain ⟨x0, h1, h2⟩ := key i x hi
    obtain ⟨y0, h3, h4⟩ := key j y hj
    exact h.1 i j x0 y0 h1 h3 (h2.trans (hxy.trans h4.symm))
  · obtain ⟨q0, h1, h2⟩ := key k q hk
    rw [← h2]
    exact h.2 k q0 h1
theorem va_rep_fst : ∀ (is : List Nat) (wc w1 ws : va_W), is.map (fun i => ws[i]?) = wc.map some → va_nd is = true → w1.map Prod.fst = wc.map Prod.fst → (va_rep ws is w1).map Prod.fst = ws.map Prod.fst := by
  intro is
  induction is with
  | nil => intro wc w1 ws _ _ _; simp [va_rep]
  | cons i is ih =>
    intro wc w1 ws h1 hn h2
    cases wc with
    | nil => simp at h1
    | cons c wc =>
      cases w1 with
      | nil => simp at h2
      | cons q w1 =>
        simp only [List.map_cons, List.cons.injEq] at h1 h2
        simp only [va_nd, Bool.and_eq_true, decide_eq_true_eq] at hn
        have e : is.map (fun j => (ws.set i q)[j]?) = wc.map some := by
          rw [← h1.2]
          apply List.map_congr_left
          intro j hj
          rw [List.getElem?_set_ne (fun z => hn.1 (by rw [z]; exact hj))]
        rw [va_rep, ih wc w1 (ws.set i q) e hn.2 h2.2]
        apply List.ext_getElem?
        intro k
        simp only [List.getElem?_map]
        by_cases hk : i = k
        · subst hk
          have hlt : i < ws.length := (List.getElem?_eq_some_iff.mp h1.1).1
          rw [List.getElem?_set_self hlt, h1.1]
          simp [h2.1]
        · rw [List.getElem?_set_ne hk]
theorem va_rep_ok {A0 : Nat → Prop} {D : va_G} {cl : List vw_C} {ws wc w1 : va_W} {H H1 : Heap} (hP : va_P D cl ws H) (hD : va_D A0 ws) (is : List Nat) (hC : is.map (fun i => ws[i]?) = wc.map some) (hn : va_nd is = true) (hw : w1.map Prod.fst = wc.map Prod.fst)
    (hk : ∀ q : Nat, q < H.size → ¬ va_A wc H.size q → H1[q]? = H[q]?) (hP1 : va_P D cl w1 H1) : va_P D cl (va_rep ws is w1) H1 ∧ va_D A0 (va_rep ws is w1) := by
  refine ⟨fun k q hq => ?_, va_D_map hD (va_rep_fst is wc w1 ws hC hn hw)⟩
  have hl : w1.length = is.length := by
    have h1 := congrArg List.length hC
    have h2 := congrArg List.length hw
    simp only [List.length_map] at h1 h2
    omega
  rcases va_rep_at is w1 ws k q hl hq with ⟨j, h1, q', h2, rfl⟩ | ⟨h1, h2⟩
  · obtain ⟨i, hi⟩ := List.getElem?_of_mem h2
    exact hP1 i _ hi
  · have hlt := (hP k q h2).lt
    refine (hP k q h2).kept (hk q.1 hlt (fun hA => ?_))
    rcases hA with ⟨k2, e, h⟩ | h
    · have h3 : (is.map (fun i => ws[i]?))[k2]? = some (some (q.1, e)) := by rw [hC, List.getElem?_map, h]; rfl
      rw [List.getElem?_map] at h3
      cases hi : is[k2]? with
      | none => rw [hi] at h3; cases h3
      | some i =>
        rw [hi] at h3
        have h4 : ws[i]? = some (q.1, e) := Option.some.inj h3
        have := hD.1 k i q (q.1, e) h2 h4 rfl
        subst this
        exact h1 (List.mem_of_getElem? hi)
    · omega

/-! the rows -/
def hk_tys (cI cF : ClassId) : List (ClassId × FieldType) := [(cI, .int), (cF, .object "HayTalk$Field")]
def hk_cls (ci : Nat) (C : String) (T : u_T) (N : Nat) (ty : Nat → FieldType) : Prop := classes[ci]? = some (C, T, N) ∧ (∀ w ∈ u_ws C T N, w ∈ lw_gd) ∧ (∀ k, k < N → parseFieldDescriptor (T k).2.2.1 = some (ty k)) ∧ (∀ a, a < N → ∀ b, b < N → a ≠ b → (T a).2.1 ≠ (T b).2.1)
def hk_ok (p : Program) (s : State) (m : MethodId) (args : Array Value) (meth : Method) (c : Code) (A : Nat → Prop) (nL : Nat) (D : va_G) (cI cF : ClassId) (own : String) (cc : ByteArray) : Prop :=
  p.tables.exec = Jvm.exec ∧ c.code = cc ∧ c.maxLocals = nL ∧ s.vm.findClass own = some m.cls ∧ (∀ w ∈ lw_gd, w.before args s = true) ∧ va_K D classes (hk_tys cI cF) s ∧ meth.locks = false ∧ (∀ q, s.heap.size ≤ q → A q) ∧ hk_nw s
def hk_W (p : Program) (l : Launch) (e : Env) (R : Room) (s : State) (m : MethodId) (args : Array Value) (below : List Frame) (meth : Method) (c : Code) (A : Nat → Prop) (Q : State → Prop) (nL : Nat) (D : va_G) (cells slots : Nat) (ws : va_W) (pc : Nat) (lv : List (Nat × Value)) (st : List Value) : Prop :=
  ∀ (H : Heap) (locs : List Loc) (ls : Array Slot), va_P D classes ws H → va_D A ws → va_S A s.heap H locs → lv_has ls nL lv → W p l e R s m args below meth c H locs cells slots Q (F0 m pc ls st)
def hk_Zi (below : List Frame) (args : Array Value) (s : State) (D : va_G) (A : Nat → Prop) (r0 : Int32) (w1 : va_W) : State → Prop := MQ below (va_Qi (S := Unit) (fun r _ => r = r0) (fun _ t => va_P D classes w1 t.heap) A) args s 0 0 A
def hk_Zv (below : List Frame) (args : Array Value) (s : State) (D : va_G) (A : Nat → Prop) (w1 : va_W) : State → Prop := MQ below (va_Qv (S := Unit) (fun _ => True) (fun _ t => va_P D classes w1 t.heap) A) args s 0 0 A
def hk_Zq (below : List Frame) (args : Array Value) (s : State) (D : va_G) (A : Nat → Prop) (r0 : Option Nat) (w1 : va_W) : State → Prop := MQ below (va_Qq (S := Unit) (fun r _ => r = r0) (fun _ t => va_P D classes w1 t.heap) A) args s 0 0 A
def hk_Pc (D : va_G) (cI cF : ClassId) (wc : va_W) (as : List Value) (sz : Nat) : Array Value → State → Prop := va_Pc as (fun U => U.heap.size = sz ∧ va_P D classes wc U.heap ∧ va_K D classes (hk_tys cI cF) U ∧ va_D (fun _ => True) wc ∧ hk_nw U)
def hk_Mi (l : Launch) (y : MethodName) (b : ByteArray) (n : Nat) (ret : Option FieldType) (rm : Room) (D : va_G) (cI cF : ClassId) (wc : va_W) (as : List Value) (r0 : Int32) (w1 : va_W) : Prop :=
  rm.cells = 0 ∧ rm.slots = 0 ∧ ∀ sz : Nat, Met l y (.code y b n ret :: lw_gd) rm (hk_Pc D cI cF wc as sz) (va_Qi (S := Unit) (fun r _ => r = r0) (fun _ t => va_P D classes w1 t.heap) (va_A wc sz)) 0 0 (va_A wc sz)
def hk_Mv (l : Launch) (y : MethodName) (b : ByteArray) (n : Nat) (rm : Room) (D : va_G) (cI cF : ClassId) (wc : va_W) (as : List Value) (w1 : va_W) : Prop :=
  rm.cells = 0 ∧ rm.slots = 0 ∧ ∀ sz : Nat, Met l y (.code y b n none :: lw_gd) rm (hk_Pc D cI cF wc as sz) (va_Qv (S := Unit) (fun _ => True) (fun _ t => va_P D classes w1 t.heap) (va_A wc sz)) 0 0 (va_A wc sz)
def hk_Mq (l : Launch) (y : MethodName) (b : ByteArray) (n : Nat) (ret : Option FieldType) (rm : Room) (D : va_G) (cI cF : ClassId) (wc : va_W) (as : List Value) (r0 : Option Nat) (w1 : va_W) : Prop :=
  rm.cells = 0 ∧ rm.slots = 0 ∧ ∀ sz : Nat, Met l y (.code y b n ret :: lw_gd) rm (hk_Pc D cI cF wc as sz) (va_Qq (S := Unit) (fun r _ => r = r0) (fun _ t => va_P D classes w1 t.heap) (va_A wc sz)) 0 0 (va_A wc sz)
theorem hk_blind {D : va_G} {cI cF : ClassId} {wc : va_W} {as : List Value} {sz : Nat} : FrameBlind (hk_Pc D cI cF wc as sz) := fun a U g mk q => by
  obtain ⟨q0, q1, qP, qK, qD, qN⟩ := q
  exact ⟨q0, q1, qP, va_K.moved (u := U) (U := U.calling g mk a) (Vm.Alike.refl U.vm) qK, qD, hk_nw_call qN⟩
/-- what a start gives, for any of the three kinds of contract -/
theorem hk_entry {y : MethodName} {b : ByteArray} {n : Nat} {ret : Option FieldType} {rm : Room} {D : va_G} {cI cF : ClassId} {wc : va_W} {as : List Value} {sz : Nat} {l : Launch} {Qc : Array Value → State → Outcome → State → Prop} (hy : plainName y.cls = true) (hn : (lg_sl as).length ≤ n)
    (body : ∀ (p : Program) (e : Env) (s : State) (m : MethodId) (args : Array Value) (below : List Frame) (meth : Method) (c : Code) (A : Nat → Prop), A = va_A wc sz → hk_ok p s m args meth c A n D cI cF y.cls b → meth.sig.returnType = ret → meth.name = y.name → hk_W p l e rm s m args below meth c A (MQ below Qc args s 0 0 A) n D 0 0 wc 0 (lv_args 0 as) []) :
    Met l y (.code y b n ret :: lw_gd) rm (hk_Pc D cI cF wc as sz) Qc 0 0 (va_A wc sz) := by
  refine Met.ofW (cc := b) (maxL := n) (ret := ret) hy rfl ?_
  intro p e s m args below meth c s₁ B hml hv
  obtain ⟨rfl, hsz, hP, hK, hD0, hN⟩ := hv
  have hts := atoms_spec (ws := Cond.code y b n ret :: lw_gd) B.pre
  subst hsz
  have hD := hD0.self (sz := s.heap.size)
  have hl := lv_entry as hn
  rw [lg_entry_eq]
  exact body p e s m as.toArray below meth c _ rfl ⟨B.exec, B.bytes, hml, findClass_of_methodNamed B.named, fun w hw => hts w (List.mem_cons_of_mem _ hw), hK, B.notSynchronized, fun q h => Or.inr h, hN⟩ B.returns (name_of_methodNamed B.named B.method).1 s.heap [] _ hP hD va_S.rf hl
theorem hk_metI {y : MethodName} {b : ByteArray} {n : Nat} {ret : Option FieldType} {rm : Room} {D : va_G} {cI cF : ClassId} {wc : va_W} {as : List Value} {l : Launch} {r0 : Int32} {w1 : va_W} (hy : plainName y.cls = true) (hn : (lg_sl as).length ≤ n) (hrc : rm.cells = 0) (hrs : rm.slots = 0)
    (body : ∀ (p : Program) (e : Env) (s : State) (m : MethodId) (args : Array Value) (below : List Frame) (meth : Method) (c : Code) (A : Nat → Prop), hk_ok p s m args meth c A n D cI cF y.cls b → meth.sig.returnType = ret → hk_W p l e rm s m args below meth c A (hk_Zi below args s D A r0 w1) n D 0 0 wc 0 (lv_args 0 as) []) :
    hk_Mi l y b n ret rm D cI cF wc as r0 w1 := ⟨hrc, hrs, fun sz => hk_entry hy hn fun p e s m args below meth c A hA hC hr _ => by subst hA; exact body p e s m args below meth c _ hC hr⟩
theorem hk_metV {y : MethodName} {b : ByteArray} {n : Nat} {rm : Room} {D : va_G} {cI cF : ClassId} {wc : va_W} {as : List Value} {l : Launch} {w1 : va_W} (hy : plainName y.cls = true) (hn : (lg_sl as).length ≤ n) (hrc : rm.cells = 0) (hrs : rm.slots = 0)
    (body : ∀ (p : Program) (e : Env) (s : State) (m : MethodId) (args : Array Value) (below : List Frame) (meth : Method) (c : Code) (A : Nat → Prop), hk_ok p s m args meth c A n D cI cF y.cls b → meth.sig.returnType = none → hk_W p l e rm s m args below meth c A (hk_Zv below args s D A w1) n D 0 0 wc 0 (lv_args 0 as) []) :
    hk_Mv l y b n rm D cI cF wc as w1 := ⟨hrc, hrs, fun sz => hk_entry hy hn fun p e s m args below meth c A hA hC hr _ => by subst hA; exact body p e s m args below meth c _ hC hr⟩
theorem hk_metQ {y : MethodName} {b : ByteArray} {n : Nat} {ret : Option FieldType} {rm : Room} {D : va_G} {cI cF : ClassId} {wc : va_W} {as : List Value} {l : Launch} {r0 : Option Nat} {w1 : va_W} (hy : plainName y.cls = true) (hn : (lg_sl as).length ≤ n) (hrc : rm.cells = 0) (hrs : rm.slots = 0)
    (body : ∀ (p : Program) (e : Env) (s : State) (m : MethodId) (args : Array Value) (below : List Frame) (meth : Method) (c : Code) (A : Nat → Prop), hk_ok p s m args meth c A n D cI cF y.cls b → meth.sig.returnType = ret → hk_W p l e rm s m args below meth c A (hk_Zq below args s D A r0 w1) n D 0 0 wc 0 (lv_args 0 as) []) :
    hk_Mq l y b n ret rm D cI cF wc as r0 w1 := ⟨hrc, hrs, fun sz => hk_entry hy hn fun p e s m args below meth c A hA hC hr _ => by subst hA; exact body p e s m args below meth c _ hC hr⟩
section HKR
variable {p : Program} {l : Launch} {e : Env} {R : Room} {s : State} {m : MethodId} {args : Array Value} {below : List Frame} {meth : Method} {c : Code} {A : Nat → Prop} {Q : State → Prop} {nL : Nat} {D : va_G} {cI cF : ClassId} {own : String} {cc : ByteArray} {cells slots : Nat} {ws : va_W} {pc : Nat} {lv : List (Nat × Value)} {st : List Value}
theorem hk_iconst (hC : hk_ok p s m args meth c A nL D cI cF own cc) {n : Int} {v : Int32} (d : decode cc pc = .ok (.iconst n, 1)) (hv : Int32.ofInt n = v)
    (k : hk_W p l e R s m args below meth c A Q nL D cells slots ws (pc + 1) lv (.int v :: st)) : hk_W p l e R s m args below meth c A Q nL D cells slots ws pc lv (st) :=
  fun H locs ls hP hD hS hl => lv_iconst hC.1 hC.2.1 d hv (k H locs ls hP hD hS hl)
theorem hk_bipush (hC : hk_ok p s m args meth c A nL D cI cF own cc) {n : Int} {v : Int32} (d : decode cc pc = .ok (.bipush n, 2)) (hv : (Int8.ofInt n).toInt32 = v)
    (k : hk_W p l e R s m args below meth c A Q nL D cells slots ws (pc + 2) lv (.int v :: st)) : hk_W p l e R s m args below meth c A Q nL D cells slots ws pc lv (st) :=
  fun H locs ls hP hD hS hl => lv_bipush hC.1 hC.2.1 d hv (k H locs ls hP hD hS hl)
theorem hk_sipush (hC : hk_ok p s m args meth c A nL D cI cF own cc) {n : Int} {v : Int32} (d : decode cc pc = .ok (.sipush n, 3)) (hv : (Int16.ofInt n).toInt32 = v)
    (k : hk_W p l e R s m args below meth c A Q nL D cells slots ws (pc + 3) lv (.int v :: st)) : hk_W p l e R s m args below meth c A Q nL D cells slots ws pc lv (st) :=
  fun H locs ls hP hD hS hl => lv_sipush hC.1 hC.2.1 d hv (k H locs ls hP hD hS hl)
theorem hk_lconst (hC : hk_ok p s m args meth c A nL D cI cF own cc) {n : Fin 2} {v : Int64} (d : decode cc pc = .ok (.lconst n, 1)) (hv : Int64.ofNat (n : Nat) = v)
    (k : hk_W p l e R s m args below meth c A Q nL D cells slots ws (pc + 1) lv (.long v :: st)) : hk_W p l e R s m args below meth c A Q nL D cells slots ws pc lv (st) :=
  fun H locs ls hP hD hS hl => lv_lconst hC.1 hC.2.1 d hv (k H locs ls hP hD hS hl)
theorem hk_ldc (hC : hk_ok p s m args meth c A nL D cI cF own cc) {index : Nat} {v : Int32} (d : decode cc pc = .ok (.ldc index, 2)) (hw : Jvm.Cond.constant own index v ∈ lw_gd)
    (k : hk_W p l e R s m args below meth c A Q nL D cells slots ws (pc + 2) lv (.int v :: st)) : hk_W p l e R s m args below meth c A Q nL D cells slots ws pc lv (st) :=
  fun H locs ls hP hD hS hl => lv_ldc hC.1 hC.2.1 hC.2.2.2.1 (hC.2.2.2.2.1 _ hw) d (k H locs ls hP hD hS hl)
theorem hk_ldcw (hC : hk_ok p s m args meth c A nL D cI cF own cc) {index : Nat} {v : Int32} (d : decode cc pc = .ok (.ldc_w index, 3)) (hw : Jvm.Cond.constant own index v ∈ lw_gd)
    (k : hk_W p l e R s m args below meth c A Q nL D cells slots ws (pc + 3) lv (.int v :: st)) : hk_W p l e R s m args below meth c A Q nL D cells slots ws pc lv (st) :=
  fun H locs ls hP hD hS hl => lv_ldcw hC.1 hC.2.1 hC.2.2.2.1 (hC.2.2.2.2.1 _ hw) d (k H locs ls hP hD hS hl)
theorem hk_ldc2 (hC : hk_ok p s m args meth c A nL D cI cF own cc) {index : Nat} {v : Int64} (d : decode cc pc = .ok (.ldc2_w index, 3)) (hw : Jvm.Cond.constantLong own index v ∈ lw_gd)
    (k : hk_W p l e R s m args below meth c A Q nL D cells slots ws (pc + 3) lv (.long v :: st)) : hk_W p l e R s m args below meth c A Q nL D cells slots ws pc lv (st) :=
  fun H locs ls hP hD hS hl => lv_ldc2 hC.1 hC.2.1 hC.2.2.2.1 (hC.2.2.2.2.1 _ hw) d (k H locs ls hP hD hS hl)
theorem hk_iload_n (hC : hk_ok p s m args meth c A nL D cI cF own cc) {k0 : Fin 4} {x : Int32} (d : decode cc pc = .ok (.iload_n k0, 1)) (j : Nat) (hj : lv[j]? = some ((k0 : Nat), .int x))
    (k : hk_W p l e R s m args below meth c A Q nL D cells slots ws (pc + 1) lv (.int x :: st)) : hk_W p l e R s m args below meth c A Q nL D cells slots ws pc lv (st) :=
  fun H locs ls hP hD hS hl => lv_iload_n hC.1 hC.2.1 d rfl (lv_at hl j hj) (k H locs ls hP hD hS hl)
theorem hk_iload (hC : hk_ok p s m args meth c A nL D cI cF own cc) {i : Nat} {x : Int32} (d : decode cc pc = .ok (.iload i, 2)) (j : Nat) (hj : lv[j]? = some (i, .int x))
    (k : hk_W p l e R s m args below meth c A Q nL D cells slots ws (pc + 2) lv (.int x :: st)) : hk_W p l e R s m args below meth c A Q nL D cells slots ws pc lv (st) :=
  fun H locs ls hP hD hS hl => lv_iload hC.1 hC.2.1 d (lv_at hl j hj) (k H locs ls hP hD hS hl)
theorem hk_istore_n (hC : hk_ok p s m args meth c A nL D cI cF own cc) {k0 : Fin 4} {i : Nat} {x y : Int32} {lv2 : List (Nat × Value)} (d : decode cc pc = .ok (.istore_n k0, 1)) (hi : (k0 : Nat) = i) (hy : y = x) (hn : i < nL) (hl2 : (i, Value.int y) :: lv.filter (fun q => !(q.1 == i) && !(q.1 + 1 == i && q.2.category == 2)) = lv2)
    (k : hk_W p l e R s m args below meth c A Q nL D cells slots ws (pc + 1) lv2 st) : hk_W p l e R s m args below meth c A Q nL D cells slots ws pc lv (.int x :: st) := by
  subst hy
  exact fun H locs ls hP hD hS hl => lv_istore_n hC.1 hC.2.1 d hi hl hn hl2 (fun ls' hl' => k H locs ls' hP hD hS hl')
theorem hk_istore (hC : hk_ok p s m args meth c A nL D cI cF own cc) {i : Nat} {x y : Int32} {lv2 : List (Nat × Value)} (d : decode cc pc = .ok (.istore i, 2)) (hy : y = x) (hn : i < nL) (hl2 : (i, Value.int y) :: lv.filter (fun q => !(q.1 == i) && !(q.1 + 1 == i && q.2.category == 2)) = lv2)
    (k : hk_W p l e R s m args below meth c A Q nL D cells slots ws (pc + 2) lv2 st) : hk_W p l e R s m args below meth c A Q nL D cells slots ws pc lv (.int x :: st) := by
  subst hy
  exact fun H locs ls hP hD hS hl => lv_istore hC.1 hC.2.1 d hl hn hl2 (fun ls' hl' => k H locs ls' hP hD hS hl')
theorem hk_lload_n (hC : hk_ok p s m args meth c A nL D cI cF own cc) {k0 : Fin 4} {x : Int64} (d : decode cc pc = .ok (.lload_n k0, 1)) (j : Nat) (hj : lv[j]? = some ((k0 : Nat), .long x))
    (k : hk_W p l e R s m args below meth c A Q nL D cells slots ws (pc + 1) lv (.long x :: st)) : hk_W p l e R s m args below meth c A Q nL D cells slots ws pc lv (st) :=
  fun H locs ls hP hD hS hl => lv_lload_n hC.1 hC.2.1 d rfl (lv_at hl j hj) (k H locs ls hP hD hS hl)
theorem hk_lload (hC : hk_ok p s m args meth c A nL D cI cF own cc) {i : Nat} {x : Int64} (d : decode cc pc = .ok (.lload i, 2)) (j : Nat) (hj : lv[j]? = some (i, .long x))
    (k : hk_W p l e R s m args below meth c A Q nL D cells slots ws (pc + 2) lv (.long x :: st)) : hk_W p l e R s m args below meth c A Q nL D cells slots ws pc lv (st) :=
  fun H locs ls hP hD hS hl => lv_lload hC.1 hC.2.1 d (lv_at hl j hj) (k H locs ls hP hD hS hl)
theorem hk_lstore_n (hC : hk_ok p s m args meth c A nL D cI cF own cc) {k0 : Fin 4} {i : Nat} {x y : Int64} {lv2 : List (Nat × Value)} (d : decode cc pc = .ok (.lstore_n k0, 1)) (hi : (k0 : Nat) = i) (hy : y = x) (hn : i + 1 < nL) (hl2 : (i, Value.long y) :: lv.filter (fun q => !(q.1 == i) && (!(q.1 == i + 1) && !(q.1 + 1 == i && q.2.category == 2))) = lv2)
    (k : hk_W p l e R s m args below meth c A Q nL D cells slots ws (pc + 1) lv2 st) : hk_W p l e R s m args below meth c A Q nL D cells slots ws pc lv (.long x :: st) := by
  subst hy
  exact fun H locs ls hP hD hS hl => lv_lstore_n hC.1 hC.2.1 d hi hl hn hl2 (fun ls' hl' => k H locs ls' hP hD hS hl')
theorem hk_lstore (hC : hk_ok p s m args meth c A nL D cI cF own cc) {i : Nat} {x y : Int64} {lv2 : List (Nat × Value)} (d : decode cc pc = .ok (.lstore i, 2)) (hy : y = x) (hn : i + 1 < nL) (hl2 : (i, Value.long y) :: lv.filter (fun q => !(q.1 == i) && (!(q.1 == i + 1) && !(q.1 + 1 == i && q.2.category == 2))) = lv2)
    (k : hk_W p l e R s m args below meth c A Q nL D cells slots ws (pc + 2) lv2 st) : hk_W p l e R s m args below meth c A Q nL D cells slots ws pc lv (.long x :: st) := by
  subst hy
  exact fun H locs ls hP hD hS hl => lv_lstore hC.1 hC.2.1 d hl hn hl2 (fun ls' hl' => k H locs ls' hP hD hS hl')
theorem hk_aload_n (hC : hk_ok p s m args meth c A nL D cI cF own cc) {k0 : Fin 4} {x : Nat} (d : decode cc pc = .ok (.aload_n k0, 1)) (j : Nat) (hj : lv[j]? = some ((k0 : Nat), .ref x))
    (k : hk_W p l e R s m args below meth c A Q nL D cells slots ws (pc + 1) lv (.ref x :: st)) : hk_W p l e R s m args below meth c A Q nL D cells slots ws pc lv (st) :=
  fun H locs ls hP hD hS hl => lv_aload_n hC.1 hC.2.1 d rfl (lv_at hl j hj) (k H locs ls hP hD hS hl)
theorem hk_aload (hC : hk_ok p s m args meth c A nL D cI cF own cc) {i : Nat} {x : Nat} (d : decode cc pc = .ok (.aload i, 2)) (j : Nat) (hj : lv[j]? = some (i, .ref x))
    (k : hk_W p l e R s m args below meth c A Q nL D cells slots ws (pc + 2) lv (.ref x :: st)) : hk_W p l e R s m args below meth c A Q nL D cells slots ws pc lv (st) :=
  fun H locs ls hP hD hS hl => lv_aload hC.1 hC.2.1 d (lv_at hl j hj) (k H locs ls hP hD hS hl)
theorem hk_astore_n (hC : hk_ok p s m args meth c A nL D cI cF own cc) {k0 : Fin 4} {i : Nat} {x y : Nat} {lv2 : List (Nat × Value)} (d : decode cc pc = .ok (.astore_n k0, 1)) (hi : (k0 : Nat) = i) (hy : y = x) (hn : i < nL) (hl2 : (i, Value.ref y) :: lv.filter (fun q => !(q.1 == i) && !(q.1 + 1 == i && q.2.category == 2)) = lv2)
    (k : hk_W p l e R s m args below meth c A Q nL D cells slots ws (pc + 1) lv2 st) : hk_W p l e R s m args below meth c A Q nL D cells slots ws pc lv (.ref x :: st) := by
  subst hy
  exact fun H locs ls hP hD hS hl => lv_astore_n hC.1 hC.2.1 d hi hl hn hl2 (fun ls' hl' => k H locs ls' hP hD hS hl')
theorem hk_astore (hC : hk_ok p s m args meth c A nL D cI cF own cc) {i : Nat} {x y : Nat} {lv2 : List (Nat × Value)} (d : decode cc pc = .ok (.astore i, 2)) (hy : y = x) (hn : i < nL) (hl2 : (i, Value.ref y) :: lv.filter (fun q => !(q.1 == i) && !(q.1 + 1 == i && q.2.category == 2)) = lv2)
    (k : hk_W p l e R s m args below meth c A Q nL D cells slots ws (pc + 2) lv2 st) : hk_W p l e R s m args below meth c A Q nL D cells slots ws pc lv (.ref x :: st) := by
  subst hy
  exact fun H locs ls hP hD hS hl => lv_astore hC.1 hC.2.1 d hl hn hl2 (fun ls' hl' => k H locs ls' hP hD hS hl')
theorem hk_iinc (hC : hk_ok p s m args meth c A nL D cI cF own cc) {i : Nat} {n : Int} {x v : Int32} {lv2 : List (Nat × Value)} (d : decode cc pc = .ok (.iinc i n, 3)) (j : Nat) (hj : lv[j]? = some (i, .int x)) (hv : v = x + Int32.ofInt n) (hn : i < nL) (hl2 : (i, Value.int v) :: lv.filter (fun q => !(q.1 == i) && !(q.1 + 1 == i && q.2.category == 2)) = lv2)
    (k : hk_W p l e R s m args below meth c A Q nL D cells slots ws (pc + 3) lv2 st) : hk_W p l e R s m args below meth c A Q nL D cells slots ws pc lv st :=
  fun H locs ls hP hD hS hl => lv_iinc hC.1 hC.2.1 d hl hj hv.symm hn hl2 (fun ls' hl' => k H locs ls' hP hD hS hl')
theorem hk_iadd (hC : hk_ok p s m args meth c A nL D cI cF own cc) {x y : Int32} (d : decode cc pc = .ok (.iadd, 1))
    (k : hk_W p l e R s m args below meth c A Q nL D cells slots ws (pc + 1) lv (.int (x + y) :: st)) : hk_W p l e R s m args below meth c A Q nL D cells slots ws pc lv (.int y :: .int x :: st) :=
  fun H locs ls hP hD hS hl => lv_iadd hC.1 hC.2.1 d (k H locs ls hP hD hS hl)
theorem hk_isub (hC : hk_ok p s m args meth c A nL D cI cF own cc) {x y : Int32} (d : decode cc pc = .ok (.isub, 1))
    (k : hk_W p l e R s m args below meth c A Q nL D cells slots ws (pc + 1) lv (.int (x - y) :: st)) : hk_W p l e R s m args below meth c A Q nL D cells slots ws pc lv (.int y :: .int x :: st) :=
  fun H locs ls hP hD hS hl => lv_isub hC.1 hC.2.1 d (k H locs ls hP hD hS hl)
theorem hk_imul (hC : hk_ok p s m args meth c A nL D cI cF own cc) {x y : Int32} (d : decode cc pc = .ok (.imul, 1))
    (k : hk_W p l e R s m args below meth c A Q nL D cells slots ws (pc + 1) lv (.int (x * y) :: st)) : hk_W p l e R s m args below meth c A Q nL D cells slots ws pc lv (.int y :: .int x :: st) :=
  fun H locs ls hP hD hS hl => lv_imul hC.1 hC.2.1 d (k H locs ls hP hD hS hl)
theorem hk_iand (hC : hk_ok p s m args meth c A nL D cI cF own cc) {x y : Int32} (d : decode cc pc = .ok (.iand, 1))
    (k : hk_W p l e R s m args below meth c A Q nL D cells slots ws (pc + 1) lv (.int (x &&& y) :: st)) : hk_W p l e R s m args below meth c A Q nL D cells slots ws pc lv (.int y :: .int x :: st) :=
  fun H locs ls hP hD hS hl => lv_iand hC.1 hC.2.1 d (k H locs ls hP hD hS hl)
theorem hk_ior (hC : hk_ok p s m args meth c A nL D cI cF own cc) {x y : Int32} (d : decode cc pc = .ok (.ior, 1))
    (k : hk_W p l e R s m args below meth c A Q nL D cells slots ws (pc + 1) lv (.int (x ||| y) :: st)) : hk_W p l e R s m args below meth c A Q nL D cells slots ws pc lv (.int y :: .int x :: st) :=
  fun H locs ls hP hD hS hl => lv_ior hC.1 hC.2.1 d (k H locs ls hP hD hS hl)
theorem hk_ixor (hC : hk_ok p s m args meth c A nL D cI cF own cc) {x y : Int32} (d : decode cc pc = .ok (.ixor, 1))
    (k : hk_W p l e R s m args below meth c A Q nL D cells slots ws (pc + 1) lv (.int (x ^^^ y) :: st)) : hk_W p l e R s m args below meth c A Q nL D cells slots ws pc lv (.int y :: .int x :: st) :=
  fun H locs ls hP hD hS hl => lv_ixor hC.1 hC.2.1 d (k H locs ls hP hD hS hl)
theorem hk_ishl (hC : hk_ok p s m args meth c A nL D cI cF own cc) {x y : Int32} (d : decode cc pc = .ok (.ishl, 1))
    (k : hk_W p l e R s m args below meth c A Q nL D cells slots ws (pc + 1) lv (.int (x <<< (y &&& 31)) :: st)) : hk_W p l e R s m args below meth c A Q nL D cells slots ws pc lv (.int y :: .int x :: st) :=
  fun H locs ls hP hD hS hl => lv_ishl hC.1 hC.2.1 d (k H locs ls hP hD hS hl)
theorem hk_ishr (hC : hk_ok p s m args meth c A nL D cI cF own cc) {x y : Int32} (d : decode cc pc = .ok (.ishr, 1))
    (k : hk_W p l e R s m args below meth c A Q nL D cells slots ws (pc + 1) lv (.int (x >>> (y &&& 31)) :: st)) : hk_W p l e R s m args below meth c A Q nL D cells slots ws pc lv (.int y :: .int x :: st) :=
  fun H locs ls hP hD hS hl => lv_ishr hC.1 hC.2.1 d (k H locs ls hP hD hS hl)
theorem hk_ineg (hC : hk_ok p s m args meth c A nL D cI cF own cc) {x : Int32} (d : decode cc pc = .ok (.ineg, 1))
    (k : hk_W p l e R s m args below meth c A Q nL D cells slots ws (pc + 1) lv (.int (-x) :: st)) : hk_W p l e R s m args below meth c A Q nL D cells slots ws pc lv (.int x :: st) :=
  fun H locs ls hP hD hS hl => lv_ineg hC.1 hC.2.1 d (k H locs ls hP hD hS hl)
theorem hk_iushr (hC : hk_ok p s m args meth c A nL D cI cF own cc) {x y : Int32} (d : decode cc pc = .ok (.iushr, 1))
    (k : hk_W p l e R s m args below meth c A Q nL D cells slots ws (pc + 1) lv (.int (x.toUInt32 >>> (y.toUInt32 &&& Int32.toUInt32 31)).toInt32 :: st)) : hk_W p l e R s m args below meth c A Q nL D cells slots ws pc lv (.int y :: .int x :: st) :=
  fun H locs ls hP hD hS hl => lv_iushr hC.1 hC.2.1 d rfl (k H locs ls hP hD hS hl)
theorem hk_idiv (hC : hk_ok p s m args meth c A nL D cI cF own cc) {x y : Int32} (d : decode cc pc = .ok (.idiv, 1)) (hne : ¬ y = 0)
    (k : hk_W p l e R s m args below meth c A Q nL D cells slots ws (pc + 1) lv (.int (x / y) :: st)) : hk_W p l e R s m args below meth c A Q nL D cells slots ws pc lv (.int y :: .int x :: st) :=
  fun H locs ls hP hD hS hl => lv_idiv hC.1 hC.2.1 d hne (k H locs ls hP hD hS hl)
theorem hk_irem (hC : hk_ok p s m args meth c A nL D cI cF own cc) {x y : Int32} (d : decode cc pc = .ok (.irem, 1)) (hne : ¬ y = 0)
    (k : hk_W p l e R s m args below meth c A Q nL D cells slots ws (pc + 1) lv (.int (x - x / y * y) :: st)) : hk_W p l e R s m args below meth c A Q nL D cells slots ws pc lv (.int y :: .int x :: st) :=
  fun H locs ls hP hD hS hl => lv_irem hC.1 hC.2.1 d hne (k H locs ls hP hD hS hl)
theorem hk_lrem (hC : hk_ok p s m args meth c A nL D cI cF own cc) {x y : Int64} (d : decode cc pc = .ok (.lrem, 1)) (hne : ¬ y = 0)
    (k : hk_W p l e R s m args below meth c A Q nL D cells slots ws (pc + 1) lv (.long (x - x / y * y) :: st)) : hk_W p l e R s m args below meth c A Q nL D cells slots ws pc lv (.long y :: .long x :: st) :=
  fun H locs ls hP hD hS hl => lv_lrem hC.1 hC.2.1 d hne (k H locs ls hP hD hS hl)
theorem hk_ladd (hC : hk_ok p s m args meth c A nL D cI cF own cc) {x y : Int64} (d : decode cc pc = .ok (.ladd, 1))
    (k : hk_W p l e R s m args below meth c A Q nL D cells slots ws (pc + 1) lv (.long (x + y) :: st)) : hk_W p l e R s m args below meth c A Q nL D cells slots ws pc lv (.long y :: .long x :: st) :=
  fun H locs ls hP hD hS hl => lv_ladd hC.1 hC.2.1 d (k H locs ls hP hD hS hl)
theorem hk_lmul (hC : hk_ok p s m args meth c A nL D cI cF own cc) {x y : Int64} (d : decode cc pc = .ok (.lmul, 1))
    (k : hk_W p l e R s m args below meth c A Q nL D cells slots ws (pc + 1) lv (.long (x * y) :: st)) : hk_W p l e R s m args below meth c A Q nL D cells slots ws pc lv (.long y :: .long x :: st) :=
  fun H locs ls hP hD hS hl => lv_lmul hC.1 hC.2.1 d (k H locs ls hP hD hS hl)
theorem hk_lsub (hC : hk_ok p s m args meth c A nL D cI cF own cc) {x y : Int64} (d : decode cc pc = .ok (.lsub, 1))
    (k : hk_W p l e R s m args below meth c A Q nL D cells slots ws (pc + 1) lv (.long (x - y) :: st)) : hk_W p l e R s m args below meth c A Q nL D cells slots ws pc lv (.long y :: .long x :: st) :=
  fun H locs ls hP hD hS hl => lv_lsub hC.1 hC.2.1 d (k H locs ls hP hD hS hl)
theorem hk_i2l (hC : hk_ok p s m args meth c A nL D cI cF own cc) {x : Int32} (d : decode cc pc = .ok (.i2l, 1))
    (k : hk_W p l e R s m args below meth c A Q nL D cells slots ws (pc + 1) lv (.long x.toInt64 :: st)) : hk_W p l e R s m args below meth c A Q nL D cells slots ws pc lv (.int x :: st) :=
  fun H locs ls hP hD hS hl => lv_i2l hC.1 hC.2.1 d rfl (k H locs ls hP hD hS hl)
theorem hk_l2i (hC : hk_ok p s m args meth c A nL D cI cF own cc) {x : Int64} (d : decode cc pc = .ok (.l2i, 1))
    (k : hk_W p l e R s m args below meth c A Q nL D cells slots ws (pc + 1) lv (.int x.toInt32 :: st)) : hk_W p l e R s m args below meth c A Q nL D cells slots ws pc lv (.long x :: st) :=
  fun H locs ls hP hD hS hl => lv_l2i hC.1 hC.2.1 d rfl (k H locs ls hP hD hS hl)
theorem hk_lcmp (hC : hk_ok p s m args meth c A nL D cI cF own cc) {x y : Int64} (d : decode cc pc = .ok (.lcmp, 1))
    (k : hk_W p l e R s m args below meth c A Q nL D cells slots ws (pc + 1) lv (.int (lg_cmp x y) :: st)) : hk_W p l e R s m args below meth c A Q nL D cells slots ws pc lv (.long y :: .long x :: st) :=
  fun H locs ls hP hD hS hl => W.lcmp hC.1 hC.2.1 d (k H locs ls hP hD hS hl)
theorem hk_dup (hC : hk_ok p s m args meth c A nL D cI cF own cc) {v : Value} (d : decode cc pc = .ok (.dup, 1)) (hv : v.category = 1)
    (k : hk_W p l e R s m args below meth c A Q nL D cells slots ws (pc + 1) lv (v :: v :: st)) : hk_W p l e R s m args below meth c A Q nL D cells slots ws pc lv (v :: st) :=
  fun H locs ls hP hD hS hl => lv_dup hC.1 hC.2.1 d hv (k H locs ls hP hD hS hl)
theorem hk_pop (hC : hk_ok p s m args meth c A nL D cI cF own cc) {v : Value} (d : decode cc pc = .ok (.pop, 1)) (hv : v.category = 1)
    (k : hk_W p l e R s m args below meth c A Q nL D cells slots ws (pc + 1) lv (st)) : hk_W p l e R s m args below meth c A Q nL D cells slots ws pc lv (v :: st) :=
  fun H locs ls hP hD hS hl => lv_pop hC.1 hC.2.1 d hv (k H locs ls hP hD hS hl)
theorem hk_dup2 (hC : hk_ok p s m args meth c A nL D cI cF own cc) {v w : Value} (d : decode cc pc = .ok (.dup2, 1)) (hv : v.category = 1) (hw : w.category = 1)
    (k : hk_W p l e R s m args below meth c A Q nL D cells slots ws (pc + 1) lv (v :: w :: v :: w :: st)) : hk_W p l e R s m args below meth c A Q nL D cells slots ws pc lv (v :: w :: st) :=
  fun H locs ls hP hD hS hl => lv_dup2_11 hC.1 hC.2.1 d hv hw (k H locs ls hP hD hS hl)
theorem hk_dup_x1 (hC : hk_ok p s m args meth c A nL D cI cF own cc) {v w : Value} (d : decode cc pc = .ok (.dup_x1, 1)) (hv : v.category = 1) (hw : w.category = 1)
    (k : hk_W p l e R s m args below meth c A Q nL D cells slots ws (pc + 1) lv (v :: w :: v :: st)) : hk_W p l e R s m args below meth c A Q nL D cells slots ws pc lv (v :: w :: st) :=
  fun H locs ls hP hD hS hl => lv_dup_x1 hC.1 hC.2.1 d hv hw (k H locs ls hP hD hS hl)
theorem hk_goto (hC : hk_ok p s m args meth c A nL D cI cF own cc) {off : Int} {tgt : Nat} (d : decode cc pc = .ok (.goto off, 3)) (ht : (pc : Int) + off = (tgt : Int))
    (k : hk_W p l e R s m args below meth c A Q nL D cells slots ws (tgt) lv (st)) : hk_W p l e R s m args below meth c A Q nL D cells slots ws pc lv (st) :=
  fun H locs ls hP hD hS hl => lv_goto hC.1 hC.2.1 d ht (k H locs ls hP hD hS hl)
theorem hk_icmp_eq (hC : hk_ok p s m args meth c A nL D cI cF own cc) {x y : Int32} {off : Int} {tgt : Nat} (d : decode cc pc = .ok (.if_icmp .eq off, 3)) (ht : (pc : Int) + off = (tgt : Int))
    (kt : x = y → hk_W p l e R s m args below meth c A Q nL D cells slots ws tgt lv st) (kf : ¬ x = y → hk_W p l e R s m args below meth c A Q nL D cells slots ws (pc + 3) lv st) : hk_W p l e R s m args below meth c A Q nL D cells slots ws pc lv (.int y :: .int x :: st) :=
  fun H locs ls hP hD hS hl => lv_icmp_eq hC.1 hC.2.1 d ht (fun q => kt q H locs ls hP hD hS hl) (fun q => kf q H locs ls hP hD hS hl)
theorem hk_if_eq (hC : hk_ok p s m args meth c A nL D cI cF own cc) {x : Int32} {off : Int} {tgt : Nat} (d : decode cc pc = .ok (.ifCond .eq off, 3)) (ht : (pc : Int) + off = (tgt : Int))
    (kt : x = 0 → hk_W p l e R s m args below meth c A Q nL D cells slots ws tgt lv st) (kf : ¬ x = 0 → hk_W p l e R s m args below meth c A Q nL D cells slots ws (pc + 3) lv st) : hk_W p l e R s m args below meth c A Q nL D cells slots ws pc lv (.int x :: st) :=
  fun H locs ls hP hD hS hl => lv_if_eq hC.1 hC.2.1 d ht (fun q => kt q H locs ls hP hD hS hl) (fun q => kf q H locs ls hP hD hS hl)
theorem hk_icmp_ne (hC : hk_ok p s m args meth c A nL D cI cF own cc) {x y : Int32} {off : Int} {tgt : Nat} (d : decode cc pc = .ok (.if_icmp .ne off, 3)) (ht : (pc : Int) + off = (tgt : Int))
    (kt : ¬ x = y → hk_W p l e R s m args below meth c A Q nL D cells slots ws tgt lv st) (kf : x = y → hk_W p l e R s m args below meth c A Q nL D cells slots ws (pc + 3) lv st) : hk_W p l e R s m args below meth c A Q nL D cells slots ws pc lv (.int y :: .int x :: st) :=
  fun H locs ls hP hD hS hl => lv_icmp_ne hC.1 hC.2.1 d ht (fun q => kt q H locs ls hP hD hS hl) (fun q => kf q H locs ls hP hD hS hl)
theorem hk_if_ne (hC : hk_ok p s m args meth c A nL D cI cF own cc) {x : Int32} {off : Int} {tgt : Nat} (d : decode cc pc = .ok (.ifCond .ne off, 3)) (ht : (pc : Int) + off = (tgt : Int))
    (kt : ¬ x = 0 → hk_W p l e R s m args below meth c A Q nL D cells slots ws tgt lv st) (kf : x = 0 → hk_W p l e R s m args below meth c A Q nL D cells slots ws (pc + 3) lv st) : hk_W p l e R s m args below meth c A Q nL D cells slots ws pc lv (.int x :: st) :=
  fun H locs ls hP hD hS hl => lv_if_ne hC.1 hC.2.1 d ht (fun q => kt q H locs ls hP hD hS hl) (fun q => kf q H locs ls hP hD hS hl)
theorem hk_icmp_lt (hC : hk_ok p s m args meth c A nL D cI cF own cc) {x y : Int32} {off : Int} {tgt : Nat} (d : decode cc pc = .ok (.if_icmp .lt off, 3)) (ht : (pc : Int) + off = (tgt : Int))
    (kt : x < y → hk_W p l e R s m args below meth c A Q nL D cells slots ws tgt lv st) (kf : ¬ x < y → hk_W p l e R s m args below meth c A Q nL D cells slots ws (pc + 3) lv st) : hk_W p l e R s m args below meth c A Q nL D cells slots ws pc lv (.int y :: .int x :: st) :=
  fun H locs ls hP hD hS hl => lv_icmp_lt hC.1 hC.2.1 d ht (fun q => kt q H locs ls hP hD hS hl) (fun q => kf q H locs ls hP hD hS hl)
theorem hk_if_lt (hC : hk_ok p s m args meth c A nL D cI cF own cc) {x : Int32} {off : Int} {tgt : Nat} (d : decode cc pc = .ok (.ifCond .lt off, 3)) (ht : (pc : Int) + off = (tgt : Int))
    (kt : x < 0 → hk_W p l e R s m args below meth c A Q nL D cells slots ws tgt lv st) (kf : ¬ x < 0 → hk_W p l e R s m args below meth c A Q nL D cells slots ws (pc + 3) lv st) : hk_W p l e R s m args below meth c A Q nL D cells slots ws pc lv (.int x :: st) :=
  fun H locs ls hP hD hS hl => lv_if_lt hC.1 hC.2.1 d ht (fun q => kt q H locs ls hP hD hS hl) (fun q => kf q H locs ls hP hD hS hl)
theorem hk_icmp_ge (hC : hk_ok p s m args meth c A nL D cI cF own cc) {x y : Int32} {off : Int} {tgt : Nat} (d : decode cc pc = .ok (.if_icmp .ge off, 3)) (ht : (pc : Int) + off = (tgt : Int))
    (kt : y ≤ x → hk_W p l e R s m args below meth c A Q nL D cells slots ws tgt lv st) (kf : ¬ y ≤ x → hk_W p l e R s m args below meth c A Q nL D cells slots ws (pc + 3) lv st) : hk_W p l e R s m args below meth c A Q nL D cells slots ws pc lv (.int y :: .int x :: st) :=
  fun H locs ls hP hD hS hl => lv_icmp_ge hC.1 hC.2.1 d ht (fun q => kt q H locs ls hP hD hS hl) (fun q => kf q H locs ls hP hD hS hl)
theorem hk_if_ge (hC : hk_ok p s m args meth c A nL D cI cF own cc) {x : Int32} {off : Int} {tgt : Nat} (d : decode cc pc = .ok (.ifCond .ge off, 3)) (ht : (pc : Int) + off = (tgt : Int))
    (kt : 0 ≤ x → hk_W p l e R s m args below meth c A Q nL D cells slots ws tgt lv st) (kf : ¬ 0 ≤ x → hk_W p l e R s m args below meth c A Q nL D cells slots ws (pc + 3) lv st) : hk_W p l e R s m args below meth c A Q nL D cells slots ws pc lv (.int x :: st) :=
  fun H locs ls hP hD hS hl => lv_if_ge hC.1 hC.2.1 d ht (fun q => kt q H locs ls hP hD hS hl) (fun q => kf q H locs ls hP hD hS hl)
theorem hk_icmp_gt (hC : hk_ok p s m args meth c A nL D cI cF own cc) {x y : Int32} {off : Int} {tgt : Nat} (d : decode cc pc = .ok (.if_icmp .gt off, 3)) (ht : (pc : Int) + off = (tgt : Int))
    (kt : y < x → hk_W p l e R s m args below meth c A Q nL D cells slots ws tgt lv st) (kf : ¬ y < x → hk_W p l e R s m args below meth c A Q nL D cells slots ws (pc + 3) lv st) : hk_W p l e R s m args below meth c A Q nL D cells slots ws pc lv (.int y :: .int x :: st) :=
  fun H locs ls hP hD hS hl => lv_icmp_gt hC.1 hC.2.1 d ht (fun q => kt q H locs ls hP hD hS hl) (fun q => kf q H locs ls hP hD hS hl)
theorem hk_if_gt (hC : hk_ok p s m args meth c A nL D cI cF own cc) {x : Int32} {off : Int} {tgt : Nat} (d : decode cc pc = .ok (.ifCond .gt off, 3)) (ht : (pc : Int) + off = (tgt : Int))
    (kt : 0 < x → hk_W p l e R s m args below meth c A Q nL D cells slots ws tgt lv st) (kf : ¬ 0 < x → hk_W p l e R s m args below meth c A Q nL D cells slots ws (pc + 3) lv st) : hk_W p l e R s m args below meth c A Q nL D cells slots ws pc lv (.int x :: st) :=
  fun H locs ls hP hD hS hl => lv_if_gt hC.1 hC.2.1 d ht (fun q => kt q H locs ls hP hD hS hl) (fun q => kf q H locs ls hP hD hS hl)
theorem hk_icmp_le (hC : hk_ok p s m args meth c A nL D cI cF own cc) {x y : Int32} {off : Int} {tgt : Nat} (d : decode cc pc = .ok (.if_icmp .le off, 3)) (ht : (pc : Int) + off = (tgt : Int))
    (kt : x ≤ y → hk_W p l e R s m args below meth c A Q nL D cells slots ws tgt lv st) (kf : ¬ x ≤ y → hk_W p l e R s m args below meth c A Q nL D cells slots ws (pc + 3) lv st) : hk_W p l e R s m args below meth c A Q nL D cells slots ws pc lv (.int y :: .int x :: st) :=
  fun H locs ls hP hD hS hl => lv_icmp_le hC.1 hC.2.1 d ht (fun q => kt q H locs ls hP hD hS hl) (fun q => kf q H locs ls hP hD hS hl)
theorem hk_if_le (hC : hk_ok p s m args meth c A nL D cI cF own cc) {x : Int32} {off : Int} {tgt : Nat} (d : decode cc pc = .ok (.ifCond .le off, 3)) (ht : (pc : Int) + off = (tgt : Int))
    (kt : x ≤ 0 → hk_W p l e R s m args below meth c A Q nL D cells slots ws tgt lv st) (kf : ¬ x ≤ 0 → hk_W p l e R s m args below meth c A Q nL D cells slots ws (pc + 3) lv st) : hk_W p l e R s m args below meth c A Q nL D cells slots ws pc lv (.int x :: st) :=
  fun H locs ls hP hD hS hl => lv_if_le hC.1 hC.2.1 d ht (fun q => kt q H locs ls hP hD hS hl) (fun q => kf q H locs ls hP hD hS hl)
theorem hk_lookup (hC : hk_ok p s m args meth c A nL D cI cF own cc) {dflt : Int} {ps : Array (Int × Int)} {len : Nat} {x : Int32} {off : Int} {tgt : Nat} (d : decode cc pc = .ok (.lookupswitch dflt ps, len)) (hp : (ps.toList.zip (ps.toList.drop 1)).all (fun (a, next) => a.1 < next.1) = true) (ho : Op.lookupswitch.offset ps.toList dflt x.toInt = off) (ht : (pc : Int) + off = (tgt : Int))
    (k : hk_W p l e R s m args below meth c A Q nL D cells slots ws tgt lv st) : hk_W p l e R s m args below meth c A Q nL D cells slots ws pc lv (.int x :: st) :=
  fun H locs ls hP hD hS hl => lv_lookup hC.1 hC.2.1 d hp ho ht (k H locs ls hP hD hS hl)
theorem hk_tabOut (hC : hk_ok p s m args meth c A nL D cI cF own cc) {dflt lo hi : Int} {offs : Array Int} {len : Nat} {x : Int32} {tgt : Nat} (d : decode cc pc = .ok (.tableswitch dflt lo hi offs, len)) (h : x.toInt < lo ∨ hi < x.toInt) (ht : (pc : Int) + dflt = (tgt : Int))
    (k : hk_W p l e R s m args below meth c A Q nL D cells slots ws tgt lv st) : hk_W p l e R s m args below meth c A Q nL D cells slots ws pc lv (.int x :: st) :=
  fun H locs ls hP hD hS hl => lv_tableOut hC.1 hC.2.1 d h ht (k H locs ls hP hD hS hl)
theorem hk_tabIn (hC : hk_ok p s m args meth c A nL D cI cF own cc) {dflt lo hi : Int} {offs : Array Int} {len : Nat} {x : Int32} {off : Int} {tgt : Nat} (d : decode cc pc = .ok (.tableswitch dflt lo hi offs, len)) (h1 : ¬ x.toInt < lo) (h2 : ¬ hi < x.toInt) (ho : offs[(x.toInt - lo).toNat]? = some off) (ht : (pc : Int) + off = (tgt : Int))
    (k : hk_W p l e R s m args below meth c A Q nL D cells slots ws tgt lv st) : hk_W p l e R s m args below meth c A Q nL D cells slots ws pc lv (.int x :: st) :=
  fun H locs ls hP hD hS hl => lv_tableIn hC.1 hC.2.1 d h1 h2 ho ht (k H locs ls hP hD hS hl)
theorem hk_tabX {x : Int32} {hi : Int} (n : Nat) (hn : n < 2 ^ 31) (hh : hi = (n : Int) - 1) (h : ∀ j : Nat, j < n → ¬ x = nI j) : x.toInt < 0 ∨ hi < x.toInt := by
  by_cases h0 : x < 0
  · left
    have := Int32.lt_iff_toInt_lt.mp h0
    simpa using this
  · right
    obtain ⟨j, h1, h2⟩ := nI_of h0
    by_cases h3 : j < n
    · exact absurd h2 (h j h3)
    · rw [h2, nI_toInt h1, hh]
      omega
theorem hk_get (hC : hk_ok p s m args meth c A nL D cI cF own cc) {C : String} {T : u_T} {N ci index a : Nat} {ty0 : Nat → FieldType} (hF : hk_cls ci C T N ty0) (q0 : Nat) {fs : List Value} (he : ws[q0]? = some (a, .inr (ci, fs))) (k0 : Nat) (hk : k0 < N) (hw : Cond.fieldLink own index (T k0).1 (T k0).2.1 (T k0).2.2.1 ∈ lw_gd) {v : Value} (hv : fs[k0]? = some v) (d : decode cc pc = .ok (.getfield index, 3))
    (k : hk_W p l e R s m args below meth c A Q nL D cells slots ws (pc + 3) lv (v :: st)) : hk_W p l e R s m args below meth c A Q nL D cells slots ws pc lv (.ref a :: st) :=
  fun H locs ls hP hD hS hl => va_get hC.1 hC.2.1 hC.2.2.2.2.1 hF.2.1 hC.2.2.2.1 hC.2.2.2.2.2.1 hP q0 he hF.1 k0 hk (hC.2.2.2.2.1 _ hw) (fun _ h9 => h9) hv d (k H locs ls hP hD hS hl)
theorem hk_getN (hC : hk_ok p s m args meth c A nL D cI cF own cc) {C host : String} {T : u_T} {N ci index a : Nat} {ty0 : Nat → FieldType} (hF : hk_cls ci C T N ty0) (q0 : Nat) {fs : List Value} (he : ws[q0]? = some (a, .inr (ci, fs))) (k0 : Nat) (hk : k0 < N) (hw : Cond.fieldLinkNest own index (T k0).1 (T k0).2.1 (T k0).2.2.1 host ∈ lw_nt) {v : Value} (hv : fs[k0]? = some v) (d : decode cc pc = .ok (.getfield index, 3))
    (k : hk_W p l e R s m args below meth c A Q nL D cells slots ws (pc + 3) lv (v :: st)) : hk_W p l e R s m args below meth c A Q nL D cells slots ws pc lv (.ref a :: st) :=
  fun H locs ls hP hD hS hl => va_getN hC.1 hC.2.1 hC.2.2.2.2.1 hF.2.1 hC.2.2.2.1 hC.2.2.2.2.2.1 hP q0 he hF.1 k0 hk (va_Nw.use rfl (hC.2.2.2.2.2.2.2.2 _ hw)) (fun _ h9 => h9) hv d (k H locs ls hP hD hS hl)
theorem hk_put (hC : hk_ok p s m args meth c A nL D cI cF own cc) {C : String} {T : u_T} {N ci index a : Nat} {ty0 : Nat → FieldType} (hF : hk_cls ci C T N ty0) (q0 : Nat) {fs : List Value} (he : ws[q0]? = some (a, .inr (ci, fs))) (k0 : Nat) (hk : k0 < N) (hw : Cond.fieldLink own index (T k0).1 (T k0).2.1 (T k0).2.2.1 ∈ lw_gd) (hfin : (T k0).2.2.2 = false) {v : Value} (hn : narrow (ty0 k0) v = v) (hfit : fits (ty0 k0) v = true) (hl0 : k0 < fs.length) {ws2 : va_W} (hws : ws.set q0 (a, .inr (ci, fs.set k0 v)) = ws2) (d : decode cc pc = .ok (.putfield index, 3))
    (k : hk_W p l e R s m args below meth c A Q nL D cells slots ws2 (pc + 3) lv st) : hk_W p l e R s m args below meth c A Q nL D cells slots ws pc lv (v :: .ref a :: st) := by
  subst hws
  exact fun H locs ls hP hD hS hl => va_put hC.1 hC.2.1 hC.2.2.2.2.1 hF.2.1 ty0 hF.2.2.1 hF.2.2.2 hC.2.2.2.1 hC.2.2.2.2.2.1 hP hD hS q0 he hF.1 k0 hk (hC.2.2.2.2.1 _ hw) (fun _ h9 => h9) hfin (hF.2.2.1 k0 hk) hn hfit hl0 d (fun H locs hP hD hS => k H locs ls hP hD hS hl)
theorem hk_putN (hC : hk_ok p s m args meth c A nL D cI cF own cc) {C host : String} {T : u_T} {N ci index a : Nat} {ty0 : Nat → FieldType} (hF : hk_cls ci C T N ty0) (q0 : Nat) {fs : List Value} (he : ws[q0]? = some (a, .inr (ci, fs))) (k0 : Nat) (hk : k0 < N) (hw : Cond.fieldLinkNest own index (T k0).1 (T k0).2.1 (T k0).2.2.1 host ∈ lw_nt) (hfin : (T k0).2.2.2 = false) {v : Value} (hn : narrow (ty0 k0) v = v) (hfit : fits (ty0 k0) v = true) (hl0 : k0 < fs.length) {ws2 : va_W} (hws : ws.set q0 (a, .inr (ci, fs.set k0 v)) = ws2) (d : decode cc pc = .ok (.putfield index, 3))
    (k : hk_W p l e R s m args below meth c A Q nL D cells slots ws2 (pc + 3) lv st) : hk_W p l e R s m args below meth c A Q nL D cells slots ws pc lv (v :: .ref a :: st) := by
  subst hws
  exact fun H locs ls hP hD hS hl => va_putN hC.1 hC.2.1 hC.2.2.2.2.1 hF.2.1 ty0 hF.2.2.1 hF.2.2.2 hC.2.2.2.1 hC.2.2.2.2.2.1 hP hD hS q0 he hF.1 k0 hk (va_Nw.use rfl (hC.2.2.2.2.2.2.2.2 _ hw)) (fun _ h9 => h9) hfin (hF.2.2.1 k0 hk) hn hfit hl0 d (fun H locs hP hD hS => k H locs ls hP hD hS hl)
theorem hk_iald (hC : hk_ok p s m args meth c A nL D cI cF own cc) (q0 : Nat) {a n : Nat} {f : Nat → Int32} (ha : ws[q0]? = some (a, .inl (cI, n, .inl f))) {i : Int32} (hin : vp_in i n) (d : decode cc pc = .ok (.iaload, 1))
    (k : hk_W p l e R s m args below meth c A Q nL D cells slots ws (pc + 1) lv (.int (f i.toNatClampNeg) :: st)) : hk_W p l e R s m args below meth c A Q nL D cells slots ws pc lv (.int i :: .ref a :: st) :=
  fun H locs ls hP hD hS hl => va_iald hC.1 hC.2.1 hC.2.2.2.2.2.1 hP q0 0 ha rfl hin d (k H locs ls hP hD hS hl)
theorem hk_iast (hC : hk_ok p s m args meth c A nL D cI cF own cc) (q0 : Nat) {a n : Nat} {f g : Nat → Int32} (ha : ws[q0]? = some (a, .inl (cI, n, .inl f))) {i x : Int32} (hin : vp_in i n) (hg : g = upd f i.toNatClampNeg x) {ws2 : va_W} (hws : ws.set q0 (a, .inl (cI, n, .inl g)) = ws2) (d : decode cc pc = .ok (.iastore, 1))
    (k : hk_W p l e R s m args below meth c A Q nL D cells slots ws2 (pc + 1) lv st) : hk_W p l e R s m args below meth c A Q nL D cells slots ws pc lv (.int x :: .int i :: .ref a :: st) := by
  subst hg
  subst hws
  exact fun H locs ls hP hD hS hl => va_iast hC.1 hC.2.1 hC.2.2.2.2.2.1 hP hD hS q0 0 ha rfl hin d (fun H locs hP hD hS => k H locs ls hP hD hS hl)
theorem hk_alen (hC : hk_ok p s m args meth c A nL D cI cF own cc) (q0 : Nat) {a n : Nat} {f : Nat → Int32} (ha : ws[q0]? = some (a, .inl (cI, n, .inl f))) (d : decode cc pc = .ok (.arraylength, 1))
    (k : hk_W p l e R s m args below meth c A Q nL D cells slots ws (pc + 1) lv (.int (nI n) :: st)) : hk_W p l e R s m args below meth c A Q nL D cells slots ws pc lv (.ref a :: st) :=
  fun H locs ls hP hD hS hl => va_alen hC.1 hC.2.1 hC.2.2.2.2.2.1 hP q0 0 ha rfl rfl d (k H locs ls hP hD hS hl)
theorem hk_iret (hC : hk_ok p s m args meth c A nL D cI cF own cc) {r r0 : Int32} {w1 : va_W} (hr : meth.sig.returnType = some .int) (d : decode cc pc = .ok (.ireturn, 1)) (h1 : r = r0) (h2 : ws = w1) : hk_W p l e R s m args below meth c A (hk_Zi below args s D A r0 w1) nL D 0 0 ws pc lv [.int r] := by
  subst h1
  subst h2
  exact fun H locs ls hP hD hS hl => W.iret hC.1 hC.2.1 hr (fun t ht hW => ⟨⟨r, (), rfl, rfl, (by show va_P D classes ws t.heap; rw [ht]; exact hP)⟩, hS.F ht⟩) hS.2.2 d hC.2.2.2.2.2.2.1
theorem hk_zret (hC : hk_ok p s m args meth c A nL D cI cF own cc) {r r0 : Int32} {w1 : va_W} (hr : meth.sig.returnType = some .boolean) (hn : narrow .boolean (.int r) = .int r) (d : decode cc pc = .ok (.ireturn, 1)) (h1 : r = r0) (h2 : ws = w1) : hk_W p l e R s m args below meth c A (hk_Zi below args s D A r0 w1) nL D 0 0 ws pc lv [.int r] := by
  subst h1
  subst h2
  exact fun H locs ls hP hD hS hl => W.zret hC.1 hC.2.1 hr hn (fun t ht hW => ⟨⟨r, (), rfl, rfl, (by show va_P D classes ws t.heap; rw [ht]; exact hP)⟩, hS.F ht⟩) hS.2.2 d hC.2.2.2.2.2.2.1
theorem hk_vret (hC : hk_ok p s m args meth c A nL D cI cF own cc) {w1 : va_W} (hr : meth.sig.returnType = none) (d : decode cc pc = .ok (.return_, 1)) (h2 : ws = w1) : hk_W p l e R s m args below meth c A (hk_Zv below args s D A w1) nL D 0 0 ws pc lv [] := by
  subst h2
  exact fun H locs ls hP hD hS hl => W.vret hC.1 hC.2.1 hr (fun t ht hW => ⟨⟨(), rfl, trivial, (by show va_P D classes ws t.heap; rw [ht]; exact hP)⟩, hS.F ht⟩) hS.2.2 d hC.2.2.2.2.2.2.1
theorem hk_ws {ws2 : va_W} (h : ws = ws2) (k : hk_W p l e R s m args below meth c A Q nL D cells slots ws2 pc lv st) : hk_W p l e R s m args below meth c A Q nL D cells slots ws pc lv st := by
  subst h
  exact k
theorem hk_lv {lv2 : List (Nat × Value)} (ks : List Nat) (h : lv_pick lv ks = lv2) (k : hk_W p l e R s m args below meth c A Q nL D cells slots ws pc lv2 st) : hk_W p l e R s m args below meth c A Q nL D cells slots ws pc lv st :=
  fun H locs ls hP hD hS hl => k H locs ls hP hD hS (lv_sub hl ks h)
/-- what the tables say of a method that is called: its code stands, its class is there -/
def hk_L (y : MethodName) (b : ByteArray) (n : Nat) (ret : Option FieldType) (np : Nat) : Prop := Cond.code y b n ret ∈ lw_gd ∧ Cond.initialized y.cls ∈ lw_gd ∧ y.cls ≠ "java/lang/invoke/MethodHandle" ∧ y.cls ≠ "java/lang/invoke/VarHandle" ∧ (parseMethodDescriptor y.desc).map (fun d => d.parameters.length) = some np
theorem hk_goodL {y : MethodName} {b : ByteArray} {n : Nat} {ret : Option FieldType} {np : Nat} (h : hk_L y b n ret np) : GoodIn lw_gd (.code y b n ret :: lw_gd) := by
  intro w hw
  rcases List.mem_cons.mp hw with h1 | h1
  · rw [h1]
    exact hk_good _ h.1
  · exact hk_good _ h1
theorem hk_B {y : MethodName} {b : ByteArray} {n np index : Nat} {ret : Option FieldType} {rm : Room} (hC : hk_ok p s m args meth c A nL D cI cF own cc) (hL : hk_L y b n ret np) (hrc : rm.cells = 0) (hrs : rm.slots = 0) (hl : Cond.methodLink own index y ∈ lw_gd) (hR : rm.frames + 1 ≤ R.frames ∧ 8 + (n + 11) + rm.locals ≤ R.locals) : CallB R s args own index y b n ret (.code y b n ret :: lw_gd) rm 0 0 np :=
  callB_of np hC.2.2.2.2.1 (hk_goodL hL) rfl hrc hrs (hC.2.2.2.2.1 _ hL.2.1) (hC.2.2.2.2.1 _ hl) hL.2.2 hR
theorem hk_N {y : MethodName} {b : ByteArray} {n np index : Nat} {host : String} {ret : Option FieldType} {rm : Room} (hC : hk_ok p s m args meth c A nL D cI cF own cc) (hL : hk_L y b n ret np) (hrc : rm.cells = 0) (hrs : rm.slots = 0) (hl : Cond.methodLinkNest own index y host ∈ lw_nt) (hR : rm.frames + 1 ≤ R.frames ∧ 8 + (n + 11) + rm.locals ≤ R.locals) : va_CN R s args own index y host b n ret (.code y b n ret :: lw_gd) rm 0 0 np :=
  va_cnB np hC.2.2.2.2.1 (hk_goodL hL) rfl hrc hrs (hC.2.2.2.2.2.2.2.2 _ hl) (hC.2.2.2.2.1 _ hL.2.1) hL.2.2 hR
theorem hk_pre (hC : hk_ok p s m args meth c A nL D cI cF own cc) {wc : va_W} {as : List Value} {H : Heap} (hPc : va_P D classes wc H) (hDc : va_D A wc) : ∀ U : State, U.heap = H → s.WarmedH U.vm → hk_Pc D cI cF wc as H.size as.toArray U :=
  fun U hU hW => ⟨rfl, by rw [hU], by rw [hU]; exact hPc, va_K.moved hW.alike hC.2.2.2.2.2.1, hDc.weaken (fun _ _ _ _ => trivial), hk_nw_warm hW hC.2.2.2.2.2.2.2.2⟩
theorem hk_mem {is : List Nat} {wc : va_W} (h : is.map (fun i => ws[i]?) = wc.map some) : is.filterMap (fun i => ws[i]?) = wc := by
  induction is generalizing wc with
  | nil => cases wc with
    | nil => rfl
    | cons _ _ => simp at h
  | cons i is ih => cases wc with
    | nil => simp at h
    | cons q wc =>
      simp only [List.map_cons, List.cons.injEq] at h
      rw [List.filterMap_cons, h.1, ih h.2]
theorem hk_callVi (hC : hk_ok p s m args meth c A nL D cI cF own cc) {y : MethodName} {b : ByteArray} {n np index : Nat} {ret : Option FieldType} {r0 : Int32} {rm : Room} {wc w1 ws2 : va_W} {as st0 : List Value} {bref ci q0 N : Nat} {T : u_T} {fs : List Value} (hM : hk_Mi l y b n ret rm D cI cF wc (.ref bref :: as) r0 w1) (hL : hk_L y b n ret np) (hcl : classes[ci]? = some (y.cls, T, N)) (hrecv : ws[q0]? = some (bref, .inr (ci, fs))) (hl0 : Cond.methodLink own index y ∈ lw_gd) (hin : Cond.instanceMethod y ∈ lw_gd) (hse : Cond.selects y.cls y y ∈ lw_gd) (hnp : as.length = np) (hR : rm.frames + 1 ≤ R.frames ∧ 8 + (n + 11) + rm.locals ≤ R.locals) (is : List Nat) (his : is.map (fun i => ws[i]?) = wc.map some) (hnd : va_nd is = true) (hw1 : w1.map Prod.fst = wc.map Prod.fst) (hws : va_rep ws is w1 = ws2) (hst : st0 = as.reverse ++ .ref bref :: st) (hcat : (st.map fun v => v.category).sum ≤ 8) (hcs : cells ≤ R.cells ∧ slots ≤ R.slots) (d : decode cc pc = .ok (.invokevirtual index, 3))
    (k : hk_W p l e R s m args below meth c A Q nL D cells slots ws2 (pc + 3) lv (.int r0 :: st)) : hk_W p l e R s m args below meth c A Q nL D cells slots ws pc lv st0 := by
  subst hws
  intro H locs ls hP hD hS hl
  have hPc := hP.sub is (hk_mem his)
  have hDc := hD.sub is hnd his
  have hFc := va_free hD hS hC.2.2.2.2.2.2.2.1 is his
  refine va_calli (va_runV (As := as) (rest := st) ⟨hC.1, hC.2.1, hC.2.2.1, hC.2.2.2.1, hC.2.2.2.2.1⟩ (hM.2.2 H.size) ⟨hk_B hC hL hM.1 hM.2.1 hl0 hR, hC.2.2.2.2.1 _ hin, hC.2.2.2.2.1 _ hse⟩ ⟨hk_blind, va_recv hC.2.2.2.2.2.1 hP hcl hrecv, fun U hU hW => hk_pre hC hPc hDc U hU hW⟩ rfl hnp hl.1 hst (lv_room hcat) d ⟨hcs.1, hcs.2⟩) hS (fun q _ h => hFc q h) hFc (fun r u t H1 locs ht hvm hw hB hz1 hk1 hS => ?_)
  rw [ht] at hB
  obtain ⟨hP2, hD2⟩ := va_rep_ok hP hD is his hnd hw1 hk1 hB
  have hw : r = r0 := hw
  subst hw
  exact k H1 locs ls hP2 hD2 hS hl
theorem hk_callSi (hC : hk_ok p s m args meth c A nL D cI cF own cc) {y : MethodName} {b : ByteArray} {n np index : Nat} {ret : Option FieldType} {r0 : Int32} {rm : Room} {wc w1 ws2 : va_W} {as st0 : List Value} (hM : hk_Mi l y b n ret rm D cI cF wc (as) r0 w1) (hL : hk_L y b n ret np) (hl0 : Cond.methodLink own index y ∈ lw_gd) (hst1 : Cond.static y ∈ lw_gd) (hnp : as.length = np) (hR : rm.frames + 1 ≤ R.frames ∧ 8 + (n + 11) + rm.locals ≤ R.locals) (is : List Nat) (his : is.map (fun i => ws[i]?) = wc.map some) (hnd : va_nd is = true) (hw1 : w1.map Prod.fst = wc.map Prod.fst) (hws : va_rep ws is w1 = ws2) (hst : st0 = as.reverse ++ st) (hcat : (st.map fun v => v.category).sum ≤ 8) (hcs : cells ≤ R.cells ∧ slots ≤ R.slots) (d : decode cc pc = .ok (.invokestatic index, 3))
    (k : hk_W p l e R s m args below meth c A Q nL D cells slots ws2 (pc + 3) lv (.int r0 :: st)) : hk_W p l e R s m args below meth c A Q nL D cells slots ws pc lv st0 := by
  subst hws
  intro H locs ls hP hD hS hl
  have hPc := hP.sub is (hk_mem his)
  have hDc := hD.sub is hnd his
  have hFc := va_free hD hS hC.2.2.2.2.2.2.2.1 is his
  refine va_calli (va_runS (As := as) (rest := st) ⟨hC.1, hC.2.1, hC.2.2.1, hC.2.2.2.1, hC.2.2.2.2.1⟩ (hM.2.2 H.size) ⟨hk_B hC hL hM.1 hM.2.1 hl0 hR, hC.2.2.2.2.1 _ hst1⟩ ⟨hk_blind, fun U hU hW => hk_pre hC hPc hDc U hU hW⟩ rfl hnp hl.1 hst (lv_room hcat) d ⟨hcs.1, hcs.2⟩) hS (fun q _ h => hFc q h) hFc (fun r u t H1 locs ht hvm hw hB hz1 hk1 hS => ?_)
  rw [ht] at hB
  obtain ⟨hP2, hD2⟩ := va_rep_ok hP hD is his hnd hw1 hk1 hB
  have hw : r = r0 := hw
  subst hw
  exact k H1 locs ls hP2 hD2 hS hl
theorem hk_callNi (hC : hk_ok p s m args meth c A nL D cI cF own cc) {y : MethodName} {b : ByteArray} {n np index : Nat} {ret : Option FieldType} {r0 : Int32} {rm : Room} {wc w1 ws2 : va_W} {as st0 : List Value} {host : String} (hM : hk_Mi l y b n ret rm D cI cF wc (as) r0 w1) (hL : hk_L y b n ret np) (hl0 : Cond.methodLinkNest own index y host ∈ lw_nt) (hst1 : Cond.static y ∈ lw_gd) (hnp : as.length = np) (hR : rm.frames + 1 ≤ R.frames ∧ 8 + (n + 11) + rm.locals ≤ R.locals) (is : List Nat) (his : is.map (fun i => ws[i]?) = wc.map some) (hnd : va_nd is = true) (hw1 : w1.map Prod.fst = wc.map Prod.fst) (hws : va_rep ws is w1 = ws2) (hst : st0 = as.reverse ++ st) (hcat : (st.map fun v => v.category).sum ≤ 8) (hcs : cells ≤ R.cells ∧ slots ≤ R.slots) (d : decode cc pc = .ok (.invokestatic index, 3))
    (k : hk_W p l e R s m args below meth c A Q nL D cells slots ws2 (pc + 3) lv (.int r0 :: st)) : hk_W p l e R s m args below meth c A Q nL D cells slots ws pc lv st0 := by
  subst hws
  intro H locs ls hP hD hS hl
  have hPc := hP.sub is (hk_mem his)
  have hDc := hD.sub is hnd his
  have hFc := va_free hD hS hC.2.2.2.2.2.2.2.1 is his
  refine va_calli (va_runSN (As := as) (rest := st) ⟨hC.1, hC.2.1, hC.2.2.1, hC.2.2.2.1, hC.2.2.2.2.1⟩ (hM.2.2 H.size) ⟨hk_N hC hL hM.1 hM.2.1 hl0 hR, hC.2.2.2.2.1 _ hst1, trivial⟩ ⟨hk_blind, fun U hU hW => hk_pre hC hPc hDc U hU hW⟩ rfl hnp hl.1 hst (lv_room hcat) d ⟨hcs.1, hcs.2⟩) hS (fun q _ h => hFc q h) hFc (fun r u t H1 locs ht hvm hw hB hz1 hk1 hS => ?_)
  rw [ht] at hB
  obtain ⟨hP2, hD2⟩ := va_rep_ok hP hD is his hnd hw1 hk1 hB
  have hw : r = r0 := hw
  subst hw
  exact k H1 locs ls hP2 hD2 hS hl
theorem hk_callVv (hC : hk_ok p s m args meth c A nL D cI cF own cc) {y : MethodName} {b : ByteArray} {n np index : Nat} {rm : Room} {wc w1 ws2 : va_W} {as st0 : List Value} {bref ci q0 N : Nat} {T : u_T} {fs : List Value} (hM : hk_Mv l y b n rm D cI cF wc (.ref bref :: as) w1) (hL : hk_L y b n none np) (hcl : classes[ci]? = some (y.cls, T, N)) (hrecv : ws[q0]? = some (bref, .inr (ci, fs))) (hl0 : Cond.methodLink own index y ∈ lw_gd) (hin : Cond.instanceMethod y ∈ lw_gd) (hse : Cond.selects y.cls y y ∈ lw_gd) (hnp : as.length = np) (hR : rm.frames + 1 ≤ R.frames ∧ 8 + (n + 11) + rm.locals ≤ R.locals) (is : List Nat) (his : is.map (fun i => ws[i]?) = wc.map some) (hnd : va_nd is = true) (hw1 : w1.map Prod.fst = wc.map Prod.fst) (hws : va_rep ws is w1 = ws2) (hst : st0 = as.reverse ++ .ref bref :: st) (hcat : (st.map fun v => v.category).sum ≤ 8) (hcs : cells ≤ R.cells ∧ slots ≤ R.slots) (d : decode cc pc = .ok (.invokevirtual index, 3))
    (k : hk_W p l e R s m args below meth c A Q nL D cells slots ws2 (pc + 3) lv (st)) : hk_W p l e R s m args below meth c A Q nL D cells slots ws pc lv st0 := by
  subst hws
  intro H locs ls hP hD hS hl
  have hPc := hP.sub is (hk_mem his)
  have hDc := hD.sub is hnd his
  have hFc := va_free hD hS hC.2.2.2.2.2.2.2.1 is his
  refine va_callv (va_runV (As := as) (rest := st) ⟨hC.1, hC.2.1, hC.2.2.1, hC.2.2.2.1, hC.2.2.2.2.1⟩ (hM.2.2 H.size) ⟨hk_B hC hL hM.1 hM.2.1 hl0 hR, hC.2.2.2.2.1 _ hin, hC.2.2.2.2.1 _ hse⟩ ⟨hk_blind, va_recv hC.2.2.2.2.2.1 hP hcl hrecv, fun U hU hW => hk_pre hC hPc hDc U hU hW⟩ rfl hnp hl.1 hst (lv_room hcat) d ⟨hcs.1, hcs.2⟩) hS (fun q _ h => hFc q h) hFc (fun u t H1 locs ht hvm hw hB hz1 hk1 hS => ?_)
  rw [ht] at hB
  obtain ⟨hP2, hD2⟩ := va_rep_ok hP hD is his hnd hw1 hk1 hB
  exact k H1 locs ls hP2 hD2 hS hl
theorem hk_callSv (hC : hk_ok p s m args meth c A nL D cI cF own cc) {y : MethodName} {b : ByteArray} {n np index : Nat} {rm : Room} {wc w1 ws2 : va_W} {as st0 : List Value} (hM : hk_Mv l y b n rm D cI cF wc (as) w1) (hL : hk_L y b n none np) (hl0 : Cond.methodLink own index y ∈ lw_gd) (hst1 : Cond.static y ∈ lw_gd) (hnp : as.length = np) (hR : rm.frames + 1 ≤ R.frames ∧ 8 + (n + 11) + rm.locals ≤ R.locals) (is : List Nat) (his : is.map (fun i => ws[i]?) = wc.map some) (hnd : va_nd is = true) (hw1 : w1.map Prod.fst = wc.map Prod.fst) (hws : va_rep ws is w1 = ws2) (hst : st0 = as.reverse ++ st) (hcat : (st.map fun v => v.category).sum ≤ 8) (hcs : cells ≤ R.cells ∧ slots ≤ R.slots) (d : decode cc pc = .ok (.invokestatic index, 3))
    (k : hk_W p l e R s m args below meth c A Q nL D cells slots ws2 (pc + 3) lv (st)) : hk_W p l e R s m args below meth c A Q nL D cells slots ws pc lv st0 := by
  subst hws
  intro H locs ls hP hD hS hl
  have hPc := hP.sub is (hk_mem his)
  have hDc := hD.sub is hnd his
  have hFc := va_free hD hS hC.2.2.2.2.2.2.2.1 is his
  refine va_callv (va_runS (As := as) (rest := st) ⟨hC.1, hC.2.1, hC.2.2.1, hC.2.2.2.1, hC.2.2.2.2.1⟩ (hM.2.2 H.size) ⟨hk_B hC hL hM.1 hM.2.1 hl0 hR, hC.2.2.2.2.1 _ hst1⟩ ⟨hk_blind, fun U hU hW => hk_pre hC hPc hDc U hU hW⟩ rfl hnp hl.1 hst (lv_room hcat) d ⟨hcs.1, hcs.2⟩) hS (fun q _ h => hFc q h) hFc (fun u t H1 locs ht hvm hw hB hz1 hk1 hS => ?_)
  rw [ht] at hB
  obtain ⟨hP2, hD2⟩ := va_rep_ok hP hD is his hnd hw1 hk1 hB
  exact k H1 locs ls hP2 hD2 hS hl
theorem hk_callNv (hC : hk_ok p s m args meth c A nL D cI cF own cc) {y : MethodName} {b : ByteArray} {n np index : Nat} {rm : Room} {wc w1 ws2 : va_W} {as st0 : List Value} {host : String} (hM : hk_Mv l y b n rm D cI cF wc (as) w1) (hL : hk_L y b n none np) (hl0 : Cond.methodLinkNest own index y host ∈ lw_nt) (hst1 : Cond.static y ∈ lw_gd) (hnp : as.length = np) (hR : rm.frames + 1 ≤ R.frames ∧ 8 + (n + 11) + rm.locals ≤ R.locals) (is : List Nat) (his : is.map (fun i => ws[i]?) = wc.map some) (hnd : va_nd is = true) (hw1 : w1.map Prod.fst = wc.map Prod.fst) (hws : va_rep ws is w1 = ws2) (hst : st0 = as.reverse ++ st) (hcat : (st.map fun v => v.category).sum ≤ 8) (hcs : cells ≤ R.cells ∧ slots ≤ R.slots) (d : decode cc pc = .ok (.invokestatic index, 3))
    (k : hk_W p l e R s m args below meth c A Q nL D cells slots ws2 (pc + 3) lv (st)) : hk_W p l e R s m args below meth c A Q nL D cells slots ws pc lv st0 := by
  subst hws
  intro H locs ls hP hD hS hl
  have hPc := hP.sub is (hk_mem his)
  have hDc := hD.sub is hnd his
  have hFc := va_free hD hS hC.2.2.2.2.2.2.2.1 is his
  refine va_callv (va_runSN (As := as) (rest := st) ⟨hC.1, hC.2.1, hC.2.2.1, hC.2.2.2.1, hC.2.2.2.2.1⟩ (hM.2.2 H.size) ⟨hk_N hC hL hM.1 hM.2.1 hl0 hR, hC.2.2.2.2.1 _ hst1, trivial⟩ ⟨hk_blind, fun U hU hW => hk_pre hC hPc hDc U hU hW⟩ rfl hnp hl.1 hst (lv_room hcat) d ⟨hcs.1, hcs.2⟩) hS (fun q _ h => hFc q h) hFc (fun u t H1 locs ht hvm hw hB hz1 hk1 hS => ?_)
  rw [ht] at hB
  obtain ⟨hP2, hD2⟩ := va_rep_ok hP hD is his hnd hw1 hk1 hB
  exact k H1 locs ls hP2 hD2 hS hl
theorem hk_callVq (hC : hk_ok p s m args meth c A nL D cI cF own cc) {y : MethodName} {b : ByteArray} {n np index : Nat} {ret : Option FieldType} {r0 : Option Nat} {rm : Room} {wc w1 ws2 : va_W} {as st0 : List Value} {bref ci q0 N : Nat} {T : u_T} {fs : List Value} (hM : hk_Mq l y b n ret rm D cI cF wc (.ref bref :: as) r0 w1) (hL : hk_L y b n ret np) (hcl : classes[ci]? = some (y.cls, T, N)) (hrecv : ws[q0]? = some (bref, .inr (ci, fs))) (hl0 : Cond.methodLink own index y ∈ lw_gd) (hin : Cond.instanceMethod y ∈ lw_gd) (hse : Cond.selects y.cls y y ∈ lw_gd) (hnp : as.length = np) (hR : rm.frames + 1 ≤ R.frames ∧ 8 + (n + 11) + rm.locals ≤ R.locals) (is : List Nat) (his : is.map (fun i => ws[i]?) = wc.map some) (hnd : va_nd is = true) (hw1 : w1.map Prod.fst = wc.map Prod.fst) (hws : va_rep ws is w1 = ws2) (hst : st0 = as.reverse ++ .ref bref :: st) (hcat : (st.map fun v => v.category).sum ≤ 8) (hcs : cells ≤ R.cells ∧ slots ≤ R.slots) (d : decode cc pc = .ok (.invokevirtual index, 3))
    (k : hk_W p l e R s m args below meth c A Q nL D cells slots ws2 (pc + 3) lv (va_rf r0 :: st)) : hk_W p l e R s m args below meth c A Q nL D cells slots ws pc lv st0 := by
  subst hws
  intro H locs ls hP hD hS hl
  have hPc := hP.sub is (hk_mem his)
  have hDc := hD.sub is hnd his
  have hFc := va_free hD hS hC.2.2.2.2.2.2.2.1 is his
  refine va_callq (va_runV (As := as) (rest := st) ⟨hC.1, hC.2.1, hC.2.2.1, hC.2.2.2.1, hC.2.2.2.2.1⟩ (hM.2.2 H.size) ⟨hk_B hC hL hM.1 hM.2.1 hl0 hR, hC.2.2.2.2.1 _ hin, hC.2.2.2.2.1 _ hse⟩ ⟨hk_blind, va_recv hC.2.2.2.2.2.1 hP hcl hrecv, fun U hU hW => hk_pre hC hPc hDc U hU hW⟩ rfl hnp hl.1 hst (lv_room hcat) d ⟨hcs.1, hcs.2⟩) hS (fun q _ h => hFc q h) hFc (fun r u t H1 locs ht hvm hw hB hz1 hk1 hS => ?_)
  rw [ht] at hB
  obtain ⟨hP2, hD2⟩ := va_rep_ok hP hD is his hnd hw1 hk1 hB
  have hw : r = r0 := hw
  subst hw
  exact k H1 locs ls hP2 hD2 hS hl
end HKR
