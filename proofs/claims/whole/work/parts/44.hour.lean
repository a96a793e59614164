/-! an hour -/
def RHrs (h : Nat) (hours : Int32) (st : Nat → Int32) : Prop := hours = nI h ∧ st 0 = nI h
def RBur (Bf : Nat → Nat) (burnt st : Nat → Int32) : Prop := ∀ k, k < 3 → ∃ b, b ≤ Bf k ∧ burnt k = nI b ∧ st (18 + k) = nI b
def RSwa (lying damp st : Nat → Int32) : Prop := ∀ m, m < 5 → (∃ w, w < 1024 ∧ lying m = nI w ∧ st (1 + m) = nI w) ∧ ∃ d, d ≤ 99 ∧ damp m = nI d ∧ st (6 + m) = nI d
def RTol (nc : Nat) (told st : Nat → Int32) : Prop := ∀ c, c < 4 → ∃ w, w < 1024 ∧ (nc ≤ c → w = 0) ∧ told c = nI w ∧ st (11 + c) = nI w
def RRic (nk : Nat) (heights lw lwet lheat st : Nat → Int32) : Prop := ∀ k, k < 3 → ∃ n, n ≤ 8 ∧ (nk ≤ k → n = 0) ∧ heights k = nI n ∧ st (15 + k) = nI n ∧ ∀ i, i < n → (∃ w, w < 1024 ∧ lw (8 * k + i) = nI w ∧ st (21 + (8 * k + i)) = nI w) ∧ (∃ d, d ≤ 99 ∧ lwet (8 * k + i) = nI d ∧ st (45 + (8 * k + i)) = nI d) ∧ ∃ t, t < 40 ∧ lheat (8 * k + i) = nI t ∧ st (69 + (8 * k + i)) = nI t
theorem RField_of {H h nc nk : Nat} {fv : jFV} {st : Nat → Int32} {Bf : Nat → Nat} (hh : h ≤ H) (hB : ∀ k, k < 3 → Bf k ≤ h) (a : RHrs h fv.2.2.2.2.2.2.2.2 st) (b : RBur Bf fv.2.2.2.2.1 st) (c : RSwa fv.1 fv.2.1 st) (d : RTol nc fv.2.2.1 st) (e : RRic nk fv.2.2.2.1 fv.2.2.2.2.2.1 fv.2.2.2.2.2.2.1 fv.2.2.2.2.2.2.2.1 st) : RField H nc nk fv st :=
  ⟨⟨h, hh, a.1, a.2, fun k hk => by obtain ⟨b1, b2, b3⟩ := b k hk; exact ⟨b1, Nat.le_trans b2 (hB k hk), b3⟩⟩, c, d, e⟩
theorem RField_to {H nc nk : Nat} {fv : jFV} {st : Nat → Int32} (r : RField H nc nk fv st) : ∃ h, h ≤ H ∧ RHrs h fv.2.2.2.2.2.2.2.2 st ∧ RBur (fun _ => h) fv.2.2.2.2.1 st ∧ RSwa fv.1 fv.2.1 st ∧ RTol nc fv.2.2.1 st ∧ RRic nk fv.2.2.2.1 fv.2.2.2.2.2.1 fv.2.2.2.2.2.2.1 fv.2.2.2.2.2.2.2.1 st := by
  obtain ⟨⟨h, a1, a2, a3, a4⟩, c, d, e⟩ := r
  exact ⟨h, a1, ⟨a2, a3⟩, a4, c, d, e⟩
theorem RHrs.fr {h : Nat} {hours : Int32} {st st2 : Nat → Int32} (r : RHrs h hours st) (e : st2 0 = st 0) : RHrs h hours st2 := ⟨r.1, e.trans r.2⟩
theorem RBur.fr {Bf : Nat → Nat} {burnt st st2 : Nat → Int32} (r : RBur Bf burnt st) (e : ∀ j, 18 ≤ j → j < 21 → st2 j = st j) : RBur Bf burnt st2 := fun k hk => by
  obtain ⟨b, h1, h2, h3⟩ := r k hk
  exact ⟨b, h1, h2, (e _ (by omega) (by omega)).trans h3⟩
theorem RSwa.fr {lying damp st st2 : Nat → Int32} (r : RSwa lying damp st) (e : ∀ j, 1 ≤ j → j < 11 → st2 j = st j) : RSwa lying damp st2 := fun m hm => by
  obtain ⟨⟨w, h1, h2, h3⟩, d, g1, g2, g3⟩ := r m hm
  exact ⟨⟨w, h1, h2, (e _ (by omega) (by omega)).trans h3⟩, d, g1, g2, (e _ (by omega) (by omega)).trans g3⟩
theorem RTol.fr {nc : Nat} {told st st2 : Nat → Int32} (r : RTol nc told st) (e : ∀ j, 11 ≤ j → j < 15 → st2 j = st j) : RTol nc told st2 := fun c hc => by
  obtain ⟨w, h0, h1, h2, h3⟩ := r c hc
  exact ⟨w, h0, h1, h2, (e _ (by omega) (by omega)).trans h3⟩
theorem RRic.fr {nk : Nat} {heights lw lwet lheat st st2 : Nat → Int32} (r : RRic nk heights lw lwet lheat st) (e : ∀ j, (15 ≤ j ∧ j < 18) ∨ 21 ≤ j → st2 j = st j) : RRic nk heights lw lwet lheat st2 := fun k hk => by
  obtain ⟨n, h0, h1, h2, h3, h4⟩ := r k hk
  refine ⟨n, h0, h1, h2, (e _ (by omega)).trans h3, fun i hi => ?_⟩
  obtain ⟨⟨w, a1, a2, a3⟩, ⟨d, b1, b2, b3⟩, t, c1, c2, c3⟩ := h4 i hi
  exact ⟨⟨w, a1, a2, (e _ (by omega)).trans a3⟩, ⟨d, b1, b2, (e _ (by omega)).trans b3⟩, t, c1, c2, (e _ (by omega)).trans c3⟩
theorem jn_neg {a b : Nat} (ha : a < 2 ^ 30) (hb : b < 2 ^ 30) : ((0 : Int32) < nI a - nI b ↔ b < a) ∧ (nI a - nI b ≤ 0 ↔ a ≤ b) := by
  have e := pk_sub_toInt ha hb
  constructor
  · rw [Int32.lt_iff_toInt_lt, e]
    show (0 : Int) < _ ↔ _
    omega
  · rw [Int32.le_iff_toInt_le, e]
    show _ ≤ (0 : Int) ↔ _
    omega
theorem jn_max0 {a b : Nat} (ha : a < 2 ^ 30) (hb : b < 2 ^ 30) : (if (0 : Int32) < nI a - nI b then nI a - nI b else (0 : Int32)) = nI (a - b) := by
  by_cases h : b < a
  · rw [if_pos ((jn_neg ha hb).1.mpr h), jn_sub (by omega)]
  · rw [if_neg (fun q => h ((jn_neg ha hb).1.mp q)), show a - b = 0 by omega]
    rfl
/-- the layers of a rick get hotter -/
theorem jf_heatLoop {N k n v : Nat} {heights burnt lwet lheat thatch st : Nat → Int32} {t d : Nat → Nat} (hN : 8 < N) (hk : k < 3) (hn : n ≤ 8) (hv : v ≤ 9) (e1 : heights k = nI n) (e2 : st (15 + k) = nI n) (eT : thatch k = nI v)
    (e3 : ∀ i, i < n → t i < 40 ∧ d i ≤ 99 ∧ lheat (8 * k + i) = nI (t i) ∧ st (69 + (8 * k + i)) = nI (t i) ∧ lwet (8 * k + i) = nI (d i) ∧ st (45 + (8 * k + i)) = nI (d i)) (kx1 : (Nat → Int32) → Option ((Nat → Int32) × (Nat → Int32) × (Nat → Int32))) (kx2 : (Nat → Int32) → Option (Nat → Int32)) :
    ∃ h2 st2 : Nat → Int32, (∀ i, i < n → h2 (8 * k + i) = nI (t i + (d i - v)) ∧ st2 (69 + (8 * k + i)) = nI (t i + (d i - v))) ∧ (∀ j, (∀ i, i < n → j ≠ 8 * k + i) → h2 j = lheat j) ∧ (∀ j, (∀ i, i < n → j ≠ 69 + (8 * k + i)) → st2 j = st j) ∧ jf_F_heatRick_2 N heights burnt lwet lheat (nI k) (nI v) (0 : Int32) kx1 = kx1 h2 ∧ jf_M_heat_2 N thatch st (nI k) (0 : Int32) kx2 = kx2 st2 := by
  unfold jf_F_heatRick_2 jf_M_heat_2
  have key := xloop_rel (σ1 := (Nat → Int32) × Int32) (σ2 := (Nat → Int32) × Int32) (fun (kh : ((Nat → Int32) × Int32) → Option ((Nat → Int32) × (Nat → Int32) × (Nat → Int32))) q => jf_F_heatRick_2B N heights burnt lwet q.1 (nI k) (nI v) q.2 kh kx1) (fun (kh : ((Nat → Int32) × Int32) → Option (Nat → Int32)) q => jf_M_heat_2B N thatch q.1 (nI k) q.2 kh kx2)
    (fun r q1 q2 => ∃ i : Nat, i + r = n ∧ q1.2 = nI i ∧ q2.2 = nI i ∧ (∀ j, j < i → q1.1 (8 * k + j) = nI (t j + (d j - v)) ∧ q2.1 (69 + (8 * k + j)) = nI (t j + (d j - v))) ∧ (∀ j, (∀ z, z < i → j ≠ 8 * k + z) → q1.1 j = lheat j) ∧ (∀ j, (∀ z, z < i → j ≠ 69 + (8 * k + z)) → q2.1 j = st j))
    (fun o1 o2 => ∃ h2 st2 : Nat → Int32, (∀ i, i < n → h2 (8 * k + i) = nI (t i + (d i - v)) ∧ st2 (69 + (8 * k + i)) = nI (t i + (d i - v))) ∧ (∀ j, (∀ i, i < n → j ≠ 8 * k + i) → h2 j = lheat j) ∧ (∀ j, (∀ i, i < n → j ≠ 69 + (8 * k + i)) → st2 j = st j) ∧ o1 = kx1 h2 ∧ o2 = kx2 st2) ?_ n N N (lheat, 0) (st, 0) (by omega) (by omega) ⟨0, by omega, rfl, rfl, fun j hj => by omega, fun j _ => rfl, fun j _ => rfl⟩
  · exact key
  · intro r q1 q2 ⟨i, hi, g1, g2, g3, g4, g5⟩
    have e2' : q2.1 (15 + k) = nI n := by rw [g5 _ (fun z hz => by omega)]; exact e2
    by_cases hr : r = 0
    · have hi : i = n := by omega
      subst hi
      refine Or.inr ⟨kx1 q1.1, kx2 q2.1, ⟨q1.1, q2.1, g3, g4, g5, rfl, rfl⟩, fun kh => ?_, fun kh => ?_⟩
      · unfold jf_F_heatRick_2B
        rw [jf_hei hk e1, jp_xb, g1, if_pos (nI_le (Nat.le_refl _) (by omega))]
      · unfold jf_M_heat_2B
        rw [jl15, nI_add, jp_xr (by omega) (by decide), nI_clamp (by omega), e2', g2, if_pos (nI_le (Nat.le_refl _) (by omega))]
    · obtain ⟨u1, u2, u3, u4, u5, u6⟩ := e3 i (by omega)
      have v3 : q1.1 (8 * k + i) = nI (t i) := by rw [g4 _ (fun z hz => by omega)]; exact u3
      have v4 : q2.1 (69 + (8 * k + i)) = nI (t i) := by rw [g5 _ (fun z hz => by omega)]; exact u4
      have v6 : q2.1 (45 + (8 * k + i)) = nI (d i) := by rw [g5 _ (fun z hz => by omega)]; exact u6
      refine Or.inl ⟨r - 1, (upd q1.1 (8 * k + i) (nI (t i + (d i - v))), nI (i + 1)), (upd q2.1 (69 + (8 * k + i)) (nI (t i + (d i - v))), nI (i + 1)), by omega, ⟨i + 1, by omega, rfl, rfl, fun j hj => ?_, fun j hj => ?_, fun j hj => ?_⟩, fun kh => ?_, fun kh => ?_⟩
      · show upd _ _ _ _ = _ ∧ upd _ _ _ _ = _
        by_cases hj2 : j = i
        · subst hj2
          exact ⟨upd_same, upd_same⟩
        · rw [upd_ne (by omega), upd_ne (by omega)]
          exact g3 j (by omega)
      · show upd _ _ _ _ = _
        rw [upd_ne (hj i (by omega))]
        exact g4 j (fun z hz => hj z (by omega))
      · show upd _ _ _ _ = _
        rw [upd_ne (hj i (by omega))]
        exact g5 j (fun z hz => hj z (by omega))
      · unfold jf_F_heatRick_2B
        rw [jf_hei hk e1, jp_xb, g1, if_neg (nI_ge (by omega) (by omega)), jf_wet hk (by omega), jp_xb, u5, jn_max0 (by omega) (by omega), jp_xl, jf_hea hk (by omega), jp_xb, v3, nI_add, jl8, pk_mul, nI_add, jr_put (by omega) (by decide), jp_xb, jp_xl, nI_1, Nat.mul_comm k 8]
      · unfold jf_M_heat_2B jf_M_heat_61
        rw [jl15, nI_add, jp_xr (by omega) (by decide), nI_clamp (by omega), e2', g2, if_neg (nI_ge (by omega) (by omega)), jl45, jl8, pk_mul, nI_add, nI_add, jp_xr (by omega) (by decide), jp_xr hk (by decide), nI_clamp (by omega), Nat.add_assoc 45, v6, nI_clamp (by omega), eT, jp_xl, jl69, nI_add, nI_add, jp_xr (by omega) (by decide), jp_xr (by omega) (by decide), nI_clamp (by omega), Nat.add_assoc 69, v4]
        by_cases hc : d i ≤ v
        · rw [if_pos ((jn_neg (by omega) (by omega)).2.mpr hc), jl0, nI_add, jp_xl, jp_xl, nI_1, show d i - v = 0 by omega]
        · rw [if_neg (fun q => hc ((jn_neg (by omega) (by omega)).2.mp q)), jn_sub (by omega), nI_add, jp_xl, jp_xl, nI_1, jp_xr (by omega) (by decide)]

/-- a rick, an hour later: hotter, or burnt -/
theorem jf_heat1 {N k v nk : Nat} {Bf : Nat → Nat} {heights burnt lw lwet lheat thatch st : Nat → Int32} (hN : 8 < N) (hk : k < 3) (hv : v ≤ 9) (eT : thatch k = nI v) (hB : Bf k < 2 ^ 20) (b : RBur Bf burnt st) (e : RRic nk heights lw lwet lheat st) :
    ∃ (q : (Nat → Int32) × (Nat → Int32) × (Nat → Int32)) (st2 : Nat → Int32), jf_F_heatRick N heights burnt lwet lheat (nI k) (nI v) = some q ∧ jf_M_heat N thatch st (nI k) = some st2 ∧ RBur (fun j => if j = k then Bf k + 1 else Bf j) q.2.1 st2 ∧ RRic nk q.1 lw lwet q.2.2 st2 ∧ (∀ j, j < 15 → st2 j = st j) ∧ ∀ j, j < 3 → ∀ z, z < 2 ^ 20 → st (18 + j) = nI z → st2 (18 + j) = nI z ∨ st2 (18 + j) = nI (z + 1) := by
  obtain ⟨n, n1, n2, n3, n4, n5⟩ := e k hk
  have hx : ∀ i, ∃ td : Nat × Nat, i < n → td.1 < 40 ∧ td.2 ≤ 99 ∧ lheat (8 * k + i) = nI td.1 ∧ st (69 + (8 * k + i)) = nI td.1 ∧ lwet (8 * k + i) = nI td.2 ∧ st (45 + (8 * k + i)) = nI td.2 := by
    intro i
    by_cases hi : i < n
    · obtain ⟨-, ⟨d, d1, d2, d3⟩, t, t1, t2, t3⟩ := n5 i hi
      exact ⟨(t, d), fun _ => ⟨t1, d1, t2, t3, d2, d3⟩⟩
    · exact ⟨(0, 0), fun z => absurd z hi⟩
  obtain ⟨td, htd⟩ := Classical.axiomOfChoice hx
  obtain ⟨h2, s2, g1, g2, g3, g4, g5⟩ := jf_heatLoop (t := fun i => (td i).1) (d := fun i => (td i).2) (burnt := burnt) hN hk n1 hv n3 n4 eT htd (fun q1 => jf_F_heatRick_53 N heights burnt lwet q1 (nI k)) (fun q1 => jf_M_heat_69 N thatch q1 (nI k))
  have s15 : ∀ j, j < 69 → s2 j = st j := fun j hj => g3 j (fun i hi => by omega)
  obtain ⟨T, t1, t2, t3, t4, t5⟩ := jf_hot (heights := heights) (heat := h2) (st := s2) (t := fun i => (td i).1 + ((td i).2 - v)) hN hk n1 n3 (by rw [s15 _ (by omega)]; exact n4) (fun i hi => ⟨(g1 i hi).1, (g1 i hi).2, by have := (htd i hi).1; have := (htd i hi).2.1; show _ + _ < 2 ^ 20; omega⟩)
  obtain ⟨bb, b1, b2, b3⟩ := b k hk
  have other : ∀ j i, j < 3 → j ≠ k → i < 8 → h2 (8 * j + i) = lheat (8 * j + i) ∧ s2 (69 + (8 * j + i)) = st (69 + (8 * j + i)) := fun j i hj hne hi => ⟨g2 _ (fun z hz => by omega), g3 _ (fun z hz => by omega)⟩
  unfold jf_F_heatRick jf_M_heat
  rw [g4, g5]
  unfold jf_F_heatRick_53 jf_M_heat_69
  by_cases hT : T < 40
  · refine ⟨(heights, burnt, h2), s2, ?_, ?_, ?_, ?_, fun j hj => s15 j (by omega), fun j hj z _ hz => Or.inl ((s15 _ (by omega)).trans hz)⟩
    · rw [t4, jp_xb, jl40, if_pos (nI_lt hT (by decide))]
    · rw [t5, jp_xb, jl40, if_pos (nI_lt hT (by decide))]
    · intro j hj
      obtain ⟨c, c1, c2, c3⟩ := b j hj
      refine ⟨c, ?_, c2, (s15 _ (by omega)).trans c3⟩
      show c ≤ if j = k then Bf k + 1 else Bf j
      split
      · rename_i q; subst q; omega
      · exact c1
    · intro j hj
      obtain ⟨m, m1, m2, m3, m4, m5⟩ := e j hj
      refine ⟨m, m1, m2, m3, (s15 _ (by omega)).trans m4, fun i hi => ?_⟩
      obtain ⟨⟨w, w1, w2, w3⟩, ⟨d, d1, d2, d3⟩, t, x1, x2, x3⟩ := m5 i hi
      refine ⟨⟨w, w1, w2, (s15 _ (by omega)).trans w3⟩, ⟨d, d1, d2, (s15 _ (by omega)).trans d3⟩, ?_⟩
      by_cases hjk : j = k
      · subst hjk
        have hmn : m = n := (nI_eq (by omega) (by omega)).mp (m3.symm.trans n3)
        subst hmn
        exact ⟨(td i).1 + ((td i).2 - v), Nat.lt_of_le_of_lt (t2 i hi) hT, (g1 i hi).1, (g1 i hi).2⟩
      · obtain ⟨o1, o2⟩ := other j i hj hjk (by omega)
        exact ⟨t, x1, o1.trans x2, o2.trans x3⟩
  · refine ⟨(upd heights k (nI 0), upd burnt k (nI (bb + 1)), h2), upd (upd s2 (15 + k) (nI 0)) (18 + k) (nI (bb + 1)), ?_, ?_, ?_, ?_, fun j hj => ?_, fun j hj z hz1 hz => ?_⟩
    · rw [t4, jp_xb, jl40, if_neg (fun q => hT ((nI_ltI (by omega) (by decide)).mp q)), jl0, jr_put hk (by decide), jp_xb, jr_at hk (by decide), jp_xb, b2, nI_1, jr_put hk (by decide), jp_xb]
    · have z1 : upd s2 (15 + k) (nI 0) (18 + k) = nI bb := by
        rw [upd_ne (by omega), s15 _ (by omega)]
        exact b3
      rw [t5, jp_xb, jl40, if_neg (fun q => hT ((nI_ltI (by omega) (by decide)).mp q)), jl15, nI_add, jp_xr (by omega) (by decide), nI_clamp (by omega), jp_xl, jl18, nI_add, jp_xr (by omega) (by decide), jp_xr (by omega) (by decide), nI_clamp (by omega), jl0, z1, nI_1, jp_xl]
    · intro j hj
      show ∃ c, c ≤ (if j = k then Bf k + 1 else Bf j) ∧ upd burnt k (nI (bb + 1)) j = nI c ∧ upd (upd s2 (15 + k) (nI 0)) (18 + k) (nI (bb + 1)) (18 + j) = nI c
      by_cases hjk : j = k
      · subst hjk
        rw [upd_same, upd_same, if_pos rfl]
        exact ⟨bb + 1, by omega, rfl, rfl⟩
      · obtain ⟨c, c1, c2, c3⟩ := b j hj
        rw [upd_ne hjk, upd_ne (by omega), upd_ne (by omega), if_neg hjk, s15 _ (by omega)]
        exact ⟨c, c1, c2, c3⟩
    · intro j hj
      obtain ⟨m, m1, m2, m3, m4, m5⟩ := e j hj
      by_cases hjk : j = k
      · subst hjk
        refine ⟨0, by omega, fun _ => rfl, upd_same, ?_, fun i hi => by omega⟩
        rw [upd_ne (by omega), upd_same]
      · refine ⟨m, m1, m2, (upd_ne hjk).trans m3, ?_, fun i hi => ?_⟩
        · rw [upd_ne (by omega), upd_ne (by omega), s15 _ (by omega)]
          exact m4
        · obtain ⟨⟨w, w1, w2, w3⟩, ⟨d, d1, d2, d3⟩, t, x1, x2, x3⟩ := m5 i hi
          obtain ⟨o1, o2⟩ := other j i hj hjk (by omega)
          have f : ∀ z, 21 ≤ z → upd (upd s2 (15 + k) (nI 0)) (18 + k) (nI (bb + 1)) z = s2 z := fun z hz => by rw [upd_ne (by omega), upd_ne (by omega)]
          exact ⟨⟨w, w1, w2, by rw [f _ (by omega), s15 _ (by omega)]; exact w3⟩, ⟨d, d1, d2, by rw [f _ (by omega), s15 _ (by omega)]; exact d3⟩, t, x1, o1.trans x2, by rw [f _ (by omega)]; exact o2.trans x3⟩
    · rw [upd_ne (by omega), upd_ne (by omega)]
      exact s15 j (by omega)
    · by_cases hjk : j = k
      · subst hjk
        rw [upd_same, show bb = z from (nI_eq (by omega) (by omega)).mp (b3.symm.trans hz)]
        exact Or.inr rfl
      · rw [upd_ne (by omega), upd_ne (by omega), s15 _ (by omega)]
        exact Or.inl hz
