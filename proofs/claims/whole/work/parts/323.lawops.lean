set_option maxHeartbeats 16000000 in
set_option maxRecDepth 100000 in
theorem jlw_15 {p : Program} {l : Launch} {e : Env} {s : State} {m : MethodId} {args : Array Value} {below : List Frame} {meth : Method} {c : Code} {A : Nat → Prop} {Q : State → Prop} {D : va_G} {cI cF : ClassId} (hC : hk_ok p s m args meth c A 4 D cI cF "HayTalkLaw" code) {b L : Nat} {xs : Nat → Int32} (hX : va_X b L xs s s.heap) (hbl : b < s.heap.size) (hbA : ¬ A b) (hL : L ≤ 3072) (N : Nat) (u : Nat → Nat → Nat) (a : Nat → Nat) (x : jX) (y : jM) (i : Nat) (hi : i + 6 ≤ L) {o1 : Int32 × jX} {o2 : Int32 × jM} (h1 : jh_15 N x (xs (i + 1)) = some o1) (h2 : jm_15 N y (xs (i + 1)) = some o2) (he : o1.1 = o2.1) (k : ∀ u2 : Nat → Nat → Nat, u2 0 0 = u 0 0 → hk_W p l e room_1 s m args below meth c A Q 4 D 151 3341 (wX cI cF u2 a o1.2 o2.2) 1028 [(0, .ref b), (1, .ref (u 0 0)), (2, .ref (a 0)), (3, .int (nI i))] []) : hk_W p l e room_1 s m args below meth c A Q 4 D 151 3341 (wX cI cF u a x y) 583 [(0, .ref b), (1, .ref (u 0 0)), (2, .ref (a 0)), (3, .int (nI i))] [] := by
  refine hk_aload_n hC jd_law_583 1 rfl ?_
  refine hk_aload_n hC jd_law_584 0 rfl ?_
  refine hk_iload_n hC jd_law_585 3 rfl ?_
  refine hk_iconst (v := nI 1) hC jd_law_586 (by decide) ?_
  refine hk_iadd hC jd_law_587 ?_
  refine hk_topi (jn_add i 1) ?_
  refine hk_sld hC hX hbl hbA (n := i + 1) (by omega) hL jd_law_588 ?_
  obtain ⟨q, hq, h1⟩ := xb_go h1
  refine hk_callVBi hC (as := [.int (xs (i + 1))]) (jc_H_burns l D cI cF N (u 0) (u 1) (u 2) (u 3) (u 4) (u 5) (u 6) (u 7) (u 8) x.2.2.1.1 x.2.2.1.2.1 x.2.2.1.2.2.1 x.2.2.1.2.2.2.1 x.2.2.1.2.2.2.2.1 x.2.2.1.2.2.2.2.2.1 x.2.2.1.2.2.2.2.2.2.1 x.2.2.1.2.2.2.2.2.2.2.1 x.2.2.1.2.2.2.2.2.2.2.2 x.2.2.2.1.1 x.2.2.2.1.2.1 x.2.2.2.1.2.2.1 x.2.2.2.1.2.2.2.1 x.2.2.2.1.2.2.2.2.1 x.2.2.2.1.2.2.2.2.2.1 x.2.2.2.1.2.2.2.2.2.2.1 x.2.2.2.1.2.2.2.2.2.2.2.1 x.2.2.2.1.2.2.2.2.2.2.2.2 x.2.2.2.2.2.2.2.1.1 x.2.2.2.2.2.2.2.1.2.1 x.2.2.2.2.2.2.2.1.2.2.1 x.2.2.2.2.2.2.2.1.2.2.2.1 x.2.2.2.2.2.2.2.1.2.2.2.2.1 x.2.2.2.2.2.2.2.1.2.2.2.2.2.1 x.2.2.2.2.2.2.2.1.2.2.2.2.2.2.1 x.2.2.2.2.2.2.2.1.2.2.2.2.2.2.2.1 x.2.2.2.2.2.2.2.1.2.2.2.2.2.2.2.2 (xs (i + 1)) hq) jl_H_burns rfl (List.mem_append_left _ List.mem_cons_self) jq_513 jq_514 jq_515 rfl ⟨by decide, by decide⟩ (pm_10_0_2_3_5 _ _ _ _ _ _ _ _ _ _) (ws2 := (wX cI cF u a (x.1, x.2.1, x.2.2.1, (q.2.1, q.2.2.1, q.2.2.2.1, q.2.2.2.2.1, q.2.2.2.2.2.1, q.2.2.2.2.2.2.1, q.2.2.2.2.2.2.2.1, q.2.2.2.2.2.2.2.2.1, q.2.2.2.2.2.2.2.2.2), x.2.2.2.2.1, x.2.2.2.2.2.1, x.2.2.2.2.2.2.1, x.2.2.2.2.2.2.2.1, x.2.2.2.2.2.2.2.2.1, x.2.2.2.2.2.2.2.2.2.1, x.2.2.2.2.2.2.2.2.2.2.1, x.2.2.2.2.2.2.2.2.2.2.2.1, x.2.2.2.2.2.2.2.2.2.2.2.2.1, x.2.2.2.2.2.2.2.2.2.2.2.2.2.1, x.2.2.2.2.2.2.2.2.2.2.2.2.2.2) y)) (pm_10_0_2_3_5 _ _ _ _ _ _ _ _ _ _) rfl rfl (Nat.le_of_ble_eq_true rfl) ⟨Nat.le_of_ble_eq_true rfl, Nat.le_of_ble_eq_true rfl⟩ jd_law_589 ?_
  refine hk_aload_n hC jd_law_592 2 rfl ?_
  refine hk_aload_n hC jd_law_593 0 rfl ?_
  refine hk_iload_n hC jd_law_594 3 rfl ?_
  refine hk_iconst (v := nI 1) hC jd_law_595 (by decide) ?_
  refine hk_iadd hC jd_law_596 ?_
  refine hk_topi (jn_add i 1) ?_
  refine hk_sld hC hX hbl hbA (n := i + 1) (by omega) hL jd_law_597 ?_
  obtain ⟨q2, hq2, h2⟩ := xb_go h2
  refine hk_callVBi hC (as := [.int (xs (i + 1))]) (jc_M_burns l D cI cF N a y.1 y.2.1 y.2.2.1 y.2.2.2.1 y.2.2.2.2.1 y.2.2.2.2.2.1 y.2.2.2.2.2.2.1 y.2.2.2.2.2.2.2.1 y.2.2.2.2.2.2.2.2.1 y.2.2.2.2.2.2.2.2.2.1 y.2.2.2.2.2.2.2.2.2.2.1 y.2.2.2.2.2.2.2.2.2.2.2.1 y.2.2.2.2.2.2.2.2.2.2.2.2.1 y.2.2.2.2.2.2.2.2.2.2.2.2.2.1 y.2.2.2.2.2.2.2.2.2.2.2.2.2.2.1 y.2.2.2.2.2.2.2.2.2.2.2.2.2.2.2.1 y.2.2.2.2.2.2.2.2.2.2.2.2.2.2.2.2.1 y.2.2.2.2.2.2.2.2.2.2.2.2.2.2.2.2.2.1 y.2.2.2.2.2.2.2.2.2.2.2.2.2.2.2.2.2.2.1 y.2.2.2.2.2.2.2.2.2.2.2.2.2.2.2.2.2.2.2.1 y.2.2.2.2.2.2.2.2.2.2.2.2.2.2.2.2.2.2.2.2.1 y.2.2.2.2.2.2.2.2.2.2.2.2.2.2.2.2.2.2.2.2.2.1 y.2.2.2.2.2.2.2.2.2.2.2.2.2.2.2.2.2.2.2.2.2.2.1 y.2.2.2.2.2.2.2.2.2.2.2.2.2.2.2.2.2.2.2.2.2.2.2.1 y.2.2.2.2.2.2.2.2.2.2.2.2.2.2.2.2.2.2.2.2.2.2.2.2.1 y.2.2.2.2.2.2.2.2.2.2.2.2.2.2.2.2.2.2.2.2.2.2.2.2.2.1 y.2.2.2.2.2.2.2.2.2.2.2.2.2.2.2.2.2.2.2.2.2.2.2.2.2.2.1 y.2.2.2.2.2.2.2.2.2.2.2.2.2.2.2.2.2.2.2.2.2.2.2.2.2.2.2.1 y.2.2.2.2.2.2.2.2.2.2.2.2.2.2.2.2.2.2.2.2.2.2.2.2.2.2.2.2 (xs (i + 1)) hq2) jl_M_burns rfl (List.mem_append_right _ (List.mem_append_right _ (List.mem_append_right _ (List.mem_append_right _ (List.mem_append_right _ (List.mem_append_right _ (List.mem_append_right _ (List.mem_append_right _ (List.mem_append_right _ (List.mem_cons_self)))))))))) jq_903 jq_904 jq_905 rfl ⟨by decide, by decide⟩ (pm_10_9 _ _ _ _ _ _ _ _ _ _) (ws2 := (wX cI cF u a (x.1, x.2.1, x.2.2.1, (q.2.1, q.2.2.1, q.2.2.2.1, q.2.2.2.2.1, q.2.2.2.2.2.1, q.2.2.2.2.2.2.1, q.2.2.2.2.2.2.2.1, q.2.2.2.2.2.2.2.2.1, q.2.2.2.2.2.2.2.2.2), x.2.2.2.2.1, x.2.2.2.2.2.1, x.2.2.2.2.2.2.1, x.2.2.2.2.2.2.2.1, x.2.2.2.2.2.2.2.2.1, x.2.2.2.2.2.2.2.2.2.1, x.2.2.2.2.2.2.2.2.2.2.1, x.2.2.2.2.2.2.2.2.2.2.2.1, x.2.2.2.2.2.2.2.2.2.2.2.2.1, x.2.2.2.2.2.2.2.2.2.2.2.2.2.1, x.2.2.2.2.2.2.2.2.2.2.2.2.2.2) (y.1, y.2.1, y.2.2.1, y.2.2.2.1, y.2.2.2.2.1, y.2.2.2.2.2.1, y.2.2.2.2.2.2.1, y.2.2.2.2.2.2.2.1, y.2.2.2.2.2.2.2.2.1, y.2.2.2.2.2.2.2.2.2.1, y.2.2.2.2.2.2.2.2.2.2.1, y.2.2.2.2.2.2.2.2.2.2.2.1, y.2.2.2.2.2.2.2.2.2.2.2.2.1, y.2.2.2.2.2.2.2.2.2.2.2.2.2.1, y.2.2.2.2.2.2.2.2.2.2.2.2.2.2.1, y.2.2.2.2.2.2.2.2.2.2.2.2.2.2.2.1, y.2.2.2.2.2.2.2.2.2.2.2.2.2.2.2.2.1, y.2.2.2.2.2.2.2.2.2.2.2.2.2.2.2.2.2.1, y.2.2.2.2.2.2.2.2.2.2.2.2.2.2.2.2.2.2.1, y.2.2.2.2.2.2.2.2.2.2.2.2.2.2.2.2.2.2.2.1, q2.2.1, y.2.2.2.2.2.2.2.2.2.2.2.2.2.2.2.2.2.2.2.2.2.1, y.2.2.2.2.2.2.2.2.2.2.2.2.2.2.2.2.2.2.2.2.2.2.1, q2.2.2, y.2.2.2.2.2.2.2.2.2.2.2.2.2.2.2.2.2.2.2.2.2.2.2.2.1, y.2.2.2.2.2.2.2.2.2.2.2.2.2.2.2.2.2.2.2.2.2.2.2.2.2.1, y.2.2.2.2.2.2.2.2.2.2.2.2.2.2.2.2.2.2.2.2.2.2.2.2.2.2.1, y.2.2.2.2.2.2.2.2.2.2.2.2.2.2.2.2.2.2.2.2.2.2.2.2.2.2.2.1, y.2.2.2.2.2.2.2.2.2.2.2.2.2.2.2.2.2.2.2.2.2.2.2.2.2.2.2.2))) (pm_10_9 _ _ _ _ _ _ _ _ _ _) rfl rfl (Nat.le_of_ble_eq_true rfl) ⟨Nat.le_of_ble_eq_true rfl, Nat.le_of_ble_eq_true rfl⟩ jd_law_598 ?_
  obtain rfl := Option.some.inj h1
  obtain rfl := Option.some.inj h2
  exact hk_icmp_eq (tgt := 1028) hC jd_law_601 (by decide) (fun _ => k u rfl) (fun cc => absurd he cc)
set_option maxHeartbeats 16000000 in
set_option maxRecDepth 100000 in
theorem jlw_16 {p : Program} {l : Launch} {e : Env} {s : State} {m : MethodId} {args : Array Value} {below : List Frame} {meth : Method} {c : Code} {A : Nat → Prop} {Q : State → Prop} {D : va_G} {cI cF : ClassId} (hC : hk_ok p s m args meth c A 4 D cI cF "HayTalkLaw" code) {b L : Nat} {xs : Nat → Int32} (hX : va_X b L xs s s.heap) (hbl : b < s.heap.size) (hbA : ¬ A b) (hL : L ≤ 3072) (N : Nat) (u : Nat → Nat → Nat) (a : Nat → Nat) (x : jX) (y : jM) (i : Nat) (hi : i + 6 ≤ L) {o1 : Int32 × jX} {o2 : Int32 × jM} (h1 : jh_16 N x (xs (i + 1)) (xs (i + 2)) (xs (i + 3)) = some o1) (h2 : jm_16 N y (xs (i + 1)) (xs (i + 2)) (xs (i + 3)) = some o2) (he : o1.1 = o2.1) (k : ∀ u2 : Nat → Nat → Nat, u2 0 0 = u 0 0 → hk_W p l e room_1 s m args below meth c A Q 4 D 151 3341 (wX cI cF u2 a o1.2 o2.2) 1028 [(0, .ref b), (1, .ref (u 0 0)), (2, .ref (a 0)), (3, .int (nI i))] []) : hk_W p l e room_1 s m args below meth c A Q 4 D 151 3341 (wX cI cF u a x y) 606 [(0, .ref b), (1, .ref (u 0 0)), (2, .ref (a 0)), (3, .int (nI i))] [] := by
  refine hk_aload_n hC jd_law_606 1 rfl ?_
  refine hk_aload_n hC jd_law_607 0 rfl ?_
  refine hk_iload_n hC jd_law_608 3 rfl ?_
  refine hk_iconst (v := nI 1) hC jd_law_609 (by decide) ?_
  refine hk_iadd hC jd_law_610 ?_
  refine hk_topi (jn_add i 1) ?_
  refine hk_sld hC hX hbl hbA (n := i + 1) (by omega) hL jd_law_611 ?_
  refine hk_aload_n hC jd_law_612 0 rfl ?_
  refine hk_iload_n hC jd_law_613 3 rfl ?_
  refine hk_iconst (v := nI 2) hC jd_law_614 (by decide) ?_
  refine hk_iadd hC jd_law_615 ?_
  refine hk_topi (jn_add i 2) ?_
  refine hk_sld hC hX hbl hbA (n := i + 2) (by omega) hL jd_law_616 ?_
  refine hk_aload_n hC jd_law_617 0 rfl ?_
  refine hk_iload_n hC jd_law_618 3 rfl ?_
  refine hk_iconst (v := nI 3) hC jd_law_619 (by decide) ?_
  refine hk_iadd hC jd_law_620 ?_
  refine hk_topi (jn_add i 3) ?_
  refine hk_sld hC hX hbl hbA (n := i + 3) (by omega) hL jd_law_621 ?_
  obtain ⟨q, hq, h1⟩ := xb_go h1
  refine hk_callVBi hC (as := [.int (xs (i + 1)), .int (xs (i + 2)), .int (xs (i + 3))]) (jc_H_tell l D cI cF N (u 0) (u 1) (u 2) (u 3) (u 4) (u 5) (u 6) (u 7) (u 8) x.2.2.1.1 x.2.2.1.2.1 x.2.2.1.2.2.1 x.2.2.1.2.2.2.1 x.2.2.1.2.2.2.2.1 x.2.2.1.2.2.2.2.2.1 x.2.2.1.2.2.2.2.2.2.1 x.2.2.1.2.2.2.2.2.2.2.1 x.2.2.1.2.2.2.2.2.2.2.2 x.2.2.2.2.2.2.2.1.1 x.2.2.2.2.2.2.2.1.2.1 x.2.2.2.2.2.2.2.1.2.2.1 x.2.2.2.2.2.2.2.1.2.2.2.1 x.2.2.2.2.2.2.2.1.2.2.2.2.1 x.2.2.2.2.2.2.2.1.2.2.2.2.2.1 x.2.2.2.2.2.2.2.1.2.2.2.2.2.2.1 x.2.2.2.2.2.2.2.1.2.2.2.2.2.2.2.1 x.2.2.2.2.2.2.2.1.2.2.2.2.2.2.2.2 (xs (i + 1)) (xs (i + 2)) (xs (i + 3)) hq) jl_H_tell rfl (List.mem_append_left _ List.mem_cons_self) jq_518 jq_519 jq_520 rfl ⟨by decide, by decide⟩ (pm_10_0_2_5 _ _ _ _ _ _ _ _ _ _) (ws2 := (wX cI cF u a (x.1, x.2.1, x.2.2.1, x.2.2.2.1, x.2.2.2.2.1, x.2.2.2.2.2.1, x.2.2.2.2.2.2.1, x.2.2.2.2.2.2.2.1, x.2.2.2.2.2.2.2.2.1, x.2.2.2.2.2.2.2.2.2.1, x.2.2.2.2.2.2.2.2.2.2.1, x.2.2.2.2.2.2.2.2.2.2.2.1, x.2.2.2.2.2.2.2.2.2.2.2.2.1, x.2.2.2.2.2.2.2.2.2.2.2.2.2.1, x.2.2.2.2.2.2.2.2.2.2.2.2.2.2) y)) (pm_10_0_2_5 _ _ _ _ _ _ _ _ _ _) rfl rfl (Nat.le_of_ble_eq_true rfl) ⟨Nat.le_of_ble_eq_true rfl, Nat.le_of_ble_eq_true rfl⟩ jd_law_622 ?_
  refine hk_aload_n hC jd_law_625 2 rfl ?_
  refine hk_aload_n hC jd_law_626 0 rfl ?_
  refine hk_iload_n hC jd_law_627 3 rfl ?_
  refine hk_iconst (v := nI 1) hC jd_law_628 (by decide) ?_
  refine hk_iadd hC jd_law_629 ?_
  refine hk_topi (jn_add i 1) ?_
  refine hk_sld hC hX hbl hbA (n := i + 1) (by omega) hL jd_law_630 ?_
  refine hk_aload_n hC jd_law_631 0 rfl ?_
  refine hk_iload_n hC jd_law_632 3 rfl ?_
  refine hk_iconst (v := nI 2) hC jd_law_633 (by decide) ?_
  refine hk_iadd hC jd_law_634 ?_
  refine hk_topi (jn_add i 2) ?_
  refine hk_sld hC hX hbl hbA (n := i + 2) (by omega) hL jd_law_635 ?_
  refine hk_aload_n hC jd_law_636 0 rfl ?_
  refine hk_iload_n hC jd_law_637 3 rfl ?_
  refine hk_iconst (v := nI 3) hC jd_law_638 (by decide) ?_
  refine hk_iadd hC jd_law_639 ?_
  refine hk_topi (jn_add i 3) ?_
  refine hk_sld hC hX hbl hbA (n := i + 3) (by omega) hL jd_law_640 ?_
  obtain ⟨q2, hq2, h2⟩ := xb_go h2
  refine hk_callVBi hC (as := [.int (xs (i + 1)), .int (xs (i + 2)), .int (xs (i + 3))]) (jc_M_tell l D cI cF N a y.1 y.2.1 y.2.2.1 y.2.2.2.1 y.2.2.2.2.1 y.2.2.2.2.2.1 y.2.2.2.2.2.2.1 y.2.2.2.2.2.2.2.1 y.2.2.2.2.2.2.2.2.1 y.2.2.2.2.2.2.2.2.2.1 y.2.2.2.2.2.2.2.2.2.2.1 y.2.2.2.2.2.2.2.2.2.2.2.1 y.2.2.2.2.2.2.2.2.2.2.2.2.1 y.2.2.2.2.2.2.2.2.2.2.2.2.2.1 y.2.2.2.2.2.2.2.2.2.2.2.2.2.2.1 y.2.2.2.2.2.2.2.2.2.2.2.2.2.2.2.1 y.2.2.2.2.2.2.2.2.2.2.2.2.2.2.2.2.1 y.2.2.2.2.2.2.2.2.2.2.2.2.2.2.2.2.2.1 y.2.2.2.2.2.2.2.2.2.2.2.2.2.2.2.2.2.2.1 y.2.2.2.2.2.2.2.2.2.2.2.2.2.2.2.2.2.2.2.1 y.2.2.2.2.2.2.2.2.2.2.2.2.2.2.2.2.2.2.2.2.1 y.2.2.2.2.2.2.2.2.2.2.2.2.2.2.2.2.2.2.2.2.2.1 y.2.2.2.2.2.2.2.2.2.2.2.2.2.2.2.2.2.2.2.2.2.2.1 y.2.2.2.2.2.2.2.2.2.2.2.2.2.2.2.2.2.2.2.2.2.2.2.1 y.2.2.2.2.2.2.2.2.2.2.2.2.2.2.2.2.2.2.2.2.2.2.2.2.1 y.2.2.2.2.2.2.2.2.2.2.2.2.2.2.2.2.2.2.2.2.2.2.2.2.2.1 y.2.2.2.2.2.2.2.2.2.2.2.2.2.2.2.2.2.2.2.2.2.2.2.2.2.2.1 y.2.2.2.2.2.2.2.2.2.2.2.2.2.2.2.2.2.2.2.2.2.2.2.2.2.2.2.1 y.2.2.2.2.2.2.2.2.2.2.2.2.2.2.2.2.2.2.2.2.2.2.2.2.2.2.2.2 (xs (i + 1)) (xs (i + 2)) (xs (i + 3)) hq2) jl_M_tell rfl (List.mem_append_right _ (List.mem_append_right _ (List.mem_append_right _ (List.mem_append_right _ (List.mem_append_right _ (List.mem_append_right _ (List.mem_append_right _ (List.mem_append_right _ (List.mem_append_right _ (List.mem_cons_self)))))))))) jq_907 jq_908 jq_909 rfl ⟨by decide, by decide⟩ (pm_10_9 _ _ _ _ _ _ _ _ _ _) (ws2 := (wX cI cF u a (x.1, x.2.1, x.2.2.1, x.2.2.2.1, x.2.2.2.2.1, x.2.2.2.2.2.1, x.2.2.2.2.2.2.1, x.2.2.2.2.2.2.2.1, x.2.2.2.2.2.2.2.2.1, x.2.2.2.2.2.2.2.2.2.1, x.2.2.2.2.2.2.2.2.2.2.1, x.2.2.2.2.2.2.2.2.2.2.2.1, x.2.2.2.2.2.2.2.2.2.2.2.2.1, x.2.2.2.2.2.2.2.2.2.2.2.2.2.1, x.2.2.2.2.2.2.2.2.2.2.2.2.2.2) (y.1, y.2.1, y.2.2.1, y.2.2.2.1, y.2.2.2.2.1, y.2.2.2.2.2.1, y.2.2.2.2.2.2.1, y.2.2.2.2.2.2.2.1, y.2.2.2.2.2.2.2.2.1, y.2.2.2.2.2.2.2.2.2.1, y.2.2.2.2.2.2.2.2.2.2.1, y.2.2.2.2.2.2.2.2.2.2.2.1, y.2.2.2.2.2.2.2.2.2.2.2.2.1, y.2.2.2.2.2.2.2.2.2.2.2.2.2.1, y.2.2.2.2.2.2.2.2.2.2.2.2.2.2.1, y.2.2.2.2.2.2.2.2.2.2.2.2.2.2.2.1, y.2.2.2.2.2.2.2.2.2.2.2.2.2.2.2.2.1, y.2.2.2.2.2.2.2.2.2.2.2.2.2.2.2.2.2.1, y.2.2.2.2.2.2.2.2.2.2.2.2.2.2.2.2.2.2.1, y.2.2.2.2.2.2.2.2.2.2.2.2.2.2.2.2.2.2.2.1, y.2.2.2.2.2.2.2.2.2.2.2.2.2.2.2.2.2.2.2.2.1, y.2.2.2.2.2.2.2.2.2.2.2.2.2.2.2.2.2.2.2.2.2.1, y.2.2.2.2.2.2.2.2.2.2.2.2.2.2.2.2.2.2.2.2.2.2.1, y.2.2.2.2.2.2.2.2.2.2.2.2.2.2.2.2.2.2.2.2.2.2.2.1, y.2.2.2.2.2.2.2.2.2.2.2.2.2.2.2.2.2.2.2.2.2.2.2.2.1, y.2.2.2.2.2.2.2.2.2.2.2.2.2.2.2.2.2.2.2.2.2.2.2.2.2.1, y.2.2.2.2.2.2.2.2.2.2.2.2.2.2.2.2.2.2.2.2.2.2.2.2.2.2.1, y.2.2.2.2.2.2.2.2.2.2.2.2.2.2.2.2.2.2.2.2.2.2.2.2.2.2.2.1, y.2.2.2.2.2.2.2.2.2.2.2.2.2.2.2.2.2.2.2.2.2.2.2.2.2.2.2.2))) (pm_10_9 _ _ _ _ _ _ _ _ _ _) rfl rfl (Nat.le_of_ble_eq_true rfl) ⟨Nat.le_of_ble_eq_true rfl, Nat.le_of_ble_eq_true rfl⟩ jd_law_641 ?_
  obtain rfl := Option.some.inj h1
  obtain rfl := Option.some.inj h2
  exact hk_icmp_eq (tgt := 1028) hC jd_law_644 (by decide) (fun _ => k u rfl) (fun cc => absurd he cc)
set_option maxHeartbeats 16000000 in
set_option maxRecDepth 100000 in
theorem jlw_17 {p : Program} {l : Launch} {e : Env} {s : State} {m : MethodId} {args : Array Value} {below : List Frame} {meth : Method} {c : Code} {A : Nat → Prop} {Q : State → Prop} {D : va_G} {cI cF : ClassId} (hC : hk_ok p s m args meth c A 4 D cI cF "HayTalkLaw" code) {b L : Nat} {xs : Nat → Int32} (hX : va_X b L xs s s.heap) (hbl : b < s.heap.size) (hbA : ¬ A b) (hL : L ≤ 3072) (N : Nat) (u : Nat → Nat → Nat) (a : Nat → Nat) (x : jX) (y : jM) (i : Nat) (hi : i + 6 ≤ L) {o1 : Int32 × jX} {o2 : Int32 × jM} (h1 : jh_17 N x (xs (i + 1)) = some o1) (h2 : jm_17 N y (xs (i + 1)) = some o2) (he : o1.1 = o2.1) (k : ∀ u2 : Nat → Nat → Nat, u2 0 0 = u 0 0 → hk_W p l e room_1 s m args below meth c A Q 4 D 151 3341 (wX cI cF u2 a o1.2 o2.2) 1028 [(0, .ref b), (1, .ref (u 0 0)), (2, .ref (a 0)), (3, .int (nI i))] []) : hk_W p l e room_1 s m args below meth c A Q 4 D 151 3341 (wX cI cF u a x y) 649 [(0, .ref b), (1, .ref (u 0 0)), (2, .ref (a 0)), (3, .int (nI i))] [] := by
  refine hk_aload_n hC jd_law_649 1 rfl ?_
  refine hk_aload_n hC jd_law_650 0 rfl ?_
  refine hk_iload_n hC jd_law_651 3 rfl ?_
  refine hk_iconst (v := nI 1) hC jd_law_652 (by decide) ?_
  refine hk_iadd hC jd_law_653 ?_
  refine hk_topi (jn_add i 1) ?_
  refine hk_sld hC hX hbl hbA (n := i + 1) (by omega) hL jd_law_654 ?_
  obtain ⟨q, hq, h1⟩ := xb_go h1
  refine hk_callVBi hC (as := [.int (xs (i + 1))]) (jc_H_rakes l D cI cF N (u 0) (u 1) (u 2) (u 3) (u 4) (u 5) (u 6) (u 7) (u 8) x.2.2.1.1 x.2.2.1.2.1 x.2.2.1.2.2.1 x.2.2.1.2.2.2.1 x.2.2.1.2.2.2.2.1 x.2.2.1.2.2.2.2.2.1 x.2.2.1.2.2.2.2.2.2.1 x.2.2.1.2.2.2.2.2.2.2.1 x.2.2.1.2.2.2.2.2.2.2.2 x.2.2.2.2.2.2.2.1.1 x.2.2.2.2.2.2.2.1.2.1 x.2.2.2.2.2.2.2.1.2.2.1 x.2.2.2.2.2.2.2.1.2.2.2.1 x.2.2.2.2.2.2.2.1.2.2.2.2.1 x.2.2.2.2.2.2.2.1.2.2.2.2.2.1 x.2.2.2.2.2.2.2.1.2.2.2.2.2.2.1 x.2.2.2.2.2.2.2.1.2.2.2.2.2.2.2.1 x.2.2.2.2.2.2.2.1.2.2.2.2.2.2.2.2 (xs (i + 1)) hq) jl_H_rakes rfl (List.mem_append_left _ List.mem_cons_self) jq_532 jq_533 jq_534 rfl ⟨by decide, by decide⟩ (pm_10_0_2_5 _ _ _ _ _ _ _ _ _ _) (ws2 := (wX cI cF u a (x.1, x.2.1, x.2.2.1, x.2.2.2.1, x.2.2.2.2.1, x.2.2.2.2.2.1, x.2.2.2.2.2.2.1, x.2.2.2.2.2.2.2.1, x.2.2.2.2.2.2.2.2.1, x.2.2.2.2.2.2.2.2.2.1, x.2.2.2.2.2.2.2.2.2.2.1, x.2.2.2.2.2.2.2.2.2.2.2.1, x.2.2.2.2.2.2.2.2.2.2.2.2.1, x.2.2.2.2.2.2.2.2.2.2.2.2.2.1, x.2.2.2.2.2.2.2.2.2.2.2.2.2.2) y)) (pm_10_0_2_5 _ _ _ _ _ _ _ _ _ _) rfl rfl (Nat.le_of_ble_eq_true rfl) ⟨Nat.le_of_ble_eq_true rfl, Nat.le_of_ble_eq_true rfl⟩ jd_law_655 ?_
  refine hk_aload_n hC jd_law_658 2 rfl ?_
  refine hk_aload_n hC jd_law_659 0 rfl ?_
  refine hk_iload_n hC jd_law_660 3 rfl ?_
  refine hk_iconst (v := nI 1) hC jd_law_661 (by decide) ?_
  refine hk_iadd hC jd_law_662 ?_
  refine hk_topi (jn_add i 1) ?_
  refine hk_sld hC hX hbl hbA (n := i + 1) (by omega) hL jd_law_663 ?_
  obtain ⟨q2, hq2, h2⟩ := xb_go h2
  refine hk_callVBi hC (as := [.int (xs (i + 1))]) (jc_M_rakes l D cI cF N a y.1 y.2.1 y.2.2.1 y.2.2.2.1 y.2.2.2.2.1 y.2.2.2.2.2.1 y.2.2.2.2.2.2.1 y.2.2.2.2.2.2.2.1 y.2.2.2.2.2.2.2.2.1 y.2.2.2.2.2.2.2.2.2.1 y.2.2.2.2.2.2.2.2.2.2.1 y.2.2.2.2.2.2.2.2.2.2.2.1 y.2.2.2.2.2.2.2.2.2.2.2.2.1 y.2.2.2.2.2.2.2.2.2.2.2.2.2.1 y.2.2.2.2.2.2.2.2.2.2.2.2.2.2.1 y.2.2.2.2.2.2.2.2.2.2.2.2.2.2.2.1 y.2.2.2.2.2.2.2.2.2.2.2.2.2.2.2.2.1 y.2.2.2.2.2.2.2.2.2.2.2.2.2.2.2.2.2.1 y.2.2.2.2.2.2.2.2.2.2.2.2.2.2.2.2.2.2.1 y.2.2.2.2.2.2.2.2.2.2.2.2.2.2.2.2.2.2.2.1 y.2.2.2.2.2.2.2.2.2.2.2.2.2.2.2.2.2.2.2.2.1 y.2.2.2.2.2.2.2.2.2.2.2.2.2.2.2.2.2.2.2.2.2.1 y.2.2.2.2.2.2.2.2.2.2.2.2.2.2.2.2.2.2.2.2.2.2.1 y.2.2.2.2.2.2.2.2.2.2.2.2.2.2.2.2.2.2.2.2.2.2.2.1 y.2.2.2.2.2.2.2.2.2.2.2.2.2.2.2.2.2.2.2.2.2.2.2.2.1 y.2.2.2.2.2.2.2.2.2.2.2.2.2.2.2.2.2.2.2.2.2.2.2.2.2.1 y.2.2.2.2.2.2.2.2.2.2.2.2.2.2.2.2.2.2.2.2.2.2.2.2.2.2.1 y.2.2.2.2.2.2.2.2.2.2.2.2.2.2.2.2.2.2.2.2.2.2.2.2.2.2.2.1 y.2.2.2.2.2.2.2.2.2.2.2.2.2.2.2.2.2.2.2.2.2.2.2.2.2.2.2.2 (xs (i + 1)) hq2) jl_M_rakes rfl (List.mem_append_right _ (List.mem_append_right _ (List.mem_append_right _ (List.mem_append_right _ (List.mem_append_right _ (List.mem_append_right _ (List.mem_append_right _ (List.mem_append_right _ (List.mem_append_right _ (List.mem_cons_self)))))))))) jq_916 jq_917 jq_918 rfl ⟨by decide, by decide⟩ (pm_10_9 _ _ _ _ _ _ _ _ _ _) (ws2 := (wX cI cF u a (x.1, x.2.1, x.2.2.1, x.2.2.2.1, x.2.2.2.2.1, x.2.2.2.2.2.1, x.2.2.2.2.2.2.1, x.2.2.2.2.2.2.2.1, x.2.2.2.2.2.2.2.2.1, x.2.2.2.2.2.2.2.2.2.1, x.2.2.2.2.2.2.2.2.2.2.1, x.2.2.2.2.2.2.2.2.2.2.2.1, x.2.2.2.2.2.2.2.2.2.2.2.2.1, x.2.2.2.2.2.2.2.2.2.2.2.2.2.1, x.2.2.2.2.2.2.2.2.2.2.2.2.2.2) (y.1, y.2.1, y.2.2.1, y.2.2.2.1, y.2.2.2.2.1, y.2.2.2.2.2.1, y.2.2.2.2.2.2.1, y.2.2.2.2.2.2.2.1, y.2.2.2.2.2.2.2.2.1, y.2.2.2.2.2.2.2.2.2.1, y.2.2.2.2.2.2.2.2.2.2.1, y.2.2.2.2.2.2.2.2.2.2.2.1, y.2.2.2.2.2.2.2.2.2.2.2.2.1, y.2.2.2.2.2.2.2.2.2.2.2.2.2.1, y.2.2.2.2.2.2.2.2.2.2.2.2.2.2.1, y.2.2.2.2.2.2.2.2.2.2.2.2.2.2.2.1, y.2.2.2.2.2.2.2.2.2.2.2.2.2.2.2.2.1, y.2.2.2.2.2.2.2.2.2.2.2.2.2.2.2.2.2.1, y.2.2.2.2.2.2.2.2.2.2.2.2.2.2.2.2.2.2.1, y.2.2.2.2.2.2.2.2.2.2.2.2.2.2.2.2.2.2.2.1, y.2.2.2.2.2.2.2.2.2.2.2.2.2.2.2.2.2.2.2.2.1, y.2.2.2.2.2.2.2.2.2.2.2.2.2.2.2.2.2.2.2.2.2.1, y.2.2.2.2.2.2.2.2.2.2.2.2.2.2.2.2.2.2.2.2.2.2.1, y.2.2.2.2.2.2.2.2.2.2.2.2.2.2.2.2.2.2.2.2.2.2.2.1, y.2.2.2.2.2.2.2.2.2.2.2.2.2.2.2.2.2.2.2.2.2.2.2.2.1, y.2.2.2.2.2.2.2.2.2.2.2.2.2.2.2.2.2.2.2.2.2.2.2.2.2.1, y.2.2.2.2.2.2.2.2.2.2.2.2.2.2.2.2.2.2.2.2.2.2.2.2.2.2.1, y.2.2.2.2.2.2.2.2.2.2.2.2.2.2.2.2.2.2.2.2.2.2.2.2.2.2.2.1, y.2.2.2.2.2.2.2.2.2.2.2.2.2.2.2.2.2.2.2.2.2.2.2.2.2.2.2.2))) (pm_10_9 _ _ _ _ _ _ _ _ _ _) rfl rfl (Nat.le_of_ble_eq_true rfl) ⟨Nat.le_of_ble_eq_true rfl, Nat.le_of_ble_eq_true rfl⟩ jd_law_664 ?_
  obtain rfl := Option.some.inj h1
  obtain rfl := Option.some.inj h2
  exact hk_icmp_eq (tgt := 1028) hC jd_law_667 (by decide) (fun _ => k u rfl) (fun cc => absurd he cc)
set_option maxHeartbeats 16000000 in
set_option maxRecDepth 100000 in
theorem jlw_18 {p : Program} {l : Launch} {e : Env} {s : State} {m : MethodId} {args : Array Value} {below : List Frame} {meth : Method} {c : Code} {A : Nat → Prop} {Q : State → Prop} {D : va_G} {cI cF : ClassId} (hC : hk_ok p s m args meth c A 4 D cI cF "HayTalkLaw" code) {b L : Nat} {xs : Nat → Int32} (hX : va_X b L xs s s.heap) (hbl : b < s.heap.size) (hbA : ¬ A b) (hL : L ≤ 3072) (N : Nat) (u : Nat → Nat → Nat) (a : Nat → Nat) (x : jX) (y : jM) (i : Nat) (hi : i + 6 ≤ L) {o1 : Int32 × jX} {o2 : Int32 × jM} (h1 : jh_18 N x (xs (i + 1)) (xs (i + 2)) = some o1) (h2 : jm_18 N y (xs (i + 1)) (xs (i + 2)) = some o2) (he : o1.1 = o2.1) (k : ∀ u2 : Nat → Nat → Nat, u2 0 0 = u 0 0 → hk_W p l e room_1 s m args below meth c A Q 4 D 151 3341 (wX cI cF u2 a o1.2 o2.2) 1028 [(0, .ref b), (1, .ref (u 0 0)), (2, .ref (a 0)), (3, .int (nI i))] []) : hk_W p l e room_1 s m args below meth c A Q 4 D 151 3341 (wX cI cF u a x y) 672 [(0, .ref b), (1, .ref (u 0 0)), (2, .ref (a 0)), (3, .int (nI i))] [] := by
  refine hk_aload_n hC jd_law_672 1 rfl ?_
  refine hk_aload_n hC jd_law_673 0 rfl ?_
  refine hk_iload_n hC jd_law_674 3 rfl ?_
  refine hk_iconst (v := nI 1) hC jd_law_675 (by decide) ?_
  refine hk_iadd hC jd_law_676 ?_
  refine hk_topi (jn_add i 1) ?_
  refine hk_sld hC hX hbl hbA (n := i + 1) (by omega) hL jd_law_677 ?_
  refine hk_aload_n hC jd_law_678 0 rfl ?_
  refine hk_iload_n hC jd_law_679 3 rfl ?_
  refine hk_iconst (v := nI 2) hC jd_law_680 (by decide) ?_
  refine hk_iadd hC jd_law_681 ?_
  refine hk_topi (jn_add i 2) ?_
  refine hk_sld hC hX hbl hbA (n := i + 2) (by omega) hL jd_law_682 ?_
  obtain ⟨q, hq, h1⟩ := xb_go h1
  refine hk_callVBi hC (as := [.int (xs (i + 1)), .int (xs (i + 2))]) (jc_H_most l D cI cF N (u 0) (u 1) (u 2) (u 3) (u 4) (u 5) (u 6) (u 7) (u 8) x.2.2.1.1 x.2.2.1.2.1 x.2.2.1.2.2.1 x.2.2.1.2.2.2.1 x.2.2.1.2.2.2.2.1 x.2.2.1.2.2.2.2.2.1 x.2.2.1.2.2.2.2.2.2.1 x.2.2.1.2.2.2.2.2.2.2.1 x.2.2.1.2.2.2.2.2.2.2.2 x.2.2.2.2.2.2.2.1.1 x.2.2.2.2.2.2.2.1.2.1 x.2.2.2.2.2.2.2.1.2.2.1 x.2.2.2.2.2.2.2.1.2.2.2.1 x.2.2.2.2.2.2.2.1.2.2.2.2.1 x.2.2.2.2.2.2.2.1.2.2.2.2.2.1 x.2.2.2.2.2.2.2.1.2.2.2.2.2.2.1 x.2.2.2.2.2.2.2.1.2.2.2.2.2.2.2.1 x.2.2.2.2.2.2.2.1.2.2.2.2.2.2.2.2 (xs (i + 1)) (xs (i + 2)) hq) jl_H_most rfl (List.mem_append_left _ List.mem_cons_self) jq_542 jq_543 jq_544 rfl ⟨by decide, by decide⟩ (pm_10_0_2_5 _ _ _ _ _ _ _ _ _ _) (ws2 := (wX cI cF u a (x.1, x.2.1, x.2.2.1, x.2.2.2.1, x.2.2.2.2.1, x.2.2.2.2.2.1, x.2.2.2.2.2.2.1, x.2.2.2.2.2.2.2.1, x.2.2.2.2.2.2.2.2.1, x.2.2.2.2.2.2.2.2.2.1, x.2.2.2.2.2.2.2.2.2.2.1, x.2.2.2.2.2.2.2.2.2.2.2.1, x.2.2.2.2.2.2.2.2.2.2.2.2.1, x.2.2.2.2.2.2.2.2.2.2.2.2.2.1, x.2.2.2.2.2.2.2.2.2.2.2.2.2.2) y)) (pm_10_0_2_5 _ _ _ _ _ _ _ _ _ _) rfl rfl (Nat.le_of_ble_eq_true rfl) ⟨Nat.le_of_ble_eq_true rfl, Nat.le_of_ble_eq_true rfl⟩ jd_law_683 ?_
  refine hk_aload_n hC jd_law_686 2 rfl ?_
  refine hk_aload_n hC jd_law_687 0 rfl ?_
  refine hk_iload_n hC jd_law_688 3 rfl ?_
  refine hk_iconst (v := nI 1) hC jd_law_689 (by decide) ?_
  refine hk_iadd hC jd_law_690 ?_
  refine hk_topi (jn_add i 1) ?_
  refine hk_sld hC hX hbl hbA (n := i + 1) (by omega) hL jd_law_691 ?_
  refine hk_aload_n hC jd_law_692 0 rfl ?_
  refine hk_iload_n hC jd_law_693 3 rfl ?_
  refine hk_iconst (v := nI 2) hC jd_law_694 (by decide) ?_
  refine hk_iadd hC jd_law_695 ?_
  refine hk_topi (jn_add i 2) ?_
  refine hk_sld hC hX hbl hbA (n := i + 2) (by omega) hL jd_law_696 ?_
  obtain ⟨q2, hq2, h2⟩ := xb_go h2
  refine hk_callVBi hC (as := [.int (xs (i + 1)), .int (xs (i + 2))]) (jc_M_most l D cI cF N a y.1 y.2.1 y.2.2.1 y.2.2.2.1 y.2.2.2.2.1 y.2.2.2.2.2.1 y.2.2.2.2.2.2.1 y.2.2.2.2.2.2.2.1 y.2.2.2.2.2.2.2.2.1 y.2.2.2.2.2.2.2.2.2.1 y.2.2.2.2.2.2.2.2.2.2.1 y.2.2.2.2.2.2.2.2.2.2.2.1 y.2.2.2.2.2.2.2.2.2.2.2.2.1 y.2.2.2.2.2.2.2.2.2.2.2.2.2.1 y.2.2.2.2.2.2.2.2.2.2.2.2.2.2.1 y.2.2.2.2.2.2.2.2.2.2.2.2.2.2.2.1 y.2.2.2.2.2.2.2.2.2.2.2.2.2.2.2.2.1 y.2.2.2.2.2.2.2.2.2.2.2.2.2.2.2.2.2.1 y.2.2.2.2.2.2.2.2.2.2.2.2.2.2.2.2.2.2.1 y.2.2.2.2.2.2.2.2.2.2.2.2.2.2.2.2.2.2.2.1 y.2.2.2.2.2.2.2.2.2.2.2.2.2.2.2.2.2.2.2.2.1 y.2.2.2.2.2.2.2.2.2.2.2.2.2.2.2.2.2.2.2.2.2.1 y.2.2.2.2.2.2.2.2.2.2.2.2.2.2.2.2.2.2.2.2.2.2.1 y.2.2.2.2.2.2.2.2.2.2.2.2.2.2.2.2.2.2.2.2.2.2.2.1 y.2.2.2.2.2.2.2.2.2.2.2.2.2.2.2.2.2.2.2.2.2.2.2.2.1 y.2.2.2.2.2.2.2.2.2.2.2.2.2.2.2.2.2.2.2.2.2.2.2.2.2.1 y.2.2.2.2.2.2.2.2.2.2.2.2.2.2.2.2.2.2.2.2.2.2.2.2.2.2.1 y.2.2.2.2.2.2.2.2.2.2.2.2.2.2.2.2.2.2.2.2.2.2.2.2.2.2.2.1 y.2.2.2.2.2.2.2.2.2.2.2.2.2.2.2.2.2.2.2.2.2.2.2.2.2.2.2.2 (xs (i + 1)) (xs (i + 2)) hq2) jl_M_most rfl (List.mem_append_right _ (List.mem_append_right _ (List.mem_append_right _ (List.mem_append_right _ (List.mem_append_right _ (List.mem_append_right _ (List.mem_append_right _ (List.mem_append_right _ (List.mem_append_right _ (List.mem_cons_self)))))))))) jq_923 jq_924 jq_925 rfl ⟨by decide, by decide⟩ (pm_10_9 _ _ _ _ _ _ _ _ _ _) (ws2 := (wX cI cF u a (x.1, x.2.1, x.2.2.1, x.2.2.2.1, x.2.2.2.2.1, x.2.2.2.2.2.1, x.2.2.2.2.2.2.1, x.2.2.2.2.2.2.2.1, x.2.2.2.2.2.2.2.2.1, x.2.2.2.2.2.2.2.2.2.1, x.2.2.2.2.2.2.2.2.2.2.1, x.2.2.2.2.2.2.2.2.2.2.2.1, x.2.2.2.2.2.2.2.2.2.2.2.2.1, x.2.2.2.2.2.2.2.2.2.2.2.2.2.1, x.2.2.2.2.2.2.2.2.2.2.2.2.2.2) (y.1, y.2.1, y.2.2.1, y.2.2.2.1, y.2.2.2.2.1, y.2.2.2.2.2.1, y.2.2.2.2.2.2.1, y.2.2.2.2.2.2.2.1, y.2.2.2.2.2.2.2.2.1, y.2.2.2.2.2.2.2.2.2.1, y.2.2.2.2.2.2.2.2.2.2.1, y.2.2.2.2.2.2.2.2.2.2.2.1, y.2.2.2.2.2.2.2.2.2.2.2.2.1, y.2.2.2.2.2.2.2.2.2.2.2.2.2.1, y.2.2.2.2.2.2.2.2.2.2.2.2.2.2.1, y.2.2.2.2.2.2.2.2.2.2.2.2.2.2.2.1, y.2.2.2.2.2.2.2.2.2.2.2.2.2.2.2.2.1, y.2.2.2.2.2.2.2.2.2.2.2.2.2.2.2.2.2.1, y.2.2.2.2.2.2.2.2.2.2.2.2.2.2.2.2.2.2.1, y.2.2.2.2.2.2.2.2.2.2.2.2.2.2.2.2.2.2.2.1, y.2.2.2.2.2.2.2.2.2.2.2.2.2.2.2.2.2.2.2.2.1, y.2.2.2.2.2.2.2.2.2.2.2.2.2.2.2.2.2.2.2.2.2.1, y.2.2.2.2.2.2.2.2.2.2.2.2.2.2.2.2.2.2.2.2.2.2.1, y.2.2.2.2.2.2.2.2.2.2.2.2.2.2.2.2.2.2.2.2.2.2.2.1, y.2.2.2.2.2.2.2.2.2.2.2.2.2.2.2.2.2.2.2.2.2.2.2.2.1, y.2.2.2.2.2.2.2.2.2.2.2.2.2.2.2.2.2.2.2.2.2.2.2.2.2.1, y.2.2.2.2.2.2.2.2.2.2.2.2.2.2.2.2.2.2.2.2.2.2.2.2.2.2.1, y.2.2.2.2.2.2.2.2.2.2.2.2.2.2.2.2.2.2.2.2.2.2.2.2.2.2.2.1, y.2.2.2.2.2.2.2.2.2.2.2.2.2.2.2.2.2.2.2.2.2.2.2.2.2.2.2.2))) (pm_10_9 _ _ _ _ _ _ _ _ _ _) rfl rfl (Nat.le_of_ble_eq_true rfl) ⟨Nat.le_of_ble_eq_true rfl, Nat.le_of_ble_eq_true rfl⟩ jd_law_697 ?_
  obtain rfl := Option.some.inj h1
  obtain rfl := Option.some.inj h2
  exact hk_icmp_eq (tgt := 1028) hC jd_law_700 (by decide) (fun _ => k u rfl) (fun cc => absurd he cc)
set_option maxHeartbeats 16000000 in
set_option maxRecDepth 100000 in
theorem jlw_19 {p : Program} {l : Launch} {e : Env} {s : State} {m : MethodId} {args : Array Value} {below : List Frame} {meth : Method} {c : Code} {A : Nat → Prop} {Q : State → Prop} {D : va_G} {cI cF : ClassId} (hC : hk_ok p s m args meth c A 4 D cI cF "HayTalkLaw" code) {b L : Nat} {xs : Nat → Int32} (hX : va_X b L xs s s.heap) (hbl : b < s.heap.size) (hbA : ¬ A b) (hL : L ≤ 3072) (N : Nat) (u : Nat → Nat → Nat) (a : Nat → Nat) (x : jX) (y : jM) (i : Nat) (hi : i + 6 ≤ L) {o1 : Int32 × jX} {o2 : Int32 × jM} (h1 : jh_19 N x (xs (i + 1)) (xs (i + 2)) = some o1) (h2 : jm_19 N y (xs (i + 1)) (xs (i + 2)) = some o2) (he : o1.1 = o2.1) (k : ∀ u2 : Nat → Nat → Nat, u2 0 0 = u 0 0 → hk_W p l e room_1 s m args below meth c A Q 4 D 151 3341 (wX cI cF u2 a o1.2 o2.2) 1028 [(0, .ref b), (1, .ref (u 0 0)), (2, .ref (a 0)), (3, .int (nI i))] []) : hk_W p l e room_1 s m args below meth c A Q 4 D 151 3341 (wX cI cF u a x y) 705 [(0, .ref b), (1, .ref (u 0 0)), (2, .ref (a 0)), (3, .int (nI i))] [] := by
  refine hk_aload_n hC jd_law_705 1 rfl ?_
  refine hk_aload_n hC jd_law_706 0 rfl ?_
  refine hk_iload_n hC jd_law_707 3 rfl ?_
  refine hk_iconst (v := nI 1) hC jd_law_708 (by decide) ?_
  refine hk_iadd hC jd_law_709 ?_
  refine hk_topi (jn_add i 1) ?_
  refine hk_sld hC hX hbl hbA (n := i + 1) (by omega) hL jd_law_710 ?_
  refine hk_aload_n hC jd_law_711 0 rfl ?_
  refine hk_iload_n hC jd_law_712 3 rfl ?_
  refine hk_iconst (v := nI 2) hC jd_law_713 (by decide) ?_
  refine hk_iadd hC jd_law_714 ?_
  refine hk_topi (jn_add i 2) ?_
  refine hk_sld hC hX hbl hbA (n := i + 2) (by omega) hL jd_law_715 ?_
  obtain ⟨q, hq, h1⟩ := xb_go h1
  refine hk_callVBi hC (as := [.int (xs (i + 1)), .int (xs (i + 2))]) (jc_H_first l D cI cF N (u 0) (u 1) (u 2) (u 3) (u 4) (u 5) (u 6) (u 7) (u 8) x.2.2.1.1 x.2.2.1.2.1 x.2.2.1.2.2.1 x.2.2.1.2.2.2.1 x.2.2.1.2.2.2.2.1 x.2.2.1.2.2.2.2.2.1 x.2.2.1.2.2.2.2.2.2.1 x.2.2.1.2.2.2.2.2.2.2.1 x.2.2.1.2.2.2.2.2.2.2.2 x.2.2.2.2.2.2.2.1.1 x.2.2.2.2.2.2.2.1.2.1 x.2.2.2.2.2.2.2.1.2.2.1 x.2.2.2.2.2.2.2.1.2.2.2.1 x.2.2.2.2.2.2.2.1.2.2.2.2.1 x.2.2.2.2.2.2.2.1.2.2.2.2.2.1 x.2.2.2.2.2.2.2.1.2.2.2.2.2.2.1 x.2.2.2.2.2.2.2.1.2.2.2.2.2.2.2.1 x.2.2.2.2.2.2.2.1.2.2.2.2.2.2.2.2 (xs (i + 1)) (xs (i + 2)) hq) jl_H_first rfl (List.mem_append_left _ List.mem_cons_self) jq_547 jq_548 jq_549 rfl ⟨by decide, by decide⟩ (pm_10_0_2_5 _ _ _ _ _ _ _ _ _ _) (ws2 := (wX cI cF u a (x.1, x.2.1, x.2.2.1, x.2.2.2.1, x.2.2.2.2.1, x.2.2.2.2.2.1, x.2.2.2.2.2.2.1, x.2.2.2.2.2.2.2.1, x.2.2.2.2.2.2.2.2.1, x.2.2.2.2.2.2.2.2.2.1, x.2.2.2.2.2.2.2.2.2.2.1, x.2.2.2.2.2.2.2.2.2.2.2.1, x.2.2.2.2.2.2.2.2.2.2.2.2.1, x.2.2.2.2.2.2.2.2.2.2.2.2.2.1, x.2.2.2.2.2.2.2.2.2.2.2.2.2.2) y)) (pm_10_0_2_5 _ _ _ _ _ _ _ _ _ _) rfl rfl (Nat.le_of_ble_eq_true rfl) ⟨Nat.le_of_ble_eq_true rfl, Nat.le_of_ble_eq_true rfl⟩ jd_law_716 ?_
  refine hk_aload_n hC jd_law_719 2 rfl ?_
  refine hk_aload_n hC jd_law_720 0 rfl ?_
  refine hk_iload_n hC jd_law_721 3 rfl ?_
  refine hk_iconst (v := nI 1) hC jd_law_722 (by decide) ?_
  refine hk_iadd hC jd_law_723 ?_
  refine hk_topi (jn_add i 1) ?_
  refine hk_sld hC hX hbl hbA (n := i + 1) (by omega) hL jd_law_724 ?_
  refine hk_aload_n hC jd_law_725 0 rfl ?_
  refine hk_iload_n hC jd_law_726 3 rfl ?_
  refine hk_iconst (v := nI 2) hC jd_law_727 (by decide) ?_
  refine hk_iadd hC jd_law_728 ?_
  refine hk_topi (jn_add i 2) ?_
  refine hk_sld hC hX hbl hbA (n := i + 2) (by omega) hL jd_law_729 ?_
  obtain ⟨q2, hq2, h2⟩ := xb_go h2
  refine hk_callVBi hC (as := [.int (xs (i + 1)), .int (xs (i + 2))]) (jc_M_first l D cI cF N a y.1 y.2.1 y.2.2.1 y.2.2.2.1 y.2.2.2.2.1 y.2.2.2.2.2.1 y.2.2.2.2.2.2.1 y.2.2.2.2.2.2.2.1 y.2.2.2.2.2.2.2.2.1 y.2.2.2.2.2.2.2.2.2.1 y.2.2.2.2.2.2.2.2.2.2.1 y.2.2.2.2.2.2.2.2.2.2.2.1 y.2.2.2.2.2.2.2.2.2.2.2.2.1 y.2.2.2.2.2.2.2.2.2.2.2.2.2.1 y.2.2.2.2.2.2.2.2.2.2.2.2.2.2.1 y.2.2.2.2.2.2.2.2.2.2.2.2.2.2.2.1 y.2.2.2.2.2.2.2.2.2.2.2.2.2.2.2.2.1 y.2.2.2.2.2.2.2.2.2.2.2.2.2.2.2.2.2.1 y.2.2.2.2.2.2.2.2.2.2.2.2.2.2.2.2.2.2.1 y.2.2.2.2.2.2.2.2.2.2.2.2.2.2.2.2.2.2.2.1 y.2.2.2.2.2.2.2.2.2.2.2.2.2.2.2.2.2.2.2.2.1 y.2.2.2.2.2.2.2.2.2.2.2.2.2.2.2.2.2.2.2.2.2.1 y.2.2.2.2.2.2.2.2.2.2.2.2.2.2.2.2.2.2.2.2.2.2.1 y.2.2.2.2.2.2.2.2.2.2.2.2.2.2.2.2.2.2.2.2.2.2.2.1 y.2.2.2.2.2.2.2.2.2.2.2.2.2.2.2.2.2.2.2.2.2.2.2.2.1 y.2.2.2.2.2.2.2.2.2.2.2.2.2.2.2.2.2.2.2.2.2.2.2.2.2.1 y.2.2.2.2.2.2.2.2.2.2.2.2.2.2.2.2.2.2.2.2.2.2.2.2.2.2.1 y.2.2.2.2.2.2.2.2.2.2.2.2.2.2.2.2.2.2.2.2.2.2.2.2.2.2.2.1 y.2.2.2.2.2.2.2.2.2.2.2.2.2.2.2.2.2.2.2.2.2.2.2.2.2.2.2.2 (xs (i + 1)) (xs (i + 2)) hq2) jl_M_first rfl (List.mem_append_right _ (List.mem_append_right _ (List.mem_append_right _ (List.mem_append_right _ (List.mem_append_right _ (List.mem_append_right _ (List.mem_append_right _ (List.mem_append_right _ (List.mem_append_right _ (List.mem_cons_self)))))))))) jq_927 jq_928 jq_929 rfl ⟨by decide, by decide⟩ (pm_10_9 _ _ _ _ _ _ _ _ _ _) (ws2 := (wX cI cF u a (x.1, x.2.1, x.2.2.1, x.2.2.2.1, x.2.2.2.2.1, x.2.2.2.2.2.1, x.2.2.2.2.2.2.1, x.2.2.2.2.2.2.2.1, x.2.2.2.2.2.2.2.2.1, x.2.2.2.2.2.2.2.2.2.1, x.2.2.2.2.2.2.2.2.2.2.1, x.2.2.2.2.2.2.2.2.2.2.2.1, x.2.2.2.2.2.2.2.2.2.2.2.2.1, x.2.2.2.2.2.2.2.2.2.2.2.2.2.1, x.2.2.2.2.2.2.2.2.2.2.2.2.2.2) (y.1, y.2.1, y.2.2.1, y.2.2.2.1, y.2.2.2.2.1, y.2.2.2.2.2.1, y.2.2.2.2.2.2.1, y.2.2.2.2.2.2.2.1, y.2.2.2.2.2.2.2.2.1, y.2.2.2.2.2.2.2.2.2.1, y.2.2.2.2.2.2.2.2.2.2.1, y.2.2.2.2.2.2.2.2.2.2.2.1, y.2.2.2.2.2.2.2.2.2.2.2.2.1, y.2.2.2.2.2.2.2.2.2.2.2.2.2.1, y.2.2.2.2.2.2.2.2.2.2.2.2.2.2.1, y.2.2.2.2.2.2.2.2.2.2.2.2.2.2.2.1, y.2.2.2.2.2.2.2.2.2.2.2.2.2.2.2.2.1, y.2.2.2.2.2.2.2.2.2.2.2.2.2.2.2.2.2.1, y.2.2.2.2.2.2.2.2.2.2.2.2.2.2.2.2.2.2.1, y.2.2.2.2.2.2.2.2.2.2.2.2.2.2.2.2.2.2.2.1, y.2.2.2.2.2.2.2.2.2.2.2.2.2.2.2.2.2.2.2.2.1, y.2.2.2.2.2.2.2.2.2.2.2.2.2.2.2.2.2.2.2.2.2.1, y.2.2.2.2.2.2.2.2.2.2.2.2.2.2.2.2.2.2.2.2.2.2.1, y.2.2.2.2.2.2.2.2.2.2.2.2.2.2.2.2.2.2.2.2.2.2.2.1, y.2.2.2.2.2.2.2.2.2.2.2.2.2.2.2.2.2.2.2.2.2.2.2.2.1, y.2.2.2.2.2.2.2.2.2.2.2.2.2.2.2.2.2.2.2.2.2.2.2.2.2.1, y.2.2.2.2.2.2.2.2.2.2.2.2.2.2.2.2.2.2.2.2.2.2.2.2.2.2.1, y.2.2.2.2.2.2.2.2.2.2.2.2.2.2.2.2.2.2.2.2.2.2.2.2.2.2.2.1, y.2.2.2.2.2.2.2.2.2.2.2.2.2.2.2.2.2.2.2.2.2.2.2.2.2.2.2.2))) (pm_10_9 _ _ _ _ _ _ _ _ _ _) rfl rfl (Nat.le_of_ble_eq_true rfl) ⟨Nat.le_of_ble_eq_true rfl, Nat.le_of_ble_eq_true rfl⟩ jd_law_730 ?_
  obtain rfl := Option.some.inj h1
  obtain rfl := Option.some.inj h2
  exact hk_icmp_eq (tgt := 1028) hC jd_law_733 (by decide) (fun _ => k u rfl) (fun cc => absurd he cc)
