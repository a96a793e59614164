set_option maxHeartbeats 16000000 in
set_option maxRecDepth 100000 in
theorem jlw_5 {p : Program} {l : Launch} {e : Env} {s : State} {m : MethodId} {args : Array Value} {below : List Frame} {meth : Method} {c : Code} {A : Nat → Prop} {Q : State → Prop} {D : va_G} {cI cF : ClassId} (hC : hk_ok p s m args meth c A 4 D cI cF "HayTalkLaw" code) {b L : Nat} {xs : Nat → Int32} (hX : va_X b L xs s s.heap) (hbl : b < s.heap.size) (hbA : ¬ A b) (hL : L ≤ 3072) (N : Nat) (u : Nat → Nat → Nat) (a : Nat → Nat) (x : jX) (y : jM) (i : Nat) (hi : i + 6 ≤ L) {o1 : Int32 × jX} {o2 : Int32 × jM} (h1 : jh_5 N x (xs (i + 1)) (xs (i + 2)) = some o1) (h2 : jm_5 N y (xs (i + 1)) (xs (i + 2)) = some o2) (he : o1.1 = o2.1) (k : ∀ u2 : Nat → Nat → Nat, u2 0 0 = u 0 0 → hk_W p l e room_1 s m args below meth c A Q 4 D 151 3341 (wX cI cF u2 a o1.2 o2.2) 1028 [(0, .ref b), (1, .ref (u 0 0)), (2, .ref (a 0)), (3, .int (nI i))] []) : hk_W p l e room_1 s m args below meth c A Q 4 D 151 3341 (wX cI cF u a x y) 263 [(0, .ref b), (1, .ref (u 0 0)), (2, .ref (a 0)), (3, .int (nI i))] [] := by
  refine hk_aload_n hC jd_law_263 1 rfl ?_
  refine hk_aload_n hC jd_law_264 0 rfl ?_
  refine hk_iload_n hC jd_law_265 3 rfl ?_
  refine hk_iconst (v := nI 1) hC jd_law_266 (by decide) ?_
  refine hk_iadd hC jd_law_267 ?_
  refine hk_topi (jn_add i 1) ?_
  refine hk_sld hC hX hbl hbA (n := i + 1) (by omega) hL jd_law_268 ?_
  refine hk_aload_n hC jd_law_269 0 rfl ?_
  refine hk_iload_n hC jd_law_270 3 rfl ?_
  refine hk_iconst (v := nI 2) hC jd_law_271 (by decide) ?_
  refine hk_iadd hC jd_law_272 ?_
  refine hk_topi (jn_add i 2) ?_
  refine hk_sld hC hX hbl hbA (n := i + 2) (by omega) hL jd_law_273 ?_
  obtain ⟨q, hq, h1⟩ := xb_go h1
  refine hk_callVBi hC (as := [.int (xs (i + 1)), .int (xs (i + 2))]) (jc_H_cow l D cI cF N (u 0) (u 1) (u 2) (u 3) (u 4) (u 5) (u 6) (u 7) (u 8) x.2.2.1.1 x.2.2.1.2.1 x.2.2.1.2.2.1 x.2.2.1.2.2.2.1 x.2.2.1.2.2.2.2.1 x.2.2.1.2.2.2.2.2.1 x.2.2.1.2.2.2.2.2.2.1 x.2.2.1.2.2.2.2.2.2.2.1 x.2.2.1.2.2.2.2.2.2.2.2 x.2.2.2.2.2.2.2.1.1 x.2.2.2.2.2.2.2.1.2.1 x.2.2.2.2.2.2.2.1.2.2.1 x.2.2.2.2.2.2.2.1.2.2.2.1 x.2.2.2.2.2.2.2.1.2.2.2.2.1 x.2.2.2.2.2.2.2.1.2.2.2.2.2.1 x.2.2.2.2.2.2.2.1.2.2.2.2.2.2.1 x.2.2.2.2.2.2.2.1.2.2.2.2.2.2.2.1 x.2.2.2.2.2.2.2.1.2.2.2.2.2.2.2.2 (xs (i + 1)) (xs (i + 2)) hq) jl_H_cow rfl (List.mem_append_left _ List.mem_cons_self) jq_351 jq_352 jq_353 rfl ⟨by decide, by decide⟩ (pm_10_0_2_5 _ _ _ _ _ _ _ _ _ _) (ws2 := (wX cI cF u a (x.1, x.2.1, x.2.2.1, x.2.2.2.1, x.2.2.2.2.1, x.2.2.2.2.2.1, x.2.2.2.2.2.2.1, x.2.2.2.2.2.2.2.1, x.2.2.2.2.2.2.2.2.1, x.2.2.2.2.2.2.2.2.2.1, x.2.2.2.2.2.2.2.2.2.2.1, x.2.2.2.2.2.2.2.2.2.2.2.1, x.2.2.2.2.2.2.2.2.2.2.2.2.1, x.2.2.2.2.2.2.2.2.2.2.2.2.2.1, x.2.2.2.2.2.2.2.2.2.2.2.2.2.2) y)) (pm_10_0_2_5 _ _ _ _ _ _ _ _ _ _) rfl rfl (Nat.le_of_ble_eq_true rfl) ⟨Nat.le_of_ble_eq_true rfl, Nat.le_of_ble_eq_true rfl⟩ jd_law_274 ?_
  refine hk_aload_n hC jd_law_277 2 rfl ?_
  refine hk_aload_n hC jd_law_278 0 rfl ?_
  refine hk_iload_n hC jd_law_279 3 rfl ?_
  refine hk_iconst (v := nI 1) hC jd_law_280 (by decide) ?_
  refine hk_iadd hC jd_law_281 ?_
  refine hk_topi (jn_add i 1) ?_
  refine hk_sld hC hX hbl hbA (n := i + 1) (by omega) hL jd_law_282 ?_
  refine hk_aload_n hC jd_law_283 0 rfl ?_
  refine hk_iload_n hC jd_law_284 3 rfl ?_
  refine hk_iconst (v := nI 2) hC jd_law_285 (by decide) ?_
  refine hk_iadd hC jd_law_286 ?_
  refine hk_topi (jn_add i 2) ?_
  refine hk_sld hC hX hbl hbA (n := i + 2) (by omega) hL jd_law_287 ?_
  obtain ⟨q2, hq2, h2⟩ := xb_go h2
  refine hk_callVBi hC (as := [.int (xs (i + 1)), .int (xs (i + 2))]) (jc_M_cow l D cI cF N a y.1 y.2.1 y.2.2.1 y.2.2.2.1 y.2.2.2.2.1 y.2.2.2.2.2.1 y.2.2.2.2.2.2.1 y.2.2.2.2.2.2.2.1 y.2.2.2.2.2.2.2.2.1 y.2.2.2.2.2.2.2.2.2.1 y.2.2.2.2.2.2.2.2.2.2.1 y.2.2.2.2.2.2.2.2.2.2.2.1 y.2.2.2.2.2.2.2.2.2.2.2.2.1 y.2.2.2.2.2.2.2.2.2.2.2.2.2.1 y.2.2.2.2.2.2.2.2.2.2.2.2.2.2.1 y.2.2.2.2.2.2.2.2.2.2.2.2.2.2.2.1 y.2.2.2.2.2.2.2.2.2.2.2.2.2.2.2.2.1 y.2.2.2.2.2.2.2.2.2.2.2.2.2.2.2.2.2.1 y.2.2.2.2.2.2.2.2.2.2.2.2.2.2.2.2.2.2.1 y.2.2.2.2.2.2.2.2.2.2.2.2.2.2.2.2.2.2.2.1 y.2.2.2.2.2.2.2.2.2.2.2.2.2.2.2.2.2.2.2.2.1 y.2.2.2.2.2.2.2.2.2.2.2.2.2.2.2.2.2.2.2.2.2.1 y.2.2.2.2.2.2.2.2.2.2.2.2.2.2.2.2.2.2.2.2.2.2.1 y.2.2.2.2.2.2.2.2.2.2.2.2.2.2.2.2.2.2.2.2.2.2.2.1 y.2.2.2.2.2.2.2.2.2.2.2.2.2.2.2.2.2.2.2.2.2.2.2.2.1 y.2.2.2.2.2.2.2.2.2.2.2.2.2.2.2.2.2.2.2.2.2.2.2.2.2.1 y.2.2.2.2.2.2.2.2.2.2.2.2.2.2.2.2.2.2.2.2.2.2.2.2.2.2.1 y.2.2.2.2.2.2.2.2.2.2.2.2.2.2.2.2.2.2.2.2.2.2.2.2.2.2.2.1 y.2.2.2.2.2.2.2.2.2.2.2.2.2.2.2.2.2.2.2.2.2.2.2.2.2.2.2.2 (xs (i + 1)) (xs (i + 2)) hq2) jl_M_cow rfl (List.mem_append_right _ (List.mem_append_right _ (List.mem_append_right _ (List.mem_append_right _ (List.mem_append_right _ (List.mem_append_right _ (List.mem_append_right _ (List.mem_append_right _ (List.mem_append_right _ (List.mem_cons_self)))))))))) jq_810 jq_811 jq_812 rfl ⟨by decide, by decide⟩ (pm_10_9 _ _ _ _ _ _ _ _ _ _) (ws2 := (wX cI cF u a (x.1, x.2.1, x.2.2.1, x.2.2.2.1, x.2.2.2.2.1, x.2.2.2.2.2.1, x.2.2.2.2.2.2.1, x.2.2.2.2.2.2.2.1, x.2.2.2.2.2.2.2.2.1, x.2.2.2.2.2.2.2.2.2.1, x.2.2.2.2.2.2.2.2.2.2.1, x.2.2.2.2.2.2.2.2.2.2.2.1, x.2.2.2.2.2.2.2.2.2.2.2.2.1, x.2.2.2.2.2.2.2.2.2.2.2.2.2.1, x.2.2.2.2.2.2.2.2.2.2.2.2.2.2) (y.1, y.2.1, y.2.2.1, y.2.2.2.1, y.2.2.2.2.1, y.2.2.2.2.2.1, y.2.2.2.2.2.2.1, y.2.2.2.2.2.2.2.1, y.2.2.2.2.2.2.2.2.1, y.2.2.2.2.2.2.2.2.2.1, y.2.2.2.2.2.2.2.2.2.2.1, y.2.2.2.2.2.2.2.2.2.2.2.1, y.2.2.2.2.2.2.2.2.2.2.2.2.1, y.2.2.2.2.2.2.2.2.2.2.2.2.2.1, y.2.2.2.2.2.2.2.2.2.2.2.2.2.2.1, y.2.2.2.2.2.2.2.2.2.2.2.2.2.2.2.1, y.2.2.2.2.2.2.2.2.2.2.2.2.2.2.2.2.1, y.2.2.2.2.2.2.2.2.2.2.2.2.2.2.2.2.2.1, y.2.2.2.2.2.2.2.2.2.2.2.2.2.2.2.2.2.2.1, y.2.2.2.2.2.2.2.2.2.2.2.2.2.2.2.2.2.2.2.1, y.2.2.2.2.2.2.2.2.2.2.2.2.2.2.2.2.2.2.2.2.1, y.2.2.2.2.2.2.2.2.2.2.2.2.2.2.2.2.2.2.2.2.2.1, y.2.2.2.2.2.2.2.2.2.2.2.2.2.2.2.2.2.2.2.2.2.2.1, y.2.2.2.2.2.2.2.2.2.2.2.2.2.2.2.2.2.2.2.2.2.2.2.1, y.2.2.2.2.2.2.2.2.2.2.2.2.2.2.2.2.2.2.2.2.2.2.2.2.1, y.2.2.2.2.2.2.2.2.2.2.2.2.2.2.2.2.2.2.2.2.2.2.2.2.2.1, y.2.2.2.2.2.2.2.2.2.2.2.2.2.2.2.2.2.2.2.2.2.2.2.2.2.2.1, y.2.2.2.2.2.2.2.2.2.2.2.2.2.2.2.2.2.2.2.2.2.2.2.2.2.2.2.1, y.2.2.2.2.2.2.2.2.2.2.2.2.2.2.2.2.2.2.2.2.2.2.2.2.2.2.2.2))) (pm_10_9 _ _ _ _ _ _ _ _ _ _) rfl rfl (Nat.le_of_ble_eq_true rfl) ⟨Nat.le_of_ble_eq_true rfl, Nat.le_of_ble_eq_true rfl⟩ jd_law_288 ?_
  obtain rfl := Option.some.inj h1
  obtain rfl := Option.some.inj h2
  exact hk_icmp_eq (tgt := 1028) hC jd_law_291 (by decide) (fun _ => k u rfl) (fun cc => absurd he cc)
set_option maxHeartbeats 16000000 in
set_option maxRecDepth 100000 in
theorem jlw_6 {p : Program} {l : Launch} {e : Env} {s : State} {m : MethodId} {args : Array Value} {below : List Frame} {meth : Method} {c : Code} {A : Nat → Prop} {Q : State → Prop} {D : va_G} {cI cF : ClassId} (hC : hk_ok p s m args meth c A 4 D cI cF "HayTalkLaw" code) {b L : Nat} {xs : Nat → Int32} (hX : va_X b L xs s s.heap) (hbl : b < s.heap.size) (hbA : ¬ A b) (hL : L ≤ 3072) (N : Nat) (u : Nat → Nat → Nat) (a : Nat → Nat) (x : jX) (y : jM) (i : Nat) (hi : i + 6 ≤ L) {o1 : Int32 × jX} {o2 : Int32 × jM} (h1 : jh_6 N x (xs (i + 1)) (xs (i + 2)) = some o1) (h2 : jm_6 N y (xs (i + 1)) (xs (i + 2)) = some o2) (he : o1.1 = o2.1) (k : ∀ u2 : Nat → Nat → Nat, u2 0 0 = u 0 0 → hk_W p l e room_1 s m args below meth c A Q 4 D 151 3341 (wX cI cF u2 a o1.2 o2.2) 1028 [(0, .ref b), (1, .ref (u 0 0)), (2, .ref (a 0)), (3, .int (nI i))] []) : hk_W p l e room_1 s m args below meth c A Q 4 D 151 3341 (wX cI cF u a x y) 296 [(0, .ref b), (1, .ref (u 0 0)), (2, .ref (a 0)), (3, .int (nI i))] [] := by
  refine hk_aload_n hC jd_law_296 1 rfl ?_
  refine hk_aload_n hC jd_law_297 0 rfl ?_
  refine hk_iload_n hC jd_law_298 3 rfl ?_
  refine hk_iconst (v := nI 1) hC jd_law_299 (by decide) ?_
  refine hk_iadd hC jd_law_300 ?_
  refine hk_topi (jn_add i 1) ?_
  refine hk_sld hC hX hbl hbA (n := i + 1) (by omega) hL jd_law_301 ?_
  refine hk_aload_n hC jd_law_302 0 rfl ?_
  refine hk_iload_n hC jd_law_303 3 rfl ?_
  refine hk_iconst (v := nI 2) hC jd_law_304 (by decide) ?_
  refine hk_iadd hC jd_law_305 ?_
  refine hk_topi (jn_add i 2) ?_
  refine hk_sld hC hX hbl hbA (n := i + 2) (by omega) hL jd_law_306 ?_
  obtain ⟨q, hq, h1⟩ := xb_go h1
  refine hk_callVBi hC (as := [.int (xs (i + 1)), .int (xs (i + 2))]) (jc_H_rick l D cI cF N (u 0) (u 1) (u 2) (u 3) (u 4) (u 5) (u 6) (u 7) (u 8) x.2.2.1.1 x.2.2.1.2.1 x.2.2.1.2.2.1 x.2.2.1.2.2.2.1 x.2.2.1.2.2.2.2.1 x.2.2.1.2.2.2.2.2.1 x.2.2.1.2.2.2.2.2.2.1 x.2.2.1.2.2.2.2.2.2.2.1 x.2.2.1.2.2.2.2.2.2.2.2 x.2.2.2.2.2.2.2.1.1 x.2.2.2.2.2.2.2.1.2.1 x.2.2.2.2.2.2.2.1.2.2.1 x.2.2.2.2.2.2.2.1.2.2.2.1 x.2.2.2.2.2.2.2.1.2.2.2.2.1 x.2.2.2.2.2.2.2.1.2.2.2.2.2.1 x.2.2.2.2.2.2.2.1.2.2.2.2.2.2.1 x.2.2.2.2.2.2.2.1.2.2.2.2.2.2.2.1 x.2.2.2.2.2.2.2.1.2.2.2.2.2.2.2.2 (xs (i + 1)) (xs (i + 2)) hq) jl_H_rick rfl (List.mem_append_left _ List.mem_cons_self) jq_363 jq_364 jq_365 rfl ⟨by decide, by decide⟩ (pm_10_0_2_5 _ _ _ _ _ _ _ _ _ _) (ws2 := (wX cI cF u a (x.1, x.2.1, x.2.2.1, x.2.2.2.1, x.2.2.2.2.1, x.2.2.2.2.2.1, x.2.2.2.2.2.2.1, x.2.2.2.2.2.2.2.1, x.2.2.2.2.2.2.2.2.1, x.2.2.2.2.2.2.2.2.2.1, x.2.2.2.2.2.2.2.2.2.2.1, x.2.2.2.2.2.2.2.2.2.2.2.1, x.2.2.2.2.2.2.2.2.2.2.2.2.1, x.2.2.2.2.2.2.2.2.2.2.2.2.2.1, x.2.2.2.2.2.2.2.2.2.2.2.2.2.2) y)) (pm_10_0_2_5 _ _ _ _ _ _ _ _ _ _) rfl rfl (Nat.le_of_ble_eq_true rfl) ⟨Nat.le_of_ble_eq_true rfl, Nat.le_of_ble_eq_true rfl⟩ jd_law_307 ?_
  refine hk_aload_n hC jd_law_310 2 rfl ?_
  refine hk_aload_n hC jd_law_311 0 rfl ?_
  refine hk_iload_n hC jd_law_312 3 rfl ?_
  refine hk_iconst (v := nI 1) hC jd_law_313 (by decide) ?_
  refine hk_iadd hC jd_law_314 ?_
  refine hk_topi (jn_add i 1) ?_
  refine hk_sld hC hX hbl hbA (n := i + 1) (by omega) hL jd_law_315 ?_
  refine hk_aload_n hC jd_law_316 0 rfl ?_
  refine hk_iload_n hC jd_law_317 3 rfl ?_
  refine hk_iconst (v := nI 2) hC jd_law_318 (by decide) ?_
  refine hk_iadd hC jd_law_319 ?_
  refine hk_topi (jn_add i 2) ?_
  refine hk_sld hC hX hbl hbA (n := i + 2) (by omega) hL jd_law_320 ?_
  obtain ⟨q2, hq2, h2⟩ := xb_go h2
  refine hk_callVBi hC (as := [.int (xs (i + 1)), .int (xs (i + 2))]) (jc_M_rick l D cI cF N a y.1 y.2.1 y.2.2.1 y.2.2.2.1 y.2.2.2.2.1 y.2.2.2.2.2.1 y.2.2.2.2.2.2.1 y.2.2.2.2.2.2.2.1 y.2.2.2.2.2.2.2.2.1 y.2.2.2.2.2.2.2.2.2.1 y.2.2.2.2.2.2.2.2.2.2.1 y.2.2.2.2.2.2.2.2.2.2.2.1 y.2.2.2.2.2.2.2.2.2.2.2.2.1 y.2.2.2.2.2.2.2.2.2.2.2.2.2.1 y.2.2.2.2.2.2.2.2.2.2.2.2.2.2.1 y.2.2.2.2.2.2.2.2.2.2.2.2.2.2.2.1 y.2.2.2.2.2.2.2.2.2.2.2.2.2.2.2.2.1 y.2.2.2.2.2.2.2.2.2.2.2.2.2.2.2.2.2.1 y.2.2.2.2.2.2.2.2.2.2.2.2.2.2.2.2.2.2.1 y.2.2.2.2.2.2.2.2.2.2.2.2.2.2.2.2.2.2.2.1 y.2.2.2.2.2.2.2.2.2.2.2.2.2.2.2.2.2.2.2.2.1 y.2.2.2.2.2.2.2.2.2.2.2.2.2.2.2.2.2.2.2.2.2.1 y.2.2.2.2.2.2.2.2.2.2.2.2.2.2.2.2.2.2.2.2.2.2.1 y.2.2.2.2.2.2.2.2.2.2.2.2.2.2.2.2.2.2.2.2.2.2.2.1 y.2.2.2.2.2.2.2.2.2.2.2.2.2.2.2.2.2.2.2.2.2.2.2.2.1 y.2.2.2.2.2.2.2.2.2.2.2.2.2.2.2.2.2.2.2.2.2.2.2.2.2.1 y.2.2.2.2.2.2.2.2.2.2.2.2.2.2.2.2.2.2.2.2.2.2.2.2.2.2.1 y.2.2.2.2.2.2.2.2.2.2.2.2.2.2.2.2.2.2.2.2.2.2.2.2.2.2.2.1 y.2.2.2.2.2.2.2.2.2.2.2.2.2.2.2.2.2.2.2.2.2.2.2.2.2.2.2.2 (xs (i + 1)) (xs (i + 2)) hq2) jl_M_rick rfl (List.mem_append_right _ (List.mem_append_right _ (List.mem_append_right _ (List.mem_append_right _ (List.mem_append_right _ (List.mem_append_right _ (List.mem_append_right _ (List.mem_append_right _ (List.mem_append_right _ (List.mem_cons_self)))))))))) jq_818 jq_819 jq_820 rfl ⟨by decide, by decide⟩ (pm_10_9 _ _ _ _ _ _ _ _ _ _) (ws2 := (wX cI cF u a (x.1, x.2.1, x.2.2.1, x.2.2.2.1, x.2.2.2.2.1, x.2.2.2.2.2.1, x.2.2.2.2.2.2.1, x.2.2.2.2.2.2.2.1, x.2.2.2.2.2.2.2.2.1, x.2.2.2.2.2.2.2.2.2.1, x.2.2.2.2.2.2.2.2.2.2.1, x.2.2.2.2.2.2.2.2.2.2.2.1, x.2.2.2.2.2.2.2.2.2.2.2.2.1, x.2.2.2.2.2.2.2.2.2.2.2.2.2.1, x.2.2.2.2.2.2.2.2.2.2.2.2.2.2) (y.1, y.2.1, y.2.2.1, y.2.2.2.1, y.2.2.2.2.1, y.2.2.2.2.2.1, y.2.2.2.2.2.2.1, y.2.2.2.2.2.2.2.1, y.2.2.2.2.2.2.2.2.1, y.2.2.2.2.2.2.2.2.2.1, y.2.2.2.2.2.2.2.2.2.2.1, y.2.2.2.2.2.2.2.2.2.2.2.1, y.2.2.2.2.2.2.2.2.2.2.2.2.1, y.2.2.2.2.2.2.2.2.2.2.2.2.2.1, y.2.2.2.2.2.2.2.2.2.2.2.2.2.2.1, y.2.2.2.2.2.2.2.2.2.2.2.2.2.2.2.1, y.2.2.2.2.2.2.2.2.2.2.2.2.2.2.2.2.1, y.2.2.2.2.2.2.2.2.2.2.2.2.2.2.2.2.2.1, y.2.2.2.2.2.2.2.2.2.2.2.2.2.2.2.2.2.2.1, y.2.2.2.2.2.2.2.2.2.2.2.2.2.2.2.2.2.2.2.1, y.2.2.2.2.2.2.2.2.2.2.2.2.2.2.2.2.2.2.2.2.1, y.2.2.2.2.2.2.2.2.2.2.2.2.2.2.2.2.2.2.2.2.2.1, y.2.2.2.2.2.2.2.2.2.2.2.2.2.2.2.2.2.2.2.2.2.2.1, y.2.2.2.2.2.2.2.2.2.2.2.2.2.2.2.2.2.2.2.2.2.2.2.1, y.2.2.2.2.2.2.2.2.2.2.2.2.2.2.2.2.2.2.2.2.2.2.2.2.1, y.2.2.2.2.2.2.2.2.2.2.2.2.2.2.2.2.2.2.2.2.2.2.2.2.2.1, y.2.2.2.2.2.2.2.2.2.2.2.2.2.2.2.2.2.2.2.2.2.2.2.2.2.2.1, y.2.2.2.2.2.2.2.2.2.2.2.2.2.2.2.2.2.2.2.2.2.2.2.2.2.2.2.1, y.2.2.2.2.2.2.2.2.2.2.2.2.2.2.2.2.2.2.2.2.2.2.2.2.2.2.2.2))) (pm_10_9 _ _ _ _ _ _ _ _ _ _) rfl rfl (Nat.le_of_ble_eq_true rfl) ⟨Nat.le_of_ble_eq_true rfl, Nat.le_of_ble_eq_true rfl⟩ jd_law_321 ?_
  obtain rfl := Option.some.inj h1
  obtain rfl := Option.some.inj h2
  exact hk_icmp_eq (tgt := 1028) hC jd_law_324 (by decide) (fun _ => k u rfl) (fun cc => absurd he cc)
set_option maxHeartbeats 16000000 in
set_option maxRecDepth 100000 in
theorem jlw_7 {p : Program} {l : Launch} {e : Env} {s : State} {m : MethodId} {args : Array Value} {below : List Frame} {meth : Method} {c : Code} {A : Nat → Prop} {Q : State → Prop} {D : va_G} {cI cF : ClassId} (hC : hk_ok p s m args meth c A 4 D cI cF "HayTalkLaw" code) {b L : Nat} {xs : Nat → Int32} (hX : va_X b L xs s s.heap) (hbl : b < s.heap.size) (hbA : ¬ A b) (hL : L ≤ 3072) (N : Nat) (u : Nat → Nat → Nat) (a : Nat → Nat) (x : jX) (y : jM) (i : Nat) (hi : i + 6 ≤ L) {o1 : Int32 × jX} {o2 : Int32 × jM} (h1 : jh_7 N x (xs (i + 1)) (xs (i + 2)) (xs (i + 3)) = some o1) (h2 : jm_7 N y (xs (i + 1)) (xs (i + 2)) (xs (i + 3)) = some o2) (he : o1.1 = o2.1) (k : ∀ u2 : Nat → Nat → Nat, u2 0 0 = u 0 0 → hk_W p l e room_1 s m args below meth c A Q 4 D 151 3341 (wX cI cF u2 a o1.2 o2.2) 1028 [(0, .ref b), (1, .ref (u 0 0)), (2, .ref (a 0)), (3, .int (nI i))] []) : hk_W p l e room_1 s m args below meth c A Q 4 D 151 3341 (wX cI cF u a x y) 329 [(0, .ref b), (1, .ref (u 0 0)), (2, .ref (a 0)), (3, .int (nI i))] [] := by
  refine hk_aload_n hC jd_law_329 1 rfl ?_
  refine hk_aload_n hC jd_law_330 0 rfl ?_
  refine hk_iload_n hC jd_law_331 3 rfl ?_
  refine hk_iconst (v := nI 1) hC jd_law_332 (by decide) ?_
  refine hk_iadd hC jd_law_333 ?_
  refine hk_topi (jn_add i 1) ?_
  refine hk_sld hC hX hbl hbA (n := i + 1) (by omega) hL jd_law_334 ?_
  refine hk_aload_n hC jd_law_335 0 rfl ?_
  refine hk_iload_n hC jd_law_336 3 rfl ?_
  refine hk_iconst (v := nI 2) hC jd_law_337 (by decide) ?_
  refine hk_iadd hC jd_law_338 ?_
  refine hk_topi (jn_add i 2) ?_
  refine hk_sld hC hX hbl hbA (n := i + 2) (by omega) hL jd_law_339 ?_
  refine hk_aload_n hC jd_law_340 0 rfl ?_
  refine hk_iload_n hC jd_law_341 3 rfl ?_
  refine hk_iconst (v := nI 3) hC jd_law_342 (by decide) ?_
  refine hk_iadd hC jd_law_343 ?_
  refine hk_topi (jn_add i 3) ?_
  refine hk_sld hC hX hbl hbA (n := i + 3) (by omega) hL jd_law_344 ?_
  obtain ⟨q, hq, h1⟩ := xb_go h1
  refine hk_callVBi hC (as := [.int (xs (i + 1)), .int (xs (i + 2)), .int (xs (i + 3))]) (jc_H_layer l D cI cF N (u 0) (u 1) (u 2) (u 3) (u 4) (u 5) (u 6) (u 7) (u 8) x.2.2.1.1 x.2.2.1.2.1 x.2.2.1.2.2.1 x.2.2.1.2.2.2.1 x.2.2.1.2.2.2.2.1 x.2.2.1.2.2.2.2.2.1 x.2.2.1.2.2.2.2.2.2.1 x.2.2.1.2.2.2.2.2.2.2.1 x.2.2.1.2.2.2.2.2.2.2.2 x.2.2.2.2.2.2.2.1.1 x.2.2.2.2.2.2.2.1.2.1 x.2.2.2.2.2.2.2.1.2.2.1 x.2.2.2.2.2.2.2.1.2.2.2.1 x.2.2.2.2.2.2.2.1.2.2.2.2.1 x.2.2.2.2.2.2.2.1.2.2.2.2.2.1 x.2.2.2.2.2.2.2.1.2.2.2.2.2.2.1 x.2.2.2.2.2.2.2.1.2.2.2.2.2.2.2.1 x.2.2.2.2.2.2.2.1.2.2.2.2.2.2.2.2 (xs (i + 1)) (xs (i + 2)) (xs (i + 3)) hq) jl_H_layer rfl (List.mem_append_left _ List.mem_cons_self) jq_390 jq_391 jq_392 rfl ⟨by decide, by decide⟩ (pm_10_0_2_5 _ _ _ _ _ _ _ _ _ _) (ws2 := (wX cI cF u a (x.1, x.2.1, x.2.2.1, x.2.2.2.1, x.2.2.2.2.1, x.2.2.2.2.2.1, x.2.2.2.2.2.2.1, x.2.2.2.2.2.2.2.1, x.2.2.2.2.2.2.2.2.1, x.2.2.2.2.2.2.2.2.2.1, x.2.2.2.2.2.2.2.2.2.2.1, x.2.2.2.2.2.2.2.2.2.2.2.1, x.2.2.2.2.2.2.2.2.2.2.2.2.1, x.2.2.2.2.2.2.2.2.2.2.2.2.2.1, x.2.2.2.2.2.2.2.2.2.2.2.2.2.2) y)) (pm_10_0_2_5 _ _ _ _ _ _ _ _ _ _) rfl rfl (Nat.le_of_ble_eq_true rfl) ⟨Nat.le_of_ble_eq_true rfl, Nat.le_of_ble_eq_true rfl⟩ jd_law_345 ?_
  refine hk_aload_n hC jd_law_348 2 rfl ?_
  refine hk_aload_n hC jd_law_349 0 rfl ?_
  refine hk_iload_n hC jd_law_350 3 rfl ?_
  refine hk_iconst (v := nI 1) hC jd_law_351 (by decide) ?_
  refine hk_iadd hC jd_law_352 ?_
  refine hk_topi (jn_add i 1) ?_
  refine hk_sld hC hX hbl hbA (n := i + 1) (by omega) hL jd_law_353 ?_
  refine hk_aload_n hC jd_law_354 0 rfl ?_
  refine hk_iload_n hC jd_law_355 3 rfl ?_
  refine hk_iconst (v := nI 2) hC jd_law_356 (by decide) ?_
  refine hk_iadd hC jd_law_357 ?_
  refine hk_topi (jn_add i 2) ?_
  refine hk_sld hC hX hbl hbA (n := i + 2) (by omega) hL jd_law_358 ?_
  refine hk_aload_n hC jd_law_359 0 rfl ?_
  refine hk_iload_n hC jd_law_360 3 rfl ?_
  refine hk_iconst (v := nI 3) hC jd_law_361 (by decide) ?_
  refine hk_iadd hC jd_law_362 ?_
  refine hk_topi (jn_add i 3) ?_
  refine hk_sld hC hX hbl hbA (n := i + 3) (by omega) hL jd_law_363 ?_
  obtain ⟨q2, hq2, h2⟩ := xb_go h2
  refine hk_callVBi hC (as := [.int (xs (i + 1)), .int (xs (i + 2)), .int (xs (i + 3))]) (jc_M_layer l D cI cF N a y.1 y.2.1 y.2.2.1 y.2.2.2.1 y.2.2.2.2.1 y.2.2.2.2.2.1 y.2.2.2.2.2.2.1 y.2.2.2.2.2.2.2.1 y.2.2.2.2.2.2.2.2.1 y.2.2.2.2.2.2.2.2.2.1 y.2.2.2.2.2.2.2.2.2.2.1 y.2.2.2.2.2.2.2.2.2.2.2.1 y.2.2.2.2.2.2.2.2.2.2.2.2.1 y.2.2.2.2.2.2.2.2.2.2.2.2.2.1 y.2.2.2.2.2.2.2.2.2.2.2.2.2.2.1 y.2.2.2.2.2.2.2.2.2.2.2.2.2.2.2.1 y.2.2.2.2.2.2.2.2.2.2.2.2.2.2.2.2.1 y.2.2.2.2.2.2.2.2.2.2.2.2.2.2.2.2.2.1 y.2.2.2.2.2.2.2.2.2.2.2.2.2.2.2.2.2.2.1 y.2.2.2.2.2.2.2.2.2.2.2.2.2.2.2.2.2.2.2.1 y.2.2.2.2.2.2.2.2.2.2.2.2.2.2.2.2.2.2.2.2.1 y.2.2.2.2.2.2.2.2.2.2.2.2.2.2.2.2.2.2.2.2.2.1 y.2.2.2.2.2.2.2.2.2.2.2.2.2.2.2.2.2.2.2.2.2.2.1 y.2.2.2.2.2.2.2.2.2.2.2.2.2.2.2.2.2.2.2.2.2.2.2.1 y.2.2.2.2.2.2.2.2.2.2.2.2.2.2.2.2.2.2.2.2.2.2.2.2.1 y.2.2.2.2.2.2.2.2.2.2.2.2.2.2.2.2.2.2.2.2.2.2.2.2.2.1 y.2.2.2.2.2.2.2.2.2.2.2.2.2.2.2.2.2.2.2.2.2.2.2.2.2.2.1 y.2.2.2.2.2.2.2.2.2.2.2.2.2.2.2.2.2.2.2.2.2.2.2.2.2.2.2.1 y.2.2.2.2.2.2.2.2.2.2.2.2.2.2.2.2.2.2.2.2.2.2.2.2.2.2.2.2 (xs (i + 1)) (xs (i + 2)) (xs (i + 3)) hq2) jl_M_layer rfl (List.mem_append_right _ (List.mem_append_right _ (List.mem_append_right _ (List.mem_append_right _ (List.mem_append_right _ (List.mem_append_right _ (List.mem_append_right _ (List.mem_append_right _ (List.mem_append_right _ (List.mem_cons_self)))))))))) jq_830 jq_831 jq_832 rfl ⟨by decide, by decide⟩ (pm_10_9 _ _ _ _ _ _ _ _ _ _) (ws2 := (wX cI cF u a (x.1, x.2.1, x.2.2.1, x.2.2.2.1, x.2.2.2.2.1, x.2.2.2.2.2.1, x.2.2.2.2.2.2.1, x.2.2.2.2.2.2.2.1, x.2.2.2.2.2.2.2.2.1, x.2.2.2.2.2.2.2.2.2.1, x.2.2.2.2.2.2.2.2.2.2.1, x.2.2.2.2.2.2.2.2.2.2.2.1, x.2.2.2.2.2.2.2.2.2.2.2.2.1, x.2.2.2.2.2.2.2.2.2.2.2.2.2.1, x.2.2.2.2.2.2.2.2.2.2.2.2.2.2) (y.1, y.2.1, y.2.2.1, y.2.2.2.1, y.2.2.2.2.1, y.2.2.2.2.2.1, y.2.2.2.2.2.2.1, y.2.2.2.2.2.2.2.1, y.2.2.2.2.2.2.2.2.1, y.2.2.2.2.2.2.2.2.2.1, y.2.2.2.2.2.2.2.2.2.2.1, y.2.2.2.2.2.2.2.2.2.2.2.1, y.2.2.2.2.2.2.2.2.2.2.2.2.1, y.2.2.2.2.2.2.2.2.2.2.2.2.2.1, y.2.2.2.2.2.2.2.2.2.2.2.2.2.2.1, y.2.2.2.2.2.2.2.2.2.2.2.2.2.2.2.1, y.2.2.2.2.2.2.2.2.2.2.2.2.2.2.2.2.1, y.2.2.2.2.2.2.2.2.2.2.2.2.2.2.2.2.2.1, y.2.2.2.2.2.2.2.2.2.2.2.2.2.2.2.2.2.2.1, y.2.2.2.2.2.2.2.2.2.2.2.2.2.2.2.2.2.2.2.1, y.2.2.2.2.2.2.2.2.2.2.2.2.2.2.2.2.2.2.2.2.1, y.2.2.2.2.2.2.2.2.2.2.2.2.2.2.2.2.2.2.2.2.2.1, y.2.2.2.2.2.2.2.2.2.2.2.2.2.2.2.2.2.2.2.2.2.2.1, y.2.2.2.2.2.2.2.2.2.2.2.2.2.2.2.2.2.2.2.2.2.2.2.1, y.2.2.2.2.2.2.2.2.2.2.2.2.2.2.2.2.2.2.2.2.2.2.2.2.1, y.2.2.2.2.2.2.2.2.2.2.2.2.2.2.2.2.2.2.2.2.2.2.2.2.2.1, y.2.2.2.2.2.2.2.2.2.2.2.2.2.2.2.2.2.2.2.2.2.2.2.2.2.2.1, y.2.2.2.2.2.2.2.2.2.2.2.2.2.2.2.2.2.2.2.2.2.2.2.2.2.2.2.1, y.2.2.2.2.2.2.2.2.2.2.2.2.2.2.2.2.2.2.2.2.2.2.2.2.2.2.2.2))) (pm_10_9 _ _ _ _ _ _ _ _ _ _) rfl rfl (Nat.le_of_ble_eq_true rfl) ⟨Nat.le_of_ble_eq_true rfl, Nat.le_of_ble_eq_true rfl⟩ jd_law_364 ?_
  obtain rfl := Option.some.inj h1
  obtain rfl := Option.some.inj h2
  exact hk_icmp_eq (tgt := 1028) hC jd_law_367 (by decide) (fun _ => k u rfl) (fun cc => absurd he cc)
set_option maxHeartbeats 16000000 in
set_option maxRecDepth 100000 in
theorem jlw_8 {p : Program} {l : Launch} {e : Env} {s : State} {m : MethodId} {args : Array Value} {below : List Frame} {meth : Method} {c : Code} {A : Nat → Prop} {Q : State → Prop} {D : va_G} {cI cF : ClassId} (hC : hk_ok p s m args meth c A 4 D cI cF "HayTalkLaw" code) {b L : Nat} {xs : Nat → Int32} (hX : va_X b L xs s s.heap) (hbl : b < s.heap.size) (hbA : ¬ A b) (hL : L ≤ 3072) (N : Nat) (u : Nat → Nat → Nat) (a : Nat → Nat) (x : jX) (y : jM) (i : Nat) (hi : i + 6 ≤ L) {o1 : Int32 × jX} {o2 : Int32 × jM} (h1 : jh_8 N x (xs (i + 1)) = some o1) (h2 : jm_8 N y (xs (i + 1)) = some o2) (he : o1.1 = o2.1) (k : ∀ u2 : Nat → Nat → Nat, u2 0 0 = u 0 0 → hk_W p l e room_1 s m args below meth c A Q 4 D 151 3341 (wX cI cF u2 a o1.2 o2.2) 1028 [(0, .ref b), (1, .ref (u 0 0)), (2, .ref (a 0)), (3, .int (nI i))] []) : hk_W p l e room_1 s m args below meth c A Q 4 D 151 3341 (wX cI cF u a x y) 372 [(0, .ref b), (1, .ref (u 0 0)), (2, .ref (a 0)), (3, .int (nI i))] [] := by
  refine hk_aload_n hC jd_law_372 1 rfl ?_
  refine hk_aload_n hC jd_law_373 0 rfl ?_
  refine hk_iload_n hC jd_law_374 3 rfl ?_
  refine hk_iconst (v := nI 1) hC jd_law_375 (by decide) ?_
  refine hk_iadd hC jd_law_376 ?_
  refine hk_topi (jn_add i 1) ?_
  refine hk_sld hC hX hbl hbA (n := i + 1) (by omega) hL jd_law_377 ?_
  obtain ⟨q, hq, h1⟩ := xb_go h1
  refine hk_callVBi hC (as := [.int (xs (i + 1))]) (jc_H_pass l D cI cF N (u 0) (u 1) (u 2) (u 3) (u 4) (u 5) (u 6) (u 7) (u 8) x.2.2.1.1 x.2.2.1.2.1 x.2.2.1.2.2.1 x.2.2.1.2.2.2.1 x.2.2.1.2.2.2.2.1 x.2.2.1.2.2.2.2.2.1 x.2.2.1.2.2.2.2.2.2.1 x.2.2.1.2.2.2.2.2.2.2.1 x.2.2.1.2.2.2.2.2.2.2.2 x.2.2.2.2.2.2.2.1.1 x.2.2.2.2.2.2.2.1.2.1 x.2.2.2.2.2.2.2.1.2.2.1 x.2.2.2.2.2.2.2.1.2.2.2.1 x.2.2.2.2.2.2.2.1.2.2.2.2.1 x.2.2.2.2.2.2.2.1.2.2.2.2.2.1 x.2.2.2.2.2.2.2.1.2.2.2.2.2.2.1 x.2.2.2.2.2.2.2.1.2.2.2.2.2.2.2.1 x.2.2.2.2.2.2.2.1.2.2.2.2.2.2.2.2 x.2.2.2.2.2.2.2.2.2.1 x.2.2.2.2.2.2.2.2.2.2.1 x.2.2.2.2.2.2.2.2.2.2.2.1 (xs (i + 1)) hq) jl_H_pass rfl (List.mem_append_left _ List.mem_cons_self) jq_403 jq_404 jq_405 rfl ⟨by decide, by decide⟩ (pm_10_0_2_5_7 _ _ _ _ _ _ _ _ _ _) (ws2 := (wX cI cF u a (x.1, x.2.1, (q.2.1, q.2.2.1, x.2.2.1.2.2.1, q.2.2.2.1, q.2.2.2.2.1, x.2.2.1.2.2.2.2.2.1, x.2.2.1.2.2.2.2.2.2.1, q.2.2.2.2.2.1, q.2.2.2.2.2.2.1), x.2.2.2.1, x.2.2.2.2.1, x.2.2.2.2.2.1, x.2.2.2.2.2.2.1, x.2.2.2.2.2.2.2.1, x.2.2.2.2.2.2.2.2.1, q.2.2.2.2.2.2.2.1, q.2.2.2.2.2.2.2.2.1, q.2.2.2.2.2.2.2.2.2, x.2.2.2.2.2.2.2.2.2.2.2.2.1, x.2.2.2.2.2.2.2.2.2.2.2.2.2.1, x.2.2.2.2.2.2.2.2.2.2.2.2.2.2) y)) (pm_10_0_2_5_7 _ _ _ _ _ _ _ _ _ _) (fst_app rfl (fst_app rfl (fst_app rfl (fst_P _ _ _ _)))) rfl (Nat.le_of_ble_eq_true rfl) ⟨Nat.le_of_ble_eq_true rfl, Nat.le_of_ble_eq_true rfl⟩ jd_law_378 ?_
  refine hk_aload_n hC jd_law_381 2 rfl ?_
  refine hk_aload_n hC jd_law_382 0 rfl ?_
  refine hk_iload_n hC jd_law_383 3 rfl ?_
  refine hk_iconst (v := nI 1) hC jd_law_384 (by decide) ?_
  refine hk_iadd hC jd_law_385 ?_
  refine hk_topi (jn_add i 1) ?_
  refine hk_sld hC hX hbl hbA (n := i + 1) (by omega) hL jd_law_386 ?_
  obtain ⟨q2, hq2, h2⟩ := xb_go h2
  refine hk_callVBi hC (as := [.int (xs (i + 1))]) (jc_M_pass l D cI cF N a y.1 y.2.1 y.2.2.1 y.2.2.2.1 y.2.2.2.2.1 y.2.2.2.2.2.1 y.2.2.2.2.2.2.1 y.2.2.2.2.2.2.2.1 y.2.2.2.2.2.2.2.2.1 y.2.2.2.2.2.2.2.2.2.1 y.2.2.2.2.2.2.2.2.2.2.1 y.2.2.2.2.2.2.2.2.2.2.2.1 y.2.2.2.2.2.2.2.2.2.2.2.2.1 y.2.2.2.2.2.2.2.2.2.2.2.2.2.1 y.2.2.2.2.2.2.2.2.2.2.2.2.2.2.1 y.2.2.2.2.2.2.2.2.2.2.2.2.2.2.2.1 y.2.2.2.2.2.2.2.2.2.2.2.2.2.2.2.2.1 y.2.2.2.2.2.2.2.2.2.2.2.2.2.2.2.2.2.1 y.2.2.2.2.2.2.2.2.2.2.2.2.2.2.2.2.2.2.1 y.2.2.2.2.2.2.2.2.2.2.2.2.2.2.2.2.2.2.2.1 y.2.2.2.2.2.2.2.2.2.2.2.2.2.2.2.2.2.2.2.2.1 y.2.2.2.2.2.2.2.2.2.2.2.2.2.2.2.2.2.2.2.2.2.1 y.2.2.2.2.2.2.2.2.2.2.2.2.2.2.2.2.2.2.2.2.2.2.1 y.2.2.2.2.2.2.2.2.2.2.2.2.2.2.2.2.2.2.2.2.2.2.2.1 y.2.2.2.2.2.2.2.2.2.2.2.2.2.2.2.2.2.2.2.2.2.2.2.2.1 y.2.2.2.2.2.2.2.2.2.2.2.2.2.2.2.2.2.2.2.2.2.2.2.2.2.1 y.2.2.2.2.2.2.2.2.2.2.2.2.2.2.2.2.2.2.2.2.2.2.2.2.2.2.1 y.2.2.2.2.2.2.2.2.2.2.2.2.2.2.2.2.2.2.2.2.2.2.2.2.2.2.2.1 y.2.2.2.2.2.2.2.2.2.2.2.2.2.2.2.2.2.2.2.2.2.2.2.2.2.2.2.2 (xs (i + 1)) hq2) jl_M_pass rfl (List.mem_append_right _ (List.mem_append_right _ (List.mem_append_right _ (List.mem_append_right _ (List.mem_append_right _ (List.mem_append_right _ (List.mem_append_right _ (List.mem_append_right _ (List.mem_append_right _ (List.mem_cons_self)))))))))) jq_838 jq_839 jq_840 rfl ⟨by decide, by decide⟩ (pm_10_9 _ _ _ _ _ _ _ _ _ _) (ws2 := (wX cI cF u a (x.1, x.2.1, (q.2.1, q.2.2.1, x.2.2.1.2.2.1, q.2.2.2.1, q.2.2.2.2.1, x.2.2.1.2.2.2.2.2.1, x.2.2.1.2.2.2.2.2.2.1, q.2.2.2.2.2.1, q.2.2.2.2.2.2.1), x.2.2.2.1, x.2.2.2.2.1, x.2.2.2.2.2.1, x.2.2.2.2.2.2.1, x.2.2.2.2.2.2.2.1, x.2.2.2.2.2.2.2.2.1, q.2.2.2.2.2.2.2.1, q.2.2.2.2.2.2.2.2.1, q.2.2.2.2.2.2.2.2.2, x.2.2.2.2.2.2.2.2.2.2.2.2.1, x.2.2.2.2.2.2.2.2.2.2.2.2.2.1, x.2.2.2.2.2.2.2.2.2.2.2.2.2.2) (y.1, y.2.1, y.2.2.1, y.2.2.2.1, y.2.2.2.2.1, y.2.2.2.2.2.1, y.2.2.2.2.2.2.1, y.2.2.2.2.2.2.2.1, y.2.2.2.2.2.2.2.2.1, y.2.2.2.2.2.2.2.2.2.1, y.2.2.2.2.2.2.2.2.2.2.1, y.2.2.2.2.2.2.2.2.2.2.2.1, y.2.2.2.2.2.2.2.2.2.2.2.2.1, y.2.2.2.2.2.2.2.2.2.2.2.2.2.1, y.2.2.2.2.2.2.2.2.2.2.2.2.2.2.1, y.2.2.2.2.2.2.2.2.2.2.2.2.2.2.2.1, y.2.2.2.2.2.2.2.2.2.2.2.2.2.2.2.2.1, y.2.2.2.2.2.2.2.2.2.2.2.2.2.2.2.2.2.1, y.2.2.2.2.2.2.2.2.2.2.2.2.2.2.2.2.2.2.1, y.2.2.2.2.2.2.2.2.2.2.2.2.2.2.2.2.2.2.2.1, q2.2.1, q2.2.2.1, q2.2.2.2, y.2.2.2.2.2.2.2.2.2.2.2.2.2.2.2.2.2.2.2.2.2.2.2.1, y.2.2.2.2.2.2.2.2.2.2.2.2.2.2.2.2.2.2.2.2.2.2.2.2.1, y.2.2.2.2.2.2.2.2.2.2.2.2.2.2.2.2.2.2.2.2.2.2.2.2.2.1, y.2.2.2.2.2.2.2.2.2.2.2.2.2.2.2.2.2.2.2.2.2.2.2.2.2.2.1, y.2.2.2.2.2.2.2.2.2.2.2.2.2.2.2.2.2.2.2.2.2.2.2.2.2.2.2.1, y.2.2.2.2.2.2.2.2.2.2.2.2.2.2.2.2.2.2.2.2.2.2.2.2.2.2.2.2))) (pm_10_9 _ _ _ _ _ _ _ _ _ _) rfl rfl (Nat.le_of_ble_eq_true rfl) ⟨Nat.le_of_ble_eq_true rfl, Nat.le_of_ble_eq_true rfl⟩ jd_law_387 ?_
  obtain rfl := Option.some.inj h1
  obtain rfl := Option.some.inj h2
  exact hk_icmp_eq (tgt := 1028) hC jd_law_390 (by decide) (fun _ => k u rfl) (fun cc => absurd he cc)
set_option maxHeartbeats 16000000 in
set_option maxRecDepth 100000 in
theorem jlw_9 {p : Program} {l : Launch} {e : Env} {s : State} {m : MethodId} {args : Array Value} {below : List Frame} {meth : Method} {c : Code} {A : Nat → Prop} {Q : State → Prop} {D : va_G} {cI cF : ClassId} (hC : hk_ok p s m args meth c A 4 D cI cF "HayTalkLaw" code) {b L : Nat} {xs : Nat → Int32} (hX : va_X b L xs s s.heap) (hbl : b < s.heap.size) (hbA : ¬ A b) (hL : L ≤ 3072) (N : Nat) (u : Nat → Nat → Nat) (a : Nat → Nat) (x : jX) (y : jM) (i : Nat) (hi : i + 6 ≤ L) {o1 : Int32 × jX} {o2 : Int32 × jM} (h1 : jh_9 N x (xs (i + 1)) (xs (i + 2)) (xs (i + 3)) = some o1) (h2 : jm_9 N y (xs (i + 1)) (xs (i + 2)) (xs (i + 3)) = some o2) (he : o1.1 = o2.1) (k : ∀ u2 : Nat → Nat → Nat, u2 0 0 = u 0 0 → hk_W p l e room_1 s m args below meth c A Q 4 D 151 3341 (wX cI cF u2 a o1.2 o2.2) 1028 [(0, .ref b), (1, .ref (u 0 0)), (2, .ref (a 0)), (3, .int (nI i))] []) : hk_W p l e room_1 s m args below meth c A Q 4 D 151 3341 (wX cI cF u a x y) 395 [(0, .ref b), (1, .ref (u 0 0)), (2, .ref (a 0)), (3, .int (nI i))] [] := by
  refine hk_aload_n hC jd_law_395 1 rfl ?_
  refine hk_aload_n hC jd_law_396 0 rfl ?_
  refine hk_iload_n hC jd_law_397 3 rfl ?_
  refine hk_iconst (v := nI 1) hC jd_law_398 (by decide) ?_
  refine hk_iadd hC jd_law_399 ?_
  refine hk_topi (jn_add i 1) ?_
  refine hk_sld hC hX hbl hbA (n := i + 1) (by omega) hL jd_law_400 ?_
  refine hk_aload_n hC jd_law_401 0 rfl ?_
  refine hk_iload_n hC jd_law_402 3 rfl ?_
  refine hk_iconst (v := nI 2) hC jd_law_403 (by decide) ?_
  refine hk_iadd hC jd_law_404 ?_
  refine hk_topi (jn_add i 2) ?_
  refine hk_sld hC hX hbl hbA (n := i + 2) (by omega) hL jd_law_405 ?_
  refine hk_aload_n hC jd_law_406 0 rfl ?_
  refine hk_iload_n hC jd_law_407 3 rfl ?_
  refine hk_iconst (v := nI 3) hC jd_law_408 (by decide) ?_
  refine hk_iadd hC jd_law_409 ?_
  refine hk_topi (jn_add i 3) ?_
  refine hk_sld hC hX hbl hbA (n := i + 3) (by omega) hL jd_law_410 ?_
  obtain ⟨q, hq, h1⟩ := xb_go h1
  refine hk_callVBi hC (as := [.int (xs (i + 1)), .int (xs (i + 2)), .int (xs (i + 3))]) (jc_H_rake l D cI cF N (u 0) (u 1) (u 2) (u 3) (u 4) (u 5) (u 6) (u 7) (u 8) x.2.2.1.1 x.2.2.1.2.1 x.2.2.1.2.2.1 x.2.2.1.2.2.2.1 x.2.2.1.2.2.2.2.1 x.2.2.1.2.2.2.2.2.1 x.2.2.1.2.2.2.2.2.2.1 x.2.2.1.2.2.2.2.2.2.2.1 x.2.2.1.2.2.2.2.2.2.2.2 x.2.2.2.2.2.2.2.1.1 x.2.2.2.2.2.2.2.1.2.1 x.2.2.2.2.2.2.2.1.2.2.1 x.2.2.2.2.2.2.2.1.2.2.2.1 x.2.2.2.2.2.2.2.1.2.2.2.2.1 x.2.2.2.2.2.2.2.1.2.2.2.2.2.1 x.2.2.2.2.2.2.2.1.2.2.2.2.2.2.1 x.2.2.2.2.2.2.2.1.2.2.2.2.2.2.2.1 x.2.2.2.2.2.2.2.1.2.2.2.2.2.2.2.2 x.2.2.2.2.2.2.2.2.2.1 x.2.2.2.2.2.2.2.2.2.2.1 x.2.2.2.2.2.2.2.2.2.2.2.1 (xs (i + 1)) (xs (i + 2)) (xs (i + 3)) hq) jl_H_rake rfl (List.mem_append_left _ List.mem_cons_self) jq_447 jq_448 jq_449 rfl ⟨by decide, by decide⟩ (pm_10_0_2_5_7 _ _ _ _ _ _ _ _ _ _) (ws2 := (wX cI cF u a (x.1, x.2.1, (q.2.1, q.2.2.1, x.2.2.1.2.2.1, q.2.2.2.1, x.2.2.1.2.2.2.2.1, q.2.2.2.2.1, q.2.2.2.2.2.1, q.2.2.2.2.2.2.1, x.2.2.1.2.2.2.2.2.2.2.2), x.2.2.2.1, x.2.2.2.2.1, x.2.2.2.2.2.1, x.2.2.2.2.2.2.1, x.2.2.2.2.2.2.2.1, x.2.2.2.2.2.2.2.2.1, q.2.2.2.2.2.2.2.1, q.2.2.2.2.2.2.2.2.1, q.2.2.2.2.2.2.2.2.2, x.2.2.2.2.2.2.2.2.2.2.2.2.1, x.2.2.2.2.2.2.2.2.2.2.2.2.2.1, x.2.2.2.2.2.2.2.2.2.2.2.2.2.2) y)) (pm_10_0_2_5_7 _ _ _ _ _ _ _ _ _ _) (fst_app rfl (fst_app rfl (fst_app rfl (fst_P _ _ _ _)))) rfl (Nat.le_of_ble_eq_true rfl) ⟨Nat.le_of_ble_eq_true rfl, Nat.le_of_ble_eq_true rfl⟩ jd_law_411 ?_
  refine hk_aload_n hC jd_law_414 2 rfl ?_
  refine hk_aload_n hC jd_law_415 0 rfl ?_
  refine hk_iload_n hC jd_law_416 3 rfl ?_
  refine hk_iconst (v := nI 1) hC jd_law_417 (by decide) ?_
  refine hk_iadd hC jd_law_418 ?_
  refine hk_topi (jn_add i 1) ?_
  refine hk_sld hC hX hbl hbA (n := i + 1) (by omega) hL jd_law_419 ?_
  refine hk_aload_n hC jd_law_420 0 rfl ?_
  refine hk_iload_n hC jd_law_421 3 rfl ?_
  refine hk_iconst (v := nI 2) hC jd_law_422 (by decide) ?_
  refine hk_iadd hC jd_law_423 ?_
  refine hk_topi (jn_add i 2) ?_
  refine hk_sld hC hX hbl hbA (n := i + 2) (by omega) hL jd_law_424 ?_
  refine hk_aload_n hC jd_law_425 0 rfl ?_
  refine hk_iload_n hC jd_law_426 3 rfl ?_
  refine hk_iconst (v := nI 3) hC jd_law_427 (by decide) ?_
  refine hk_iadd hC jd_law_428 ?_
  refine hk_topi (jn_add i 3) ?_
  refine hk_sld hC hX hbl hbA (n := i + 3) (by omega) hL jd_law_429 ?_
  obtain ⟨q2, hq2, h2⟩ := xb_go h2
  refine hk_callVBi hC (as := [.int (xs (i + 1)), .int (xs (i + 2)), .int (xs (i + 3))]) (jc_M_rake l D cI cF N a y.1 y.2.1 y.2.2.1 y.2.2.2.1 y.2.2.2.2.1 y.2.2.2.2.2.1 y.2.2.2.2.2.2.1 y.2.2.2.2.2.2.2.1 y.2.2.2.2.2.2.2.2.1 y.2.2.2.2.2.2.2.2.2.1 y.2.2.2.2.2.2.2.2.2.2.1 y.2.2.2.2.2.2.2.2.2.2.2.1 y.2.2.2.2.2.2.2.2.2.2.2.2.1 y.2.2.2.2.2.2.2.2.2.2.2.2.2.1 y.2.2.2.2.2.2.2.2.2.2.2.2.2.2.1 y.2.2.2.2.2.2.2.2.2.2.2.2.2.2.2.1 y.2.2.2.2.2.2.2.2.2.2.2.2.2.2.2.2.1 y.2.2.2.2.2.2.2.2.2.2.2.2.2.2.2.2.2.1 y.2.2.2.2.2.2.2.2.2.2.2.2.2.2.2.2.2.2.1 y.2.2.2.2.2.2.2.2.2.2.2.2.2.2.2.2.2.2.2.1 y.2.2.2.2.2.2.2.2.2.2.2.2.2.2.2.2.2.2.2.2.1 y.2.2.2.2.2.2.2.2.2.2.2.2.2.2.2.2.2.2.2.2.2.1 y.2.2.2.2.2.2.2.2.2.2.2.2.2.2.2.2.2.2.2.2.2.2.1 y.2.2.2.2.2.2.2.2.2.2.2.2.2.2.2.2.2.2.2.2.2.2.2.1 y.2.2.2.2.2.2.2.2.2.2.2.2.2.2.2.2.2.2.2.2.2.2.2.2.1 y.2.2.2.2.2.2.2.2.2.2.2.2.2.2.2.2.2.2.2.2.2.2.2.2.2.1 y.2.2.2.2.2.2.2.2.2.2.2.2.2.2.2.2.2.2.2.2.2.2.2.2.2.2.1 y.2.2.2.2.2.2.2.2.2.2.2.2.2.2.2.2.2.2.2.2.2.2.2.2.2.2.2.1 y.2.2.2.2.2.2.2.2.2.2.2.2.2.2.2.2.2.2.2.2.2.2.2.2.2.2.2.2 (xs (i + 1)) (xs (i + 2)) (xs (i + 3)) hq2) jl_M_rake rfl (List.mem_append_right _ (List.mem_append_right _ (List.mem_append_right _ (List.mem_append_right _ (List.mem_append_right _ (List.mem_append_right _ (List.mem_append_right _ (List.mem_append_right _ (List.mem_append_right _ (List.mem_cons_self)))))))))) jq_863 jq_864 jq_865 rfl ⟨by decide, by decide⟩ (pm_10_9 _ _ _ _ _ _ _ _ _ _) (ws2 := (wX cI cF u a (x.1, x.2.1, (q.2.1, q.2.2.1, x.2.2.1.2.2.1, q.2.2.2.1, x.2.2.1.2.2.2.2.1, q.2.2.2.2.1, q.2.2.2.2.2.1, q.2.2.2.2.2.2.1, x.2.2.1.2.2.2.2.2.2.2.2), x.2.2.2.1, x.2.2.2.2.1, x.2.2.2.2.2.1, x.2.2.2.2.2.2.1, x.2.2.2.2.2.2.2.1, x.2.2.2.2.2.2.2.2.1, q.2.2.2.2.2.2.2.1, q.2.2.2.2.2.2.2.2.1, q.2.2.2.2.2.2.2.2.2, x.2.2.2.2.2.2.2.2.2.2.2.2.1, x.2.2.2.2.2.2.2.2.2.2.2.2.2.1, x.2.2.2.2.2.2.2.2.2.2.2.2.2.2) (y.1, y.2.1, y.2.2.1, y.2.2.2.1, y.2.2.2.2.1, y.2.2.2.2.2.1, y.2.2.2.2.2.2.1, y.2.2.2.2.2.2.2.1, y.2.2.2.2.2.2.2.2.1, y.2.2.2.2.2.2.2.2.2.1, y.2.2.2.2.2.2.2.2.2.2.1, y.2.2.2.2.2.2.2.2.2.2.2.1, y.2.2.2.2.2.2.2.2.2.2.2.2.1, y.2.2.2.2.2.2.2.2.2.2.2.2.2.1, y.2.2.2.2.2.2.2.2.2.2.2.2.2.2.1, y.2.2.2.2.2.2.2.2.2.2.2.2.2.2.2.1, y.2.2.2.2.2.2.2.2.2.2.2.2.2.2.2.2.1, y.2.2.2.2.2.2.2.2.2.2.2.2.2.2.2.2.2.1, y.2.2.2.2.2.2.2.2.2.2.2.2.2.2.2.2.2.2.1, y.2.2.2.2.2.2.2.2.2.2.2.2.2.2.2.2.2.2.2.1, q2.2.1, q2.2.2.1, q2.2.2.2, y.2.2.2.2.2.2.2.2.2.2.2.2.2.2.2.2.2.2.2.2.2.2.2.1, y.2.2.2.2.2.2.2.2.2.2.2.2.2.2.2.2.2.2.2.2.2.2.2.2.1, y.2.2.2.2.2.2.2.2.2.2.2.2.2.2.2.2.2.2.2.2.2.2.2.2.2.1, y.2.2.2.2.2.2.2.2.2.2.2.2.2.2.2.2.2.2.2.2.2.2.2.2.2.2.1, y.2.2.2.2.2.2.2.2.2.2.2.2.2.2.2.2.2.2.2.2.2.2.2.2.2.2.2.1, y.2.2.2.2.2.2.2.2.2.2.2.2.2.2.2.2.2.2.2.2.2.2.2.2.2.2.2.2))) (pm_10_9 _ _ _ _ _ _ _ _ _ _) rfl rfl (Nat.le_of_ble_eq_true rfl) ⟨Nat.le_of_ble_eq_true rfl, Nat.le_of_ble_eq_true rfl⟩ jd_law_430 ?_
  obtain rfl := Option.some.inj h1
  obtain rfl := Option.some.inj h2
  exact hk_icmp_eq (tgt := 1028) hC jd_law_433 (by decide) (fun _ => k u rfl) (fun cc => absurd he cc)
