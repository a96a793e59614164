set_option maxHeartbeats 16000000 in
set_option maxRecDepth 100000 in
theorem jlw_25 {p : Program} {l : Launch} {e : Env} {s : State} {m : MethodId} {args : Array Value} {below : List Frame} {meth : Method} {c : Code} {A : Nat → Prop} {Q : State → Prop} {D : va_G} {cI cF : ClassId} (hC : hk_ok p s m args meth c A 4 D cI cF "HayTalkLaw" code) {b L : Nat} {xs : Nat → Int32} (hX : va_X b L xs s s.heap) (hbl : b < s.heap.size) (hbA : ¬ A b) (hL : L ≤ 3072) (N : Nat) (u : Nat → Nat → Nat) (a : Nat → Nat) (x : jX) (y : jM) (i : Nat) (hi : i + 6 ≤ L) {o1 : Int32 × jX} {o2 : Int32 × jM} (h1 : jh_25 N x (xs (i + 1)) (xs (i + 2)) (xs (i + 3)) (xs (i + 4)) (xs (i + 5)) = some o1) (h2 : jm_25 N y (xs (i + 1)) (xs (i + 2)) (xs (i + 3)) (xs (i + 4)) (xs (i + 5)) = some o2) (he : o1.1 = o2.1) (k : ∀ u2 : Nat → Nat → Nat, u2 0 0 = u 0 0 → hk_W p l e room_1 s m args below meth c A Q 4 D 151 3341 (wX cI cF u2 a o1.2 o2.2) 1028 [(0, .ref b), (1, .ref (u 0 0)), (2, .ref (a 0)), (3, .int (nI i))] []) : hk_W p l e room_1 s m args below meth c A Q 4 D 151 3341 (wX cI cF u a x y) 873 [(0, .ref b), (1, .ref (u 0 0)), (2, .ref (a 0)), (3, .int (nI i))] [] := by
  refine hk_aload_n hC jd_law_873 1 rfl ?_
  refine hk_aload_n hC jd_law_874 0 rfl ?_
  refine hk_iload_n hC jd_law_875 3 rfl ?_
  refine hk_iconst (v := nI 1) hC jd_law_876 (by decide) ?_
  refine hk_iadd hC jd_law_877 ?_
  refine hk_topi (jn_add i 1) ?_
  refine hk_sld hC hX hbl hbA (n := i + 1) (by omega) hL jd_law_878 ?_
  refine hk_aload_n hC jd_law_879 0 rfl ?_
  refine hk_iload_n hC jd_law_880 3 rfl ?_
  refine hk_iconst (v := nI 2) hC jd_law_881 (by decide) ?_
  refine hk_iadd hC jd_law_882 ?_
  refine hk_topi (jn_add i 2) ?_
  refine hk_sld hC hX hbl hbA (n := i + 2) (by omega) hL jd_law_883 ?_
  refine hk_aload_n hC jd_law_884 0 rfl ?_
  refine hk_iload_n hC jd_law_885 3 rfl ?_
  refine hk_iconst (v := nI 3) hC jd_law_886 (by decide) ?_
  refine hk_iadd hC jd_law_887 ?_
  refine hk_topi (jn_add i 3) ?_
  refine hk_sld hC hX hbl hbA (n := i + 3) (by omega) hL jd_law_888 ?_
  refine hk_aload_n hC jd_law_889 0 rfl ?_
  refine hk_iload_n hC jd_law_890 3 rfl ?_
  refine hk_iconst (v := nI 4) hC jd_law_891 (by decide) ?_
  refine hk_iadd hC jd_law_892 ?_
  refine hk_topi (jn_add i 4) ?_
  refine hk_sld hC hX hbl hbA (n := i + 4) (by omega) hL jd_law_893 ?_
  refine hk_aload_n hC jd_law_894 0 rfl ?_
  refine hk_iload_n hC jd_law_895 3 rfl ?_
  refine hk_iconst (v := nI 5) hC jd_law_896 (by decide) ?_
  refine hk_iadd hC jd_law_897 ?_
  refine hk_topi (jn_add i 5) ?_
  refine hk_sld hC hX hbl hbA (n := i + 5) (by omega) hL jd_law_898 ?_
  obtain ⟨q, hq, h1⟩ := xb_go h1
  refine hk_callVBi hC (as := [.int (xs (i + 1)), .int (xs (i + 2)), .int (xs (i + 3)), .int (xs (i + 4)), .int (xs (i + 5))]) (jc_H_rain l D cI cF N (u 0) (u 1) (u 2) (u 3) (u 4) (u 5) (u 6) (u 7) (u 8) x.2.2.1.1 x.2.2.1.2.1 x.2.2.1.2.2.1 x.2.2.1.2.2.2.1 x.2.2.1.2.2.2.2.1 x.2.2.1.2.2.2.2.2.1 x.2.2.1.2.2.2.2.2.2.1 x.2.2.1.2.2.2.2.2.2.2.1 x.2.2.1.2.2.2.2.2.2.2.2 x.2.2.2.1.1 x.2.2.2.1.2.1 x.2.2.2.1.2.2.1 x.2.2.2.1.2.2.2.1 x.2.2.2.1.2.2.2.2.1 x.2.2.2.1.2.2.2.2.2.1 x.2.2.2.1.2.2.2.2.2.2.1 x.2.2.2.1.2.2.2.2.2.2.2.1 x.2.2.2.1.2.2.2.2.2.2.2.2 x.2.2.2.2.2.2.2.1.1 x.2.2.2.2.2.2.2.1.2.1 x.2.2.2.2.2.2.2.1.2.2.1 x.2.2.2.2.2.2.2.1.2.2.2.1 x.2.2.2.2.2.2.2.1.2.2.2.2.1 x.2.2.2.2.2.2.2.1.2.2.2.2.2.1 x.2.2.2.2.2.2.2.1.2.2.2.2.2.2.1 x.2.2.2.2.2.2.2.1.2.2.2.2.2.2.2.1 x.2.2.2.2.2.2.2.1.2.2.2.2.2.2.2.2 (xs (i + 1)) (xs (i + 2)) (xs (i + 3)) (xs (i + 4)) (xs (i + 5)) hq) jl_H_rain rfl (List.mem_append_left _ List.mem_cons_self) jq_596 jq_597 jq_598 rfl ⟨by decide, by decide⟩ (pm_10_0_2_3_5 _ _ _ _ _ _ _ _ _ _) (ws2 := (wX cI cF u a (x.1, x.2.1, x.2.2.1, (q.2.1, q.2.2.1, q.2.2.2.1, q.2.2.2.2.1, q.2.2.2.2.2.1, q.2.2.2.2.2.2.1, q.2.2.2.2.2.2.2.1, q.2.2.2.2.2.2.2.2.1, q.2.2.2.2.2.2.2.2.2), x.2.2.2.2.1, x.2.2.2.2.2.1, x.2.2.2.2.2.2.1, x.2.2.2.2.2.2.2.1, x.2.2.2.2.2.2.2.2.1, x.2.2.2.2.2.2.2.2.2.1, x.2.2.2.2.2.2.2.2.2.2.1, x.2.2.2.2.2.2.2.2.2.2.2.1, x.2.2.2.2.2.2.2.2.2.2.2.2.1, x.2.2.2.2.2.2.2.2.2.2.2.2.2.1, x.2.2.2.2.2.2.2.2.2.2.2.2.2.2) y)) (pm_10_0_2_3_5 _ _ _ _ _ _ _ _ _ _) rfl rfl (Nat.le_of_ble_eq_true rfl) ⟨Nat.le_of_ble_eq_true rfl, Nat.le_of_ble_eq_true rfl⟩ jd_law_899 ?_
  refine hk_aload_n hC jd_law_902 2 rfl ?_
  refine hk_aload_n hC jd_law_903 0 rfl ?_
  refine hk_iload_n hC jd_law_904 3 rfl ?_
  refine hk_iconst (v := nI 1) hC jd_law_905 (by decide) ?_
  refine hk_iadd hC jd_law_906 ?_
  refine hk_topi (jn_add i 1) ?_
  refine hk_sld hC hX hbl hbA (n := i + 1) (by omega) hL jd_law_907 ?_
  refine hk_aload_n hC jd_law_908 0 rfl ?_
  refine hk_iload_n hC jd_law_909 3 rfl ?_
  refine hk_iconst (v := nI 2) hC jd_law_910 (by decide) ?_
  refine hk_iadd hC jd_law_911 ?_
  refine hk_topi (jn_add i 2) ?_
  refine hk_sld hC hX hbl hbA (n := i + 2) (by omega) hL jd_law_912 ?_
  refine hk_aload_n hC jd_law_913 0 rfl ?_
  refine hk_iload_n hC jd_law_914 3 rfl ?_
  refine hk_iconst (v := nI 3) hC jd_law_915 (by decide) ?_
  refine hk_iadd hC jd_law_916 ?_
  refine hk_topi (jn_add i 3) ?_
  refine hk_sld hC hX hbl hbA (n := i + 3) (by omega) hL jd_law_917 ?_
  refine hk_aload_n hC jd_law_918 0 rfl ?_
  refine hk_iload_n hC jd_law_919 3 rfl ?_
  refine hk_iconst (v := nI 4) hC jd_law_920 (by decide) ?_
  refine hk_iadd hC jd_law_921 ?_
  refine hk_topi (jn_add i 4) ?_
  refine hk_sld hC hX hbl hbA (n := i + 4) (by omega) hL jd_law_922 ?_
  refine hk_aload_n hC jd_law_923 0 rfl ?_
  refine hk_iload_n hC jd_law_924 3 rfl ?_
  refine hk_iconst (v := nI 5) hC jd_law_925 (by decide) ?_
  refine hk_iadd hC jd_law_926 ?_
  refine hk_topi (jn_add i 5) ?_
  refine hk_sld hC hX hbl hbA (n := i + 5) (by omega) hL jd_law_927 ?_
  obtain ⟨q2, hq2, h2⟩ := xb_go h2
  refine hk_callVBi hC (as := [.int (xs (i + 1)), .int (xs (i + 2)), .int (xs (i + 3)), .int (xs (i + 4)), .int (xs (i + 5))]) (jc_M_rain l D cI cF N a y.1 y.2.1 y.2.2.1 y.2.2.2.1 y.2.2.2.2.1 y.2.2.2.2.2.1 y.2.2.2.2.2.2.1 y.2.2.2.2.2.2.2.1 y.2.2.2.2.2.2.2.2.1 y.2.2.2.2.2.2.2.2.2.1 y.2.2.2.2.2.2.2.2.2.2.1 y.2.2.2.2.2.2.2.2.2.2.2.1 y.2.2.2.2.2.2.2.2.2.2.2.2.1 y.2.2.2.2.2.2.2.2.2.2.2.2.2.1 y.2.2.2.2.2.2.2.2.2.2.2.2.2.2.1 y.2.2.2.2.2.2.2.2.2.2.2.2.2.2.2.1 y.2.2.2.2.2.2.2.2.2.2.2.2.2.2.2.2.1 y.2.2.2.2.2.2.2.2.2.2.2.2.2.2.2.2.2.1 y.2.2.2.2.2.2.2.2.2.2.2.2.2.2.2.2.2.2.1 y.2.2.2.2.2.2.2.2.2.2.2.2.2.2.2.2.2.2.2.1 y.2.2.2.2.2.2.2.2.2.2.2.2.2.2.2.2.2.2.2.2.1 y.2.2.2.2.2.2.2.2.2.2.2.2.2.2.2.2.2.2.2.2.2.1 y.2.2.2.2.2.2.2.2.2.2.2.2.2.2.2.2.2.2.2.2.2.2.1 y.2.2.2.2.2.2.2.2.2.2.2.2.2.2.2.2.2.2.2.2.2.2.2.1 y.2.2.2.2.2.2.2.2.2.2.2.2.2.2.2.2.2.2.2.2.2.2.2.2.1 y.2.2.2.2.2.2.2.2.2.2.2.2.2.2.2.2.2.2.2.2.2.2.2.2.2.1 y.2.2.2.2.2.2.2.2.2.2.2.2.2.2.2.2.2.2.2.2.2.2.2.2.2.2.1 y.2.2.2.2.2.2.2.2.2.2.2.2.2.2.2.2.2.2.2.2.2.2.2.2.2.2.2.1 y.2.2.2.2.2.2.2.2.2.2.2.2.2.2.2.2.2.2.2.2.2.2.2.2.2.2.2.2 (xs (i + 1)) (xs (i + 2)) (xs (i + 3)) (xs (i + 4)) (xs (i + 5)) hq2) jl_M_rain rfl (List.mem_append_right _ (List.mem_append_right _ (List.mem_append_right _ (List.mem_append_right _ (List.mem_append_right _ (List.mem_append_right _ (List.mem_append_right _ (List.mem_append_right _ (List.mem_append_right _ (List.mem_cons_self)))))))))) jq_962 jq_963 jq_964 rfl ⟨by decide, by decide⟩ (pm_10_9 _ _ _ _ _ _ _ _ _ _) (ws2 := (wX cI cF u a (x.1, x.2.1, x.2.2.1, (q.2.1, q.2.2.1, q.2.2.2.1, q.2.2.2.2.1, q.2.2.2.2.2.1, q.2.2.2.2.2.2.1, q.2.2.2.2.2.2.2.1, q.2.2.2.2.2.2.2.2.1, q.2.2.2.2.2.2.2.2.2), x.2.2.2.2.1, x.2.2.2.2.2.1, x.2.2.2.2.2.2.1, x.2.2.2.2.2.2.2.1, x.2.2.2.2.2.2.2.2.1, x.2.2.2.2.2.2.2.2.2.1, x.2.2.2.2.2.2.2.2.2.2.1, x.2.2.2.2.2.2.2.2.2.2.2.1, x.2.2.2.2.2.2.2.2.2.2.2.2.1, x.2.2.2.2.2.2.2.2.2.2.2.2.2.1, x.2.2.2.2.2.2.2.2.2.2.2.2.2.2) (y.1, y.2.1, y.2.2.1, y.2.2.2.1, y.2.2.2.2.1, y.2.2.2.2.2.1, y.2.2.2.2.2.2.1, y.2.2.2.2.2.2.2.1, y.2.2.2.2.2.2.2.2.1, y.2.2.2.2.2.2.2.2.2.1, y.2.2.2.2.2.2.2.2.2.2.1, y.2.2.2.2.2.2.2.2.2.2.2.1, y.2.2.2.2.2.2.2.2.2.2.2.2.1, y.2.2.2.2.2.2.2.2.2.2.2.2.2.1, y.2.2.2.2.2.2.2.2.2.2.2.2.2.2.1, y.2.2.2.2.2.2.2.2.2.2.2.2.2.2.2.1, y.2.2.2.2.2.2.2.2.2.2.2.2.2.2.2.2.1, y.2.2.2.2.2.2.2.2.2.2.2.2.2.2.2.2.2.1, y.2.2.2.2.2.2.2.2.2.2.2.2.2.2.2.2.2.2.1, y.2.2.2.2.2.2.2.2.2.2.2.2.2.2.2.2.2.2.2.1, y.2.2.2.2.2.2.2.2.2.2.2.2.2.2.2.2.2.2.2.2.1, y.2.2.2.2.2.2.2.2.2.2.2.2.2.2.2.2.2.2.2.2.2.1, y.2.2.2.2.2.2.2.2.2.2.2.2.2.2.2.2.2.2.2.2.2.2.1, y.2.2.2.2.2.2.2.2.2.2.2.2.2.2.2.2.2.2.2.2.2.2.2.1, y.2.2.2.2.2.2.2.2.2.2.2.2.2.2.2.2.2.2.2.2.2.2.2.2.1, y.2.2.2.2.2.2.2.2.2.2.2.2.2.2.2.2.2.2.2.2.2.2.2.2.2.1, y.2.2.2.2.2.2.2.2.2.2.2.2.2.2.2.2.2.2.2.2.2.2.2.2.2.2.1, y.2.2.2.2.2.2.2.2.2.2.2.2.2.2.2.2.2.2.2.2.2.2.2.2.2.2.2.1, y.2.2.2.2.2.2.2.2.2.2.2.2.2.2.2.2.2.2.2.2.2.2.2.2.2.2.2.2))) (pm_10_9 _ _ _ _ _ _ _ _ _ _) rfl rfl (Nat.le_of_ble_eq_true rfl) ⟨Nat.le_of_ble_eq_true rfl, Nat.le_of_ble_eq_true rfl⟩ jd_law_928 ?_
  obtain rfl := Option.some.inj h1
  obtain rfl := Option.some.inj h2
  exact hk_icmp_eq (tgt := 1028) hC jd_law_931 (by decide) (fun _ => k u rfl) (fun cc => absurd he cc)
set_option maxHeartbeats 16000000 in
set_option maxRecDepth 100000 in
theorem jlw_26 {p : Program} {l : Launch} {e : Env} {s : State} {m : MethodId} {args : Array Value} {below : List Frame} {meth : Method} {c : Code} {A : Nat → Prop} {Q : State → Prop} {D : va_G} {cI cF : ClassId} (hC : hk_ok p s m args meth c A 4 D cI cF "HayTalkLaw" code) {b L : Nat} {xs : Nat → Int32} (hX : va_X b L xs s s.heap) (hbl : b < s.heap.size) (hbA : ¬ A b) (hL : L ≤ 3072) (N : Nat) (u : Nat → Nat → Nat) (a : Nat → Nat) (x : jX) (y : jM) (i : Nat) (hi : i + 6 ≤ L) {o1 : Int32 × jX} {o2 : Int32 × jM} (h1 : jh_26 N x (xs (i + 1)) (xs (i + 2)) (xs (i + 3)) = some o1) (h2 : jm_26 N y (xs (i + 1)) (xs (i + 2)) (xs (i + 3)) = some o2) (he : o1.1 = o2.1) (k : ∀ u2 : Nat → Nat → Nat, u2 0 0 = u 0 0 → hk_W p l e room_1 s m args below meth c A Q 4 D 151 3341 (wX cI cF u2 a o1.2 o2.2) 1028 [(0, .ref b), (1, .ref (u 0 0)), (2, .ref (a 0)), (3, .int (nI i))] []) : hk_W p l e room_1 s m args below meth c A Q 4 D 151 3341 (wX cI cF u a x y) 936 [(0, .ref b), (1, .ref (u 0 0)), (2, .ref (a 0)), (3, .int (nI i))] [] := by
  refine hk_aload_n hC jd_law_936 1 rfl ?_
  refine hk_aload_n hC jd_law_937 0 rfl ?_
  refine hk_iload_n hC jd_law_938 3 rfl ?_
  refine hk_iconst (v := nI 1) hC jd_law_939 (by decide) ?_
  refine hk_iadd hC jd_law_940 ?_
  refine hk_topi (jn_add i 1) ?_
  refine hk_sld hC hX hbl hbA (n := i + 1) (by omega) hL jd_law_941 ?_
  refine hk_aload_n hC jd_law_942 0 rfl ?_
  refine hk_iload_n hC jd_law_943 3 rfl ?_
  refine hk_iconst (v := nI 2) hC jd_law_944 (by decide) ?_
  refine hk_iadd hC jd_law_945 ?_
  refine hk_topi (jn_add i 2) ?_
  refine hk_sld hC hX hbl hbA (n := i + 2) (by omega) hL jd_law_946 ?_
  refine hk_aload_n hC jd_law_947 0 rfl ?_
  refine hk_iload_n hC jd_law_948 3 rfl ?_
  refine hk_iconst (v := nI 3) hC jd_law_949 (by decide) ?_
  refine hk_iadd hC jd_law_950 ?_
  refine hk_topi (jn_add i 3) ?_
  refine hk_sld hC hX hbl hbA (n := i + 3) (by omega) hL jd_law_951 ?_
  obtain ⟨q, hq, h1⟩ := xb_go h1
  refine hk_callVBi hC (as := [.int (xs (i + 1)), .int (xs (i + 2)), .int (xs (i + 3))]) (jc_H_february l D cI cF N (u 0) (u 1) (u 2) (u 3) (u 4) (u 5) (u 6) (u 7) (u 8) x.2.2.1.1 x.2.2.1.2.1 x.2.2.1.2.2.1 x.2.2.1.2.2.2.1 x.2.2.1.2.2.2.2.1 x.2.2.1.2.2.2.2.2.1 x.2.2.1.2.2.2.2.2.2.1 x.2.2.1.2.2.2.2.2.2.2.1 x.2.2.1.2.2.2.2.2.2.2.2 x.2.2.2.1.1 x.2.2.2.1.2.1 x.2.2.2.1.2.2.1 x.2.2.2.1.2.2.2.1 x.2.2.2.1.2.2.2.2.1 x.2.2.2.1.2.2.2.2.2.1 x.2.2.2.1.2.2.2.2.2.2.1 x.2.2.2.1.2.2.2.2.2.2.2.1 x.2.2.2.1.2.2.2.2.2.2.2.2 x.2.2.2.2.2.2.2.1.1 x.2.2.2.2.2.2.2.1.2.1 x.2.2.2.2.2.2.2.1.2.2.1 x.2.2.2.2.2.2.2.1.2.2.2.1 x.2.2.2.2.2.2.2.1.2.2.2.2.1 x.2.2.2.2.2.2.2.1.2.2.2.2.2.1 x.2.2.2.2.2.2.2.1.2.2.2.2.2.2.1 x.2.2.2.2.2.2.2.1.2.2.2.2.2.2.2.1 x.2.2.2.2.2.2.2.1.2.2.2.2.2.2.2.2 (xs (i + 1)) (xs (i + 2)) (xs (i + 3)) hq) jl_H_february rfl (List.mem_append_left _ List.mem_cons_self) jq_607 jq_608 jq_609 rfl ⟨by decide, by decide⟩ (pm_10_0_2_3_5 _ _ _ _ _ _ _ _ _ _) (ws2 := (wX cI cF u a (x.1, x.2.1, x.2.2.1, (q.2.1, q.2.2.1, q.2.2.2.1, q.2.2.2.2.1, q.2.2.2.2.2.1, q.2.2.2.2.2.2.1, q.2.2.2.2.2.2.2.1, q.2.2.2.2.2.2.2.2.1, q.2.2.2.2.2.2.2.2.2), x.2.2.2.2.1, x.2.2.2.2.2.1, x.2.2.2.2.2.2.1, x.2.2.2.2.2.2.2.1, x.2.2.2.2.2.2.2.2.1, x.2.2.2.2.2.2.2.2.2.1, x.2.2.2.2.2.2.2.2.2.2.1, x.2.2.2.2.2.2.2.2.2.2.2.1, x.2.2.2.2.2.2.2.2.2.2.2.2.1, x.2.2.2.2.2.2.2.2.2.2.2.2.2.1, x.2.2.2.2.2.2.2.2.2.2.2.2.2.2) y)) (pm_10_0_2_3_5 _ _ _ _ _ _ _ _ _ _) rfl rfl (Nat.le_of_ble_eq_true rfl) ⟨Nat.le_of_ble_eq_true rfl, Nat.le_of_ble_eq_true rfl⟩ jd_law_952 ?_
  refine hk_aload_n hC jd_law_955 2 rfl ?_
  refine hk_aload_n hC jd_law_956 0 rfl ?_
  refine hk_iload_n hC jd_law_957 3 rfl ?_
  refine hk_iconst (v := nI 1) hC jd_law_958 (by decide) ?_
  refine hk_iadd hC jd_law_959 ?_
  refine hk_topi (jn_add i 1) ?_
  refine hk_sld hC hX hbl hbA (n := i + 1) (by omega) hL jd_law_960 ?_
  refine hk_aload_n hC jd_law_961 0 rfl ?_
  refine hk_iload_n hC jd_law_962 3 rfl ?_
  refine hk_iconst (v := nI 2) hC jd_law_963 (by decide) ?_
  refine hk_iadd hC jd_law_964 ?_
  refine hk_topi (jn_add i 2) ?_
  refine hk_sld hC hX hbl hbA (n := i + 2) (by omega) hL jd_law_965 ?_
  refine hk_aload_n hC jd_law_966 0 rfl ?_
  refine hk_iload_n hC jd_law_967 3 rfl ?_
  refine hk_iconst (v := nI 3) hC jd_law_968 (by decide) ?_
  refine hk_iadd hC jd_law_969 ?_
  refine hk_topi (jn_add i 3) ?_
  refine hk_sld hC hX hbl hbA (n := i + 3) (by omega) hL jd_law_970 ?_
  obtain ⟨q2, hq2, h2⟩ := xb_go h2
  refine hk_callVBi hC (as := [.int (xs (i + 1)), .int (xs (i + 2)), .int (xs (i + 3))]) (jc_M_february l D cI cF N a y.1 y.2.1 y.2.2.1 y.2.2.2.1 y.2.2.2.2.1 y.2.2.2.2.2.1 y.2.2.2.2.2.2.1 y.2.2.2.2.2.2.2.1 y.2.2.2.2.2.2.2.2.1 y.2.2.2.2.2.2.2.2.2.1 y.2.2.2.2.2.2.2.2.2.2.1 y.2.2.2.2.2.2.2.2.2.2.2.1 y.2.2.2.2.2.2.2.2.2.2.2.2.1 y.2.2.2.2.2.2.2.2.2.2.2.2.2.1 y.2.2.2.2.2.2.2.2.2.2.2.2.2.2.1 y.2.2.2.2.2.2.2.2.2.2.2.2.2.2.2.1 y.2.2.2.2.2.2.2.2.2.2.2.2.2.2.2.2.1 y.2.2.2.2.2.2.2.2.2.2.2.2.2.2.2.2.2.1 y.2.2.2.2.2.2.2.2.2.2.2.2.2.2.2.2.2.2.1 y.2.2.2.2.2.2.2.2.2.2.2.2.2.2.2.2.2.2.2.1 y.2.2.2.2.2.2.2.2.2.2.2.2.2.2.2.2.2.2.2.2.1 y.2.2.2.2.2.2.2.2.2.2.2.2.2.2.2.2.2.2.2.2.2.1 y.2.2.2.2.2.2.2.2.2.2.2.2.2.2.2.2.2.2.2.2.2.2.1 y.2.2.2.2.2.2.2.2.2.2.2.2.2.2.2.2.2.2.2.2.2.2.2.1 y.2.2.2.2.2.2.2.2.2.2.2.2.2.2.2.2.2.2.2.2.2.2.2.2.1 y.2.2.2.2.2.2.2.2.2.2.2.2.2.2.2.2.2.2.2.2.2.2.2.2.2.1 y.2.2.2.2.2.2.2.2.2.2.2.2.2.2.2.2.2.2.2.2.2.2.2.2.2.2.1 y.2.2.2.2.2.2.2.2.2.2.2.2.2.2.2.2.2.2.2.2.2.2.2.2.2.2.2.1 y.2.2.2.2.2.2.2.2.2.2.2.2.2.2.2.2.2.2.2.2.2.2.2.2.2.2.2.2 (xs (i + 1)) (xs (i + 2)) (xs (i + 3)) hq2) jl_M_february rfl (List.mem_append_right _ (List.mem_append_right _ (List.mem_append_right _ (List.mem_append_right _ (List.mem_append_right _ (List.mem_append_right _ (List.mem_append_right _ (List.mem_append_right _ (List.mem_append_right _ (List.mem_cons_self)))))))))) jq_968 jq_969 jq_970 rfl ⟨by decide, by decide⟩ (pm_10_9 _ _ _ _ _ _ _ _ _ _) (ws2 := (wX cI cF u a (x.1, x.2.1, x.2.2.1, (q.2.1, q.2.2.1, q.2.2.2.1, q.2.2.2.2.1, q.2.2.2.2.2.1, q.2.2.2.2.2.2.1, q.2.2.2.2.2.2.2.1, q.2.2.2.2.2.2.2.2.1, q.2.2.2.2.2.2.2.2.2), x.2.2.2.2.1, x.2.2.2.2.2.1, x.2.2.2.2.2.2.1, x.2.2.2.2.2.2.2.1, x.2.2.2.2.2.2.2.2.1, x.2.2.2.2.2.2.2.2.2.1, x.2.2.2.2.2.2.2.2.2.2.1, x.2.2.2.2.2.2.2.2.2.2.2.1, x.2.2.2.2.2.2.2.2.2.2.2.2.1, x.2.2.2.2.2.2.2.2.2.2.2.2.2.1, x.2.2.2.2.2.2.2.2.2.2.2.2.2.2) (y.1, y.2.1, y.2.2.1, y.2.2.2.1, y.2.2.2.2.1, y.2.2.2.2.2.1, y.2.2.2.2.2.2.1, y.2.2.2.2.2.2.2.1, y.2.2.2.2.2.2.2.2.1, y.2.2.2.2.2.2.2.2.2.1, y.2.2.2.2.2.2.2.2.2.2.1, y.2.2.2.2.2.2.2.2.2.2.2.1, y.2.2.2.2.2.2.2.2.2.2.2.2.1, y.2.2.2.2.2.2.2.2.2.2.2.2.2.1, y.2.2.2.2.2.2.2.2.2.2.2.2.2.2.1, y.2.2.2.2.2.2.2.2.2.2.2.2.2.2.2.1, y.2.2.2.2.2.2.2.2.2.2.2.2.2.2.2.2.1, y.2.2.2.2.2.2.2.2.2.2.2.2.2.2.2.2.2.1, y.2.2.2.2.2.2.2.2.2.2.2.2.2.2.2.2.2.2.1, y.2.2.2.2.2.2.2.2.2.2.2.2.2.2.2.2.2.2.2.1, q2.2.1, y.2.2.2.2.2.2.2.2.2.2.2.2.2.2.2.2.2.2.2.2.2.1, y.2.2.2.2.2.2.2.2.2.2.2.2.2.2.2.2.2.2.2.2.2.2.1, q2.2.2, y.2.2.2.2.2.2.2.2.2.2.2.2.2.2.2.2.2.2.2.2.2.2.2.2.1, y.2.2.2.2.2.2.2.2.2.2.2.2.2.2.2.2.2.2.2.2.2.2.2.2.2.1, y.2.2.2.2.2.2.2.2.2.2.2.2.2.2.2.2.2.2.2.2.2.2.2.2.2.2.1, y.2.2.2.2.2.2.2.2.2.2.2.2.2.2.2.2.2.2.2.2.2.2.2.2.2.2.2.1, y.2.2.2.2.2.2.2.2.2.2.2.2.2.2.2.2.2.2.2.2.2.2.2.2.2.2.2.2))) (pm_10_9 _ _ _ _ _ _ _ _ _ _) rfl rfl (Nat.le_of_ble_eq_true rfl) ⟨Nat.le_of_ble_eq_true rfl, Nat.le_of_ble_eq_true rfl⟩ jd_law_971 ?_
  obtain rfl := Option.some.inj h1
  obtain rfl := Option.some.inj h2
  exact hk_icmp_eq (tgt := 1028) hC jd_law_974 (by decide) (fun _ => k u rfl) (fun cc => absurd he cc)
set_option maxHeartbeats 16000000 in
set_option maxRecDepth 100000 in
theorem jlw_27 {p : Program} {l : Launch} {e : Env} {s : State} {m : MethodId} {args : Array Value} {below : List Frame} {meth : Method} {c : Code} {A : Nat → Prop} {Q : State → Prop} {D : va_G} {cI cF : ClassId} (hC : hk_ok p s m args meth c A 4 D cI cF "HayTalkLaw" code) {b L : Nat} {xs : Nat → Int32} (hX : va_X b L xs s s.heap) (hbl : b < s.heap.size) (hbA : ¬ A b) (hL : L ≤ 3072) (N : Nat) (u : Nat → Nat → Nat) (a : Nat → Nat) (x : jX) (y : jM) (i : Nat) (hi : i + 6 ≤ L) {o1 : Int32 × jX} {o2 : Int32 × jM} (h1 : jh_27 N x  = some o1) (h2 : jm_27 N y  = some o2) (he : o1.1 = o2.1) (k : ∀ u2 : Nat → Nat → Nat, u2 0 0 = u 0 0 → hk_W p l e room_1 s m args below meth c A Q 4 D 151 3341 (wX cI cF u2 a o1.2 o2.2) 1028 [(0, .ref b), (1, .ref (u 0 0)), (2, .ref (a 0)), (3, .int (nI i))] []) : hk_W p l e room_1 s m args below meth c A Q 4 D 151 3341 (wX cI cF u a x y) 979 [(0, .ref b), (1, .ref (u 0 0)), (2, .ref (a 0)), (3, .int (nI i))] [] := by
  refine hk_aload_n hC jd_law_979 1 rfl ?_
  obtain ⟨q, hq, h1⟩ := xb_go h1
  refine hk_callVBi hC (as := []) (jc_H_keep l D cI cF N (u 0) (u 1) (u 2) (u 3) (u 4) (u 5) (u 6) (u 7) (u 8) x.2.2.1.1 x.2.2.1.2.1 x.2.2.1.2.2.1 x.2.2.1.2.2.2.1 x.2.2.1.2.2.2.2.1 x.2.2.1.2.2.2.2.2.1 x.2.2.1.2.2.2.2.2.2.1 x.2.2.1.2.2.2.2.2.2.2.1 x.2.2.1.2.2.2.2.2.2.2.2 x.2.2.2.2.2.2.2.2.2.2.2.2.1 x.2.2.2.2.2.2.2.2.2.2.2.2.2.1 x.2.2.2.2.2.2.2.2.2.2.2.2.2.2 hq) jl_H_keep rfl (List.mem_append_left _ List.mem_cons_self) jq_630 jq_631 jq_632 rfl ⟨by decide, by decide⟩ (pm_10_0_2_8 _ _ _ _ _ _ _ _ _ _) (ws2 := (wX cI cF u a (x.1, x.2.1, x.2.2.1, x.2.2.2.1, x.2.2.2.2.1, x.2.2.2.2.2.1, x.2.2.2.2.2.2.1, x.2.2.2.2.2.2.2.1, x.2.2.2.2.2.2.2.2.1, x.2.2.2.2.2.2.2.2.2.1, x.2.2.2.2.2.2.2.2.2.2.1, x.2.2.2.2.2.2.2.2.2.2.2.1, q.2.1, q.2.2.1, q.2.2.2) y)) (pm_10_0_2_8 _ _ _ _ _ _ _ _ _ _) (fst_app rfl (fst_app rfl (fst_P _ _ _ _))) rfl (Nat.le_of_ble_eq_true rfl) ⟨Nat.le_of_ble_eq_true rfl, Nat.le_of_ble_eq_true rfl⟩ jd_law_980 ?_
  refine hk_aload_n hC jd_law_983 2 rfl ?_
  obtain ⟨q2, hq2, h2⟩ := xb_go h2
  refine hk_callVBi hC (as := []) (jc_M_keep l D cI cF N a y.1 y.2.1 y.2.2.1 y.2.2.2.1 y.2.2.2.2.1 y.2.2.2.2.2.1 y.2.2.2.2.2.2.1 y.2.2.2.2.2.2.2.1 y.2.2.2.2.2.2.2.2.1 y.2.2.2.2.2.2.2.2.2.1 y.2.2.2.2.2.2.2.2.2.2.1 y.2.2.2.2.2.2.2.2.2.2.2.1 y.2.2.2.2.2.2.2.2.2.2.2.2.1 y.2.2.2.2.2.2.2.2.2.2.2.2.2.1 y.2.2.2.2.2.2.2.2.2.2.2.2.2.2.1 y.2.2.2.2.2.2.2.2.2.2.2.2.2.2.2.1 y.2.2.2.2.2.2.2.2.2.2.2.2.2.2.2.2.1 y.2.2.2.2.2.2.2.2.2.2.2.2.2.2.2.2.2.1 y.2.2.2.2.2.2.2.2.2.2.2.2.2.2.2.2.2.2.1 y.2.2.2.2.2.2.2.2.2.2.2.2.2.2.2.2.2.2.2.1 y.2.2.2.2.2.2.2.2.2.2.2.2.2.2.2.2.2.2.2.2.1 y.2.2.2.2.2.2.2.2.2.2.2.2.2.2.2.2.2.2.2.2.2.1 y.2.2.2.2.2.2.2.2.2.2.2.2.2.2.2.2.2.2.2.2.2.2.1 y.2.2.2.2.2.2.2.2.2.2.2.2.2.2.2.2.2.2.2.2.2.2.2.1 y.2.2.2.2.2.2.2.2.2.2.2.2.2.2.2.2.2.2.2.2.2.2.2.2.1 y.2.2.2.2.2.2.2.2.2.2.2.2.2.2.2.2.2.2.2.2.2.2.2.2.2.1 y.2.2.2.2.2.2.2.2.2.2.2.2.2.2.2.2.2.2.2.2.2.2.2.2.2.2.1 y.2.2.2.2.2.2.2.2.2.2.2.2.2.2.2.2.2.2.2.2.2.2.2.2.2.2.2.1 y.2.2.2.2.2.2.2.2.2.2.2.2.2.2.2.2.2.2.2.2.2.2.2.2.2.2.2.2 hq2) jl_M_keep rfl (List.mem_append_right _ (List.mem_append_right _ (List.mem_append_right _ (List.mem_append_right _ (List.mem_append_right _ (List.mem_append_right _ (List.mem_append_right _ (List.mem_append_right _ (List.mem_append_right _ (List.mem_cons_self)))))))))) jq_989 jq_990 jq_991 rfl ⟨by decide, by decide⟩ (pm_10_9 _ _ _ _ _ _ _ _ _ _) (ws2 := (wX cI cF u a (x.1, x.2.1, x.2.2.1, x.2.2.2.1, x.2.2.2.2.1, x.2.2.2.2.2.1, x.2.2.2.2.2.2.1, x.2.2.2.2.2.2.2.1, x.2.2.2.2.2.2.2.2.1, x.2.2.2.2.2.2.2.2.2.1, x.2.2.2.2.2.2.2.2.2.2.1, x.2.2.2.2.2.2.2.2.2.2.2.1, q.2.1, q.2.2.1, q.2.2.2) (y.1, y.2.1, y.2.2.1, y.2.2.2.1, y.2.2.2.2.1, y.2.2.2.2.2.1, y.2.2.2.2.2.2.1, y.2.2.2.2.2.2.2.1, y.2.2.2.2.2.2.2.2.1, y.2.2.2.2.2.2.2.2.2.1, y.2.2.2.2.2.2.2.2.2.2.1, y.2.2.2.2.2.2.2.2.2.2.2.1, y.2.2.2.2.2.2.2.2.2.2.2.2.1, y.2.2.2.2.2.2.2.2.2.2.2.2.2.1, y.2.2.2.2.2.2.2.2.2.2.2.2.2.2.1, y.2.2.2.2.2.2.2.2.2.2.2.2.2.2.2.1, y.2.2.2.2.2.2.2.2.2.2.2.2.2.2.2.2.1, y.2.2.2.2.2.2.2.2.2.2.2.2.2.2.2.2.2.1, y.2.2.2.2.2.2.2.2.2.2.2.2.2.2.2.2.2.2.1, y.2.2.2.2.2.2.2.2.2.2.2.2.2.2.2.2.2.2.2.1, y.2.2.2.2.2.2.2.2.2.2.2.2.2.2.2.2.2.2.2.2.1, y.2.2.2.2.2.2.2.2.2.2.2.2.2.2.2.2.2.2.2.2.2.1, y.2.2.2.2.2.2.2.2.2.2.2.2.2.2.2.2.2.2.2.2.2.2.1, y.2.2.2.2.2.2.2.2.2.2.2.2.2.2.2.2.2.2.2.2.2.2.2.1, y.2.2.2.2.2.2.2.2.2.2.2.2.2.2.2.2.2.2.2.2.2.2.2.2.1, y.2.2.2.2.2.2.2.2.2.2.2.2.2.2.2.2.2.2.2.2.2.2.2.2.2.1, y.2.2.2.2.2.2.2.2.2.2.2.2.2.2.2.2.2.2.2.2.2.2.2.2.2.2.1, q2.2.1, q2.2.2))) (pm_10_9 _ _ _ _ _ _ _ _ _ _) rfl rfl (Nat.le_of_ble_eq_true rfl) ⟨Nat.le_of_ble_eq_true rfl, Nat.le_of_ble_eq_true rfl⟩ jd_law_984 ?_
  obtain rfl := Option.some.inj h1
  obtain rfl := Option.some.inj h2
  exact hk_icmp_eq (tgt := 1028) hC jd_law_987 (by decide) (fun _ => k u rfl) (fun cc => absurd he cc)
set_option maxHeartbeats 16000000 in
set_option maxRecDepth 100000 in
theorem jlw_28 {p : Program} {l : Launch} {e : Env} {s : State} {m : MethodId} {args : Array Value} {below : List Frame} {meth : Method} {c : Code} {A : Nat → Prop} {Q : State → Prop} {D : va_G} {cI cF : ClassId} (hC : hk_ok p s m args meth c A 4 D cI cF "HayTalkLaw" code) {b L : Nat} {xs : Nat → Int32} (hX : va_X b L xs s s.heap) (hbl : b < s.heap.size) (hbA : ¬ A b) (hL : L ≤ 3072) (N : Nat) (u : Nat → Nat → Nat) (a : Nat → Nat) (x : jX) (y : jM) (i : Nat) (hi : i + 6 ≤ L) {o1 : Int32 × jX} {o2 : Int32 × jM} (h1 : jh_28 N x  = some o1) (h2 : jm_28 N y  = some o2) (he : o1.1 = o2.1) (k : ∀ u2 : Nat → Nat → Nat, u2 0 0 = u 0 0 → hk_W p l e room_1 s m args below meth c A Q 4 D 151 3341 (wX cI cF u2 a o1.2 o2.2) 1028 [(0, .ref b), (1, .ref (u 0 0)), (2, .ref (a 0)), (3, .int (nI i))] []) : hk_W p l e room_1 s m args below meth c A Q 4 D 151 3341 (wX cI cF u a x y) 992 [(0, .ref b), (1, .ref (u 0 0)), (2, .ref (a 0)), (3, .int (nI i))] [] := by
  refine hk_aload_n hC jd_law_992 1 rfl ?_
  obtain ⟨q, hq, h1⟩ := xb_go h1
  refine hk_callVBi hC (as := []) (jc_H_back l D cI cF N (u 0) (u 1) (u 2) (u 3) (u 4) (u 5) (u 6) (u 7) (u 8) x.2.2.1.1 x.2.2.1.2.1 x.2.2.1.2.2.1 x.2.2.1.2.2.2.1 x.2.2.1.2.2.2.2.1 x.2.2.1.2.2.2.2.2.1 x.2.2.1.2.2.2.2.2.2.1 x.2.2.1.2.2.2.2.2.2.2.1 x.2.2.1.2.2.2.2.2.2.2.2 x.2.2.2.2.2.2.2.2.2.1 x.2.2.2.2.2.2.2.2.2.2.1 x.2.2.2.2.2.2.2.2.2.2.2.1 x.2.2.2.2.2.2.2.2.2.2.2.2.1 x.2.2.2.2.2.2.2.2.2.2.2.2.2.1 x.2.2.2.2.2.2.2.2.2.2.2.2.2.2 hq) jl_H_back rfl (List.mem_append_left _ List.mem_cons_self) jq_638 jq_639 jq_640 rfl ⟨by decide, by decide⟩ (pm_10_0_2_7_8 _ _ _ _ _ _ _ _ _ _) (ws2 := (wX cI cF u a (x.1, x.2.1, (q.2.1, q.2.2.1, q.2.2.2.1, q.2.2.2.2.1, q.2.2.2.2.2.1, q.2.2.2.2.2.2.1, q.2.2.2.2.2.2.2.1, q.2.2.2.2.2.2.2.2.1, q.2.2.2.2.2.2.2.2.2.1), x.2.2.2.1, x.2.2.2.2.1, x.2.2.2.2.2.1, x.2.2.2.2.2.2.1, x.2.2.2.2.2.2.2.1, x.2.2.2.2.2.2.2.2.1, x.2.2.2.2.2.2.2.2.2.1, q.2.2.2.2.2.2.2.2.2.2.1, x.2.2.2.2.2.2.2.2.2.2.2.1, q.2.2.2.2.2.2.2.2.2.2.2.1, q.2.2.2.2.2.2.2.2.2.2.2.2, x.2.2.2.2.2.2.2.2.2.2.2.2.2.2) y)) (pm_10_0_2_7_8 _ _ _ _ _ _ _ _ _ _) (fst_app rfl (fst_app rfl (fst_app (fst_P _ _ _ _) (fst_P _ _ _ _)))) rfl (Nat.le_of_ble_eq_true rfl) ⟨Nat.le_of_ble_eq_true rfl, Nat.le_of_ble_eq_true rfl⟩ jd_law_993 ?_
  refine hk_aload_n hC jd_law_996 2 rfl ?_
  obtain ⟨q2, hq2, h2⟩ := xb_go h2
  refine hk_callVBi hC (as := []) (jc_M_back l D cI cF N a y.1 y.2.1 y.2.2.1 y.2.2.2.1 y.2.2.2.2.1 y.2.2.2.2.2.1 y.2.2.2.2.2.2.1 y.2.2.2.2.2.2.2.1 y.2.2.2.2.2.2.2.2.1 y.2.2.2.2.2.2.2.2.2.1 y.2.2.2.2.2.2.2.2.2.2.1 y.2.2.2.2.2.2.2.2.2.2.2.1 y.2.2.2.2.2.2.2.2.2.2.2.2.1 y.2.2.2.2.2.2.2.2.2.2.2.2.2.1 y.2.2.2.2.2.2.2.2.2.2.2.2.2.2.1 y.2.2.2.2.2.2.2.2.2.2.2.2.2.2.2.1 y.2.2.2.2.2.2.2.2.2.2.2.2.2.2.2.2.1 y.2.2.2.2.2.2.2.2.2.2.2.2.2.2.2.2.2.1 y.2.2.2.2.2.2.2.2.2.2.2.2.2.2.2.2.2.2.1 y.2.2.2.2.2.2.2.2.2.2.2.2.2.2.2.2.2.2.2.1 y.2.2.2.2.2.2.2.2.2.2.2.2.2.2.2.2.2.2.2.2.1 y.2.2.2.2.2.2.2.2.2.2.2.2.2.2.2.2.2.2.2.2.2.1 y.2.2.2.2.2.2.2.2.2.2.2.2.2.2.2.2.2.2.2.2.2.2.1 y.2.2.2.2.2.2.2.2.2.2.2.2.2.2.2.2.2.2.2.2.2.2.2.1 y.2.2.2.2.2.2.2.2.2.2.2.2.2.2.2.2.2.2.2.2.2.2.2.2.1 y.2.2.2.2.2.2.2.2.2.2.2.2.2.2.2.2.2.2.2.2.2.2.2.2.2.1 y.2.2.2.2.2.2.2.2.2.2.2.2.2.2.2.2.2.2.2.2.2.2.2.2.2.2.1 y.2.2.2.2.2.2.2.2.2.2.2.2.2.2.2.2.2.2.2.2.2.2.2.2.2.2.2.1 y.2.2.2.2.2.2.2.2.2.2.2.2.2.2.2.2.2.2.2.2.2.2.2.2.2.2.2.2 hq2) jl_M_back rfl (List.mem_append_right _ (List.mem_append_right _ (List.mem_append_right _ (List.mem_append_right _ (List.mem_append_right _ (List.mem_append_right _ (List.mem_append_right _ (List.mem_append_right _ (List.mem_append_right _ (List.mem_cons_self)))))))))) jq_993 jq_994 jq_995 rfl ⟨by decide, by decide⟩ (pm_10_9 _ _ _ _ _ _ _ _ _ _) (ws2 := (wX cI cF u a (x.1, x.2.1, (q.2.1, q.2.2.1, q.2.2.2.1, q.2.2.2.2.1, q.2.2.2.2.2.1, q.2.2.2.2.2.2.1, q.2.2.2.2.2.2.2.1, q.2.2.2.2.2.2.2.2.1, q.2.2.2.2.2.2.2.2.2.1), x.2.2.2.1, x.2.2.2.2.1, x.2.2.2.2.2.1, x.2.2.2.2.2.2.1, x.2.2.2.2.2.2.2.1, x.2.2.2.2.2.2.2.2.1, x.2.2.2.2.2.2.2.2.2.1, q.2.2.2.2.2.2.2.2.2.2.1, x.2.2.2.2.2.2.2.2.2.2.2.1, q.2.2.2.2.2.2.2.2.2.2.2.1, q.2.2.2.2.2.2.2.2.2.2.2.2, x.2.2.2.2.2.2.2.2.2.2.2.2.2.2) (y.1, y.2.1, y.2.2.1, y.2.2.2.1, y.2.2.2.2.1, y.2.2.2.2.2.1, y.2.2.2.2.2.2.1, y.2.2.2.2.2.2.2.1, y.2.2.2.2.2.2.2.2.1, y.2.2.2.2.2.2.2.2.2.1, y.2.2.2.2.2.2.2.2.2.2.1, y.2.2.2.2.2.2.2.2.2.2.2.1, y.2.2.2.2.2.2.2.2.2.2.2.2.1, y.2.2.2.2.2.2.2.2.2.2.2.2.2.1, y.2.2.2.2.2.2.2.2.2.2.2.2.2.2.1, y.2.2.2.2.2.2.2.2.2.2.2.2.2.2.2.1, y.2.2.2.2.2.2.2.2.2.2.2.2.2.2.2.2.1, y.2.2.2.2.2.2.2.2.2.2.2.2.2.2.2.2.2.1, y.2.2.2.2.2.2.2.2.2.2.2.2.2.2.2.2.2.2.1, y.2.2.2.2.2.2.2.2.2.2.2.2.2.2.2.2.2.2.2.1, q2.2.1, q2.2.2.1, y.2.2.2.2.2.2.2.2.2.2.2.2.2.2.2.2.2.2.2.2.2.2.1, y.2.2.2.2.2.2.2.2.2.2.2.2.2.2.2.2.2.2.2.2.2.2.2.1, y.2.2.2.2.2.2.2.2.2.2.2.2.2.2.2.2.2.2.2.2.2.2.2.2.1, y.2.2.2.2.2.2.2.2.2.2.2.2.2.2.2.2.2.2.2.2.2.2.2.2.2.1, y.2.2.2.2.2.2.2.2.2.2.2.2.2.2.2.2.2.2.2.2.2.2.2.2.2.2.1, q2.2.2.2, y.2.2.2.2.2.2.2.2.2.2.2.2.2.2.2.2.2.2.2.2.2.2.2.2.2.2.2.2))) (pm_10_9 _ _ _ _ _ _ _ _ _ _) rfl rfl (Nat.le_of_ble_eq_true rfl) ⟨Nat.le_of_ble_eq_true rfl, Nat.le_of_ble_eq_true rfl⟩ jd_law_997 ?_
  obtain rfl := Option.some.inj h1
  obtain rfl := Option.some.inj h2
  exact hk_icmp_eq (tgt := 1028) hC jd_law_1000 (by decide) (fun _ => k u rfl) (fun cc => absurd he cc)
set_option maxHeartbeats 16000000 in
set_option maxRecDepth 100000 in
theorem jlw_29 {p : Program} {l : Launch} {e : Env} {s : State} {m : MethodId} {args : Array Value} {below : List Frame} {meth : Method} {c : Code} {A : Nat → Prop} {Q : State → Prop} {D : va_G} {cI cF : ClassId} (hC : hk_ok p s m args meth c A 4 D cI cF "HayTalkLaw" code) {b L : Nat} {xs : Nat → Int32} (hX : va_X b L xs s s.heap) (hbl : b < s.heap.size) (hbA : ¬ A b) (hL : L ≤ 3072) (N : Nat) (u : Nat → Nat → Nat) (a : Nat → Nat) (x : jX) (y : jM) (i : Nat) (hi : i + 6 ≤ L) {o1 : Int32 × jX} {o2 : Int32 × jM} (h1 : jh_29 N x (xs (i + 1)) = some o1) (h2 : jm_29 N y (xs (i + 1)) = some o2) (he : o1.1 = o2.1) (k : ∀ u2 : Nat → Nat → Nat, u2 0 0 = u 0 0 → hk_W p l e room_1 s m args below meth c A Q 4 D 151 3341 (wX cI cF u2 a o1.2 o2.2) 1028 [(0, .ref b), (1, .ref (u 0 0)), (2, .ref (a 0)), (3, .int (nI i))] []) : hk_W p l e room_1 s m args below meth c A Q 4 D 151 3341 (wX cI cF u a x y) 1005 [(0, .ref b), (1, .ref (u 0 0)), (2, .ref (a 0)), (3, .int (nI i))] [] := by
  refine hk_aload_n hC jd_law_1005 1 rfl ?_
  refine hk_aload_n hC jd_law_1006 0 rfl ?_
  refine hk_iload_n hC jd_law_1007 3 rfl ?_
  refine hk_iconst (v := nI 1) hC jd_law_1008 (by decide) ?_
  refine hk_iadd hC jd_law_1009 ?_
  refine hk_topi (jn_add i 1) ?_
  refine hk_sld hC hX hbl hbA (n := i + 1) (by omega) hL jd_law_1010 ?_
  obtain ⟨q, hq, h1⟩ := xb_go h1
  refine hk_callVBi hC (as := [.int (xs (i + 1))]) (jc_H_count l D cI cF N (u 0) (u 1) (u 2) (u 3) (u 4) (u 5) (u 6) (u 7) (u 8) x.1 x.2.1 x.2.2.1.1 x.2.2.1.2.1 x.2.2.1.2.2.1 x.2.2.1.2.2.2.1 x.2.2.1.2.2.2.2.1 x.2.2.1.2.2.2.2.2.1 x.2.2.1.2.2.2.2.2.2.1 x.2.2.1.2.2.2.2.2.2.2.1 x.2.2.1.2.2.2.2.2.2.2.2 x.2.2.2.2.1 x.2.2.2.2.2.1 x.2.2.2.2.2.2.1 x.2.2.2.2.2.2.2.1.1 x.2.2.2.2.2.2.2.1.2.1 x.2.2.2.2.2.2.2.1.2.2.1 x.2.2.2.2.2.2.2.1.2.2.2.1 x.2.2.2.2.2.2.2.1.2.2.2.2.1 x.2.2.2.2.2.2.2.1.2.2.2.2.2.1 x.2.2.2.2.2.2.2.1.2.2.2.2.2.2.1 x.2.2.2.2.2.2.2.1.2.2.2.2.2.2.2.1 x.2.2.2.2.2.2.2.1.2.2.2.2.2.2.2.2 x.2.2.2.2.2.2.2.2.2.1 x.2.2.2.2.2.2.2.2.2.2.1 x.2.2.2.2.2.2.2.2.2.2.2.1 x.2.2.2.2.2.2.2.2.2.2.2.2.1 x.2.2.2.2.2.2.2.2.2.2.2.2.2.1 x.2.2.2.2.2.2.2.2.2.2.2.2.2.2 (xs (i + 1)) hq) jl_H_count rfl (List.mem_append_left _ List.mem_cons_self) jq_642 jq_643 jq_644 rfl ⟨by decide, by decide⟩ (pm_10_0_1_2_4_5_7_8 _ _ _ _ _ _ _ _ _ _) (ws2 := (wX cI cF u a (x.1, x.2.1, x.2.2.1, x.2.2.2.1, x.2.2.2.2.1, x.2.2.2.2.2.1, x.2.2.2.2.2.2.1, x.2.2.2.2.2.2.2.1, x.2.2.2.2.2.2.2.2.1, x.2.2.2.2.2.2.2.2.2.1, x.2.2.2.2.2.2.2.2.2.2.1, x.2.2.2.2.2.2.2.2.2.2.2.1, x.2.2.2.2.2.2.2.2.2.2.2.2.1, x.2.2.2.2.2.2.2.2.2.2.2.2.2.1, x.2.2.2.2.2.2.2.2.2.2.2.2.2.2) y)) (pm_10_0_1_2_4_5_7_8 _ _ _ _ _ _ _ _ _ _) (fst_app rfl (fst_app rfl (fst_app rfl (fst_app rfl (fst_app rfl (fst_app (fst_P _ _ _ _) (fst_P _ _ _ _))))))) rfl (Nat.le_of_ble_eq_true rfl) ⟨Nat.le_of_ble_eq_true rfl, Nat.le_of_ble_eq_true rfl⟩ jd_law_1011 ?_
  refine hk_aload_n hC jd_law_1014 2 rfl ?_
  refine hk_aload_n hC jd_law_1015 0 rfl ?_
  refine hk_iload_n hC jd_law_1016 3 rfl ?_
  refine hk_iconst (v := nI 1) hC jd_law_1017 (by decide) ?_
  refine hk_iadd hC jd_law_1018 ?_
  refine hk_topi (jn_add i 1) ?_
  refine hk_sld hC hX hbl hbA (n := i + 1) (by omega) hL jd_law_1019 ?_
  obtain ⟨q2, hq2, h2⟩ := xb_go h2
  refine hk_callVBi hC (as := [.int (xs (i + 1))]) (jc_M_count l D cI cF N a y.1 y.2.1 y.2.2.1 y.2.2.2.1 y.2.2.2.2.1 y.2.2.2.2.2.1 y.2.2.2.2.2.2.1 y.2.2.2.2.2.2.2.1 y.2.2.2.2.2.2.2.2.1 y.2.2.2.2.2.2.2.2.2.1 y.2.2.2.2.2.2.2.2.2.2.1 y.2.2.2.2.2.2.2.2.2.2.2.1 y.2.2.2.2.2.2.2.2.2.2.2.2.1 y.2.2.2.2.2.2.2.2.2.2.2.2.2.1 y.2.2.2.2.2.2.2.2.2.2.2.2.2.2.1 y.2.2.2.2.2.2.2.2.2.2.2.2.2.2.2.1 y.2.2.2.2.2.2.2.2.2.2.2.2.2.2.2.2.1 y.2.2.2.2.2.2.2.2.2.2.2.2.2.2.2.2.2.1 y.2.2.2.2.2.2.2.2.2.2.2.2.2.2.2.2.2.2.1 y.2.2.2.2.2.2.2.2.2.2.2.2.2.2.2.2.2.2.2.1 y.2.2.2.2.2.2.2.2.2.2.2.2.2.2.2.2.2.2.2.2.1 y.2.2.2.2.2.2.2.2.2.2.2.2.2.2.2.2.2.2.2.2.2.1 y.2.2.2.2.2.2.2.2.2.2.2.2.2.2.2.2.2.2.2.2.2.2.1 y.2.2.2.2.2.2.2.2.2.2.2.2.2.2.2.2.2.2.2.2.2.2.2.1 y.2.2.2.2.2.2.2.2.2.2.2.2.2.2.2.2.2.2.2.2.2.2.2.2.1 y.2.2.2.2.2.2.2.2.2.2.2.2.2.2.2.2.2.2.2.2.2.2.2.2.2.1 y.2.2.2.2.2.2.2.2.2.2.2.2.2.2.2.2.2.2.2.2.2.2.2.2.2.2.1 y.2.2.2.2.2.2.2.2.2.2.2.2.2.2.2.2.2.2.2.2.2.2.2.2.2.2.2.1 y.2.2.2.2.2.2.2.2.2.2.2.2.2.2.2.2.2.2.2.2.2.2.2.2.2.2.2.2 (xs (i + 1)) hq2) jl_M_count rfl (List.mem_append_right _ (List.mem_append_right _ (List.mem_append_right _ (List.mem_append_right _ (List.mem_append_right _ (List.mem_append_right _ (List.mem_append_right _ (List.mem_append_right _ (List.mem_append_right _ (List.mem_cons_self)))))))))) jq_997 jq_998 jq_999 rfl ⟨by decide, by decide⟩ (pm_10_9 _ _ _ _ _ _ _ _ _ _) (ws2 := (wX cI cF u a (x.1, x.2.1, x.2.2.1, x.2.2.2.1, x.2.2.2.2.1, x.2.2.2.2.2.1, x.2.2.2.2.2.2.1, x.2.2.2.2.2.2.2.1, x.2.2.2.2.2.2.2.2.1, x.2.2.2.2.2.2.2.2.2.1, x.2.2.2.2.2.2.2.2.2.2.1, x.2.2.2.2.2.2.2.2.2.2.2.1, x.2.2.2.2.2.2.2.2.2.2.2.2.1, x.2.2.2.2.2.2.2.2.2.2.2.2.2.1, x.2.2.2.2.2.2.2.2.2.2.2.2.2.2) (y.1, y.2.1, y.2.2.1, y.2.2.2.1, y.2.2.2.2.1, y.2.2.2.2.2.1, y.2.2.2.2.2.2.1, y.2.2.2.2.2.2.2.1, y.2.2.2.2.2.2.2.2.1, y.2.2.2.2.2.2.2.2.2.1, y.2.2.2.2.2.2.2.2.2.2.1, y.2.2.2.2.2.2.2.2.2.2.2.1, y.2.2.2.2.2.2.2.2.2.2.2.2.1, y.2.2.2.2.2.2.2.2.2.2.2.2.2.1, y.2.2.2.2.2.2.2.2.2.2.2.2.2.2.1, y.2.2.2.2.2.2.2.2.2.2.2.2.2.2.2.1, y.2.2.2.2.2.2.2.2.2.2.2.2.2.2.2.2.1, y.2.2.2.2.2.2.2.2.2.2.2.2.2.2.2.2.2.1, y.2.2.2.2.2.2.2.2.2.2.2.2.2.2.2.2.2.2.1, y.2.2.2.2.2.2.2.2.2.2.2.2.2.2.2.2.2.2.2.1, y.2.2.2.2.2.2.2.2.2.2.2.2.2.2.2.2.2.2.2.2.1, y.2.2.2.2.2.2.2.2.2.2.2.2.2.2.2.2.2.2.2.2.2.1, y.2.2.2.2.2.2.2.2.2.2.2.2.2.2.2.2.2.2.2.2.2.2.1, y.2.2.2.2.2.2.2.2.2.2.2.2.2.2.2.2.2.2.2.2.2.2.2.1, y.2.2.2.2.2.2.2.2.2.2.2.2.2.2.2.2.2.2.2.2.2.2.2.2.1, y.2.2.2.2.2.2.2.2.2.2.2.2.2.2.2.2.2.2.2.2.2.2.2.2.2.1, y.2.2.2.2.2.2.2.2.2.2.2.2.2.2.2.2.2.2.2.2.2.2.2.2.2.2.1, y.2.2.2.2.2.2.2.2.2.2.2.2.2.2.2.2.2.2.2.2.2.2.2.2.2.2.2.1, y.2.2.2.2.2.2.2.2.2.2.2.2.2.2.2.2.2.2.2.2.2.2.2.2.2.2.2.2))) (pm_10_9 _ _ _ _ _ _ _ _ _ _) rfl rfl (Nat.le_of_ble_eq_true rfl) ⟨Nat.le_of_ble_eq_true rfl, Nat.le_of_ble_eq_true rfl⟩ jd_law_1020 ?_
  obtain rfl := Option.some.inj h1
  obtain rfl := Option.some.inj h2
  exact hk_icmp_eq (tgt := 1028) hC jd_law_1023 (by decide) (fun _ => k u rfl) (fun cc => absurd he cc)
