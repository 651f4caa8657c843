set_option maxHeartbeats 4000000 in
set_option maxRecDepth 100000 in
theorem rl_deliver {G : jx_G} {n ms : Nat} {K : Nat → Nat × Nat} {I : Nat → Nat → Int32} {P : Nat → Nat → Option Nat} {J : Nat → Nat → Int32} {B h : Nat} {A : Nat → Nat} {T : Nat → Prop} {X : Nat → Nat → Int32} {i x : Nat} {Q : Option jx_V → jx_M → Prop} {v : Int32} (hv : v = 0 ∨ v = 1) (hR : rl n ms K I P J B A h T X) (hx : J 98 9 = nI x) (hx1 : x ≤ 16000) (hi : i < x) (hq : ∀ w M, Q w M → w = some (.inl v)) (hC : jx_C G yX8_handOver cX8_handOver 5 (some FieldType.boolean) 11 [.inr (some 3), .inl (nI i)] (n, ms, K, I, P) Q) : jx_C G yX8_deliver cX8_deliver 2 (some FieldType.int) 12 [.inr (some 3), .inl (nI i)] (n, ms, K, I, P) (Q) := by
  refine jx_C_of (by decide) (Nat.le_of_ble_eq_true rfl) ?_
  simp only [List.map_cons, List.map_nil, List.length_cons, List.length_nil, Nat.reduceAdd, Nat.reduceSub, List.replicate_zero, List.append_nil, List.replicate_succ, List.cons_append, List.nil_append]
  obtain ⟨n0, n1, n2, n3, n4, n5, n6⟩ := id hR.1
  obtain ⟨g0, g1, g2, g3, g4, g5, g6, g7, g8, g9, g10⟩ := id n0
  obtain ⟨-, ⟨L, y, S, z, e, cc, e2, cc2, ⟨bg, bj, -⟩, -⟩, -⟩ := id hR
  have hy16 : y ≤ 24000 := by
    have := bg.2.1.2.2.2.1
    have := bg.2.1.2.2.2.2.1
    omega
  have hyx : y = x := by
    rw [hx] at bj
    rw [jx_eqnn (by omega) (by omega)] at bj
    exact bj.symm
  subst hyx
  have hyi : ¬ y ≤ i := by omega
  have hin : (¬ nI i < 0 ∧ ¬ nI y ≤ nI i) = True := eq_true ⟨by simp (disch := omega) only [jx_ltnl, Nat.not_lt_zero, not_false_eq_true], by rw [jx_lenn (by omega) (by omega)]; omega⟩
  refine jx_gq flok_X8 (fwok_X8 rfl) 99999 3 _ _ _ _ ?_
  simp (disch := omega) only [↓reduceIte, jx_wp, jx_stp, jx_f0, jx_f1, jx_f2, jx_f3, List.getElem?_cons_zero, List.getElem?_cons_succ, List.set_cons_zero, List.set_cons_succ, Nat.reduceAdd, true_and, and_true, if_true, if_false, Bool.false_eq_true, jx_s, Nat.reduceLT, dX8_deliver_0, dX8_deliver_1, dX8_deliver_4, dX8_deliver_5, dX8_deliver_8, dX8_deliver_11, dX8_deliver_12, dX8_deliver_13, dX8_deliver_14, dX8_deliver_15, dX8_deliver_18, dX8_deliver_21, dX8_deliver_22, dX8_deliver_25, dX8_deliver_26, fl_X8_24, ft_9_2, tg_8_5, jx_km1, tg_18_7, jx_k1, tg_22_4, jx_k0, jx_wq, jx_stq, jx_ite, jx_b0, jx_bn0, jx_u_eq, jx_u_na, jx_u_ni, jx_nb0, jx_nb1, jx_ni, jx_E, eq_self, jx_a0, jx_a1, ne_eq, not_false_eq_true, Nat.reduceLeDiff, Nat.reduceEqDiff, Nat.reduceLT, jx_subl, jx_al, jx_la, jx_nm, jx_ml, nI_add, jx_xn, jx_xl, jx_inn, jx_inl, jx_ltnn, jx_lenn, jx_eqnn, jx_ltnl, jx_lenl, jx_ltln, jx_leln, jx_eqnl, Int32.reduceAdd, Int32.reduceSub, Int32.reduceMul, Int32.reduceLT, Int32.reduceLE, jx_eqll, jx_ltll, Nat.reduceMul, Nat.reduceSub, forall_const, implies_true, false_implies, not_true_eq_false, true_implies, jx_tko, jx_ofn, jx_tka, jx_pro, jx_pra, and_self, Nat.not_lt_zero, jx_nbb, g0, g5]
  refine jx_cV1 dX8_deliver_5 li_X8_96 (bg_has bg) (congrArg Prod.fst bg.1.1) (Nat.le_of_ble_eq_true rfl) (Nat.le_of_ble_eq_true rfl) ?_
  rintro _ _ ⟨rfl, rfl⟩ - -
  simp only [Option.toList_some, Option.toList_none, List.cons_append, List.nil_append]
  refine jx_gq flok_X8 (fwok_X8 rfl) 99999 5 _ _ _ _ ?_
  simp (disch := omega) only [↓reduceIte, jx_wp, jx_stp, jx_f0, jx_f1, jx_f2, jx_f3, List.getElem?_cons_zero, List.getElem?_cons_succ, List.set_cons_zero, List.set_cons_succ, Nat.reduceAdd, true_and, and_true, if_true, if_false, Bool.false_eq_true, jx_s, Nat.reduceLT, dX8_deliver_0, dX8_deliver_1, dX8_deliver_4, dX8_deliver_5, dX8_deliver_8, dX8_deliver_11, dX8_deliver_12, dX8_deliver_13, dX8_deliver_14, dX8_deliver_15, dX8_deliver_18, dX8_deliver_21, dX8_deliver_22, dX8_deliver_25, dX8_deliver_26, fl_X8_24, ft_9_2, tg_8_5, jx_km1, tg_18_7, jx_k1, tg_22_4, jx_k0, jx_wq, jx_stq, jx_ite, jx_b0, jx_bn0, jx_u_eq, jx_u_na, jx_u_ni, jx_nb0, jx_nb1, jx_ni, jx_E, eq_self, jx_a0, jx_a1, ne_eq, not_false_eq_true, Nat.reduceLeDiff, Nat.reduceEqDiff, Nat.reduceLT, jx_subl, jx_al, jx_la, jx_nm, jx_ml, nI_add, jx_xn, jx_xl, jx_inn, jx_inl, jx_ltnn, jx_lenn, jx_eqnn, jx_ltnl, jx_lenl, jx_ltln, jx_leln, jx_eqnl, Int32.reduceAdd, Int32.reduceSub, Int32.reduceMul, Int32.reduceLT, Int32.reduceLE, jx_eqll, jx_ltll, Nat.reduceMul, Nat.reduceSub, forall_const, implies_true, false_implies, not_true_eq_false, true_implies, jx_tko, jx_ofn, jx_tka, jx_pro, jx_pra, and_self, Nat.not_lt_zero, jx_nbb, hin, hyi]
  refine jx_cV1 dX8_deliver_15 li_X8_136 (hC) (congrArg Prod.fst g0) (Nat.le_of_ble_eq_true rfl) (Nat.le_of_ble_eq_true rfl) ?_
  rintro w M hw - -
  have e1 := hq _ _ hw
  subst e1
  simp only [Option.toList_some, List.cons_append, List.nil_append]
  rcases hv with hv | hv
  · subst hv
    refine jx_gq flok_X8 (fwok_X8 rfl) 99999 5 _ _ _ _ ?_
    simp (disch := omega) only [↓reduceIte, jx_wp, jx_stp, jx_f0, jx_f1, jx_f2, jx_f3, List.getElem?_cons_zero, List.getElem?_cons_succ, List.set_cons_zero, List.set_cons_succ, Nat.reduceAdd, true_and, and_true, if_true, if_false, Bool.false_eq_true, jx_s, Nat.reduceLT, dX8_deliver_0, dX8_deliver_1, dX8_deliver_4, dX8_deliver_5, dX8_deliver_8, dX8_deliver_11, dX8_deliver_12, dX8_deliver_13, dX8_deliver_14, dX8_deliver_15, dX8_deliver_18, dX8_deliver_21, dX8_deliver_22, dX8_deliver_25, dX8_deliver_26, fl_X8_24, ft_9_2, tg_8_5, jx_km1, tg_18_7, jx_k1, tg_22_4, jx_k0, jx_wq, jx_stq, jx_ite, jx_b0, jx_bn0, jx_u_eq, jx_u_na, jx_u_ni, jx_nb0, jx_nb1, jx_ni, jx_E, eq_self, jx_a0, jx_a1, ne_eq, not_false_eq_true, Nat.reduceLeDiff, Nat.reduceEqDiff, Nat.reduceLT, jx_subl, jx_al, jx_la, jx_nm, jx_ml, nI_add, jx_xn, jx_xl, jx_inn, jx_inl, jx_ltnn, jx_lenn, jx_eqnn, jx_ltnl, jx_lenl, jx_ltln, jx_leln, jx_eqnl, Int32.reduceAdd, Int32.reduceSub, Int32.reduceMul, Int32.reduceLT, Int32.reduceLE, jx_eqll, jx_ltll, Nat.reduceMul, Nat.reduceSub, forall_const, implies_true, false_implies, not_true_eq_false, true_implies, jx_tko, jx_ofn, jx_tka, jx_pro, jx_pra, and_self, Nat.not_lt_zero, jx_nbb]
    exact hw
  · subst hv
    refine jx_gq flok_X8 (fwok_X8 rfl) 99999 5 _ _ _ _ ?_
    simp (disch := omega) only [↓reduceIte, jx_wp, jx_stp, jx_f0, jx_f1, jx_f2, jx_f3, List.getElem?_cons_zero, List.getElem?_cons_succ, List.set_cons_zero, List.set_cons_succ, Nat.reduceAdd, true_and, and_true, if_true, if_false, Bool.false_eq_true, jx_s, Nat.reduceLT, dX8_deliver_0, dX8_deliver_1, dX8_deliver_4, dX8_deliver_5, dX8_deliver_8, dX8_deliver_11, dX8_deliver_12, dX8_deliver_13, dX8_deliver_14, dX8_deliver_15, dX8_deliver_18, dX8_deliver_21, dX8_deliver_22, dX8_deliver_25, dX8_deliver_26, fl_X8_24, ft_9_2, tg_8_5, jx_km1, tg_18_7, jx_k1, tg_22_4, jx_k0, jx_wq, jx_stq, jx_ite, jx_b0, jx_bn0, jx_u_eq, jx_u_na, jx_u_ni, jx_nb0, jx_nb1, jx_ni, jx_E, eq_self, jx_a0, jx_a1, ne_eq, not_false_eq_true, Nat.reduceLeDiff, Nat.reduceEqDiff, Nat.reduceLT, jx_subl, jx_al, jx_la, jx_nm, jx_ml, nI_add, jx_xn, jx_xl, jx_inn, jx_inl, jx_ltnn, jx_lenn, jx_eqnn, jx_ltnl, jx_lenl, jx_ltln, jx_leln, jx_eqnl, Int32.reduceAdd, Int32.reduceSub, Int32.reduceMul, Int32.reduceLT, Int32.reduceLE, jx_eqll, jx_ltll, Nat.reduceMul, Nat.reduceSub, forall_const, implies_true, false_implies, not_true_eq_false, true_implies, jx_tko, jx_ofn, jx_tka, jx_pro, jx_pra, and_self, Nat.not_lt_zero, jx_nbb]
    exact hw
set_option maxHeartbeats 4000000 in
set_option maxRecDepth 100000 in
theorem rl_lose_no {G : jx_G} {n ms : Nat} {K : Nat → Nat × Nat} {I : Nat → Nat → Int32} {P : Nat → Nat → Option Nat} {J : Nat → Nat → Int32} {B h : Nat} {A : Nat → Nat} {T : Nat → Prop} {X : Nat → Nat → Int32} {i : Int32} (hR : rl n ms K I P J B A h T X) (hi : ¬ (¬ i < 0 ∧ ¬ J 98 9 ≤ i)) : jx_C G yX8_lose cX8_lose 2 (some FieldType.boolean) 12 [.inr (some 3), .inl i] (n, ms, K, I, P) (jx_E (some (.inl 0)) (n, ms, K, I, P)) := by
  refine jx_C_of (by decide) (Nat.le_of_ble_eq_true rfl) ?_
  simp only [List.map_cons, List.map_nil, List.length_cons, List.length_nil, Nat.reduceAdd, Nat.reduceSub, List.replicate_zero, List.append_nil, List.replicate_succ, List.cons_append, List.nil_append]
  obtain ⟨n0, n1, n2, n3, n4, n5, n6⟩ := id hR.1
  obtain ⟨g0, g1, g2, g3, g4, g5, g6, g7, g8, g9, g10⟩ := id n0
  obtain ⟨-, ⟨L, y, S, z, e, cc, e2, cc2, ⟨bg, bj, -⟩, -⟩, -⟩ := id hR
  rw [bj] at hi
  refine jx_gq flok_X8 (fwok_X8 rfl) 99999 3 _ _ _ _ ?_
  simp (disch := omega) only [↓reduceIte, jx_wp, jx_stp, jx_f0, jx_f1, jx_f2, jx_f3, List.getElem?_cons_zero, List.getElem?_cons_succ, List.set_cons_zero, List.set_cons_succ, Nat.reduceAdd, true_and, and_true, if_true, if_false, Bool.false_eq_true, jx_s, Nat.reduceLT, dX8_lose_0, dX8_lose_1, dX8_lose_4, dX8_lose_5, dX8_lose_8, dX8_lose_11, dX8_lose_12, dX8_lose_13, dX8_lose_14, dX8_lose_17, dX8_lose_18, dX8_lose_21, dX8_lose_22, dX8_lose_25, dX8_lose_28, dX8_lose_29, fl_X8_24, ft_9_2, tg_8_5, jx_k0, jx_k1, jx_wq, jx_stq, jx_ite, jx_b0, jx_bn0, jx_u_eq, jx_u_na, jx_u_ni, jx_nb0, jx_nb1, jx_ni, jx_E, eq_self, jx_a0, jx_a1, ne_eq, not_false_eq_true, Nat.reduceLeDiff, Nat.reduceEqDiff, Nat.reduceLT, jx_subl, jx_al, jx_la, jx_nm, jx_ml, nI_add, jx_xn, jx_xl, jx_inn, jx_inl, jx_ltnn, jx_lenn, jx_eqnn, jx_ltnl, jx_lenl, jx_ltln, jx_leln, jx_eqnl, Int32.reduceAdd, Int32.reduceSub, Int32.reduceMul, Int32.reduceLT, Int32.reduceLE, jx_eqll, jx_ltll, Nat.reduceMul, Nat.reduceSub, forall_const, implies_true, false_implies, not_true_eq_false, true_implies, jx_tko, jx_ofn, jx_tka, jx_pro, jx_pra, and_self, Nat.not_lt_zero, jx_nbb, g0, g5]
  refine jx_cV1 dX8_lose_5 li_X8_96 (bg_has bg) (congrArg Prod.fst bg.1.1) (Nat.le_of_ble_eq_true rfl) (Nat.le_of_ble_eq_true rfl) ?_
  rintro _ _ ⟨rfl, rfl⟩ - -
  simp only [Option.toList_some, Option.toList_none, List.cons_append, List.nil_append]
  refine jx_gq flok_X8 (fwok_X8 rfl) 99999 4 _ _ _ _ ?_
  simp (disch := omega) only [↓reduceIte, jx_wp, jx_stp, jx_f0, jx_f1, jx_f2, jx_f3, List.getElem?_cons_zero, List.getElem?_cons_succ, List.set_cons_zero, List.set_cons_succ, Nat.reduceAdd, true_and, and_true, if_true, if_false, Bool.false_eq_true, jx_s, Nat.reduceLT, dX8_lose_0, dX8_lose_1, dX8_lose_4, dX8_lose_5, dX8_lose_8, dX8_lose_11, dX8_lose_12, dX8_lose_13, dX8_lose_14, dX8_lose_17, dX8_lose_18, dX8_lose_21, dX8_lose_22, dX8_lose_25, dX8_lose_28, dX8_lose_29, fl_X8_24, ft_9_2, tg_8_5, jx_k0, jx_k1, jx_wq, jx_stq, jx_ite, jx_b0, jx_bn0, jx_u_eq, jx_u_na, jx_u_ni, jx_nb0, jx_nb1, jx_ni, jx_E, eq_self, jx_a0, jx_a1, ne_eq, not_false_eq_true, Nat.reduceLeDiff, Nat.reduceEqDiff, Nat.reduceLT, jx_subl, jx_al, jx_la, jx_nm, jx_ml, nI_add, jx_xn, jx_xl, jx_inn, jx_inl, jx_ltnn, jx_lenn, jx_eqnn, jx_ltnl, jx_lenl, jx_ltln, jx_leln, jx_eqnl, Int32.reduceAdd, Int32.reduceSub, Int32.reduceMul, Int32.reduceLT, Int32.reduceLE, jx_eqll, jx_ltll, Nat.reduceMul, Nat.reduceSub, forall_const, implies_true, false_implies, not_true_eq_false, true_implies, jx_tko, jx_ofn, jx_tka, jx_pro, jx_pra, and_self, Nat.not_lt_zero, jx_nbb, hi]
