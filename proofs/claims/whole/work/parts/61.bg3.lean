set_option maxHeartbeats 4000000 in
set_option maxRecDepth 100000 in
theorem bg_size {G : jx_G} {n ms : Nat} {K : Nat → Nat × Nat} {I : Nat → Nat → Int32} {P : Nat → Nat → Option Nat} {L S : Nat → Nat} {x z e c e2 c2 : Nat} (hB : bg_ok n K I P L x S z e c e2 c2) : jx_C G yX0_size cX0_size 1 (some FieldType.int) 1 [.inr (some 6)] (n, ms, K, I, P) (jx_E (some (.inl (nI x))) (n, ms, K, I, P)) := by
  refine jx_C_of (by decide) (Nat.le_of_ble_eq_true rfl) ?_
  simp only [List.map_cons, List.map_nil, List.length_cons, List.length_nil, Nat.reduceAdd, Nat.reduceSub, List.replicate_zero, List.append_nil, List.replicate_succ, List.cons_append, List.nil_append]
  obtain ⟨⟨f0, f1, f2, f3, f4, f5⟩, hl1, hl2, hee, hm1, hm2, hdj, h140⟩ := hB
  obtain ⟨a1, a2, a3, a4, a5, a6, a7, a8⟩ := hl1
  refine jx_gq flok_X0 (fwok_X0 rfl) 99999 2 _ _ _ _ ?_
  simp (disch := omega) only [↓reduceIte, jx_wp, jx_stp, jx_f0, jx_f1, jx_f2, jx_f3, List.getElem?_cons_zero, List.getElem?_cons_succ, List.set_cons_zero, List.set_cons_succ, Nat.reduceAdd, true_and, and_true, if_true, if_false, Bool.false_eq_true, jx_s, Nat.reduceLT, dX0_size_0, dX0_size_1, dX0_size_4, dX0_size_7, fl_X0_10, ft_1_0, jx_wq, jx_stq, jx_ite, jx_b0, jx_bn0, jx_u_eq, jx_u_na, jx_u_ni, jx_nb0, jx_nb1, jx_ni, jx_E, eq_self, jx_a0, jx_a1, ne_eq, not_false_eq_true, Nat.reduceLeDiff, Nat.reduceEqDiff, Nat.reduceLT, jx_subl, jx_al, jx_la, jx_nm, jx_ml, nI_add, jx_xn, jx_xl, jx_inn, jx_inl, jx_ltnn, jx_lenn, jx_eqnn, jx_ltnl, jx_lenl, jx_ltln, jx_leln, jx_eqnl, Int32.reduceAdd, Int32.reduceSub, Int32.reduceMul, Int32.reduceLT, Int32.reduceLE, jx_eqll, jx_ltll, Nat.reduceMul, Nat.reduceSub, forall_const, implies_true, false_implies, not_true_eq_false, true_implies, jx_tko, jx_ofn, jx_tka, jx_pro, jx_pra, and_self, Nat.not_lt_zero, jx_nbb, f0, f1, f2, f3, f4]
  refine jx_cV0 dX0_size_4 li_X0_19 (jd_size f3) (congrArg Prod.fst f3) (Nat.le_of_ble_eq_true rfl) (Nat.le_of_ble_eq_true rfl) ?_
  rintro _ _ ⟨rfl, rfl⟩ - -
  simp only [Option.toList_some, Option.toList_none, List.cons_append, List.nil_append]
  refine jx_gq flok_X0 (fwok_X0 rfl) 99999 2 _ _ _ _ ?_
  simp (disch := omega) only [↓reduceIte, jx_wp, jx_stp, jx_f0, jx_f1, jx_f2, jx_f3, List.getElem?_cons_zero, List.getElem?_cons_succ, List.set_cons_zero, List.set_cons_succ, Nat.reduceAdd, true_and, and_true, if_true, if_false, Bool.false_eq_true, jx_s, Nat.reduceLT, dX0_size_0, dX0_size_1, dX0_size_4, dX0_size_7, fl_X0_10, ft_1_0, jx_wq, jx_stq, jx_ite, jx_b0, jx_bn0, jx_u_eq, jx_u_na, jx_u_ni, jx_nb0, jx_nb1, jx_ni, jx_E, eq_self, jx_a0, jx_a1, ne_eq, not_false_eq_true, Nat.reduceLeDiff, Nat.reduceEqDiff, Nat.reduceLT, jx_subl, jx_al, jx_la, jx_nm, jx_ml, nI_add, jx_xn, jx_xl, jx_inn, jx_inl, jx_ltnn, jx_lenn, jx_eqnn, jx_ltnl, jx_lenl, jx_ltln, jx_leln, jx_eqnl, Int32.reduceAdd, Int32.reduceSub, Int32.reduceMul, Int32.reduceLT, Int32.reduceLE, jx_eqll, jx_ltll, Nat.reduceMul, Nat.reduceSub, forall_const, implies_true, false_implies, not_true_eq_false, true_implies, jx_tko, jx_ofn, jx_tka, jx_pro, jx_pra, and_self, Nat.not_lt_zero, jx_nbb, a3]
set_option maxHeartbeats 4000000 in
set_option maxRecDepth 100000 in
theorem bg_has {G : jx_G} {n ms : Nat} {K : Nat → Nat × Nat} {I : Nat → Nat → Int32} {P : Nat → Nat → Option Nat} {L S : Nat → Nat} {x z e c e2 c2 : Nat} (hB : bg_ok n K I P L x S z e c e2 c2) {i : Int32} : jx_C G yX0_has cX0_has 2 (some FieldType.boolean) 1 [.inr (some 6), .inl i] (n, ms, K, I, P) (jx_E (some (.inl (jx_b (¬ i < 0 ∧ ¬ nI x ≤ i)))) (n, ms, K, I, P)) := by
  refine jx_C_of (by decide) (Nat.le_of_ble_eq_true rfl) ?_
  simp only [List.map_cons, List.map_nil, List.length_cons, List.length_nil, Nat.reduceAdd, Nat.reduceSub, List.replicate_zero, List.append_nil, List.replicate_succ, List.cons_append, List.nil_append]
  obtain ⟨⟨f0, f1, f2, f3, f4, f5⟩, hl1, hl2, hee, hm1, hm2, hdj, h140⟩ := hB
  obtain ⟨a1, a2, a3, a4, a5, a6, a7, a8⟩ := hl1
  by_cases h : i < 0
  · refine jx_gq flok_X0 (fwok_X0 rfl) 99999 10 _ _ _ _ ?_
    simp (disch := omega) only [↓reduceIte, jx_wp, jx_stp, jx_f0, jx_f1, jx_f2, jx_f3, List.getElem?_cons_zero, List.getElem?_cons_succ, List.set_cons_zero, List.set_cons_succ, Nat.reduceAdd, true_and, and_true, if_true, if_false, Bool.false_eq_true, jx_s, Nat.reduceLT, dX0_has_0, dX0_has_1, dX0_has_4, dX0_has_5, dX0_has_6, dX0_has_9, dX0_has_12, dX0_has_15, dX0_has_16, dX0_has_19, dX0_has_20, tg_1_18, fl_X0_10, ft_1_0, tg_12_7, jx_k1, tg_16_4, jx_k0, jx_wq, jx_stq, jx_ite, jx_b0, jx_bn0, jx_u_eq, jx_u_na, jx_u_ni, jx_nb0, jx_nb1, jx_ni, jx_E, eq_self, jx_a0, jx_a1, ne_eq, not_false_eq_true, Nat.reduceLeDiff, Nat.reduceEqDiff, Nat.reduceLT, jx_subl, jx_al, jx_la, jx_nm, jx_ml, nI_add, jx_xn, jx_xl, jx_inn, jx_inl, jx_ltnn, jx_lenn, jx_eqnn, jx_ltnl, jx_lenl, jx_ltln, jx_leln, jx_eqnl, Int32.reduceAdd, Int32.reduceSub, Int32.reduceMul, Int32.reduceLT, Int32.reduceLE, jx_eqll, jx_ltll, Nat.reduceMul, Nat.reduceSub, forall_const, implies_true, false_implies, not_true_eq_false, true_implies, jx_tko, jx_ofn, jx_tka, jx_pro, jx_pra, and_self, Nat.not_lt_zero, jx_nbb, f0, f1, f2, f3, f4, h, jx_b, false_and]
  · refine jx_gq flok_X0 (fwok_X0 rfl) 99999 5 _ _ _ _ ?_
    simp (disch := omega) only [↓reduceIte, jx_wp, jx_stp, jx_f0, jx_f1, jx_f2, jx_f3, List.getElem?_cons_zero, List.getElem?_cons_succ, List.set_cons_zero, List.set_cons_succ, Nat.reduceAdd, true_and, and_true, if_true, if_false, Bool.false_eq_true, jx_s, Nat.reduceLT, dX0_has_0, dX0_has_1, dX0_has_4, dX0_has_5, dX0_has_6, dX0_has_9, dX0_has_12, dX0_has_15, dX0_has_16, dX0_has_19, dX0_has_20, tg_1_18, fl_X0_10, ft_1_0, tg_12_7, jx_k1, tg_16_4, jx_k0, jx_wq, jx_stq, jx_ite, jx_b0, jx_bn0, jx_u_eq, jx_u_na, jx_u_ni, jx_nb0, jx_nb1, jx_ni, jx_E, eq_self, jx_a0, jx_a1, ne_eq, not_false_eq_true, Nat.reduceLeDiff, Nat.reduceEqDiff, Nat.reduceLT, jx_subl, jx_al, jx_la, jx_nm, jx_ml, nI_add, jx_xn, jx_xl, jx_inn, jx_inl, jx_ltnn, jx_lenn, jx_eqnn, jx_ltnl, jx_lenl, jx_ltln, jx_leln, jx_eqnl, Int32.reduceAdd, Int32.reduceSub, Int32.reduceMul, Int32.reduceLT, Int32.reduceLE, jx_eqll, jx_ltll, Nat.reduceMul, Nat.reduceSub, forall_const, implies_true, false_implies, not_true_eq_false, true_implies, jx_tko, jx_ofn, jx_tka, jx_pro, jx_pra, and_self, Nat.not_lt_zero, jx_nbb, f0, f1, f2, f3, f4, h]
    refine jx_cV0 dX0_has_9 li_X0_19 (jd_size f3) (congrArg Prod.fst f3) (Nat.le_of_ble_eq_true rfl) (Nat.le_of_ble_eq_true rfl) ?_
    rintro _ _ ⟨rfl, rfl⟩ - -
    simp only [Option.toList_some, Option.toList_none, List.cons_append, List.nil_append]
    refine jx_gq flok_X0 (fwok_X0 rfl) 99999 6 _ _ _ _ ?_
    simp (disch := omega) only [↓reduceIte, jx_wp, jx_stp, jx_f0, jx_f1, jx_f2, jx_f3, List.getElem?_cons_zero, List.getElem?_cons_succ, List.set_cons_zero, List.set_cons_succ, Nat.reduceAdd, true_and, and_true, if_true, if_false, Bool.false_eq_true, jx_s, Nat.reduceLT, dX0_has_0, dX0_has_1, dX0_has_4, dX0_has_5, dX0_has_6, dX0_has_9, dX0_has_12, dX0_has_15, dX0_has_16, dX0_has_19, dX0_has_20, tg_1_18, fl_X0_10, ft_1_0, tg_12_7, jx_k1, tg_16_4, jx_k0, jx_wq, jx_stq, jx_ite, jx_b0, jx_bn0, jx_u_eq, jx_u_na, jx_u_ni, jx_nb0, jx_nb1, jx_ni, jx_E, eq_self, jx_a0, jx_a1, ne_eq, not_false_eq_true, Nat.reduceLeDiff, Nat.reduceEqDiff, Nat.reduceLT, jx_subl, jx_al, jx_la, jx_nm, jx_ml, nI_add, jx_xn, jx_xl, jx_inn, jx_inl, jx_ltnn, jx_lenn, jx_eqnn, jx_ltnl, jx_lenl, jx_ltln, jx_leln, jx_eqnl, Int32.reduceAdd, Int32.reduceSub, Int32.reduceMul, Int32.reduceLT, Int32.reduceLE, jx_eqll, jx_ltll, Nat.reduceMul, Nat.reduceSub, forall_const, implies_true, false_implies, not_true_eq_false, true_implies, jx_tko, jx_ofn, jx_tka, jx_pro, jx_pra, and_self, Nat.not_lt_zero, jx_nbb, f0, f1, f2, f3, f4, a3, h, jx_b, true_and]
    by_cases h2 : nI x ≤ i <;> simp [h2]
set_option maxHeartbeats 4000000 in
set_option maxRecDepth 100000 in
theorem bg_look {G : jx_G} {n ms : Nat} {K : Nat → Nat × Nat} {I : Nat → Nat → Int32} {P : Nat → Nat → Option Nat} {L S : Nat → Nat} {x z e c e2 c2 : Nat} (hB : bg_ok n K I P L x S z e c e2 c2) {i : Nat} (hi : i < x) : jx_C G yX0_look cX0_look 2 (some (FieldType.object "RegisterFleet$Message")) 3 [.inr (some 6), .inl (nI i)] (n, ms, K, I, P) (jx_E (some (.inr (some (L i)))) (n, ms, K, I, P)) := by
  refine jx_C_of (by decide) (Nat.le_of_ble_eq_true rfl) ?_
  simp only [List.map_cons, List.map_nil, List.length_cons, List.length_nil, Nat.reduceAdd, Nat.reduceSub, List.replicate_zero, List.append_nil, List.replicate_succ, List.cons_append, List.nil_append]
  obtain ⟨⟨f0, f1, f2, f3, f4, f5⟩, hl1, hl2, hee, hm1, hm2, hdj, h140⟩ := hB
  obtain ⟨a1, a2, a3, a4, a5, a6, a7, a8⟩ := hl1
  refine jx_gq flok_X0 (fwok_X0 rfl) 99999 3 _ _ _ _ ?_
  simp (disch := omega) only [↓reduceIte, jx_wp, jx_stp, jx_f0, jx_f1, jx_f2, jx_f3, List.getElem?_cons_zero, List.getElem?_cons_succ, List.set_cons_zero, List.set_cons_succ, Nat.reduceAdd, true_and, and_true, if_true, if_false, Bool.false_eq_true, jx_s, Nat.reduceLT, dX0_look_0, dX0_look_1, dX0_look_4, dX0_look_5, dX0_look_8, dX0_look_11, fl_X0_10, ft_1_0, jx_wq, jx_stq, jx_ite, jx_b0, jx_bn0, jx_u_eq, jx_u_na, jx_u_ni, jx_nb0, jx_nb1, jx_ni, jx_E, eq_self, jx_a0, jx_a1, ne_eq, not_false_eq_true, Nat.reduceLeDiff, Nat.reduceEqDiff, Nat.reduceLT, jx_subl, jx_al, jx_la, jx_nm, jx_ml, nI_add, jx_xn, jx_xl, jx_inn, jx_inl, jx_ltnn, jx_lenn, jx_eqnn, jx_ltnl, jx_lenl, jx_ltln, jx_leln, jx_eqnl, Int32.reduceAdd, Int32.reduceSub, Int32.reduceMul, Int32.reduceLT, Int32.reduceLE, jx_eqll, jx_ltll, Nat.reduceMul, Nat.reduceSub, forall_const, implies_true, false_implies, not_true_eq_false, true_implies, jx_tko, jx_ofn, jx_tka, jx_pro, jx_pra, and_self, Nat.not_lt_zero, jx_nbb, f0, f1, f2, f3, f4]
  refine jx_cV1 dX0_look_5 li_X0_23 (jd_get f3 a1 a2 a3 a4 (by omega) hi) (congrArg Prod.fst f3) (Nat.le_of_ble_eq_true rfl) (Nat.le_of_ble_eq_true rfl) ?_
  rintro _ _ ⟨rfl, rfl⟩ - -
  simp only [Option.toList_some, Option.toList_none, List.cons_append, List.nil_append]
  rw [a6 i hi]
  refine jx_cast (c := 4) dX0_look_8 (congrArg Prod.fst (hm1 i hi).1.1) rfl lc_X0_27 ?_
  refine jx_gq flok_X0 (fwok_X0 rfl) 99999 2 _ _ _ _ ?_
  simp (disch := omega) only [↓reduceIte, jx_wp, jx_stp, jx_f0, jx_f1, jx_f2, jx_f3, List.getElem?_cons_zero, List.getElem?_cons_succ, List.set_cons_zero, List.set_cons_succ, Nat.reduceAdd, true_and, and_true, if_true, if_false, Bool.false_eq_true, jx_s, Nat.reduceLT, dX0_look_0, dX0_look_1, dX0_look_4, dX0_look_5, dX0_look_8, dX0_look_11, fl_X0_10, ft_1_0, jx_wq, jx_stq, jx_ite, jx_b0, jx_bn0, jx_u_eq, jx_u_na, jx_u_ni, jx_nb0, jx_nb1, jx_ni, jx_E, eq_self, jx_a0, jx_a1, ne_eq, not_false_eq_true, Nat.reduceLeDiff, Nat.reduceEqDiff, Nat.reduceLT, jx_subl, jx_al, jx_la, jx_nm, jx_ml, nI_add, jx_xn, jx_xl, jx_inn, jx_inl, jx_ltnn, jx_lenn, jx_eqnn, jx_ltnl, jx_lenl, jx_ltln, jx_leln, jx_eqnl, Int32.reduceAdd, Int32.reduceSub, Int32.reduceMul, Int32.reduceLT, Int32.reduceLE, jx_eqll, jx_ltll, Nat.reduceMul, Nat.reduceSub, forall_const, implies_true, false_implies, not_true_eq_false, true_implies, jx_tko, jx_ofn, jx_tka, jx_pro, jx_pra, and_self, Nat.not_lt_zero, jx_nbb]
def ms_rm (L : Nat → Nat) (i : Nat) : Nat → Nat := fun k => if k < i then L k else L (k + 1)
def bg_tk (I : Nat → Nat → Int32) (x : Nat) : Nat → Nat → Int32 := jx_u (jx_u I 7 0 (I 7 0 + 1)) 7 2 (nI (x - 1))
set_option maxHeartbeats 4000000 in
set_option maxRecDepth 100000 in
theorem bg_take {G : jx_G} {n ms : Nat} {K : Nat → Nat × Nat} {I : Nat → Nat → Int32} {P : Nat → Nat → Option Nat} {L S : Nat → Nat} {x z e c e2 c2 : Nat} (hB : bg_ok n K I P L x S z e c e2 c2) {i : Nat} (hi : i < x) : jx_C G yX0_take cX0_take 2 (some (FieldType.object "RegisterFleet$Message")) 3 [.inr (some 6), .inl (nI i)] (n, ms, K, I, P) (jx_E (some (.inr (some (L i)))) (n, ms, K, bg_tk I x, jd_rm P e i x)) := by
  refine jx_C_of (by decide) (Nat.le_of_ble_eq_true rfl) ?_
  simp only [List.map_cons, List.map_nil, List.length_cons, List.length_nil, Nat.reduceAdd, Nat.reduceSub, List.replicate_zero, List.append_nil, List.replicate_succ, List.cons_append, List.nil_append]
  obtain ⟨⟨f0, f1, f2, f3, f4, f5⟩, hl1, hl2, hee, hm1, hm2, hdj, h140⟩ := hB
  obtain ⟨a1, a2, a3, a4, a5, a6, a7, a8⟩ := hl1
  refine jx_gq flok_X0 (fwok_X0 rfl) 99999 3 _ _ _ _ ?_
  simp (disch := omega) only [↓reduceIte, jx_wp, jx_stp, jx_f0, jx_f1, jx_f2, jx_f3, List.getElem?_cons_zero, List.getElem?_cons_succ, List.set_cons_zero, List.set_cons_succ, Nat.reduceAdd, true_and, and_true, if_true, if_false, Bool.false_eq_true, jx_s, Nat.reduceLT, dX0_take_0, dX0_take_1, dX0_take_4, dX0_take_5, dX0_take_8, dX0_take_11, fl_X0_10, ft_1_0, jx_wq, jx_stq, jx_ite, jx_b0, jx_bn0, jx_u_eq, jx_u_na, jx_u_ni, jx_nb0, jx_nb1, jx_ni, jx_E, eq_self, jx_a0, jx_a1, ne_eq, not_false_eq_true, Nat.reduceLeDiff, Nat.reduceEqDiff, Nat.reduceLT, jx_subl, jx_al, jx_la, jx_nm, jx_ml, nI_add, jx_xn, jx_xl, jx_inn, jx_inl, jx_ltnn, jx_lenn, jx_eqnn, jx_ltnl, jx_lenl, jx_ltln, jx_leln, jx_eqnl, Int32.reduceAdd, Int32.reduceSub, Int32.reduceMul, Int32.reduceLT, Int32.reduceLE, jx_eqll, jx_ltll, Nat.reduceMul, Nat.reduceSub, forall_const, implies_true, false_implies, not_true_eq_false, true_implies, jx_tko, jx_ofn, jx_tka, jx_pro, jx_pra, and_self, Nat.not_lt_zero, jx_nbb, f0, f1, f2, f3, f4]
  refine jx_cV1 dX0_take_5 li_X0_40 (jd_remove f3 a1 a2 a3 a4 (by omega) hi (fun j hj q hq => by rw [a6 j hj] at hq; cases hq; rw [(hm1 j hj).1.1]) (by omega)) (congrArg Prod.fst f3) (Nat.le_of_ble_eq_true rfl) (Nat.le_of_ble_eq_true rfl) ?_
  rintro _ _ ⟨rfl, rfl⟩ - -
  simp only [Option.toList_some, Option.toList_none, List.cons_append, List.nil_append]
  rw [a6 i hi]
  refine jx_cast (c := 4) dX0_take_8 (congrArg Prod.fst (hm1 i hi).1.1) rfl lc_X0_27 ?_
  refine jx_gq flok_X0 (fwok_X0 rfl) 99999 2 _ _ _ _ ?_
  simp (disch := omega) only [↓reduceIte, jx_wp, jx_stp, jx_f0, jx_f1, jx_f2, jx_f3, List.getElem?_cons_zero, List.getElem?_cons_succ, List.set_cons_zero, List.set_cons_succ, Nat.reduceAdd, true_and, and_true, if_true, if_false, Bool.false_eq_true, jx_s, Nat.reduceLT, dX0_take_0, dX0_take_1, dX0_take_4, dX0_take_5, dX0_take_8, dX0_take_11, fl_X0_10, ft_1_0, jx_wq, jx_stq, jx_ite, jx_b0, jx_bn0, jx_u_eq, jx_u_na, jx_u_ni, jx_nb0, jx_nb1, jx_ni, jx_E, eq_self, jx_a0, jx_a1, ne_eq, not_false_eq_true, Nat.reduceLeDiff, Nat.reduceEqDiff, Nat.reduceLT, jx_subl, jx_al, jx_la, jx_nm, jx_ml, nI_add, jx_xn, jx_xl, jx_inn, jx_inl, jx_ltnn, jx_lenn, jx_eqnn, jx_ltnl, jx_lenl, jx_ltln, jx_leln, jx_eqnl, Int32.reduceAdd, Int32.reduceSub, Int32.reduceMul, Int32.reduceLT, Int32.reduceLE, jx_eqll, jx_ltll, Nat.reduceMul, Nat.reduceSub, forall_const, implies_true, false_implies, not_true_eq_false, true_implies, jx_tko, jx_ofn, jx_tka, jx_pro, jx_pra, and_self, Nat.not_lt_zero, jx_nbb]
  first | rfl | exact ⟨rfl, rfl⟩
/-- the bag with message t in hand -/
def bg_hd (n : Nat) (K : Nat → Nat × Nat) (I : Nat → Nat → Int32) (P : Nat → Nat → Option Nat) (L : Nat → Nat) (x : Nat) (S : Nat → Nat) (z e c e2 c2 t : Nat) : Prop := bg_ok n K I P L x S z e c e2 c2 ∧ ob_M K P t ∧ 140 ≤ t ∧ t + 5 ≤ n ∧ (∀ i, i < x → L i ≠ t) ∧ ∀ i, i < z → S i ≠ t
theorem bg_take_ok {n : Nat} {K : Nat → Nat × Nat} {I : Nat → Nat → Int32} {P : Nat → Nat → Option Nat} {L S : Nat → Nat} {x z e c e2 c2 i : Nat} (hB : bg_ok n K I P L x S z e c e2 c2) (hi : i < x) : bg_hd n K (bg_tk I x) (jd_rm P e i x) (ms_rm L i) (x - 1) S z e c e2 c2 (L i) := by
  obtain ⟨⟨f0, f1, f2, f3, f4, f5⟩, hl1, hl2, hee, hm1, hm2, hdj, h140⟩ := hB
  obtain ⟨a1, a2, a3, a4, a5, a6, a7, a8⟩ := hl1
  obtain ⟨b1, b2, b3, b4, b5, b6, b7, b8⟩ := hl2
  obtain ⟨g1, g2, g3⟩ := hm1 i hi
  have n6 : (6 : Nat) ≠ e := fun h => by rw [← h, f0] at a2; simp at a2
  have n7 : (7 : Nat) ≠ e := fun h => by rw [← h, f3] at a2; simp at a2
  have n8 : (8 : Nat) ≠ e := fun h => by rw [← h, f4] at a2; simp at a2
  have he : e2 ≠ e := fun h => by
    rcases hee with h2 | h2
    · exact h2 h.symm
    · omega
  have hin : ∀ (N : Nat → Nat) (k : Nat), ms_in n K P N k → ms_in n K (jd_rm P e i x) N k := fun N k h i hi => by
    obtain ⟨v1, v2, v3⟩ := h i hi
    have v4 := ob_M_e v1 a2
    exact ⟨ob_M_fr v1 (fun _ _ _ => rfl) (fun b j h1 h2 => jd_rm_na (by omega)), v2, v3⟩
  have hrm : ∀ k, k < x - 1 → ∃ m, m < x ∧ m ≠ i ∧ ms_rm L i k = L m ∧ (m < i → k = m) ∧ (i < m → m = k + 1) := fun k hk => by
    unfold ms_rm
    by_cases h : k < i
    · rw [if_pos h]
      exact ⟨k, by omega, by omega, rfl, fun _ => rfl, fun _ => by omega⟩
    · rw [if_neg h]
      exact ⟨k + 1, by omega, by omega, rfl, fun _ => by omega, fun _ => rfl⟩
  refine ⟨⟨⟨f0, by rw [jd_rm_na n6, f1], by rw [jd_rm_na n6, f2], f3, f4, f5⟩, ⟨by rw [jd_rm_na n7, a1], a2, jx_u_eq _ _ _ _, by omega, a5, fun k hk => ?_, a7, a8⟩, ⟨by rw [jd_rm_na n8, b1], b2, ?_, b4, b5, fun k hk => by rw [jd_rm_na he, b6 k hk], b7, b8⟩, hee, fun k hk => ?_, hin S z hm2, ⟨fun k l hk hl h => ?_, hdj.2.1, fun k l hk hl => ?_⟩, h140⟩, (hin L x hm1 i hi).1, g2, g3, fun k hk h => ?_, fun k hk => (hdj.2.2 i k hi hk).symm⟩
  · unfold jd_rm ms_rm
    by_cases h : k < i
    · rw [if_neg (fun q => absurd q.2.1 (by omega)), if_pos h, a6 k (by omega)]
    · rw [if_pos ⟨rfl, by omega, by omega⟩, if_pos (by omega), if_neg h, a6 (k + 1) (by omega)]
  · unfold bg_tk
    rw [jx_u_na (by decide), jx_u_na (by decide), b3]
  · obtain ⟨m, h1, h2, h3, -⟩ := hrm k hk
    rw [h3]
    exact hin L x hm1 m h1
  · obtain ⟨m, h1, h2, h3, h4, h5⟩ := hrm k hk
    obtain ⟨m', h1', h2', h3', h4', h5'⟩ := hrm l hl
    rw [h3, h3'] at h
    have := hdj.1 m m' h1 h1' h
    omega
  · obtain ⟨m, h1, h2, h3, -⟩ := hrm k hk
    rw [h3]
    exact hdj.2.2 m l h1 hl
  · obtain ⟨m, h1, h2, h3, -⟩ := hrm k hk
    rw [h3] at h
    exact h2 (hdj.1 m i h1 hi h)
/-- what reuse leaves -/
def bg_ru (n ms : Nat) (K : Nat → Nat × Nat) (I : Nat → Nat → Int32) (P : Nat → Nat → Option Nat) (L : Nat → Nat) (x : Nat) (S : Nat → Nat) (z e c e2 c2 t : Nat) (w : Option jx_V) (M2 : jx_M) : Prop := w = none ∧ ∃ n2 ms2 K2 I2 P2 e3 c3, M2 = (n2, ms2, K2, I2, P2) ∧ bg_ok n2 K2 I2 P2 L x (ls_up S z t) (z + 1) e c e3 c3 ∧ (∀ b, b < n → K2 b = K b) ∧ (∀ b j, b < n → b ≠ 8 → I2 b j = I b j) ∧ (∀ b j, b < n → b ≠ 8 → b ≠ e2 → P2 b j = P b j) ∧ n2 + c2 ≤ n + c3 ∧ ms2 + 4 * c2 ≤ ms + 4 * c3
set_option maxHeartbeats 4000000 in
set_option maxRecDepth 100000 in
theorem bg_reuse {G : jx_G} {n ms : Nat} {K : Nat → Nat × Nat} {I : Nat → Nat → Int32} {P : Nat → Nat → Option Nat} {L S : Nat → Nat} {x z e c e2 c2 t : Nat} (hB : bg_hd n K I P L x S z e c e2 c2 t) (hz : z ≤ 16000) (hn : n + 6 ≤ 600003) (hms : ms + 24040 ≤ 7302250) : jx_C G yX0_reuse cX0_reuse 2 none 7 [.inr (some 6), .inr (some t)] (n, ms, K, I, P) (bg_ru n ms K I P L x S z e c e2 c2 t) := by
  refine jx_C_of (by decide) (Nat.le_of_ble_eq_true rfl) ?_
  simp only [List.map_cons, List.map_nil, List.length_cons, List.length_nil, Nat.reduceAdd, Nat.reduceSub, List.replicate_zero, List.append_nil, List.replicate_succ, List.cons_append, List.nil_append]
  obtain ⟨⟨⟨f0, f1, f2, f3, f4, f5⟩, hl1, hl2, hee, hm1, hm2, hdj, h140⟩, ht, ht1, ht2, htL, htS⟩ := hB
  refine jx_gq flok_X0 (fwok_X0 rfl) 99999 3 _ _ _ _ ?_
  simp (disch := omega) only [↓reduceIte, jx_wp, jx_stp, jx_f0, jx_f1, jx_f2, jx_f3, List.getElem?_cons_zero, List.getElem?_cons_succ, List.set_cons_zero, List.set_cons_succ, Nat.reduceAdd, true_and, and_true, if_true, if_false, Bool.false_eq_true, jx_s, Nat.reduceLT, dX0_reuse_0, dX0_reuse_1, dX0_reuse_4, dX0_reuse_5, dX0_reuse_8, dX0_reuse_9, fl_X0_16, ft_1_1, jx_wq, jx_stq, jx_ite, jx_b0, jx_bn0, jx_u_eq, jx_u_na, jx_u_ni, jx_nb0, jx_nb1, jx_ni, jx_E, eq_self, jx_a0, jx_a1, ne_eq, not_false_eq_true, Nat.reduceLeDiff, Nat.reduceEqDiff, Nat.reduceLT, jx_subl, jx_al, jx_la, jx_nm, jx_ml, nI_add, jx_xn, jx_xl, jx_inn, jx_inl, jx_ltnn, jx_lenn, jx_eqnn, jx_ltnl, jx_lenl, jx_ltln, jx_leln, jx_eqnl, Int32.reduceAdd, Int32.reduceSub, Int32.reduceMul, Int32.reduceLT, Int32.reduceLE, jx_eqll, jx_ltll, Nat.reduceMul, Nat.reduceSub, forall_const, implies_true, false_implies, not_true_eq_false, true_implies, jx_tko, jx_ofn, jx_tka, jx_pro, jx_pra, and_self, Nat.not_lt_zero, jx_nbb, f0, f1, f2, f3, f4]
  refine jx_cV1 dX0_reuse_5 li_X0_29 (ls_add f4 f5 hl2 hz (fun i hi => ⟨by rw [(hm2 i hi).1.1], by have := (hm2 i hi).2.2; omega⟩) (by rw [ht.1]) (by omega) (by omega) h140 (by omega) (by omega)) (congrArg Prod.fst f4) (Nat.le_of_ble_eq_true rfl) (Nat.le_of_ble_eq_true rfl) ?_
  rintro _ _ ⟨rfl, n2, ms2, K2, I2, P2, e3, c3, rfl, hl3, hf1, hf2, hf3, hf4, hf5⟩ - -
  simp only [Option.toList_some, Option.toList_none, List.cons_append, List.nil_append]
  refine jx_gq flok_X0 (fwok_X0 rfl) 99999 3 _ _ _ _ ?_
  simp (disch := omega) only [↓reduceIte, jx_wp, jx_stp, jx_f0, jx_f1, jx_f2, jx_f3, List.getElem?_cons_zero, List.getElem?_cons_succ, List.set_cons_zero, List.set_cons_succ, Nat.reduceAdd, true_and, and_true, if_true, if_false, Bool.false_eq_true, jx_s, Nat.reduceLT, dX0_reuse_0, dX0_reuse_1, dX0_reuse_4, dX0_reuse_5, dX0_reuse_8, dX0_reuse_9, fl_X0_16, ft_1_1, jx_wq, jx_stq, jx_ite, jx_b0, jx_bn0, jx_u_eq, jx_u_na, jx_u_ni, jx_nb0, jx_nb1, jx_ni, jx_E, eq_self, jx_a0, jx_a1, ne_eq, not_false_eq_true, Nat.reduceLeDiff, Nat.reduceEqDiff, Nat.reduceLT, jx_subl, jx_al, jx_la, jx_nm, jx_ml, nI_add, jx_xn, jx_xl, jx_inn, jx_inl, jx_ltnn, jx_lenn, jx_eqnn, jx_ltnl, jx_lenl, jx_ltln, jx_leln, jx_eqnl, Int32.reduceAdd, Int32.reduceSub, Int32.reduceMul, Int32.reduceLT, Int32.reduceLE, jx_eqll, jx_ltll, Nat.reduceMul, Nat.reduceSub, forall_const, implies_true, false_implies, not_true_eq_false, true_implies, jx_tko, jx_ofn, jx_tka, jx_pro, jx_pra, and_self, Nat.not_lt_zero, jx_nbb]
  obtain ⟨a1, a2, a3, a4, a5, a6, a7, a8⟩ := hl1
  have he2 := hl2.2.1
  have n6 : (6 : Nat) ≠ e2 := fun h => by rw [← h, f0] at he2; simp at he2
  have n7 : (7 : Nat) ≠ e2 := fun h => by rw [← h, f3] at he2; simp at he2
  have hin : ∀ (N : Nat → Nat) (k : Nat), ms_in n K P N k → ms_in n2 K2 P2 N k := fun N k h i hi => by
    obtain ⟨v1, v2, v3⟩ := h i hi
    have v4 := ob_M_e v1 he2
    exact ⟨ob_M_fr v1 (fun b h1 h2 => hf1 b (by omega)) (fun b j h1 h2 => hf3 b j (by omega) (by omega) (by omega)), v2, by omega⟩
  have hn8 : e ≠ 8 := fun h => by rw [h, f4] at a2; simp at a2
  refine ⟨rfl, n2, ms2, K2, I2, P2, e3, c3, rfl, ⟨⟨by rw [hf1 6 (by omega), f0], by rw [hf3 6 0 (by omega) (by decide) n6, f1], by rw [hf3 6 1 (by omega) (by decide) n6, f2], by rw [hf1 7 (by omega), f3], by rw [hf1 8 (by omega), f4], by rw [hf1 1 (by omega), f5]⟩, ⟨by rw [hf3 7 1 (by omega) (by decide) n7, a1], by rw [hf1 e a7, a2], by rw [hf2 7 2 (by omega) (by decide), a3], a4, a5, fun i hi => ?_, by omega, a8⟩, hl3, ?_, hin L x hm1, ?_, ⟨hdj.1, fun i j hi hj h => ?_, fun i j hi hj => ?_⟩, by omega⟩, hf1, hf2, fun b j h1 h2 h3 => hf3 b j h1 h2 h3, ?_, ?_⟩
  · rw [hf3 e i a7 hn8 (fun h => by rcases hee with h2 | h2 <;> omega), a6 i hi]
  · rcases hf5 with h | h
    · rw [h.2.2.1]
      exact hee
    · left
      omega
  · intro i hi
    by_cases h : i = z
    · subst h
      rw [ls_up_eq]
      have v4 := ob_M_e ht he2
      exact ⟨ob_M_fr ht (fun b h1 h2 => hf1 b (by omega)) (fun b j h1 h2 => hf3 b j (by omega) (by omega) (by omega)), ht1, by omega⟩
    · rw [ls_up_lt (by omega)]
      exact hin S z hm2 i (by omega)
  · by_cases h1 : i = z
    · by_cases h2 : j = z
      · omega
      · subst h1
        rw [ls_up_eq, ls_up_lt (by omega)] at h
        exact absurd h.symm (htS j (by omega))
    · by_cases h2 : j = z
      · subst h2
        rw [ls_up_eq, ls_up_lt (by omega)] at h
        exact absurd h (htS i (by omega))
      · rw [ls_up_lt (by omega), ls_up_lt (by omega)] at h
        exact hdj.2.1 i j (by omega) (by omega) h
  · by_cases h1 : j = z
    · subst h1
      rw [ls_up_eq]
      exact htL i hi
    · rw [ls_up_lt (by omega)]
      exact hdj.2.2 i j hi (by omega)
  · have := @bg_cap c2
    omega
  · have := @bg_cap c2
    omega
