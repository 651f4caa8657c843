theorem sm_6 : Int32.ofNat 6 = nI 6 := rfl
theorem sm_z0 : (0 : Int32).toNatClampNeg = 0 := by decide
theorem sm_z6 : (6 : Int32).toNatClampNeg = 6 := by decide
set_option maxHeartbeats 4000000 in
set_option maxRecDepth 100000 in
theorem cl_isSet {G : jx_G} {n ms : Nat} {K : Nat → Nat × Nat} {I : Nat → Nat → Int32} {P : Nat → Nat → Option Nat} {x : Int32} : jx_C G yX8_isSet cX8_isSet 1 (some FieldType.boolean) 0 [.inl x] (n, ms, K, I, P) (jx_E (some (.inl (jx_b (¬ x ≤ 0)))) (n, ms, K, I, P)) := by
  refine jx_C_of (by decide) (Nat.le_of_ble_eq_true rfl) ?_
  simp only [List.map_cons, List.map_nil, List.length_cons, List.length_nil, Nat.reduceAdd, Nat.reduceSub, List.replicate_zero, List.append_nil, List.replicate_succ, List.cons_append, List.nil_append]
  refine jx_gq flok_X8 (fwok_X8 rfl) 99999 8 _ _ _ _ ?_
  simp (disch := omega) only [↓reduceIte, jx_wp, jx_stp, jx_f0, jx_f1, jx_f2, jx_f3, List.getElem?_cons_zero, List.getElem?_cons_succ, List.set_cons_zero, List.set_cons_succ, Nat.reduceAdd, true_and, and_true, if_true, if_false, Bool.false_eq_true, jx_s, Nat.reduceLT, dX8_isSet_0, dX8_isSet_1, dX8_isSet_4, dX8_isSet_5, dX8_isSet_8, dX8_isSet_9, tg_1_7, jx_k1, tg_5_4, jx_k0, jx_wq, jx_stq, jx_ite, jx_b0, jx_bn0, jx_u_eq, jx_u_na, jx_u_ni, jx_nb0, jx_nb1, jx_ni, jx_E, eq_self, jx_a0, jx_a1, ne_eq, not_false_eq_true, Nat.reduceLeDiff, Nat.reduceEqDiff, Nat.reduceLT, jx_subl, jx_al, jx_la, jx_nm, jx_ml, nI_add, jx_xn, jx_xl, jx_inn, jx_inl, jx_ltnn, jx_lenn, jx_eqnn, jx_ltnl, jx_lenl, jx_ltln, jx_leln, jx_eqnl, Int32.reduceAdd, Int32.reduceSub, Int32.reduceMul, Int32.reduceLT, Int32.reduceLE, jx_eqll, jx_ltll, Nat.reduceMul, Nat.reduceSub, forall_const, implies_true, false_implies, not_true_eq_false, true_implies, jx_b]
  by_cases h : x ≤ 0 <;> simp [h]
set_option maxHeartbeats 4000000 in
set_option maxRecDepth 100000 in
theorem cl_isRegister {G : jx_G} {n ms : Nat} {K : Nat → Nat × Nat} {I : Nat → Nat → Int32} {P : Nat → Nat → Option Nat} {x : Int32} : jx_C G yX8_isRegister cX8_isRegister 1 (some FieldType.boolean) 0 [.inl x] (n, ms, K, I, P) (jx_E (some (.inl (jx_b (¬ x < 0 ∧ ¬ 3 ≤ x)))) (n, ms, K, I, P)) := by
  refine jx_C_of (by decide) (Nat.le_of_ble_eq_true rfl) ?_
  simp only [List.map_cons, List.map_nil, List.length_cons, List.length_nil, Nat.reduceAdd, Nat.reduceSub, List.replicate_zero, List.append_nil, List.replicate_succ, List.cons_append, List.nil_append]
  refine jx_gq flok_X8 (fwok_X8 rfl) 99999 10 _ _ _ _ ?_
  simp (disch := omega) only [↓reduceIte, jx_wp, jx_stp, jx_f0, jx_f1, jx_f2, jx_f3, List.getElem?_cons_zero, List.getElem?_cons_succ, List.set_cons_zero, List.set_cons_succ, Nat.reduceAdd, true_and, and_true, if_true, if_false, Bool.false_eq_true, jx_s, Nat.reduceLT, dX8_isRegister_0, dX8_isRegister_1, dX8_isRegister_4, dX8_isRegister_5, dX8_isRegister_6, dX8_isRegister_9, dX8_isRegister_10, dX8_isRegister_13, dX8_isRegister_14, tg_1_12, jx_k3, tg_6_7, jx_k1, tg_10_4, jx_k0, jx_wq, jx_stq, jx_ite, jx_b0, jx_bn0, jx_u_eq, jx_u_na, jx_u_ni, jx_nb0, jx_nb1, jx_ni, jx_E, eq_self, jx_a0, jx_a1, ne_eq, not_false_eq_true, Nat.reduceLeDiff, Nat.reduceEqDiff, Nat.reduceLT, jx_subl, jx_al, jx_la, jx_nm, jx_ml, nI_add, jx_xn, jx_xl, jx_inn, jx_inl, jx_ltnn, jx_lenn, jx_eqnn, jx_ltnl, jx_lenl, jx_ltln, jx_leln, jx_eqnl, Int32.reduceAdd, Int32.reduceSub, Int32.reduceMul, Int32.reduceLT, Int32.reduceLE, jx_eqll, jx_ltll, Nat.reduceMul, Nat.reduceSub, forall_const, implies_true, false_implies, not_true_eq_false, true_implies, jx_b]
  by_cases h : x < 0 <;> by_cases h2 : 3 ≤ x <;> simp [h, h2]
set_option maxHeartbeats 4000000 in
set_option maxRecDepth 100000 in
theorem cl_isClient {G : jx_G} {n ms : Nat} {K : Nat → Nat × Nat} {I : Nat → Nat → Int32} {P : Nat → Nat → Option Nat} {x : Int32} : jx_C G yX8_isClient cX8_isClient 1 (some FieldType.boolean) 0 [.inl x] (n, ms, K, I, P) (jx_E (some (.inl (jx_b (¬ x < 0 ∧ ¬ 4 ≤ x)))) (n, ms, K, I, P)) := by
  refine jx_C_of (by decide) (Nat.le_of_ble_eq_true rfl) ?_
  simp only [List.map_cons, List.map_nil, List.length_cons, List.length_nil, Nat.reduceAdd, Nat.reduceSub, List.replicate_zero, List.append_nil, List.replicate_succ, List.cons_append, List.nil_append]
  refine jx_gq flok_X8 (fwok_X8 rfl) 99999 10 _ _ _ _ ?_
  simp (disch := omega) only [↓reduceIte, jx_wp, jx_stp, jx_f0, jx_f1, jx_f2, jx_f3, List.getElem?_cons_zero, List.getElem?_cons_succ, List.set_cons_zero, List.set_cons_succ, Nat.reduceAdd, true_and, and_true, if_true, if_false, Bool.false_eq_true, jx_s, Nat.reduceLT, dX8_isClient_0, dX8_isClient_1, dX8_isClient_4, dX8_isClient_5, dX8_isClient_6, dX8_isClient_9, dX8_isClient_10, dX8_isClient_13, dX8_isClient_14, tg_1_12, jx_k4, tg_6_7, jx_k1, tg_10_4, jx_k0, jx_wq, jx_stq, jx_ite, jx_b0, jx_bn0, jx_u_eq, jx_u_na, jx_u_ni, jx_nb0, jx_nb1, jx_ni, jx_E, eq_self, jx_a0, jx_a1, ne_eq, not_false_eq_true, Nat.reduceLeDiff, Nat.reduceEqDiff, Nat.reduceLT, jx_subl, jx_al, jx_la, jx_nm, jx_ml, nI_add, jx_xn, jx_xl, jx_inn, jx_inl, jx_ltnn, jx_lenn, jx_eqnn, jx_ltnl, jx_lenl, jx_ltln, jx_leln, jx_eqnl, Int32.reduceAdd, Int32.reduceSub, Int32.reduceMul, Int32.reduceLT, Int32.reduceLE, jx_eqll, jx_ltll, Nat.reduceMul, Nat.reduceSub, forall_const, implies_true, false_implies, not_true_eq_false, true_implies, jx_b]
  by_cases h : x < 0 <;> by_cases h2 : 4 ≤ x <;> simp [h, h2]
set_option maxHeartbeats 4000000 in
set_option maxRecDepth 100000 in
theorem cl_isIn {G : jx_G} {n ms : Nat} {K : Nat → Nat × Nat} {I : Nat → Nat → Int32} {P : Nat → Nat → Option Nat} {x s : Int32} : jx_C G yX8_isIn cX8_isIn 2 (some FieldType.boolean) 0 [.inl x, .inl s] (n, ms, K, I, P) (jx_E (some (.inl (jx_b (¬ x >>> (s &&& 31) &&& 1 = 0)))) (n, ms, K, I, P)) := by
  refine jx_C_of (by decide) (Nat.le_of_ble_eq_true rfl) ?_
  simp only [List.map_cons, List.map_nil, List.length_cons, List.length_nil, Nat.reduceAdd, Nat.reduceSub, List.replicate_zero, List.append_nil, List.replicate_succ, List.cons_append, List.nil_append]
  refine jx_gq flok_X8 (fwok_X8 rfl) 99999 12 _ _ _ _ ?_
  simp (disch := omega) only [↓reduceIte, jx_wp, jx_stp, jx_f0, jx_f1, jx_f2, jx_f3, List.getElem?_cons_zero, List.getElem?_cons_succ, List.set_cons_zero, List.set_cons_succ, Nat.reduceAdd, true_and, and_true, if_true, if_false, Bool.false_eq_true, jx_s, Nat.reduceLT, dX8_isIn_0, dX8_isIn_1, dX8_isIn_2, dX8_isIn_3, dX8_isIn_4, dX8_isIn_5, dX8_isIn_8, dX8_isIn_9, dX8_isIn_12, dX8_isIn_13, jx_k1, tg_5_7, tg_9_4, jx_k0, jx_wq, jx_stq, jx_ite, jx_b0, jx_bn0, jx_u_eq, jx_u_na, jx_u_ni, jx_nb0, jx_nb1, jx_ni, jx_E, eq_self, jx_a0, jx_a1, ne_eq, not_false_eq_true, Nat.reduceLeDiff, Nat.reduceEqDiff, Nat.reduceLT, jx_subl, jx_al, jx_la, jx_nm, jx_ml, nI_add, jx_xn, jx_xl, jx_inn, jx_inl, jx_ltnn, jx_lenn, jx_eqnn, jx_ltnl, jx_lenl, jx_ltln, jx_leln, jx_eqnl, Int32.reduceAdd, Int32.reduceSub, Int32.reduceMul, Int32.reduceLT, Int32.reduceLE, jx_eqll, jx_ltll, Nat.reduceMul, Nat.reduceSub, forall_const, implies_true, false_implies, not_true_eq_false, true_implies, jx_b]
  by_cases h : x >>> (s &&& 31) &&& 1 = 0 <;> simp [h]
set_option maxHeartbeats 4000000 in
set_option maxRecDepth 100000 in
theorem cl_markBeyond {G : jx_G} {n ms : Nat} {K : Nat → Nat × Nat} {I : Nat → Nat → Int32} {P : Nat → Nat → Option Nat} {x c : Int32} : jx_C G yX8_markBeyond cX8_markBeyond 2 (some FieldType.int) 0 [.inl x, .inl c] (n, ms, K, I, P) (jx_E (some (.inl (4 * (x / 4 + 1) + c))) (n, ms, K, I, P)) := by
  refine jx_C_of (by decide) (Nat.le_of_ble_eq_true rfl) ?_
  simp only [List.map_cons, List.map_nil, List.length_cons, List.length_nil, Nat.reduceAdd, Nat.reduceSub, List.replicate_zero, List.append_nil, List.replicate_succ, List.cons_append, List.nil_append]
  refine jx_gq flok_X8 (fwok_X8 rfl) 99999 12 _ _ _ _ ?_
  simp (disch := omega) only [↓reduceIte, jx_wp, jx_stp, jx_f0, jx_f1, jx_f2, jx_f3, List.getElem?_cons_zero, List.getElem?_cons_succ, List.set_cons_zero, List.set_cons_succ, Nat.reduceAdd, true_and, and_true, if_true, if_false, Bool.false_eq_true, jx_s, Nat.reduceLT, dX8_markBeyond_0, dX8_markBeyond_1, dX8_markBeyond_2, dX8_markBeyond_3, dX8_markBeyond_4, dX8_markBeyond_5, dX8_markBeyond_6, dX8_markBeyond_7, dX8_markBeyond_8, dX8_markBeyond_9, jx_k4, jx_k1, jx_wq, jx_stq, jx_ite, jx_b0, jx_bn0, jx_u_eq, jx_u_na, jx_u_ni, jx_nb0, jx_nb1, jx_ni, jx_E, eq_self, jx_a0, jx_a1, ne_eq, not_false_eq_true, Nat.reduceLeDiff, Nat.reduceEqDiff, Nat.reduceLT, jx_subl, jx_al, jx_la, jx_nm, jx_ml, nI_add, jx_xn, jx_xl, jx_inn, jx_inl, jx_ltnn, jx_lenn, jx_eqnn, jx_ltnl, jx_lenl, jx_ltln, jx_leln, jx_eqnl, Int32.reduceAdd, Int32.reduceSub, Int32.reduceMul, Int32.reduceLT, Int32.reduceLE, jx_eqll, jx_ltll, Nat.reduceMul, Nat.reduceSub, forall_const, implies_true, false_implies, not_true_eq_false, true_implies]
set_option maxHeartbeats 4000000 in
set_option maxRecDepth 100000 in
theorem cl_isMajority {G : jx_G} {n ms : Nat} {K : Nat → Nat × Nat} {I : Nat → Nat → Int32} {P : Nat → Nat → Option Nat} {v z : Nat} (hv : v < 128) : jx_C G yX8_isMajority cX8_isMajority 2 (some FieldType.boolean) 1 [.inl (nI v), .inl (nI z)] (n, ms, K, I, P) (jx_E (some (.inl (jx_b (¬ 2 * jx_pc (v &&& z) ≤ jx_pc v)))) (n, ms, K, I, P)) := by
  refine jx_C_of (by decide) (Nat.le_of_ble_eq_true rfl) ?_
  simp only [List.map_cons, List.map_nil, List.length_cons, List.length_nil, Nat.reduceAdd, Nat.reduceSub, List.replicate_zero, List.append_nil, List.replicate_succ, List.cons_append, List.nil_append]
  have e1 := jx_andlt (a := v) (b := z) hv
  have e2 := jx_pc_le v hv
  have e3 := jx_pc_le _ e1
  refine jx_gq flok_X8 (fwok_X8 rfl) 99999 4 _ _ _ _ ?_
  simp (disch := omega) only [↓reduceIte, jx_wp, jx_stp, jx_f0, jx_f1, jx_f2, jx_f3, List.getElem?_cons_zero, List.getElem?_cons_succ, List.set_cons_zero, List.set_cons_succ, Nat.reduceAdd, true_and, and_true, if_true, if_false, Bool.false_eq_true, jx_s, Nat.reduceLT, dX8_isMajority_0, dX8_isMajority_1, dX8_isMajority_2, dX8_isMajority_3, dX8_isMajority_4, dX8_isMajority_7, dX8_isMajority_8, dX8_isMajority_9, dX8_isMajority_12, dX8_isMajority_15, dX8_isMajority_16, dX8_isMajority_19, dX8_isMajority_20, jx_k2, tg_12_7, jx_k1, tg_16_4, jx_k0, jx_wq, jx_stq, jx_ite, jx_b0, jx_bn0, jx_u_eq, jx_u_na, jx_u_ni, jx_nb0, jx_nb1, jx_ni, jx_E, eq_self, jx_a0, jx_a1, ne_eq, not_false_eq_true, Nat.reduceLeDiff, Nat.reduceEqDiff, Nat.reduceLT, jx_subl, jx_al, jx_la, jx_nm, jx_ml, nI_add, jx_xn, jx_xl, jx_inn, jx_inl, jx_ltnn, jx_lenn, jx_eqnn, jx_ltnl, jx_lenl, jx_ltln, jx_leln, jx_eqnl, Int32.reduceAdd, Int32.reduceSub, Int32.reduceMul, Int32.reduceLT, Int32.reduceLE, jx_eqll, jx_ltll, Nat.reduceMul, Nat.reduceSub, forall_const, implies_true, false_implies, not_true_eq_false, true_implies, jx_and]
  refine jx_cS1 dX8_isMajority_4 li_X8_245 (jd_bitCount e1) (Nat.le_of_ble_eq_true rfl) (Nat.le_of_ble_eq_true rfl) ?_
  rintro _ _ ⟨rfl, rfl⟩ - -
  simp only [Option.toList_some, Option.toList_none, List.cons_append, List.nil_append]
  refine jx_gq flok_X8 (fwok_X8 rfl) 99999 3 _ _ _ _ ?_
  simp (disch := omega) only [↓reduceIte, jx_wp, jx_stp, jx_f0, jx_f1, jx_f2, jx_f3, List.getElem?_cons_zero, List.getElem?_cons_succ, List.set_cons_zero, List.set_cons_succ, Nat.reduceAdd, true_and, and_true, if_true, if_false, Bool.false_eq_true, jx_s, Nat.reduceLT, dX8_isMajority_0, dX8_isMajority_1, dX8_isMajority_2, dX8_isMajority_3, dX8_isMajority_4, dX8_isMajority_7, dX8_isMajority_8, dX8_isMajority_9, dX8_isMajority_12, dX8_isMajority_15, dX8_isMajority_16, dX8_isMajority_19, dX8_isMajority_20, jx_k2, tg_12_7, jx_k1, tg_16_4, jx_k0, jx_wq, jx_stq, jx_ite, jx_b0, jx_bn0, jx_u_eq, jx_u_na, jx_u_ni, jx_nb0, jx_nb1, jx_ni, jx_E, eq_self, jx_a0, jx_a1, ne_eq, not_false_eq_true, Nat.reduceLeDiff, Nat.reduceEqDiff, Nat.reduceLT, jx_subl, jx_al, jx_la, jx_nm, jx_ml, nI_add, jx_xn, jx_xl, jx_inn, jx_inl, jx_ltnn, jx_lenn, jx_eqnn, jx_ltnl, jx_lenl, jx_ltln, jx_leln, jx_eqnl, Int32.reduceAdd, Int32.reduceSub, Int32.reduceMul, Int32.reduceLT, Int32.reduceLE, jx_eqll, jx_ltll, Nat.reduceMul, Nat.reduceSub, forall_const, implies_true, false_implies, not_true_eq_false, true_implies]
  refine jx_cS1 dX8_isMajority_9 li_X8_245 (jd_bitCount hv) (Nat.le_of_ble_eq_true rfl) (Nat.le_of_ble_eq_true rfl) ?_
  rintro _ _ ⟨rfl, rfl⟩ - -
  simp only [Option.toList_some, Option.toList_none, List.cons_append, List.nil_append]
  refine jx_gq flok_X8 (fwok_X8 rfl) 99999 6 _ _ _ _ ?_
  simp (disch := omega) only [↓reduceIte, jx_wp, jx_stp, jx_f0, jx_f1, jx_f2, jx_f3, List.getElem?_cons_zero, List.getElem?_cons_succ, List.set_cons_zero, List.set_cons_succ, Nat.reduceAdd, true_and, and_true, if_true, if_false, Bool.false_eq_true, jx_s, Nat.reduceLT, dX8_isMajority_0, dX8_isMajority_1, dX8_isMajority_2, dX8_isMajority_3, dX8_isMajority_4, dX8_isMajority_7, dX8_isMajority_8, dX8_isMajority_9, dX8_isMajority_12, dX8_isMajority_15, dX8_isMajority_16, dX8_isMajority_19, dX8_isMajority_20, jx_k2, tg_12_7, jx_k1, tg_16_4, jx_k0, jx_wq, jx_stq, jx_ite, jx_b0, jx_bn0, jx_u_eq, jx_u_na, jx_u_ni, jx_nb0, jx_nb1, jx_ni, jx_E, eq_self, jx_a0, jx_a1, ne_eq, not_false_eq_true, Nat.reduceLeDiff, Nat.reduceEqDiff, Nat.reduceLT, jx_subl, jx_al, jx_la, jx_nm, jx_ml, nI_add, jx_xn, jx_xl, jx_inn, jx_inl, jx_ltnn, jx_lenn, jx_eqnn, jx_ltnl, jx_lenl, jx_ltln, jx_leln, jx_eqnl, Int32.reduceAdd, Int32.reduceSub, Int32.reduceMul, Int32.reduceLT, Int32.reduceLE, jx_eqll, jx_ltll, Nat.reduceMul, Nat.reduceSub, forall_const, implies_true, false_implies, not_true_eq_false, true_implies, jx_b]
  by_cases h : 2 * jx_pc (v &&& z) ≤ jx_pc v <;> simp [h]
set_option maxHeartbeats 4000000 in
set_option maxRecDepth 100000 in
theorem cl_isSetAmong {G : jx_G} {n ms : Nat} {K : Nat → Nat × Nat} {I : Nat → Nat → Int32} {P : Nat → Nat → Option Nat} {q x : Int32} : jx_C G yX8_isSetAmong cX8_isSetAmong 2 (some FieldType.boolean) 1 [.inl q, .inl x] (n, ms, K, I, P) (jx_E (some (.inl (jx_b (¬ x ≤ 0 ∧ ¬ (1 : Int32) <<< (q &&& 31) ≤ x)))) (n, ms, K, I, P)) := by
  refine jx_C_of (by decide) (Nat.le_of_ble_eq_true rfl) ?_
  simp only [List.map_cons, List.map_nil, List.length_cons, List.length_nil, Nat.reduceAdd, Nat.reduceSub, List.replicate_zero, List.append_nil, List.replicate_succ, List.cons_append, List.nil_append]
  refine jx_gq flok_X8 (fwok_X8 rfl) 99999 2 _ _ _ _ ?_
  simp (disch := omega) only [↓reduceIte, jx_wp, jx_stp, jx_f0, jx_f1, jx_f2, jx_f3, List.getElem?_cons_zero, List.getElem?_cons_succ, List.set_cons_zero, List.set_cons_succ, Nat.reduceAdd, true_and, and_true, if_true, if_false, Bool.false_eq_true, jx_s, Nat.reduceLT, dX8_isSetAmong_0, dX8_isSetAmong_1, dX8_isSetAmong_4, dX8_isSetAmong_7, dX8_isSetAmong_8, dX8_isSetAmong_9, dX8_isSetAmong_10, dX8_isSetAmong_11, dX8_isSetAmong_14, dX8_isSetAmong_15, dX8_isSetAmong_18, dX8_isSetAmong_19, tg_4_14, jx_k1, tg_11_7, tg_15_4, jx_k0, jx_wq, jx_stq, jx_ite, jx_b0, jx_bn0, jx_u_eq, jx_u_na, jx_u_ni, jx_nb0, jx_nb1, jx_ni, jx_E, eq_self, jx_a0, jx_a1, ne_eq, not_false_eq_true, Nat.reduceLeDiff, Nat.reduceEqDiff, Nat.reduceLT, jx_subl, jx_al, jx_la, jx_nm, jx_ml, nI_add, jx_xn, jx_xl, jx_inn, jx_inl, jx_ltnn, jx_lenn, jx_eqnn, jx_ltnl, jx_lenl, jx_ltln, jx_leln, jx_eqnl, Int32.reduceAdd, Int32.reduceSub, Int32.reduceMul, Int32.reduceLT, Int32.reduceLE, jx_eqll, jx_ltll, Nat.reduceMul, Nat.reduceSub, forall_const, implies_true, false_implies, not_true_eq_false, true_implies]
  refine jx_cS1 dX8_isSetAmong_1 li_X8_90 (cl_isSet) (Nat.le_of_ble_eq_true rfl) (Nat.le_of_ble_eq_true rfl) ?_
  rintro _ _ ⟨rfl, rfl⟩ - -
  simp only [Option.toList_some, Option.toList_none, List.cons_append, List.nil_append]
  refine jx_gq flok_X8 (fwok_X8 rfl) 99999 12 _ _ _ _ ?_
  simp (disch := omega) only [↓reduceIte, jx_wp, jx_stp, jx_f0, jx_f1, jx_f2, jx_f3, List.getElem?_cons_zero, List.getElem?_cons_succ, List.set_cons_zero, List.set_cons_succ, Nat.reduceAdd, true_and, and_true, if_true, if_false, Bool.false_eq_true, jx_s, Nat.reduceLT, dX8_isSetAmong_0, dX8_isSetAmong_1, dX8_isSetAmong_4, dX8_isSetAmong_7, dX8_isSetAmong_8, dX8_isSetAmong_9, dX8_isSetAmong_10, dX8_isSetAmong_11, dX8_isSetAmong_14, dX8_isSetAmong_15, dX8_isSetAmong_18, dX8_isSetAmong_19, tg_4_14, jx_k1, tg_11_7, tg_15_4, jx_k0, jx_wq, jx_stq, jx_ite, jx_b0, jx_bn0, jx_u_eq, jx_u_na, jx_u_ni, jx_nb0, jx_nb1, jx_ni, jx_E, eq_self, jx_a0, jx_a1, ne_eq, not_false_eq_true, Nat.reduceLeDiff, Nat.reduceEqDiff, Nat.reduceLT, jx_subl, jx_al, jx_la, jx_nm, jx_ml, nI_add, jx_xn, jx_xl, jx_inn, jx_inl, jx_ltnn, jx_lenn, jx_eqnn, jx_ltnl, jx_lenl, jx_ltln, jx_leln, jx_eqnl, Int32.reduceAdd, Int32.reduceSub, Int32.reduceMul, Int32.reduceLT, Int32.reduceLE, jx_eqll, jx_ltll, Nat.reduceMul, Nat.reduceSub, forall_const, implies_true, false_implies, not_true_eq_false, true_implies, jx_b]
  by_cases h : x ≤ 0 <;> by_cases h2 : (1 : Int32) <<< (q &&& 31) ≤ x <;> simp [h, h2]
set_option maxHeartbeats 4000000 in
set_option maxRecDepth 100000 in
theorem sm_restart {G : jx_G} {n ms : Nat} {K : Nat → Nat × Nat} {I : Nat → Nat → Int32} {P : Nat → Nat → Option Nat} {a e : Nat} (hk : K a = (8, 1)) (hp : P a 0 = some e) (he : K e = (11, 6)) (h0 : e ≠ 0) {f : Int32} : jx_C G yX7_restart cX7_restart 2 none 1 [.inr (some a), .inl f] (n, ms, K, I, P) (jx_E none (n, ms, K, jx_u (jd_fi I e 0 6) e 0 f, P)) := by
  refine jx_C_of (by decide) (Nat.le_of_ble_eq_true rfl) ?_
  simp only [List.map_cons, List.map_nil, List.length_cons, List.length_nil, Nat.reduceAdd, Nat.reduceSub, List.replicate_zero, List.append_nil, List.replicate_succ, List.cons_append, List.nil_append]
  refine jx_gq flok_X7 (fwok_X7 rfl) 99999 4 _ _ _ _ ?_
  simp (disch := omega) only [↓reduceIte, jx_wp, jx_stp, jx_f0, jx_f1, jx_f2, jx_f3, List.getElem?_cons_zero, List.getElem?_cons_succ, List.set_cons_zero, List.set_cons_succ, Nat.reduceAdd, true_and, and_true, if_true, if_false, Bool.false_eq_true, jx_s, Nat.reduceLT, dX7_restart_0, dX7_restart_1, dX7_restart_4, dX7_restart_5, dX7_restart_8, dX7_restart_9, dX7_restart_12, dX7_restart_13, dX7_restart_14, dX7_restart_15, fl_X7_9, ft_8_0, jx_k0, jx_wq, jx_stq, jx_ite, jx_b0, jx_bn0, jx_u_eq, jx_u_na, jx_u_ni, jx_nb0, jx_nb1, jx_ni, jx_E, eq_self, jx_a0, jx_a1, ne_eq, not_false_eq_true, Nat.reduceLeDiff, Nat.reduceEqDiff, Nat.reduceLT, jx_subl, jx_al, jx_la, jx_nm, jx_ml, nI_add, jx_xn, jx_xl, jx_inn, jx_inl, jx_ltnn, jx_lenn, jx_eqnn, jx_ltnl, jx_lenl, jx_ltln, jx_leln, jx_eqnl, Int32.reduceAdd, Int32.reduceSub, Int32.reduceMul, Int32.reduceLT, Int32.reduceLE, jx_eqll, jx_ltll, Nat.reduceMul, Nat.reduceSub, forall_const, implies_true, false_implies, not_true_eq_false, true_implies, hk, hp, he]
  refine jx_cS2 dX7_restart_5 li_X7_15 (jd_fill he h0 (by decide)) (Nat.le_of_ble_eq_true rfl) (Nat.le_of_ble_eq_true rfl) ?_
  rintro _ _ ⟨rfl, rfl⟩ - -
  simp only [Option.toList_some, Option.toList_none, List.cons_append, List.nil_append]
  refine jx_gq flok_X7 (fwok_X7 rfl) 99999 8 _ _ _ _ ?_
  simp (disch := omega) only [↓reduceIte, jx_wp, jx_stp, jx_f0, jx_f1, jx_f2, jx_f3, List.getElem?_cons_zero, List.getElem?_cons_succ, List.set_cons_zero, List.set_cons_succ, Nat.reduceAdd, true_and, and_true, if_true, if_false, Bool.false_eq_true, jx_s, Nat.reduceLT, dX7_restart_0, dX7_restart_1, dX7_restart_4, dX7_restart_5, dX7_restart_8, dX7_restart_9, dX7_restart_12, dX7_restart_13, dX7_restart_14, dX7_restart_15, fl_X7_9, ft_8_0, jx_k0, jx_wq, jx_stq, jx_ite, jx_b0, jx_bn0, jx_u_eq, jx_u_na, jx_u_ni, jx_nb0, jx_nb1, jx_ni, jx_E, eq_self, jx_a0, jx_a1, ne_eq, not_false_eq_true, Nat.reduceLeDiff, Nat.reduceEqDiff, Nat.reduceLT, jx_subl, jx_al, jx_la, jx_nm, jx_ml, nI_add, jx_xn, jx_xl, jx_inn, jx_inl, jx_ltnn, jx_lenn, jx_eqnn, jx_ltnl, jx_lenl, jx_ltln, jx_leln, jx_eqnl, Int32.reduceAdd, Int32.reduceSub, Int32.reduceMul, Int32.reduceLT, Int32.reduceLE, jx_eqll, jx_ltll, Nat.reduceMul, Nat.reduceSub, forall_const, implies_true, false_implies, not_true_eq_false, true_implies, hk, hp, he, h0]
set_option maxHeartbeats 4000000 in
set_option maxRecDepth 100000 in
theorem sm_at {G : jx_G} {n ms : Nat} {K : Nat → Nat × Nat} {I : Nat → Nat → Int32} {P : Nat → Nat → Option Nat} {a e : Nat} (hk : K a = (8, 1)) (hp : P a 0 = some e) (he : K e = (11, 6)) {k : Nat} (h6 : k < 6) : jx_C G yX7_at cX7_at 2 (some FieldType.int) 0 [.inr (some a), .inl (nI k)] (n, ms, K, I, P) (jx_E (some (.inl (I e k))) (n, ms, K, I, P)) := by
  refine jx_C_of (by decide) (Nat.le_of_ble_eq_true rfl) ?_
  simp only [List.map_cons, List.map_nil, List.length_cons, List.length_nil, Nat.reduceAdd, Nat.reduceSub, List.replicate_zero, List.append_nil, List.replicate_succ, List.cons_append, List.nil_append]
  have e1 : ¬ 6 ≤ k := by omega
  have e2 : (nI k < 0) = False := by
    simp (disch := omega) only [jx_ltnl, Nat.not_lt_zero]
  refine jx_gq flok_X7 (fwok_X7 rfl) 99999 16 _ _ _ _ ?_
  simp (disch := omega) only [↓reduceIte, jx_wp, jx_stp, jx_f0, jx_f1, jx_f2, jx_f3, List.getElem?_cons_zero, List.getElem?_cons_succ, List.set_cons_zero, List.set_cons_succ, Nat.reduceAdd, true_and, and_true, if_true, if_false, Bool.false_eq_true, jx_s, Nat.reduceLT, dX7_at_0, dX7_at_1, dX7_at_4, dX7_at_5, dX7_at_6, dX7_at_9, dX7_at_10, dX7_at_13, dX7_at_14, dX7_at_17, dX7_at_18, dX7_at_19, dX7_at_22, dX7_at_23, tg_1_21, fl_X7_9, ft_8_0, tg_10_12, tg_19_4, jx_k0, jx_wq, jx_stq, jx_ite, jx_b0, jx_bn0, jx_u_eq, jx_u_na, jx_u_ni, jx_nb0, jx_nb1, jx_ni, jx_E, eq_self, jx_a0, jx_a1, ne_eq, not_false_eq_true, Nat.reduceLeDiff, Nat.reduceEqDiff, Nat.reduceLT, jx_subl, jx_al, jx_la, jx_nm, jx_ml, nI_add, jx_xn, jx_xl, jx_inn, jx_inl, jx_ltnn, jx_lenn, jx_eqnn, jx_ltnl, jx_lenl, jx_ltln, jx_leln, jx_eqnl, Int32.reduceAdd, Int32.reduceSub, Int32.reduceMul, Int32.reduceLT, Int32.reduceLE, jx_eqll, jx_ltll, Nat.reduceMul, Nat.reduceSub, forall_const, implies_true, false_implies, not_true_eq_false, true_implies, hk, hp, he, e1, e2, sm_6]
set_option maxHeartbeats 4000000 in
set_option maxRecDepth 100000 in
theorem sm_at6 {G : jx_G} {n ms : Nat} {K : Nat → Nat × Nat} {I : Nat → Nat → Int32} {P : Nat → Nat → Option Nat} {a e : Nat} (hk : K a = (8, 1)) (hp : P a 0 = some e) (he : K e = (11, 6)) : jx_C G yX7_at cX7_at 2 (some FieldType.int) 0 [.inr (some a), .inl (nI 6)] (n, ms, K, I, P) (jx_E (some (.inl 0)) (n, ms, K, I, P)) := by
  refine jx_C_of (by decide) (Nat.le_of_ble_eq_true rfl) ?_
  simp only [List.map_cons, List.map_nil, List.length_cons, List.length_nil, Nat.reduceAdd, Nat.reduceSub, List.replicate_zero, List.append_nil, List.replicate_succ, List.cons_append, List.nil_append]
  have e2 : (nI 6 < 0) = False := by decide
  refine jx_gq flok_X7 (fwok_X7 rfl) 99999 16 _ _ _ _ ?_
  simp (disch := omega) only [↓reduceIte, jx_wp, jx_stp, jx_f0, jx_f1, jx_f2, jx_f3, List.getElem?_cons_zero, List.getElem?_cons_succ, List.set_cons_zero, List.set_cons_succ, Nat.reduceAdd, true_and, and_true, if_true, if_false, Bool.false_eq_true, jx_s, Nat.reduceLT, dX7_at_0, dX7_at_1, dX7_at_4, dX7_at_5, dX7_at_6, dX7_at_9, dX7_at_10, dX7_at_13, dX7_at_14, dX7_at_17, dX7_at_18, dX7_at_19, dX7_at_22, dX7_at_23, tg_1_21, fl_X7_9, ft_8_0, tg_10_12, tg_19_4, jx_k0, jx_wq, jx_stq, jx_ite, jx_b0, jx_bn0, jx_u_eq, jx_u_na, jx_u_ni, jx_nb0, jx_nb1, jx_ni, jx_E, eq_self, jx_a0, jx_a1, ne_eq, not_false_eq_true, Nat.reduceLeDiff, Nat.reduceEqDiff, Nat.reduceLT, jx_subl, jx_al, jx_la, jx_nm, jx_ml, nI_add, jx_xn, jx_xl, jx_inn, jx_inl, jx_ltnn, jx_lenn, jx_eqnn, jx_ltnl, jx_lenl, jx_ltln, jx_leln, jx_eqnl, Int32.reduceAdd, Int32.reduceSub, Int32.reduceMul, Int32.reduceLT, Int32.reduceLE, jx_eqll, jx_ltll, Nat.reduceMul, Nat.reduceSub, forall_const, implies_true, false_implies, not_true_eq_false, true_implies, hk, hp, he, e2, sm_6, Nat.le_refl]
set_option maxHeartbeats 4000000 in
set_option maxRecDepth 100000 in
theorem sm_put {G : jx_G} {n ms : Nat} {K : Nat → Nat × Nat} {I : Nat → Nat → Int32} {P : Nat → Nat → Option Nat} {a e : Nat} (hk : K a = (8, 1)) (hp : P a 0 = some e) (he : K e = (11, 6)) (h0 : e ≠ 0) {k : Nat} (h6 : k < 6) {v : Int32} : jx_C G yX7_put cX7_put 3 none 0 [.inr (some a), .inl (nI k), .inl v] (n, ms, K, I, P) (jx_E none (n, ms, K, jx_u I e k v, P)) := by
  refine jx_C_of (by decide) (Nat.le_of_ble_eq_true rfl) ?_
  simp only [List.map_cons, List.map_nil, List.length_cons, List.length_nil, Nat.reduceAdd, Nat.reduceSub, List.replicate_zero, List.append_nil, List.replicate_succ, List.cons_append, List.nil_append]
  have e1 : ¬ 6 ≤ k := by omega
  have e2 : (nI k < 0) = False := by
    simp (disch := omega) only [jx_ltnl, Nat.not_lt_zero]
  refine jx_gq flok_X7 (fwok_X7 rfl) 99999 16 _ _ _ _ ?_
  simp (disch := omega) only [↓reduceIte, jx_wp, jx_stp, jx_f0, jx_f1, jx_f2, jx_f3, List.getElem?_cons_zero, List.getElem?_cons_succ, List.set_cons_zero, List.set_cons_succ, Nat.reduceAdd, true_and, and_true, if_true, if_false, Bool.false_eq_true, jx_s, Nat.reduceLT, dX7_put_0, dX7_put_1, dX7_put_4, dX7_put_5, dX7_put_6, dX7_put_9, dX7_put_10, dX7_put_13, dX7_put_14, dX7_put_17, dX7_put_18, dX7_put_19, dX7_put_20, tg_1_19, fl_X7_9, ft_8_0, tg_10_10, jx_wq, jx_stq, jx_ite, jx_b0, jx_bn0, jx_u_eq, jx_u_na, jx_u_ni, jx_nb0, jx_nb1, jx_ni, jx_E, eq_self, jx_a0, jx_a1, ne_eq, not_false_eq_true, Nat.reduceLeDiff, Nat.reduceEqDiff, Nat.reduceLT, jx_subl, jx_al, jx_la, jx_nm, jx_ml, nI_add, jx_xn, jx_xl, jx_inn, jx_inl, jx_ltnn, jx_lenn, jx_eqnn, jx_ltnl, jx_lenl, jx_ltln, jx_leln, jx_eqnl, Int32.reduceAdd, Int32.reduceSub, Int32.reduceMul, Int32.reduceLT, Int32.reduceLE, jx_eqll, jx_ltll, Nat.reduceMul, Nat.reduceSub, forall_const, implies_true, false_implies, not_true_eq_false, true_implies, hk, hp, he, e1, e2, h0, sm_6]
def sm_cp (I : Nat → Nat → Int32) (e g : Nat) : Nat → Nat → Int32 := fun b j => if b = e ∧ j < 6 then I g j else I b j
theorem sm_cp_eq {I : Nat → Nat → Int32} {e g : Nat} : (fun x j => if x = e then va_cpy (I g) (I e) 0 0 6 j else I x j) = sm_cp I e g := by
  funext b j
  unfold sm_cp va_cpy
  by_cases hb : b = e
  · subst hb
    by_cases h : j < 6
    · rw [if_pos rfl, if_pos (by omega), if_pos (by omega)]
      congr 1
      omega
    · rw [if_pos rfl, if_neg (by omega), if_neg (by omega)]
  · rw [if_neg hb, if_neg (by omega)]
set_option maxHeartbeats 4000000 in
set_option maxRecDepth 100000 in
theorem sm_copyFrom {G : jx_G} {n ms : Nat} {K : Nat → Nat × Nat} {I : Nat → Nat → Int32} {P : Nat → Nat → Option Nat} {a e : Nat} (hk : K a = (8, 1)) (hp : P a 0 = some e) (he : K e = (11, 6)) {b g : Nat} (hk2 : K b = (8, 1)) (hp2 : P b 0 = some g) (he2 : K g = (11, 6)) (h3 : 3 ≤ e) (g3 : 3 ≤ g) : jx_C G yX7_copyFrom cX7_copyFrom 2 none 1 [.inr (some a), .inr (some b)] (n, ms, K, I, P) (jx_E none (n, ms, K, sm_cp I e g, P)) := by
  refine jx_C_of (by decide) (Nat.le_of_ble_eq_true rfl) ?_
  simp only [List.map_cons, List.map_nil, List.length_cons, List.length_nil, Nat.reduceAdd, Nat.reduceSub, List.replicate_zero, List.append_nil, List.replicate_succ, List.cons_append, List.nil_append]
  refine jx_gq flok_X7 (fwok_X7 rfl) 99999 7 _ _ _ _ ?_
  simp (disch := omega) only [↓reduceIte, jx_wp, jx_stp, jx_f0, jx_f1, jx_f2, jx_f3, List.getElem?_cons_zero, List.getElem?_cons_succ, List.set_cons_zero, List.set_cons_succ, Nat.reduceAdd, true_and, and_true, if_true, if_false, Bool.false_eq_true, jx_s, Nat.reduceLT, dX7_copyFrom_0, dX7_copyFrom_1, dX7_copyFrom_4, dX7_copyFrom_5, dX7_copyFrom_6, dX7_copyFrom_9, dX7_copyFrom_10, dX7_copyFrom_12, dX7_copyFrom_15, fl_X7_9, ft_8_0, jx_k0, jx_b6, jx_wq, jx_stq, jx_ite, jx_b0, jx_bn0, jx_u_eq, jx_u_na, jx_u_ni, jx_nb0, jx_nb1, jx_ni, jx_E, eq_self, jx_a0, jx_a1, ne_eq, not_false_eq_true, Nat.reduceLeDiff, Nat.reduceEqDiff, Nat.reduceLT, jx_subl, jx_al, jx_la, jx_nm, jx_ml, nI_add, jx_xn, jx_xl, jx_inn, jx_inl, jx_ltnn, jx_lenn, jx_eqnn, jx_ltnl, jx_lenl, jx_ltln, jx_leln, jx_eqnl, Int32.reduceAdd, Int32.reduceSub, Int32.reduceMul, Int32.reduceLT, Int32.reduceLE, jx_eqll, jx_ltll, Nat.reduceMul, Nat.reduceSub, forall_const, implies_true, false_implies, not_true_eq_false, true_implies, hk, hp, he, hk2, hp2, he2]
  refine jx_copyI dX7_copyFrom_12 ln_X7_21 nt_arraycopy st_arraycopy in_System (by simp only [he2]) (by simp only [he]) g3 h3 (by decide) (by simp) (by decide) (by decide) (by decide) (by simp only [he2]; decide) (by simp only [he]; decide) ?_
  simp only [jx_cpI, sm_z0, sm_z6, sm_cp_eq]
  refine jx_gq flok_X7 (fwok_X7 rfl) 99999 2 _ _ _ _ ?_
  simp (disch := omega) only [↓reduceIte, jx_wp, jx_stp, jx_f0, jx_f1, jx_f2, jx_f3, List.getElem?_cons_zero, List.getElem?_cons_succ, List.set_cons_zero, List.set_cons_succ, Nat.reduceAdd, true_and, and_true, if_true, if_false, Bool.false_eq_true, jx_s, Nat.reduceLT, dX7_copyFrom_0, dX7_copyFrom_1, dX7_copyFrom_4, dX7_copyFrom_5, dX7_copyFrom_6, dX7_copyFrom_9, dX7_copyFrom_10, dX7_copyFrom_12, dX7_copyFrom_15, fl_X7_9, ft_8_0, jx_k0, jx_b6, jx_wq, jx_stq, jx_ite, jx_b0, jx_bn0, jx_u_eq, jx_u_na, jx_u_ni, jx_nb0, jx_nb1, jx_ni, jx_E, eq_self, jx_a0, jx_a1, ne_eq, not_false_eq_true, Nat.reduceLeDiff, Nat.reduceEqDiff, Nat.reduceLT, jx_subl, jx_al, jx_la, jx_nm, jx_ml, nI_add, jx_xn, jx_xl, jx_inn, jx_inl, jx_ltnn, jx_lenn, jx_eqnn, jx_ltnl, jx_lenl, jx_ltln, jx_leln, jx_eqnl, Int32.reduceAdd, Int32.reduceSub, Int32.reduceMul, Int32.reduceLT, Int32.reduceLE, jx_eqll, jx_ltll, Nat.reduceMul, Nat.reduceSub, forall_const, implies_true, false_implies, not_true_eq_false, true_implies]
def sm_jn (I : Nat → Nat → Int32) (e g k : Nat) : Nat → Nat → Int32 := fun b j => if b = e ∧ j < k ∧ (I g j = -1 ∨ I e j = 0) then I g j else I b j
theorem sm_jn_0 {I : Nat → Nat → Int32} {e g : Nat} : sm_jn I e g 0 = I := by
  funext b j
  unfold sm_jn
  rw [if_neg (by omega)]
theorem sm_jn_na {I : Nat → Nat → Int32} {e g k b j : Nat} (h : b ≠ e) : sm_jn I e g k b j = I b j := by
  unfold sm_jn
  rw [if_neg (by omega)]
theorem sm_jn_hi {I : Nat → Nat → Int32} {e g k b j : Nat} (h : k ≤ j) : sm_jn I e g k b j = I b j := by
  unfold sm_jn
  rw [if_neg (by omega)]
theorem sm_jn_s {I : Nat → Nat → Int32} {e g k : Nat} : sm_jn I e g (k + 1) = if I g k = -1 ∨ I e k = 0 then jx_u (sm_jn I e g k) e k (I g k) else sm_jn I e g k := by
  funext b j
  by_cases hj : b = e ∧ j = k
  · obtain ⟨rfl, rfl⟩ := hj
    unfold sm_jn jx_u
    by_cases h : I g j = -1 ∨ I b j = 0
    · rw [if_pos ⟨rfl, by omega, h⟩, if_pos h, if_pos ⟨rfl, rfl⟩]
    · rw [if_neg (fun q => h q.2.2), if_neg h, if_neg (fun q => h q.2.2)]
  · have e1 : ∀ v, jx_u (sm_jn I e g k) e k v b j = sm_jn I e g k b j := fun v => by
      unfold jx_u
      rw [if_neg hj]
    have e2 : sm_jn I e g (k + 1) b j = sm_jn I e g k b j := by
      unfold sm_jn
      by_cases h : b = e ∧ j < k ∧ (I g j = -1 ∨ I e j = 0)
      · rw [if_pos h, if_pos ⟨h.1, by omega, h.2.2⟩]
      · rw [if_neg h, if_neg (fun q => h ⟨q.1, by have := q.2.1; omega, q.2.2⟩)]
    rw [e2]
    split
    · rw [e1]
    · rfl
set_option maxHeartbeats 4000000 in
set_option maxRecDepth 100000 in
theorem sm_join_l {G : jx_G} {n ms : Nat} {K : Nat → Nat × Nat} {I : Nat → Nat → Int32} {P : Nat → Nat → Option Nat} {Q : Option jx_V → jx_M → Prop} {a e : Nat} (hk : K a = (8, 1)) (hp : P a 0 = some e) (he : K e = (11, 6)) {b g : Nat} (hk2 : K b = (8, 1)) (hp2 : P b 0 = some g) (he2 : K g = (11, 6)) (h0 : e ≠ 0) (hge : g ≠ e) (kk : Q none (n, ms, K, sm_jn I e g 6, P)) : ∀ f k, k + f = 6 → jx_J G yX7_join cX7_join 3 none 0 (Q) 2 [some (.inr (some a)), some (.inr (some b)), some (.inl (nI k))] [] (n, ms, K, sm_jn I e g k, P) := by
  intro f
  induction f with
  | zero =>
    intro k hk2
    have e0 : k = 6 := by omega
    subst e0
    refine jx_gq flok_X7 (fwok_X7 rfl) 99999 4 _ _ _ _ ?_
    simp (disch := omega) only [↓reduceIte, jx_wp, jx_stp, jx_f0, jx_f1, jx_f2, jx_f3, List.getElem?_cons_zero, List.getElem?_cons_succ, List.set_cons_zero, List.set_cons_succ, Nat.reduceAdd, true_and, and_true, if_true, if_false, Bool.false_eq_true, jx_s, Nat.reduceLT, dX7_join_0, dX7_join_1, dX7_join_2, dX7_join_3, dX7_join_5, dX7_join_8, dX7_join_9, dX7_join_12, dX7_join_13, dX7_join_14, dX7_join_15, dX7_join_18, dX7_join_19, dX7_join_22, dX7_join_23, dX7_join_24, dX7_join_27, dX7_join_28, dX7_join_31, dX7_join_32, dX7_join_33, dX7_join_36, dX7_join_37, dX7_join_38, dX7_join_39, dX7_join_42, dX7_join_45, jx_k0, jx_b6, tg_5_40, fl_X7_9, ft_8_0, jx_km1, tg_15_12, tg_24_15, jx_k1, tg_42_m40, jx_wq, jx_stq, jx_ite, jx_b0, jx_bn0, jx_u_eq, jx_u_na, jx_u_ni, jx_nb0, jx_nb1, jx_ni, jx_E, eq_self, jx_a0, jx_a1, ne_eq, not_false_eq_true, Nat.reduceLeDiff, Nat.reduceEqDiff, Nat.reduceLT, jx_subl, jx_al, jx_la, jx_nm, jx_ml, nI_add, jx_xn, jx_xl, jx_inn, jx_inl, jx_ltnn, jx_lenn, jx_eqnn, jx_ltnl, jx_lenl, jx_ltln, jx_leln, jx_eqnl, Int32.reduceAdd, Int32.reduceSub, Int32.reduceMul, Int32.reduceLT, Int32.reduceLE, jx_eqll, jx_ltll, Nat.reduceMul, Nat.reduceSub, forall_const, implies_true, false_implies, not_true_eq_false, true_implies, Nat.le_refl]
    exact kk
  | succ f ih =>
    intro k hk3
    have e6 : ¬ 6 ≤ k := by omega
    have ih2 := ih (k + 1) (by omega)
    rw [sm_jn_s] at ih2
    by_cases h1 : I g k = -1
    · rw [if_pos (Or.inl h1)] at ih2
      refine jx_gq flok_X7 (fwok_X7 rfl) 2 28 _ _ _ _ ?_
      simp (disch := omega) only [↓reduceIte, jx_wp, jx_stp, jx_f0, jx_f1, jx_f2, jx_f3, List.getElem?_cons_zero, List.getElem?_cons_succ, List.set_cons_zero, List.set_cons_succ, Nat.reduceAdd, true_and, and_true, if_true, if_false, Bool.false_eq_true, jx_s, Nat.reduceLT, dX7_join_0, dX7_join_1, dX7_join_2, dX7_join_3, dX7_join_5, dX7_join_8, dX7_join_9, dX7_join_12, dX7_join_13, dX7_join_14, dX7_join_15, dX7_join_18, dX7_join_19, dX7_join_22, dX7_join_23, dX7_join_24, dX7_join_27, dX7_join_28, dX7_join_31, dX7_join_32, dX7_join_33, dX7_join_36, dX7_join_37, dX7_join_38, dX7_join_39, dX7_join_42, dX7_join_45, jx_k0, jx_b6, tg_5_40, fl_X7_9, ft_8_0, jx_km1, tg_15_12, tg_24_15, jx_k1, tg_42_m40, jx_wq, jx_stq, jx_ite, jx_b0, jx_bn0, jx_u_eq, jx_u_na, jx_u_ni, jx_nb0, jx_nb1, jx_ni, jx_E, eq_self, jx_a0, jx_a1, ne_eq, not_false_eq_true, Nat.reduceLeDiff, Nat.reduceEqDiff, Nat.reduceLT, jx_subl, jx_al, jx_la, jx_nm, jx_ml, nI_add, jx_xn, jx_xl, jx_inn, jx_inl, jx_ltnn, jx_lenn, jx_eqnn, jx_ltnl, jx_lenl, jx_ltln, jx_leln, jx_eqnl, Int32.reduceAdd, Int32.reduceSub, Int32.reduceMul, Int32.reduceLT, Int32.reduceLE, jx_eqll, jx_ltll, Nat.reduceMul, Nat.reduceSub, forall_const, implies_true, false_implies, not_true_eq_false, true_implies, hk, hp, he, hk2, hp2, he2, h0, sm_jn_hi, sm_jn_na, e6, h1]
      rw [h1] at ih2
      exact ih2
    · by_cases h2 : I e k = 0
      · rw [if_pos (Or.inr h2)] at ih2
        refine jx_gq flok_X7 (fwok_X7 rfl) 2 28 _ _ _ _ ?_
        simp (disch := omega) only [↓reduceIte, jx_wp, jx_stp, jx_f0, jx_f1, jx_f2, jx_f3, List.getElem?_cons_zero, List.getElem?_cons_succ, List.set_cons_zero, List.set_cons_succ, Nat.reduceAdd, true_and, and_true, if_true, if_false, Bool.false_eq_true, jx_s, Nat.reduceLT, dX7_join_0, dX7_join_1, dX7_join_2, dX7_join_3, dX7_join_5, dX7_join_8, dX7_join_9, dX7_join_12, dX7_join_13, dX7_join_14, dX7_join_15, dX7_join_18, dX7_join_19, dX7_join_22, dX7_join_23, dX7_join_24, dX7_join_27, dX7_join_28, dX7_join_31, dX7_join_32, dX7_join_33, dX7_join_36, dX7_join_37, dX7_join_38, dX7_join_39, dX7_join_42, dX7_join_45, jx_k0, jx_b6, tg_5_40, fl_X7_9, ft_8_0, jx_km1, tg_15_12, tg_24_15, jx_k1, tg_42_m40, jx_wq, jx_stq, jx_ite, jx_b0, jx_bn0, jx_u_eq, jx_u_na, jx_u_ni, jx_nb0, jx_nb1, jx_ni, jx_E, eq_self, jx_a0, jx_a1, ne_eq, not_false_eq_true, Nat.reduceLeDiff, Nat.reduceEqDiff, Nat.reduceLT, jx_subl, jx_al, jx_la, jx_nm, jx_ml, nI_add, jx_xn, jx_xl, jx_inn, jx_inl, jx_ltnn, jx_lenn, jx_eqnn, jx_ltnl, jx_lenl, jx_ltln, jx_leln, jx_eqnl, Int32.reduceAdd, Int32.reduceSub, Int32.reduceMul, Int32.reduceLT, Int32.reduceLE, jx_eqll, jx_ltll, Nat.reduceMul, Nat.reduceSub, forall_const, implies_true, false_implies, not_true_eq_false, true_implies, hk, hp, he, hk2, hp2, he2, h0, sm_jn_hi, sm_jn_na, e6, h1, h2]
        exact ih2
      · rw [if_neg (fun h => h.elim h1 h2)] at ih2
        refine jx_gq flok_X7 (fwok_X7 rfl) 2 28 _ _ _ _ ?_
        simp (disch := omega) only [↓reduceIte, jx_wp, jx_stp, jx_f0, jx_f1, jx_f2, jx_f3, List.getElem?_cons_zero, List.getElem?_cons_succ, List.set_cons_zero, List.set_cons_succ, Nat.reduceAdd, true_and, and_true, if_true, if_false, Bool.false_eq_true, jx_s, Nat.reduceLT, dX7_join_0, dX7_join_1, dX7_join_2, dX7_join_3, dX7_join_5, dX7_join_8, dX7_join_9, dX7_join_12, dX7_join_13, dX7_join_14, dX7_join_15, dX7_join_18, dX7_join_19, dX7_join_22, dX7_join_23, dX7_join_24, dX7_join_27, dX7_join_28, dX7_join_31, dX7_join_32, dX7_join_33, dX7_join_36, dX7_join_37, dX7_join_38, dX7_join_39, dX7_join_42, dX7_join_45, jx_k0, jx_b6, tg_5_40, fl_X7_9, ft_8_0, jx_km1, tg_15_12, tg_24_15, jx_k1, tg_42_m40, jx_wq, jx_stq, jx_ite, jx_b0, jx_bn0, jx_u_eq, jx_u_na, jx_u_ni, jx_nb0, jx_nb1, jx_ni, jx_E, eq_self, jx_a0, jx_a1, ne_eq, not_false_eq_true, Nat.reduceLeDiff, Nat.reduceEqDiff, Nat.reduceLT, jx_subl, jx_al, jx_la, jx_nm, jx_ml, nI_add, jx_xn, jx_xl, jx_inn, jx_inl, jx_ltnn, jx_lenn, jx_eqnn, jx_ltnl, jx_lenl, jx_ltln, jx_leln, jx_eqnl, Int32.reduceAdd, Int32.reduceSub, Int32.reduceMul, Int32.reduceLT, Int32.reduceLE, jx_eqll, jx_ltll, Nat.reduceMul, Nat.reduceSub, forall_const, implies_true, false_implies, not_true_eq_false, true_implies, hk, hp, he, hk2, hp2, he2, h0, sm_jn_hi, sm_jn_na, e6, h1, h2]
        exact ih2
set_option maxHeartbeats 4000000 in
set_option maxRecDepth 100000 in
theorem sm_join {G : jx_G} {n ms : Nat} {K : Nat → Nat × Nat} {I : Nat → Nat → Int32} {P : Nat → Nat → Option Nat} {a e : Nat} (hk : K a = (8, 1)) (hp : P a 0 = some e) (he : K e = (11, 6)) {b g : Nat} (hk2 : K b = (8, 1)) (hp2 : P b 0 = some g) (he2 : K g = (11, 6)) (h0 : e ≠ 0) (hge : g ≠ e) : jx_C G yX7_join cX7_join 3 none 0 [.inr (some a), .inr (some b)] (n, ms, K, I, P) (jx_E none (n, ms, K, sm_jn I e g 6, P)) := by
  refine jx_C_of (by decide) (Nat.le_of_ble_eq_true rfl) ?_
  simp only [List.map_cons, List.map_nil, List.length_cons, List.length_nil, Nat.reduceAdd, Nat.reduceSub, List.replicate_zero, List.append_nil, List.replicate_succ, List.cons_append, List.nil_append]
  refine jx_gq flok_X7 (fwok_X7 rfl) 2 2 _ _ _ _ ?_
  simp (disch := omega) only [↓reduceIte, jx_wp, jx_stp, jx_f0, jx_f1, jx_f2, jx_f3, List.getElem?_cons_zero, List.getElem?_cons_succ, List.set_cons_zero, List.set_cons_succ, Nat.reduceAdd, true_and, and_true, if_true, if_false, Bool.false_eq_true, jx_s, Nat.reduceLT, dX7_join_0, dX7_join_1, dX7_join_2, dX7_join_3, dX7_join_5, dX7_join_8, dX7_join_9, dX7_join_12, dX7_join_13, dX7_join_14, dX7_join_15, dX7_join_18, dX7_join_19, dX7_join_22, dX7_join_23, dX7_join_24, dX7_join_27, dX7_join_28, dX7_join_31, dX7_join_32, dX7_join_33, dX7_join_36, dX7_join_37, dX7_join_38, dX7_join_39, dX7_join_42, dX7_join_45, jx_k0, jx_b6, tg_5_40, fl_X7_9, ft_8_0, jx_km1, tg_15_12, tg_24_15, jx_k1, tg_42_m40, jx_wq, jx_stq, jx_ite, jx_b0, jx_bn0, jx_u_eq, jx_u_na, jx_u_ni, jx_nb0, jx_nb1, jx_ni, jx_E, eq_self, jx_a0, jx_a1, ne_eq, not_false_eq_true, Nat.reduceLeDiff, Nat.reduceEqDiff, Nat.reduceLT, jx_subl, jx_al, jx_la, jx_nm, jx_ml, nI_add, jx_xn, jx_xl, jx_inn, jx_inl, jx_ltnn, jx_lenn, jx_eqnn, jx_ltnl, jx_lenl, jx_ltln, jx_leln, jx_eqnl, Int32.reduceAdd, Int32.reduceSub, Int32.reduceMul, Int32.reduceLT, Int32.reduceLE, jx_eqll, jx_ltll, Nat.reduceMul, Nat.reduceSub, forall_const, implies_true, false_implies, not_true_eq_false, true_implies]
  exact jx_J.at (sm_join_l hk hp he hk2 hp2 he2 h0 hge ⟨rfl, rfl⟩ 6 0 (by omega)) rfl rfl rfl (by rw [sm_jn_0])
def sm_gk (f : Nat → Int32) : Nat → Nat
  | 0 => 0
  | k + 1 => if f k = 0 then sm_gk f k else k
theorem sm_gk_le (f : Nat → Int32) : ∀ k, sm_gk f (k + 1) ≤ k
  | 0 => by unfold sm_gk; split <;> simp [sm_gk]
  | k + 1 => by
    unfold sm_gk
    split
    · have := sm_gk_le f k
      omega
    · exact Nat.le_refl _
theorem sm_gk_is {f : Nat → Int32} {g : Nat} (hg : f g ≠ 0) : ∀ k, g < k → (∀ j, g < j → j < k → f j = 0) → sm_gk f k = g
  | 0, h, _ => absurd h (by omega)
  | k + 1, h, hj => by
    unfold sm_gk
    by_cases e : k = g
    · subst e
      rw [if_neg hg]
    · rw [if_pos (hj k (by omega) (by omega))]
      exact sm_gk_is hg k (by omega) (fun j a b => hj j a (by omega))
set_option maxHeartbeats 4000000 in
set_option maxRecDepth 100000 in
theorem sm_great_l {G : jx_G} {n ms : Nat} {K : Nat → Nat × Nat} {I : Nat → Nat → Int32} {P : Nat → Nat → Option Nat} {Q : Option jx_V → jx_M → Prop} {a e : Nat} (hk : K a = (8, 1)) (hp : P a 0 = some e) (he : K e = (11, 6)) (kk : Q (some (.inl (nI (sm_gk (I e) 6)))) (n, ms, K, I, P)) : ∀ f k, k + f = 6 → jx_J G yX7_greatestKnown cX7_greatestKnown 3 (some FieldType.int) 0 (Q) 4 [some (.inr (some a)), some (.inl (nI (sm_gk (I e) k))), some (.inl (nI k))] [] (n, ms, K, I, P) := by
  intro f
  induction f with
  | zero =>
    intro k hk2
    have e0 : k = 6 := by omega
    subst e0
    refine jx_gq flok_X7 (fwok_X7 rfl) 99999 6 _ _ _ _ ?_
    simp (disch := omega) only [↓reduceIte, jx_wp, jx_stp, jx_f0, jx_f1, jx_f2, jx_f3, List.getElem?_cons_zero, List.getElem?_cons_succ, List.set_cons_zero, List.set_cons_succ, Nat.reduceAdd, true_and, and_true, if_true, if_false, Bool.false_eq_true, jx_s, Nat.reduceLT, dX7_greatestKnown_0, dX7_greatestKnown_1, dX7_greatestKnown_2, dX7_greatestKnown_3, dX7_greatestKnown_4, dX7_greatestKnown_5, dX7_greatestKnown_7, dX7_greatestKnown_10, dX7_greatestKnown_11, dX7_greatestKnown_14, dX7_greatestKnown_15, dX7_greatestKnown_16, dX7_greatestKnown_19, dX7_greatestKnown_20, dX7_greatestKnown_21, dX7_greatestKnown_24, dX7_greatestKnown_27, dX7_greatestKnown_28, jx_k0, jx_b6, tg_7_20, fl_X7_9, ft_8_0, tg_16_5, jx_k1, tg_24_m20, jx_wq, jx_stq, jx_ite, jx_b0, jx_bn0, jx_u_eq, jx_u_na, jx_u_ni, jx_nb0, jx_nb1, jx_ni, jx_E, eq_self, jx_a0, jx_a1, ne_eq, not_false_eq_true, Nat.reduceLeDiff, Nat.reduceEqDiff, Nat.reduceLT, jx_subl, jx_al, jx_la, jx_nm, jx_ml, nI_add, jx_xn, jx_xl, jx_inn, jx_inl, jx_ltnn, jx_lenn, jx_eqnn, jx_ltnl, jx_lenl, jx_ltln, jx_leln, jx_eqnl, Int32.reduceAdd, Int32.reduceSub, Int32.reduceMul, Int32.reduceLT, Int32.reduceLE, jx_eqll, jx_ltll, Nat.reduceMul, Nat.reduceSub, forall_const, implies_true, false_implies, not_true_eq_false, true_implies, Nat.le_refl]
    exact kk
  | succ f ih =>
    intro k hk3
    have e6 : ¬ 6 ≤ k := by omega
    have ih2 := ih (k + 1) (by omega)
    unfold sm_gk at ih2
    refine jx_gq flok_X7 (fwok_X7 rfl) 4 14 _ _ _ _ ?_
    simp (disch := omega) only [↓reduceIte, jx_wp, jx_stp, jx_f0, jx_f1, jx_f2, jx_f3, List.getElem?_cons_zero, List.getElem?_cons_succ, List.set_cons_zero, List.set_cons_succ, Nat.reduceAdd, true_and, and_true, if_true, if_false, Bool.false_eq_true, jx_s, Nat.reduceLT, dX7_greatestKnown_0, dX7_greatestKnown_1, dX7_greatestKnown_2, dX7_greatestKnown_3, dX7_greatestKnown_4, dX7_greatestKnown_5, dX7_greatestKnown_7, dX7_greatestKnown_10, dX7_greatestKnown_11, dX7_greatestKnown_14, dX7_greatestKnown_15, dX7_greatestKnown_16, dX7_greatestKnown_19, dX7_greatestKnown_20, dX7_greatestKnown_21, dX7_greatestKnown_24, dX7_greatestKnown_27, dX7_greatestKnown_28, jx_k0, jx_b6, tg_7_20, fl_X7_9, ft_8_0, tg_16_5, jx_k1, tg_24_m20, jx_wq, jx_stq, jx_ite, jx_b0, jx_bn0, jx_u_eq, jx_u_na, jx_u_ni, jx_nb0, jx_nb1, jx_ni, jx_E, eq_self, jx_a0, jx_a1, ne_eq, not_false_eq_true, Nat.reduceLeDiff, Nat.reduceEqDiff, Nat.reduceLT, jx_subl, jx_al, jx_la, jx_nm, jx_ml, nI_add, jx_xn, jx_xl, jx_inn, jx_inl, jx_ltnn, jx_lenn, jx_eqnn, jx_ltnl, jx_lenl, jx_ltln, jx_leln, jx_eqnl, Int32.reduceAdd, Int32.reduceSub, Int32.reduceMul, Int32.reduceLT, Int32.reduceLE, jx_eqll, jx_ltll, Nat.reduceMul, Nat.reduceSub, forall_const, implies_true, false_implies, not_true_eq_false, true_implies, hk, hp, he, e6]
    by_cases h : I e k = 0
    · rw [if_pos h] at ih2 ⊢
      exact ih2
    · rw [if_neg h] at ih2 ⊢
      exact ih2
set_option maxHeartbeats 4000000 in
set_option maxRecDepth 100000 in
theorem sm_great {G : jx_G} {n ms : Nat} {K : Nat → Nat × Nat} {I : Nat → Nat → Int32} {P : Nat → Nat → Option Nat} {a e : Nat} (hk : K a = (8, 1)) (hp : P a 0 = some e) (he : K e = (11, 6)) : jx_C G yX7_greatestKnown cX7_greatestKnown 3 (some FieldType.int) 0 [.inr (some a)] (n, ms, K, I, P) (jx_E (some (.inl (nI (sm_gk (I e) 6)))) (n, ms, K, I, P)) := by
  refine jx_C_of (by decide) (Nat.le_of_ble_eq_true rfl) ?_
  simp only [List.map_cons, List.map_nil, List.length_cons, List.length_nil, Nat.reduceAdd, Nat.reduceSub, List.replicate_zero, List.append_nil, List.replicate_succ, List.cons_append, List.nil_append]
  refine jx_gq flok_X7 (fwok_X7 rfl) 4 4 _ _ _ _ ?_
  simp (disch := omega) only [↓reduceIte, jx_wp, jx_stp, jx_f0, jx_f1, jx_f2, jx_f3, List.getElem?_cons_zero, List.getElem?_cons_succ, List.set_cons_zero, List.set_cons_succ, Nat.reduceAdd, true_and, and_true, if_true, if_false, Bool.false_eq_true, jx_s, Nat.reduceLT, dX7_greatestKnown_0, dX7_greatestKnown_1, dX7_greatestKnown_2, dX7_greatestKnown_3, dX7_greatestKnown_4, dX7_greatestKnown_5, dX7_greatestKnown_7, dX7_greatestKnown_10, dX7_greatestKnown_11, dX7_greatestKnown_14, dX7_greatestKnown_15, dX7_greatestKnown_16, dX7_greatestKnown_19, dX7_greatestKnown_20, dX7_greatestKnown_21, dX7_greatestKnown_24, dX7_greatestKnown_27, dX7_greatestKnown_28, jx_k0, jx_b6, tg_7_20, fl_X7_9, ft_8_0, tg_16_5, jx_k1, tg_24_m20, jx_wq, jx_stq, jx_ite, jx_b0, jx_bn0, jx_u_eq, jx_u_na, jx_u_ni, jx_nb0, jx_nb1, jx_ni, jx_E, eq_self, jx_a0, jx_a1, ne_eq, not_false_eq_true, Nat.reduceLeDiff, Nat.reduceEqDiff, Nat.reduceLT, jx_subl, jx_al, jx_la, jx_nm, jx_ml, nI_add, jx_xn, jx_xl, jx_inn, jx_inl, jx_ltnn, jx_lenn, jx_eqnn, jx_ltnl, jx_lenl, jx_ltln, jx_leln, jx_eqnl, Int32.reduceAdd, Int32.reduceSub, Int32.reduceMul, Int32.reduceLT, Int32.reduceLE, jx_eqll, jx_ltll, Nat.reduceMul, Nat.reduceSub, forall_const, implies_true, false_implies, not_true_eq_false, true_implies]
  exact sm_great_l hk hp he ⟨rfl, rfl⟩ 6 0 (by omega)
set_option maxHeartbeats 4000000 in
set_option maxRecDepth 100000 in
theorem sm_least_l {G : jx_G} {n ms : Nat} {K : Nat → Nat × Nat} {I : Nat → Nat → Int32} {P : Nat → Nat → Option Nat} {Q : Option jx_V → jx_M → Prop} {a e : Nat} (hk : K a = (8, 1)) (hp : P a 0 = some e) (he : K e = (11, 6)) {g : Nat} (hg : g < 6) (hv : ¬ I e g ≤ 0) (hb : ∀ j, j < g → I e j ≤ 0) (kk : Q (some (.inl (nI g))) (n, ms, K, I, P)) : ∀ f k, k + f = g → jx_J G yX7_leastActive cX7_leastActive 2 (some FieldType.int) 1 (Q) 2 [some (.inr (some a)), some (.inl (nI k))] [] (n, ms, K, I, P) := by
  intro f
  induction f with
  | zero =>
    intro k hk2
    have e0 : k = g := by omega
    subst e0
    have e6 : ¬ 6 ≤ k := by omega
    refine jx_gq flok_X7 (fwok_X7 rfl) 2 7 _ _ _ _ ?_
    simp (disch := omega) only [↓reduceIte, jx_wp, jx_stp, jx_f0, jx_f1, jx_f2, jx_f3, List.getElem?_cons_zero, List.getElem?_cons_succ, List.set_cons_zero, List.set_cons_succ, Nat.reduceAdd, true_and, and_true, if_true, if_false, Bool.false_eq_true, jx_s, Nat.reduceLT, dX7_leastActive_0, dX7_leastActive_1, dX7_leastActive_2, dX7_leastActive_3, dX7_leastActive_5, dX7_leastActive_8, dX7_leastActive_9, dX7_leastActive_12, dX7_leastActive_13, dX7_leastActive_14, dX7_leastActive_17, dX7_leastActive_20, dX7_leastActive_21, dX7_leastActive_22, dX7_leastActive_25, dX7_leastActive_28, dX7_leastActive_29, jx_k0, jx_b6, tg_5_23, fl_X7_9, ft_8_0, tg_17_5, jx_k1, tg_25_m23, jx_km1, jx_wq, jx_stq, jx_ite, jx_b0, jx_bn0, jx_u_eq, jx_u_na, jx_u_ni, jx_nb0, jx_nb1, jx_ni, jx_E, eq_self, jx_a0, jx_a1, ne_eq, not_false_eq_true, Nat.reduceLeDiff, Nat.reduceEqDiff, Nat.reduceLT, jx_subl, jx_al, jx_la, jx_nm, jx_ml, nI_add, jx_xn, jx_xl, jx_inn, jx_inl, jx_ltnn, jx_lenn, jx_eqnn, jx_ltnl, jx_lenl, jx_ltln, jx_leln, jx_eqnl, Int32.reduceAdd, Int32.reduceSub, Int32.reduceMul, Int32.reduceLT, Int32.reduceLE, jx_eqll, jx_ltll, Nat.reduceMul, Nat.reduceSub, forall_const, implies_true, false_implies, not_true_eq_false, true_implies, hk, hp, he, e6]
    refine jx_cS1 dX7_leastActive_14 li_X7_27 (cl_isSet) (Nat.le_of_ble_eq_true rfl) (Nat.le_of_ble_eq_true rfl) ?_
    rintro _ _ ⟨rfl, rfl⟩ - -
    simp only [Option.toList_some, Option.toList_none, List.cons_append, List.nil_append]
    refine jx_gq flok_X7 (fwok_X7 rfl) 2 6 _ _ _ _ ?_
    simp (disch := omega) only [↓reduceIte, jx_wp, jx_stp, jx_f0, jx_f1, jx_f2, jx_f3, List.getElem?_cons_zero, List.getElem?_cons_succ, List.set_cons_zero, List.set_cons_succ, Nat.reduceAdd, true_and, and_true, if_true, if_false, Bool.false_eq_true, jx_s, Nat.reduceLT, dX7_leastActive_0, dX7_leastActive_1, dX7_leastActive_2, dX7_leastActive_3, dX7_leastActive_5, dX7_leastActive_8, dX7_leastActive_9, dX7_leastActive_12, dX7_leastActive_13, dX7_leastActive_14, dX7_leastActive_17, dX7_leastActive_20, dX7_leastActive_21, dX7_leastActive_22, dX7_leastActive_25, dX7_leastActive_28, dX7_leastActive_29, jx_k0, jx_b6, tg_5_23, fl_X7_9, ft_8_0, tg_17_5, jx_k1, tg_25_m23, jx_km1, jx_wq, jx_stq, jx_ite, jx_b0, jx_bn0, jx_u_eq, jx_u_na, jx_u_ni, jx_nb0, jx_nb1, jx_ni, jx_E, eq_self, jx_a0, jx_a1, ne_eq, not_false_eq_true, Nat.reduceLeDiff, Nat.reduceEqDiff, Nat.reduceLT, jx_subl, jx_al, jx_la, jx_nm, jx_ml, nI_add, jx_xn, jx_xl, jx_inn, jx_inl, jx_ltnn, jx_lenn, jx_eqnn, jx_ltnl, jx_lenl, jx_ltln, jx_leln, jx_eqnl, Int32.reduceAdd, Int32.reduceSub, Int32.reduceMul, Int32.reduceLT, Int32.reduceLE, jx_eqll, jx_ltll, Nat.reduceMul, Nat.reduceSub, forall_const, implies_true, false_implies, not_true_eq_false, true_implies, hv]
    exact kk
  | succ f ih =>
    intro k hk3
    have hv2 := hb k (by omega)
    have e6 : ¬ 6 ≤ k := by omega
    refine jx_gq flok_X7 (fwok_X7 rfl) 2 7 _ _ _ _ ?_
    simp (disch := omega) only [↓reduceIte, jx_wp, jx_stp, jx_f0, jx_f1, jx_f2, jx_f3, List.getElem?_cons_zero, List.getElem?_cons_succ, List.set_cons_zero, List.set_cons_succ, Nat.reduceAdd, true_and, and_true, if_true, if_false, Bool.false_eq_true, jx_s, Nat.reduceLT, dX7_leastActive_0, dX7_leastActive_1, dX7_leastActive_2, dX7_leastActive_3, dX7_leastActive_5, dX7_leastActive_8, dX7_leastActive_9, dX7_leastActive_12, dX7_leastActive_13, dX7_leastActive_14, dX7_leastActive_17, dX7_leastActive_20, dX7_leastActive_21, dX7_leastActive_22, dX7_leastActive_25, dX7_leastActive_28, dX7_leastActive_29, jx_k0, jx_b6, tg_5_23, fl_X7_9, ft_8_0, tg_17_5, jx_k1, tg_25_m23, jx_km1, jx_wq, jx_stq, jx_ite, jx_b0, jx_bn0, jx_u_eq, jx_u_na, jx_u_ni, jx_nb0, jx_nb1, jx_ni, jx_E, eq_self, jx_a0, jx_a1, ne_eq, not_false_eq_true, Nat.reduceLeDiff, Nat.reduceEqDiff, Nat.reduceLT, jx_subl, jx_al, jx_la, jx_nm, jx_ml, nI_add, jx_xn, jx_xl, jx_inn, jx_inl, jx_ltnn, jx_lenn, jx_eqnn, jx_ltnl, jx_lenl, jx_ltln, jx_leln, jx_eqnl, Int32.reduceAdd, Int32.reduceSub, Int32.reduceMul, Int32.reduceLT, Int32.reduceLE, jx_eqll, jx_ltll, Nat.reduceMul, Nat.reduceSub, forall_const, implies_true, false_implies, not_true_eq_false, true_implies, hk, hp, he, e6]
    refine jx_cS1 dX7_leastActive_14 li_X7_27 (cl_isSet) (Nat.le_of_ble_eq_true rfl) (Nat.le_of_ble_eq_true rfl) ?_
    rintro _ _ ⟨rfl, rfl⟩ - -
    simp only [Option.toList_some, Option.toList_none, List.cons_append, List.nil_append]
    refine jx_gq flok_X7 (fwok_X7 rfl) 2 6 _ _ _ _ ?_
    simp (disch := omega) only [↓reduceIte, jx_wp, jx_stp, jx_f0, jx_f1, jx_f2, jx_f3, List.getElem?_cons_zero, List.getElem?_cons_succ, List.set_cons_zero, List.set_cons_succ, Nat.reduceAdd, true_and, and_true, if_true, if_false, Bool.false_eq_true, jx_s, Nat.reduceLT, dX7_leastActive_0, dX7_leastActive_1, dX7_leastActive_2, dX7_leastActive_3, dX7_leastActive_5, dX7_leastActive_8, dX7_leastActive_9, dX7_leastActive_12, dX7_leastActive_13, dX7_leastActive_14, dX7_leastActive_17, dX7_leastActive_20, dX7_leastActive_21, dX7_leastActive_22, dX7_leastActive_25, dX7_leastActive_28, dX7_leastActive_29, jx_k0, jx_b6, tg_5_23, fl_X7_9, ft_8_0, tg_17_5, jx_k1, tg_25_m23, jx_km1, jx_wq, jx_stq, jx_ite, jx_b0, jx_bn0, jx_u_eq, jx_u_na, jx_u_ni, jx_nb0, jx_nb1, jx_ni, jx_E, eq_self, jx_a0, jx_a1, ne_eq, not_false_eq_true, Nat.reduceLeDiff, Nat.reduceEqDiff, Nat.reduceLT, jx_subl, jx_al, jx_la, jx_nm, jx_ml, nI_add, jx_xn, jx_xl, jx_inn, jx_inl, jx_ltnn, jx_lenn, jx_eqnn, jx_ltnl, jx_lenl, jx_ltln, jx_leln, jx_eqnl, Int32.reduceAdd, Int32.reduceSub, Int32.reduceMul, Int32.reduceLT, Int32.reduceLE, jx_eqll, jx_ltll, Nat.reduceMul, Nat.reduceSub, forall_const, implies_true, false_implies, not_true_eq_false, true_implies, hv2]
    exact ih (k + 1) (by omega)
set_option maxHeartbeats 4000000 in
set_option maxRecDepth 100000 in
theorem sm_leastN_l {G : jx_G} {n ms : Nat} {K : Nat → Nat × Nat} {I : Nat → Nat → Int32} {P : Nat → Nat → Option Nat} {Q : Option jx_V → jx_M → Prop} {a e : Nat} (hk : K a = (8, 1)) (hp : P a 0 = some e) (he : K e = (11, 6)) (hb : ∀ j, j < 6 → I e j ≤ 0) (kk : Q (some (.inl (-1))) (n, ms, K, I, P)) : ∀ f k, k + f = 6 → jx_J G yX7_leastActive cX7_leastActive 2 (some FieldType.int) 1 (Q) 2 [some (.inr (some a)), some (.inl (nI k))] [] (n, ms, K, I, P) := by
  intro f
  induction f with
  | zero =>
    intro k hk2
    have e0 : k = 6 := by omega
    subst e0
    refine jx_gq flok_X7 (fwok_X7 rfl) 99999 6 _ _ _ _ ?_
    simp (disch := omega) only [↓reduceIte, jx_wp, jx_stp, jx_f0, jx_f1, jx_f2, jx_f3, List.getElem?_cons_zero, List.getElem?_cons_succ, List.set_cons_zero, List.set_cons_succ, Nat.reduceAdd, true_and, and_true, if_true, if_false, Bool.false_eq_true, jx_s, Nat.reduceLT, dX7_leastActive_0, dX7_leastActive_1, dX7_leastActive_2, dX7_leastActive_3, dX7_leastActive_5, dX7_leastActive_8, dX7_leastActive_9, dX7_leastActive_12, dX7_leastActive_13, dX7_leastActive_14, dX7_leastActive_17, dX7_leastActive_20, dX7_leastActive_21, dX7_leastActive_22, dX7_leastActive_25, dX7_leastActive_28, dX7_leastActive_29, jx_k0, jx_b6, tg_5_23, fl_X7_9, ft_8_0, tg_17_5, jx_k1, tg_25_m23, jx_km1, jx_wq, jx_stq, jx_ite, jx_b0, jx_bn0, jx_u_eq, jx_u_na, jx_u_ni, jx_nb0, jx_nb1, jx_ni, jx_E, eq_self, jx_a0, jx_a1, ne_eq, not_false_eq_true, Nat.reduceLeDiff, Nat.reduceEqDiff, Nat.reduceLT, jx_subl, jx_al, jx_la, jx_nm, jx_ml, nI_add, jx_xn, jx_xl, jx_inn, jx_inl, jx_ltnn, jx_lenn, jx_eqnn, jx_ltnl, jx_lenl, jx_ltln, jx_leln, jx_eqnl, Int32.reduceAdd, Int32.reduceSub, Int32.reduceMul, Int32.reduceLT, Int32.reduceLE, jx_eqll, jx_ltll, Nat.reduceMul, Nat.reduceSub, forall_const, implies_true, false_implies, not_true_eq_false, true_implies, Nat.le_refl]
    exact kk
  | succ f ih =>
    intro k hk3
    have hv2 := hb k (by omega)
    have e6 : ¬ 6 ≤ k := by omega
    refine jx_gq flok_X7 (fwok_X7 rfl) 2 7 _ _ _ _ ?_
    simp (disch := omega) only [↓reduceIte, jx_wp, jx_stp, jx_f0, jx_f1, jx_f2, jx_f3, List.getElem?_cons_zero, List.getElem?_cons_succ, List.set_cons_zero, List.set_cons_succ, Nat.reduceAdd, true_and, and_true, if_true, if_false, Bool.false_eq_true, jx_s, Nat.reduceLT, dX7_leastActive_0, dX7_leastActive_1, dX7_leastActive_2, dX7_leastActive_3, dX7_leastActive_5, dX7_leastActive_8, dX7_leastActive_9, dX7_leastActive_12, dX7_leastActive_13, dX7_leastActive_14, dX7_leastActive_17, dX7_leastActive_20, dX7_leastActive_21, dX7_leastActive_22, dX7_leastActive_25, dX7_leastActive_28, dX7_leastActive_29, jx_k0, jx_b6, tg_5_23, fl_X7_9, ft_8_0, tg_17_5, jx_k1, tg_25_m23, jx_km1, jx_wq, jx_stq, jx_ite, jx_b0, jx_bn0, jx_u_eq, jx_u_na, jx_u_ni, jx_nb0, jx_nb1, jx_ni, jx_E, eq_self, jx_a0, jx_a1, ne_eq, not_false_eq_true, Nat.reduceLeDiff, Nat.reduceEqDiff, Nat.reduceLT, jx_subl, jx_al, jx_la, jx_nm, jx_ml, nI_add, jx_xn, jx_xl, jx_inn, jx_inl, jx_ltnn, jx_lenn, jx_eqnn, jx_ltnl, jx_lenl, jx_ltln, jx_leln, jx_eqnl, Int32.reduceAdd, Int32.reduceSub, Int32.reduceMul, Int32.reduceLT, Int32.reduceLE, jx_eqll, jx_ltll, Nat.reduceMul, Nat.reduceSub, forall_const, implies_true, false_implies, not_true_eq_false, true_implies, hk, hp, he, e6]
    refine jx_cS1 dX7_leastActive_14 li_X7_27 (cl_isSet) (Nat.le_of_ble_eq_true rfl) (Nat.le_of_ble_eq_true rfl) ?_
    rintro _ _ ⟨rfl, rfl⟩ - -
    simp only [Option.toList_some, Option.toList_none, List.cons_append, List.nil_append]
    refine jx_gq flok_X7 (fwok_X7 rfl) 2 6 _ _ _ _ ?_
    simp (disch := omega) only [↓reduceIte, jx_wp, jx_stp, jx_f0, jx_f1, jx_f2, jx_f3, List.getElem?_cons_zero, List.getElem?_cons_succ, List.set_cons_zero, List.set_cons_succ, Nat.reduceAdd, true_and, and_true, if_true, if_false, Bool.false_eq_true, jx_s, Nat.reduceLT, dX7_leastActive_0, dX7_leastActive_1, dX7_leastActive_2, dX7_leastActive_3, dX7_leastActive_5, dX7_leastActive_8, dX7_leastActive_9, dX7_leastActive_12, dX7_leastActive_13, dX7_leastActive_14, dX7_leastActive_17, dX7_leastActive_20, dX7_leastActive_21, dX7_leastActive_22, dX7_leastActive_25, dX7_leastActive_28, dX7_leastActive_29, jx_k0, jx_b6, tg_5_23, fl_X7_9, ft_8_0, tg_17_5, jx_k1, tg_25_m23, jx_km1, jx_wq, jx_stq, jx_ite, jx_b0, jx_bn0, jx_u_eq, jx_u_na, jx_u_ni, jx_nb0, jx_nb1, jx_ni, jx_E, eq_self, jx_a0, jx_a1, ne_eq, not_false_eq_true, Nat.reduceLeDiff, Nat.reduceEqDiff, Nat.reduceLT, jx_subl, jx_al, jx_la, jx_nm, jx_ml, nI_add, jx_xn, jx_xl, jx_inn, jx_inl, jx_ltnn, jx_lenn, jx_eqnn, jx_ltnl, jx_lenl, jx_ltln, jx_leln, jx_eqnl, Int32.reduceAdd, Int32.reduceSub, Int32.reduceMul, Int32.reduceLT, Int32.reduceLE, jx_eqll, jx_ltll, Nat.reduceMul, Nat.reduceSub, forall_const, implies_true, false_implies, not_true_eq_false, true_implies, hv2]
    exact ih (k + 1) (by omega)
set_option maxHeartbeats 4000000 in
set_option maxRecDepth 100000 in
theorem sm_least {G : jx_G} {n ms : Nat} {K : Nat → Nat × Nat} {I : Nat → Nat → Int32} {P : Nat → Nat → Option Nat} {a e : Nat} (hk : K a = (8, 1)) (hp : P a 0 = some e) (he : K e = (11, 6)) {g : Nat} (hg : g < 6) (hv : ¬ I e g ≤ 0) (hb : ∀ j, j < g → I e j ≤ 0) : jx_C G yX7_leastActive cX7_leastActive 2 (some FieldType.int) 1 [.inr (some a)] (n, ms, K, I, P) (jx_E (some (.inl (nI g))) (n, ms, K, I, P)) := by
  refine jx_C_of (by decide) (Nat.le_of_ble_eq_true rfl) ?_
  simp only [List.map_cons, List.map_nil, List.length_cons, List.length_nil, Nat.reduceAdd, Nat.reduceSub, List.replicate_zero, List.append_nil, List.replicate_succ, List.cons_append, List.nil_append]
  refine jx_gq flok_X7 (fwok_X7 rfl) 2 2 _ _ _ _ ?_
  simp (disch := omega) only [↓reduceIte, jx_wp, jx_stp, jx_f0, jx_f1, jx_f2, jx_f3, List.getElem?_cons_zero, List.getElem?_cons_succ, List.set_cons_zero, List.set_cons_succ, Nat.reduceAdd, true_and, and_true, if_true, if_false, Bool.false_eq_true, jx_s, Nat.reduceLT, dX7_leastActive_0, dX7_leastActive_1, dX7_leastActive_2, dX7_leastActive_3, dX7_leastActive_5, dX7_leastActive_8, dX7_leastActive_9, dX7_leastActive_12, dX7_leastActive_13, dX7_leastActive_14, dX7_leastActive_17, dX7_leastActive_20, dX7_leastActive_21, dX7_leastActive_22, dX7_leastActive_25, dX7_leastActive_28, dX7_leastActive_29, jx_k0, jx_b6, tg_5_23, fl_X7_9, ft_8_0, tg_17_5, jx_k1, tg_25_m23, jx_km1, jx_wq, jx_stq, jx_ite, jx_b0, jx_bn0, jx_u_eq, jx_u_na, jx_u_ni, jx_nb0, jx_nb1, jx_ni, jx_E, eq_self, jx_a0, jx_a1, ne_eq, not_false_eq_true, Nat.reduceLeDiff, Nat.reduceEqDiff, Nat.reduceLT, jx_subl, jx_al, jx_la, jx_nm, jx_ml, nI_add, jx_xn, jx_xl, jx_inn, jx_inl, jx_ltnn, jx_lenn, jx_eqnn, jx_ltnl, jx_lenl, jx_ltln, jx_leln, jx_eqnl, Int32.reduceAdd, Int32.reduceSub, Int32.reduceMul, Int32.reduceLT, Int32.reduceLE, jx_eqll, jx_ltll, Nat.reduceMul, Nat.reduceSub, forall_const, implies_true, false_implies, not_true_eq_false, true_implies]
  exact sm_least_l hk hp he hg hv hb ⟨rfl, rfl⟩ g 0 (by omega)
set_option maxHeartbeats 4000000 in
set_option maxRecDepth 100000 in
theorem sm_leastN {G : jx_G} {n ms : Nat} {K : Nat → Nat × Nat} {I : Nat → Nat → Int32} {P : Nat → Nat → Option Nat} {a e : Nat} (hk : K a = (8, 1)) (hp : P a 0 = some e) (he : K e = (11, 6)) (hb : ∀ j, j < 6 → I e j ≤ 0) : jx_C G yX7_leastActive cX7_leastActive 2 (some FieldType.int) 1 [.inr (some a)] (n, ms, K, I, P) (jx_E (some (.inl (-1))) (n, ms, K, I, P)) := by
  refine jx_C_of (by decide) (Nat.le_of_ble_eq_true rfl) ?_
  simp only [List.map_cons, List.map_nil, List.length_cons, List.length_nil, Nat.reduceAdd, Nat.reduceSub, List.replicate_zero, List.append_nil, List.replicate_succ, List.cons_append, List.nil_append]
  refine jx_gq flok_X7 (fwok_X7 rfl) 2 2 _ _ _ _ ?_
  simp (disch := omega) only [↓reduceIte, jx_wp, jx_stp, jx_f0, jx_f1, jx_f2, jx_f3, List.getElem?_cons_zero, List.getElem?_cons_succ, List.set_cons_zero, List.set_cons_succ, Nat.reduceAdd, true_and, and_true, if_true, if_false, Bool.false_eq_true, jx_s, Nat.reduceLT, dX7_leastActive_0, dX7_leastActive_1, dX7_leastActive_2, dX7_leastActive_3, dX7_leastActive_5, dX7_leastActive_8, dX7_leastActive_9, dX7_leastActive_12, dX7_leastActive_13, dX7_leastActive_14, dX7_leastActive_17, dX7_leastActive_20, dX7_leastActive_21, dX7_leastActive_22, dX7_leastActive_25, dX7_leastActive_28, dX7_leastActive_29, jx_k0, jx_b6, tg_5_23, fl_X7_9, ft_8_0, tg_17_5, jx_k1, tg_25_m23, jx_km1, jx_wq, jx_stq, jx_ite, jx_b0, jx_bn0, jx_u_eq, jx_u_na, jx_u_ni, jx_nb0, jx_nb1, jx_ni, jx_E, eq_self, jx_a0, jx_a1, ne_eq, not_false_eq_true, Nat.reduceLeDiff, Nat.reduceEqDiff, Nat.reduceLT, jx_subl, jx_al, jx_la, jx_nm, jx_ml, nI_add, jx_xn, jx_xl, jx_inn, jx_inl, jx_ltnn, jx_lenn, jx_eqnn, jx_ltnl, jx_lenl, jx_ltln, jx_leln, jx_eqnl, Int32.reduceAdd, Int32.reduceSub, Int32.reduceMul, Int32.reduceLT, Int32.reduceLE, jx_eqll, jx_ltll, Nat.reduceMul, Nat.reduceSub, forall_const, implies_true, false_implies, not_true_eq_false, true_implies]
  exact sm_leastN_l hk hp he hb ⟨rfl, rfl⟩ 6 0 (by omega)
def sm_al (f : Nat → Int32) : Nat → Int32
  | 0 => 0
  | k + 1 => if f k ≤ 0 then sm_al f k else sm_al f k ||| f k
set_option maxHeartbeats 4000000 in
set_option maxRecDepth 100000 in
theorem sm_act_l {G : jx_G} {n ms : Nat} {K : Nat → Nat × Nat} {I : Nat → Nat → Int32} {P : Nat → Nat → Option Nat} {Q : Option jx_V → jx_M → Prop} {a e : Nat} (hk : K a = (8, 1)) (hp : P a 0 = some e) (he : K e = (11, 6)) (kk : Q (some (.inl (sm_al (I e) 6))) (n, ms, K, I, P)) : ∀ f k, k + f = 6 → ∀ x5, jx_J G yX7_activeServers cX7_activeServers 6 (some FieldType.int) 1 (Q) 13 [some (.inr (some a)), some (.inl (sm_al (I e) k)), some (.inr (some e)), some (.inl (nI 6)), some (.inl (nI k)), x5] [] (n, ms, K, I, P) := by
  intro f
  induction f with
  | zero =>
    intro k hk2 x5
    have e0 : k = 6 := by omega
    subst e0
    refine jx_gq flok_X7 (fwok_X7 rfl) 99999 6 _ _ _ _ ?_
    simp (disch := omega) only [↓reduceIte, jx_wp, jx_stp, jx_f0, jx_f1, jx_f2, jx_f3, List.getElem?_cons_zero, List.getElem?_cons_succ, List.set_cons_zero, List.set_cons_succ, Nat.reduceAdd, true_and, and_true, if_true, if_false, Bool.false_eq_true, jx_s, Nat.reduceLT, dX7_activeServers_0, dX7_activeServers_1, dX7_activeServers_2, dX7_activeServers_3, dX7_activeServers_6, dX7_activeServers_7, dX7_activeServers_8, dX7_activeServers_9, dX7_activeServers_10, dX7_activeServers_11, dX7_activeServers_13, dX7_activeServers_15, dX7_activeServers_16, dX7_activeServers_19, dX7_activeServers_20, dX7_activeServers_22, dX7_activeServers_23, dX7_activeServers_25, dX7_activeServers_27, dX7_activeServers_30, dX7_activeServers_33, dX7_activeServers_34, dX7_activeServers_36, dX7_activeServers_37, dX7_activeServers_38, dX7_activeServers_41, dX7_activeServers_44, dX7_activeServers_45, jx_k0, fl_X7_9, ft_8_0, tg_16_28, tg_30_8, jx_k1, tg_41_m28, jx_wq, jx_stq, jx_ite, jx_b0, jx_bn0, jx_u_eq, jx_u_na, jx_u_ni, jx_nb0, jx_nb1, jx_ni, jx_E, eq_self, jx_a0, jx_a1, ne_eq, not_false_eq_true, Nat.reduceLeDiff, Nat.reduceEqDiff, Nat.reduceLT, jx_subl, jx_al, jx_la, jx_nm, jx_ml, nI_add, jx_xn, jx_xl, jx_inn, jx_inl, jx_ltnn, jx_lenn, jx_eqnn, jx_ltnl, jx_lenl, jx_ltln, jx_leln, jx_eqnl, Int32.reduceAdd, Int32.reduceSub, Int32.reduceMul, Int32.reduceLT, Int32.reduceLE, jx_eqll, jx_ltll, Nat.reduceMul, Nat.reduceSub, forall_const, implies_true, false_implies, not_true_eq_false, true_implies, Nat.le_refl]
    exact kk
  | succ f ih =>
    intro k hk3 x5
    have e6 : ¬ 6 ≤ k := by omega
    have ih2 := ih (k + 1) (by omega)
    unfold sm_al at ih2
    refine jx_gq flok_X7 (fwok_X7 rfl) 13 9 _ _ _ _ ?_
    simp (disch := omega) only [↓reduceIte, jx_wp, jx_stp, jx_f0, jx_f1, jx_f2, jx_f3, List.getElem?_cons_zero, List.getElem?_cons_succ, List.set_cons_zero, List.set_cons_succ, Nat.reduceAdd, true_and, and_true, if_true, if_false, Bool.false_eq_true, jx_s, Nat.reduceLT, dX7_activeServers_0, dX7_activeServers_1, dX7_activeServers_2, dX7_activeServers_3, dX7_activeServers_6, dX7_activeServers_7, dX7_activeServers_8, dX7_activeServers_9, dX7_activeServers_10, dX7_activeServers_11, dX7_activeServers_13, dX7_activeServers_15, dX7_activeServers_16, dX7_activeServers_19, dX7_activeServers_20, dX7_activeServers_22, dX7_activeServers_23, dX7_activeServers_25, dX7_activeServers_27, dX7_activeServers_30, dX7_activeServers_33, dX7_activeServers_34, dX7_activeServers_36, dX7_activeServers_37, dX7_activeServers_38, dX7_activeServers_41, dX7_activeServers_44, dX7_activeServers_45, jx_k0, fl_X7_9, ft_8_0, tg_16_28, tg_30_8, jx_k1, tg_41_m28, jx_wq, jx_stq, jx_ite, jx_b0, jx_bn0, jx_u_eq, jx_u_na, jx_u_ni, jx_nb0, jx_nb1, jx_ni, jx_E, eq_self, jx_a0, jx_a1, ne_eq, not_false_eq_true, Nat.reduceLeDiff, Nat.reduceEqDiff, Nat.reduceLT, jx_subl, jx_al, jx_la, jx_nm, jx_ml, nI_add, jx_xn, jx_xl, jx_inn, jx_inl, jx_ltnn, jx_lenn, jx_eqnn, jx_ltnl, jx_lenl, jx_ltln, jx_leln, jx_eqnl, Int32.reduceAdd, Int32.reduceSub, Int32.reduceMul, Int32.reduceLT, Int32.reduceLE, jx_eqll, jx_ltll, Nat.reduceMul, Nat.reduceSub, forall_const, implies_true, false_implies, not_true_eq_false, true_implies, hk, hp, he, e6]
    refine jx_cS1 dX7_activeServers_27 li_X7_27 (cl_isSet) (Nat.le_of_ble_eq_true rfl) (Nat.le_of_ble_eq_true rfl) ?_
    rintro _ _ ⟨rfl, rfl⟩ - -
    simp only [Option.toList_some, Option.toList_none, List.cons_append, List.nil_append]
    by_cases h : I e k ≤ 0
    · refine jx_gq flok_X7 (fwok_X7 rfl) 13 9 _ _ _ _ ?_
      simp (disch := omega) only [↓reduceIte, jx_wp, jx_stp, jx_f0, jx_f1, jx_f2, jx_f3, List.getElem?_cons_zero, List.getElem?_cons_succ, List.set_cons_zero, List.set_cons_succ, Nat.reduceAdd, true_and, and_true, if_true, if_false, Bool.false_eq_true, jx_s, Nat.reduceLT, dX7_activeServers_0, dX7_activeServers_1, dX7_activeServers_2, dX7_activeServers_3, dX7_activeServers_6, dX7_activeServers_7, dX7_activeServers_8, dX7_activeServers_9, dX7_activeServers_10, dX7_activeServers_11, dX7_activeServers_13, dX7_activeServers_15, dX7_activeServers_16, dX7_activeServers_19, dX7_activeServers_20, dX7_activeServers_22, dX7_activeServers_23, dX7_activeServers_25, dX7_activeServers_27, dX7_activeServers_30, dX7_activeServers_33, dX7_activeServers_34, dX7_activeServers_36, dX7_activeServers_37, dX7_activeServers_38, dX7_activeServers_41, dX7_activeServers_44, dX7_activeServers_45, jx_k0, fl_X7_9, ft_8_0, tg_16_28, tg_30_8, jx_k1, tg_41_m28, jx_wq, jx_stq, jx_ite, jx_b0, jx_bn0, jx_u_eq, jx_u_na, jx_u_ni, jx_nb0, jx_nb1, jx_ni, jx_E, eq_self, jx_a0, jx_a1, ne_eq, not_false_eq_true, Nat.reduceLeDiff, Nat.reduceEqDiff, Nat.reduceLT, jx_subl, jx_al, jx_la, jx_nm, jx_ml, nI_add, jx_xn, jx_xl, jx_inn, jx_inl, jx_ltnn, jx_lenn, jx_eqnn, jx_ltnl, jx_lenl, jx_ltln, jx_leln, jx_eqnl, Int32.reduceAdd, Int32.reduceSub, Int32.reduceMul, Int32.reduceLT, Int32.reduceLE, jx_eqll, jx_ltll, Nat.reduceMul, Nat.reduceSub, forall_const, implies_true, false_implies, not_true_eq_false, true_implies, hk, hp, he, h]
      simp only [h, if_true] at ih2
      exact ih2 _
    · refine jx_gq flok_X7 (fwok_X7 rfl) 13 9 _ _ _ _ ?_
      simp (disch := omega) only [↓reduceIte, jx_wp, jx_stp, jx_f0, jx_f1, jx_f2, jx_f3, List.getElem?_cons_zero, List.getElem?_cons_succ, List.set_cons_zero, List.set_cons_succ, Nat.reduceAdd, true_and, and_true, if_true, if_false, Bool.false_eq_true, jx_s, Nat.reduceLT, dX7_activeServers_0, dX7_activeServers_1, dX7_activeServers_2, dX7_activeServers_3, dX7_activeServers_6, dX7_activeServers_7, dX7_activeServers_8, dX7_activeServers_9, dX7_activeServers_10, dX7_activeServers_11, dX7_activeServers_13, dX7_activeServers_15, dX7_activeServers_16, dX7_activeServers_19, dX7_activeServers_20, dX7_activeServers_22, dX7_activeServers_23, dX7_activeServers_25, dX7_activeServers_27, dX7_activeServers_30, dX7_activeServers_33, dX7_activeServers_34, dX7_activeServers_36, dX7_activeServers_37, dX7_activeServers_38, dX7_activeServers_41, dX7_activeServers_44, dX7_activeServers_45, jx_k0, fl_X7_9, ft_8_0, tg_16_28, tg_30_8, jx_k1, tg_41_m28, jx_wq, jx_stq, jx_ite, jx_b0, jx_bn0, jx_u_eq, jx_u_na, jx_u_ni, jx_nb0, jx_nb1, jx_ni, jx_E, eq_self, jx_a0, jx_a1, ne_eq, not_false_eq_true, Nat.reduceLeDiff, Nat.reduceEqDiff, Nat.reduceLT, jx_subl, jx_al, jx_la, jx_nm, jx_ml, nI_add, jx_xn, jx_xl, jx_inn, jx_inl, jx_ltnn, jx_lenn, jx_eqnn, jx_ltnl, jx_lenl, jx_ltln, jx_leln, jx_eqnl, Int32.reduceAdd, Int32.reduceSub, Int32.reduceMul, Int32.reduceLT, Int32.reduceLE, jx_eqll, jx_ltll, Nat.reduceMul, Nat.reduceSub, forall_const, implies_true, false_implies, not_true_eq_false, true_implies, hk, hp, he, h]
      simp only [h, if_false] at ih2
      exact ih2 _
set_option maxHeartbeats 4000000 in
set_option maxRecDepth 100000 in
theorem sm_act {G : jx_G} {n ms : Nat} {K : Nat → Nat × Nat} {I : Nat → Nat → Int32} {P : Nat → Nat → Option Nat} {a e : Nat} (hk : K a = (8, 1)) (hp : P a 0 = some e) (he : K e = (11, 6)) : jx_C G yX7_activeServers cX7_activeServers 6 (some FieldType.int) 1 [.inr (some a)] (n, ms, K, I, P) (jx_E (some (.inl (sm_al (I e) 6))) (n, ms, K, I, P)) := by
  refine jx_C_of (by decide) (Nat.le_of_ble_eq_true rfl) ?_
  simp only [List.map_cons, List.map_nil, List.length_cons, List.length_nil, Nat.reduceAdd, Nat.reduceSub, List.replicate_zero, List.append_nil, List.replicate_succ, List.cons_append, List.nil_append]
  refine jx_gq flok_X7 (fwok_X7 rfl) 13 10 _ _ _ _ ?_
  simp (disch := omega) only [↓reduceIte, jx_wp, jx_stp, jx_f0, jx_f1, jx_f2, jx_f3, List.getElem?_cons_zero, List.getElem?_cons_succ, List.set_cons_zero, List.set_cons_succ, Nat.reduceAdd, true_and, and_true, if_true, if_false, Bool.false_eq_true, jx_s, Nat.reduceLT, dX7_activeServers_0, dX7_activeServers_1, dX7_activeServers_2, dX7_activeServers_3, dX7_activeServers_6, dX7_activeServers_7, dX7_activeServers_8, dX7_activeServers_9, dX7_activeServers_10, dX7_activeServers_11, dX7_activeServers_13, dX7_activeServers_15, dX7_activeServers_16, dX7_activeServers_19, dX7_activeServers_20, dX7_activeServers_22, dX7_activeServers_23, dX7_activeServers_25, dX7_activeServers_27, dX7_activeServers_30, dX7_activeServers_33, dX7_activeServers_34, dX7_activeServers_36, dX7_activeServers_37, dX7_activeServers_38, dX7_activeServers_41, dX7_activeServers_44, dX7_activeServers_45, jx_k0, fl_X7_9, ft_8_0, tg_16_28, tg_30_8, jx_k1, tg_41_m28, jx_wq, jx_stq, jx_ite, jx_b0, jx_bn0, jx_u_eq, jx_u_na, jx_u_ni, jx_nb0, jx_nb1, jx_ni, jx_E, eq_self, jx_a0, jx_a1, ne_eq, not_false_eq_true, Nat.reduceLeDiff, Nat.reduceEqDiff, Nat.reduceLT, jx_subl, jx_al, jx_la, jx_nm, jx_ml, nI_add, jx_xn, jx_xl, jx_inn, jx_inl, jx_ltnn, jx_lenn, jx_eqnn, jx_ltnl, jx_lenl, jx_ltln, jx_leln, jx_eqnl, Int32.reduceAdd, Int32.reduceSub, Int32.reduceMul, Int32.reduceLT, Int32.reduceLE, jx_eqll, jx_ltll, Nat.reduceMul, Nat.reduceSub, forall_const, implies_true, false_implies, not_true_eq_false, true_implies, hk, hp, he]
  exact sm_act_l hk hp he ⟨rfl, rfl⟩ 6 0 (by omega) _
def sm_fk (f : Nat → Int32) (z k : Nat) : Bool := decide (¬ f k ≤ 0 ∧ 2 * jx_pc (jx_x (f k) &&& z) ≤ jx_pc (jx_x (f k)))
def sm_fu (f : Nat → Int32) (z : Nat) : Nat → Bool
  | 0 => false
  | k + 1 => sm_fu f z k || sm_fk f z k
theorem sm_fu_t {f : Nat → Int32} {z k : Nat} : ∀ j, k < j → sm_fk f z k = true → sm_fu f z j = true
  | 0, h, _ => absurd h (by omega)
  | j + 1, h, e => by
    unfold sm_fu
    by_cases hj : k = j
    · subst hj
      rw [e, Bool.or_true]
    · rw [sm_fu_t j (by omega) e, Bool.true_or]
set_option maxHeartbeats 4000000 in
set_option maxRecDepth 100000 in
theorem sm_maj_l {G : jx_G} {n ms : Nat} {K : Nat → Nat × Nat} {I : Nat → Nat → Int32} {P : Nat → Nat → Option Nat} {Q : Option jx_V → jx_M → Prop} {a e : Nat} (hk : K a = (8, 1)) (hp : P a 0 = some e) (he : K e = (11, 6)) {z : Nat} (hm : ∀ k, k < 6 → ¬ I e k ≤ 0 → ∃ v, v < 128 ∧ I e k = nI v) (kk : Q (some (.inl (jx_b (sm_fu (I e) z 6 = false)))) (n, ms, K, I, P)) : ∀ f k, k + f = 6 → sm_fu (I e) z k = false → ∀ x5, jx_J G yX7_eachActiveHasMajority cX7_eachActiveHasMajority 6 (some FieldType.boolean) 2 (Q) 11 [some (.inr (some a)), some (.inl (nI z)), some (.inr (some e)), some (.inl (nI 6)), some (.inl (nI k)), x5] [] (n, ms, K, I, P) := by
  intro f
  induction f with
  | zero =>
    intro k hk2 hF x5
    have e0 : k = 6 := by omega
    subst e0
    simp only [hF, jx_b, if_true] at kk
    refine jx_gq flok_X7 (fwok_X7 rfl) 99999 6 _ _ _ _ ?_
    simp (disch := omega) only [↓reduceIte, jx_wp, jx_stp, jx_f0, jx_f1, jx_f2, jx_f3, List.getElem?_cons_zero, List.getElem?_cons_succ, List.set_cons_zero, List.set_cons_succ, Nat.reduceAdd, true_and, and_true, if_true, if_false, Bool.false_eq_true, jx_s, Nat.reduceLT, dX7_eachActiveHasMajority_0, dX7_eachActiveHasMajority_1, dX7_eachActiveHasMajority_4, dX7_eachActiveHasMajority_5, dX7_eachActiveHasMajority_6, dX7_eachActiveHasMajority_7, dX7_eachActiveHasMajority_8, dX7_eachActiveHasMajority_9, dX7_eachActiveHasMajority_11, dX7_eachActiveHasMajority_13, dX7_eachActiveHasMajority_14, dX7_eachActiveHasMajority_17, dX7_eachActiveHasMajority_18, dX7_eachActiveHasMajority_20, dX7_eachActiveHasMajority_21, dX7_eachActiveHasMajority_23, dX7_eachActiveHasMajority_25, dX7_eachActiveHasMajority_28, dX7_eachActiveHasMajority_31, dX7_eachActiveHasMajority_33, dX7_eachActiveHasMajority_34, dX7_eachActiveHasMajority_37, dX7_eachActiveHasMajority_40, dX7_eachActiveHasMajority_41, dX7_eachActiveHasMajority_42, dX7_eachActiveHasMajority_45, dX7_eachActiveHasMajority_48, dX7_eachActiveHasMajority_49, fl_X7_9, ft_8_0, jx_k0, tg_14_34, tg_28_14, tg_37_5, jx_k1, tg_45_m34, jx_wq, jx_stq, jx_ite, jx_b0, jx_bn0, jx_u_eq, jx_u_na, jx_u_ni, jx_nb0, jx_nb1, jx_ni, jx_E, eq_self, jx_a0, jx_a1, ne_eq, not_false_eq_true, Nat.reduceLeDiff, Nat.reduceEqDiff, Nat.reduceLT, jx_subl, jx_al, jx_la, jx_nm, jx_ml, nI_add, jx_xn, jx_xl, jx_inn, jx_inl, jx_ltnn, jx_lenn, jx_eqnn, jx_ltnl, jx_lenl, jx_ltln, jx_leln, jx_eqnl, Int32.reduceAdd, Int32.reduceSub, Int32.reduceMul, Int32.reduceLT, Int32.reduceLE, jx_eqll, jx_ltll, Nat.reduceMul, Nat.reduceSub, forall_const, implies_true, false_implies, not_true_eq_false, true_implies, Nat.le_refl]
    exact kk
  | succ f ih =>
    intro k hk3 hF x5
    have e6 : ¬ 6 ≤ k := by omega
    have ih2 := ih (k + 1) (by omega)
    refine jx_gq flok_X7 (fwok_X7 rfl) 11 9 _ _ _ _ ?_
    simp (disch := omega) only [↓reduceIte, jx_wp, jx_stp, jx_f0, jx_f1, jx_f2, jx_f3, List.getElem?_cons_zero, List.getElem?_cons_succ, List.set_cons_zero, List.set_cons_succ, Nat.reduceAdd, true_and, and_true, if_true, if_false, Bool.false_eq_true, jx_s, Nat.reduceLT, dX7_eachActiveHasMajority_0, dX7_eachActiveHasMajority_1, dX7_eachActiveHasMajority_4, dX7_eachActiveHasMajority_5, dX7_eachActiveHasMajority_6, dX7_eachActiveHasMajority_7, dX7_eachActiveHasMajority_8, dX7_eachActiveHasMajority_9, dX7_eachActiveHasMajority_11, dX7_eachActiveHasMajority_13, dX7_eachActiveHasMajority_14, dX7_eachActiveHasMajority_17, dX7_eachActiveHasMajority_18, dX7_eachActiveHasMajority_20, dX7_eachActiveHasMajority_21, dX7_eachActiveHasMajority_23, dX7_eachActiveHasMajority_25, dX7_eachActiveHasMajority_28, dX7_eachActiveHasMajority_31, dX7_eachActiveHasMajority_33, dX7_eachActiveHasMajority_34, dX7_eachActiveHasMajority_37, dX7_eachActiveHasMajority_40, dX7_eachActiveHasMajority_41, dX7_eachActiveHasMajority_42, dX7_eachActiveHasMajority_45, dX7_eachActiveHasMajority_48, dX7_eachActiveHasMajority_49, fl_X7_9, ft_8_0, jx_k0, tg_14_34, tg_28_14, tg_37_5, jx_k1, tg_45_m34, jx_wq, jx_stq, jx_ite, jx_b0, jx_bn0, jx_u_eq, jx_u_na, jx_u_ni, jx_nb0, jx_nb1, jx_ni, jx_E, eq_self, jx_a0, jx_a1, ne_eq, not_false_eq_true, Nat.reduceLeDiff, Nat.reduceEqDiff, Nat.reduceLT, jx_subl, jx_al, jx_la, jx_nm, jx_ml, nI_add, jx_xn, jx_xl, jx_inn, jx_inl, jx_ltnn, jx_lenn, jx_eqnn, jx_ltnl, jx_lenl, jx_ltln, jx_leln, jx_eqnl, Int32.reduceAdd, Int32.reduceSub, Int32.reduceMul, Int32.reduceLT, Int32.reduceLE, jx_eqll, jx_ltll, Nat.reduceMul, Nat.reduceSub, forall_const, implies_true, false_implies, not_true_eq_false, true_implies, hk, hp, he, e6]
    refine jx_cS1 dX7_eachActiveHasMajority_25 li_X7_27 (cl_isSet) (Nat.le_of_ble_eq_true rfl) (Nat.le_of_ble_eq_true rfl) ?_
    rintro _ _ ⟨rfl, rfl⟩ - -
    simp only [Option.toList_some, Option.toList_none, List.cons_append, List.nil_append]
    by_cases h : I e k ≤ 0
    · have e9 : sm_fu (I e) z (k + 1) = false := by
        unfold sm_fu sm_fk
        rw [hF]
        simp [h]
      refine jx_gq flok_X7 (fwok_X7 rfl) 11 9 _ _ _ _ ?_
      simp (disch := omega) only [↓reduceIte, jx_wp, jx_stp, jx_f0, jx_f1, jx_f2, jx_f3, List.getElem?_cons_zero, List.getElem?_cons_succ, List.set_cons_zero, List.set_cons_succ, Nat.reduceAdd, true_and, and_true, if_true, if_false, Bool.false_eq_true, jx_s, Nat.reduceLT, dX7_eachActiveHasMajority_0, dX7_eachActiveHasMajority_1, dX7_eachActiveHasMajority_4, dX7_eachActiveHasMajority_5, dX7_eachActiveHasMajority_6, dX7_eachActiveHasMajority_7, dX7_eachActiveHasMajority_8, dX7_eachActiveHasMajority_9, dX7_eachActiveHasMajority_11, dX7_eachActiveHasMajority_13, dX7_eachActiveHasMajority_14, dX7_eachActiveHasMajority_17, dX7_eachActiveHasMajority_18, dX7_eachActiveHasMajority_20, dX7_eachActiveHasMajority_21, dX7_eachActiveHasMajority_23, dX7_eachActiveHasMajority_25, dX7_eachActiveHasMajority_28, dX7_eachActiveHasMajority_31, dX7_eachActiveHasMajority_33, dX7_eachActiveHasMajority_34, dX7_eachActiveHasMajority_37, dX7_eachActiveHasMajority_40, dX7_eachActiveHasMajority_41, dX7_eachActiveHasMajority_42, dX7_eachActiveHasMajority_45, dX7_eachActiveHasMajority_48, dX7_eachActiveHasMajority_49, fl_X7_9, ft_8_0, jx_k0, tg_14_34, tg_28_14, tg_37_5, jx_k1, tg_45_m34, jx_wq, jx_stq, jx_ite, jx_b0, jx_bn0, jx_u_eq, jx_u_na, jx_u_ni, jx_nb0, jx_nb1, jx_ni, jx_E, eq_self, jx_a0, jx_a1, ne_eq, not_false_eq_true, Nat.reduceLeDiff, Nat.reduceEqDiff, Nat.reduceLT, jx_subl, jx_al, jx_la, jx_nm, jx_ml, nI_add, jx_xn, jx_xl, jx_inn, jx_inl, jx_ltnn, jx_lenn, jx_eqnn, jx_ltnl, jx_lenl, jx_ltln, jx_leln, jx_eqnl, Int32.reduceAdd, Int32.reduceSub, Int32.reduceMul, Int32.reduceLT, Int32.reduceLE, jx_eqll, jx_ltll, Nat.reduceMul, Nat.reduceSub, forall_const, implies_true, false_implies, not_true_eq_false, true_implies, hk, hp, he, h]
      exact ih2 e9 _
    · obtain ⟨v, hv, hV⟩ := hm k (by omega) h
      have hx : jx_x (I e k) = v := by
        rw [hV]
        exact jx_xn (by omega)
      refine jx_gq flok_X7 (fwok_X7 rfl) 11 4 _ _ _ _ ?_
      simp (disch := omega) only [↓reduceIte, jx_wp, jx_stp, jx_f0, jx_f1, jx_f2, jx_f3, List.getElem?_cons_zero, List.getElem?_cons_succ, List.set_cons_zero, List.set_cons_succ, Nat.reduceAdd, true_and, and_true, if_true, if_false, Bool.false_eq_true, jx_s, Nat.reduceLT, dX7_eachActiveHasMajority_0, dX7_eachActiveHasMajority_1, dX7_eachActiveHasMajority_4, dX7_eachActiveHasMajority_5, dX7_eachActiveHasMajority_6, dX7_eachActiveHasMajority_7, dX7_eachActiveHasMajority_8, dX7_eachActiveHasMajority_9, dX7_eachActiveHasMajority_11, dX7_eachActiveHasMajority_13, dX7_eachActiveHasMajority_14, dX7_eachActiveHasMajority_17, dX7_eachActiveHasMajority_18, dX7_eachActiveHasMajority_20, dX7_eachActiveHasMajority_21, dX7_eachActiveHasMajority_23, dX7_eachActiveHasMajority_25, dX7_eachActiveHasMajority_28, dX7_eachActiveHasMajority_31, dX7_eachActiveHasMajority_33, dX7_eachActiveHasMajority_34, dX7_eachActiveHasMajority_37, dX7_eachActiveHasMajority_40, dX7_eachActiveHasMajority_41, dX7_eachActiveHasMajority_42, dX7_eachActiveHasMajority_45, dX7_eachActiveHasMajority_48, dX7_eachActiveHasMajority_49, fl_X7_9, ft_8_0, jx_k0, tg_14_34, tg_28_14, tg_37_5, jx_k1, tg_45_m34, jx_wq, jx_stq, jx_ite, jx_b0, jx_bn0, jx_u_eq, jx_u_na, jx_u_ni, jx_nb0, jx_nb1, jx_ni, jx_E, eq_self, jx_a0, jx_a1, ne_eq, not_false_eq_true, Nat.reduceLeDiff, Nat.reduceEqDiff, Nat.reduceLT, jx_subl, jx_al, jx_la, jx_nm, jx_ml, nI_add, jx_xn, jx_xl, jx_inn, jx_inl, jx_ltnn, jx_lenn, jx_eqnn, jx_ltnl, jx_lenl, jx_ltln, jx_leln, jx_eqnl, Int32.reduceAdd, Int32.reduceSub, Int32.reduceMul, Int32.reduceLT, Int32.reduceLE, jx_eqll, jx_ltll, Nat.reduceMul, Nat.reduceSub, forall_const, implies_true, false_implies, not_true_eq_false, true_implies, hk, hp, he, h]
      rw [hV]
      refine jx_cS2 dX7_eachActiveHasMajority_34 li_X7_31 (cl_isMajority hv) (Nat.le_of_ble_eq_true rfl) (Nat.le_of_ble_eq_true rfl) ?_
      rintro _ _ ⟨rfl, rfl⟩ - -
      simp only [Option.toList_some, Option.toList_none, List.cons_append, List.nil_append]
      by_cases h2 : 2 * jx_pc (v &&& z) ≤ jx_pc v
      · have e9 : sm_fk (I e) z k = true := by
          unfold sm_fk
          rw [hx]
          simp [h, h2]
        have e8 := sm_fu_t 6 (by omega) e9
        simp only [e8, jx_b] at kk
        refine jx_gq flok_X7 (fwok_X7 rfl) 11 9 _ _ _ _ ?_
        simp (disch := omega) only [↓reduceIte, jx_wp, jx_stp, jx_f0, jx_f1, jx_f2, jx_f3, List.getElem?_cons_zero, List.getElem?_cons_succ, List.set_cons_zero, List.set_cons_succ, Nat.reduceAdd, true_and, and_true, if_true, if_false, Bool.false_eq_true, jx_s, Nat.reduceLT, dX7_eachActiveHasMajority_0, dX7_eachActiveHasMajority_1, dX7_eachActiveHasMajority_4, dX7_eachActiveHasMajority_5, dX7_eachActiveHasMajority_6, dX7_eachActiveHasMajority_7, dX7_eachActiveHasMajority_8, dX7_eachActiveHasMajority_9, dX7_eachActiveHasMajority_11, dX7_eachActiveHasMajority_13, dX7_eachActiveHasMajority_14, dX7_eachActiveHasMajority_17, dX7_eachActiveHasMajority_18, dX7_eachActiveHasMajority_20, dX7_eachActiveHasMajority_21, dX7_eachActiveHasMajority_23, dX7_eachActiveHasMajority_25, dX7_eachActiveHasMajority_28, dX7_eachActiveHasMajority_31, dX7_eachActiveHasMajority_33, dX7_eachActiveHasMajority_34, dX7_eachActiveHasMajority_37, dX7_eachActiveHasMajority_40, dX7_eachActiveHasMajority_41, dX7_eachActiveHasMajority_42, dX7_eachActiveHasMajority_45, dX7_eachActiveHasMajority_48, dX7_eachActiveHasMajority_49, fl_X7_9, ft_8_0, jx_k0, tg_14_34, tg_28_14, tg_37_5, jx_k1, tg_45_m34, jx_wq, jx_stq, jx_ite, jx_b0, jx_bn0, jx_u_eq, jx_u_na, jx_u_ni, jx_nb0, jx_nb1, jx_ni, jx_E, eq_self, jx_a0, jx_a1, ne_eq, not_false_eq_true, Nat.reduceLeDiff, Nat.reduceEqDiff, Nat.reduceLT, jx_subl, jx_al, jx_la, jx_nm, jx_ml, nI_add, jx_xn, jx_xl, jx_inn, jx_inl, jx_ltnn, jx_lenn, jx_eqnn, jx_ltnl, jx_lenl, jx_ltln, jx_leln, jx_eqnl, Int32.reduceAdd, Int32.reduceSub, Int32.reduceMul, Int32.reduceLT, Int32.reduceLE, jx_eqll, jx_ltll, Nat.reduceMul, Nat.reduceSub, forall_const, implies_true, false_implies, not_true_eq_false, true_implies, hk, hp, he, h2]
        exact kk
      · have e9 : sm_fu (I e) z (k + 1) = false := by
          unfold sm_fu sm_fk
          rw [hF, hx]
          simp [h2]
        refine jx_gq flok_X7 (fwok_X7 rfl) 11 9 _ _ _ _ ?_
        simp (disch := omega) only [↓reduceIte, jx_wp, jx_stp, jx_f0, jx_f1, jx_f2, jx_f3, List.getElem?_cons_zero, List.getElem?_cons_succ, List.set_cons_zero, List.set_cons_succ, Nat.reduceAdd, true_and, and_true, if_true, if_false, Bool.false_eq_true, jx_s, Nat.reduceLT, dX7_eachActiveHasMajority_0, dX7_eachActiveHasMajority_1, dX7_eachActiveHasMajority_4, dX7_eachActiveHasMajority_5, dX7_eachActiveHasMajority_6, dX7_eachActiveHasMajority_7, dX7_eachActiveHasMajority_8, dX7_eachActiveHasMajority_9, dX7_eachActiveHasMajority_11, dX7_eachActiveHasMajority_13, dX7_eachActiveHasMajority_14, dX7_eachActiveHasMajority_17, dX7_eachActiveHasMajority_18, dX7_eachActiveHasMajority_20, dX7_eachActiveHasMajority_21, dX7_eachActiveHasMajority_23, dX7_eachActiveHasMajority_25, dX7_eachActiveHasMajority_28, dX7_eachActiveHasMajority_31, dX7_eachActiveHasMajority_33, dX7_eachActiveHasMajority_34, dX7_eachActiveHasMajority_37, dX7_eachActiveHasMajority_40, dX7_eachActiveHasMajority_41, dX7_eachActiveHasMajority_42, dX7_eachActiveHasMajority_45, dX7_eachActiveHasMajority_48, dX7_eachActiveHasMajority_49, fl_X7_9, ft_8_0, jx_k0, tg_14_34, tg_28_14, tg_37_5, jx_k1, tg_45_m34, jx_wq, jx_stq, jx_ite, jx_b0, jx_bn0, jx_u_eq, jx_u_na, jx_u_ni, jx_nb0, jx_nb1, jx_ni, jx_E, eq_self, jx_a0, jx_a1, ne_eq, not_false_eq_true, Nat.reduceLeDiff, Nat.reduceEqDiff, Nat.reduceLT, jx_subl, jx_al, jx_la, jx_nm, jx_ml, nI_add, jx_xn, jx_xl, jx_inn, jx_inl, jx_ltnn, jx_lenn, jx_eqnn, jx_ltnl, jx_lenl, jx_ltln, jx_leln, jx_eqnl, Int32.reduceAdd, Int32.reduceSub, Int32.reduceMul, Int32.reduceLT, Int32.reduceLE, jx_eqll, jx_ltll, Nat.reduceMul, Nat.reduceSub, forall_const, implies_true, false_implies, not_true_eq_false, true_implies, hk, hp, he, h2]
        exact ih2 e9 _
set_option maxHeartbeats 4000000 in
set_option maxRecDepth 100000 in
theorem sm_maj {G : jx_G} {n ms : Nat} {K : Nat → Nat × Nat} {I : Nat → Nat → Int32} {P : Nat → Nat → Option Nat} {a e : Nat} (hk : K a = (8, 1)) (hp : P a 0 = some e) (he : K e = (11, 6)) {z : Nat} (hm : ∀ k, k < 6 → ¬ I e k ≤ 0 → ∃ v, v < 128 ∧ I e k = nI v) : jx_C G yX7_eachActiveHasMajority cX7_eachActiveHasMajority 6 (some FieldType.boolean) 2 [.inr (some a), .inl (nI z)] (n, ms, K, I, P) (jx_E (some (.inl (jx_b (sm_fu (I e) z 6 = false)))) (n, ms, K, I, P)) := by
  refine jx_C_of (by decide) (Nat.le_of_ble_eq_true rfl) ?_
  simp only [List.map_cons, List.map_nil, List.length_cons, List.length_nil, Nat.reduceAdd, Nat.reduceSub, List.replicate_zero, List.append_nil, List.replicate_succ, List.cons_append, List.nil_append]
  refine jx_gq flok_X7 (fwok_X7 rfl) 11 10 _ _ _ _ ?_
  simp (disch := omega) only [↓reduceIte, jx_wp, jx_stp, jx_f0, jx_f1, jx_f2, jx_f3, List.getElem?_cons_zero, List.getElem?_cons_succ, List.set_cons_zero, List.set_cons_succ, Nat.reduceAdd, true_and, and_true, if_true, if_false, Bool.false_eq_true, jx_s, Nat.reduceLT, dX7_eachActiveHasMajority_0, dX7_eachActiveHasMajority_1, dX7_eachActiveHasMajority_4, dX7_eachActiveHasMajority_5, dX7_eachActiveHasMajority_6, dX7_eachActiveHasMajority_7, dX7_eachActiveHasMajority_8, dX7_eachActiveHasMajority_9, dX7_eachActiveHasMajority_11, dX7_eachActiveHasMajority_13, dX7_eachActiveHasMajority_14, dX7_eachActiveHasMajority_17, dX7_eachActiveHasMajority_18, dX7_eachActiveHasMajority_20, dX7_eachActiveHasMajority_21, dX7_eachActiveHasMajority_23, dX7_eachActiveHasMajority_25, dX7_eachActiveHasMajority_28, dX7_eachActiveHasMajority_31, dX7_eachActiveHasMajority_33, dX7_eachActiveHasMajority_34, dX7_eachActiveHasMajority_37, dX7_eachActiveHasMajority_40, dX7_eachActiveHasMajority_41, dX7_eachActiveHasMajority_42, dX7_eachActiveHasMajority_45, dX7_eachActiveHasMajority_48, dX7_eachActiveHasMajority_49, fl_X7_9, ft_8_0, jx_k0, tg_14_34, tg_28_14, tg_37_5, jx_k1, tg_45_m34, jx_wq, jx_stq, jx_ite, jx_b0, jx_bn0, jx_u_eq, jx_u_na, jx_u_ni, jx_nb0, jx_nb1, jx_ni, jx_E, eq_self, jx_a0, jx_a1, ne_eq, not_false_eq_true, Nat.reduceLeDiff, Nat.reduceEqDiff, Nat.reduceLT, jx_subl, jx_al, jx_la, jx_nm, jx_ml, nI_add, jx_xn, jx_xl, jx_inn, jx_inl, jx_ltnn, jx_lenn, jx_eqnn, jx_ltnl, jx_lenl, jx_ltln, jx_leln, jx_eqnl, Int32.reduceAdd, Int32.reduceSub, Int32.reduceMul, Int32.reduceLT, Int32.reduceLE, jx_eqll, jx_ltll, Nat.reduceMul, Nat.reduceSub, forall_const, implies_true, false_implies, not_true_eq_false, true_implies, hk, hp, he]
  exact sm_maj_l hk hp he hm ⟨rfl, rfl⟩ 6 0 (by omega) rfl _
