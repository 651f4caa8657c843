def la_Q (w : Option jx_V) (_ : jx_M) : Prop := w = some (.inl 1)
theorem la_k3 {n ms : Nat} {K : Nat → Nat × Nat} {I : Nat → Nat → Int32} {P : Nat → Nat → Option Nat} (h : la_I n ms K I P) : K 3 = (9, 7) := by
  obtain ⟨q, x, B, A, hR, -⟩ := h
  exact hR.1.1.1
set_option maxHeartbeats 4000000 in
set_option maxRecDepth 100000 in
theorem lc_begin {G : jx_G} {i : Nat} (hi : i + 4 ≤ jx_gL G) (hL : jx_gL G ≤ 2048) (kk : ∀ n ms K I P, la_I n ms K I P → jx_J G yL_law cL_law 4 (some FieldType.boolean) 13 (la_Q) 716 [some (.inr (some 0)), some (.inr (some 3)), some (.inr (some 98)), some (.inl (nI i))] [] (n, ms, K, I, P)) {n ms : Nat} {K : Nat → Nat × Nat} {I : Nat → Nat → Int32} {P : Nat → Nat → Option Nat} (h : la_I n ms K I P) : jx_J G yL_law cL_law 4 (some FieldType.boolean) 13 (la_Q) 120 [some (.inr (some 0)), some (.inr (some 3)), some (.inr (some 98)), some (.inl (nI i))] [] (n, ms, K, I, P) := by
  refine jx_sc (fun k0 v0 => ?_)
  have k0 : K 0 = (11, jx_gL G) := k0
  have v0 : ∀ j, j < jx_gL G → I 0 j = jx_gX G j := v0
  obtain ⟨d, d2, Q, hd, hd2, c1, c2⟩ := ld_begin (G := G) (a := jx_gX G (i + 1)) (b := jx_gX G (i + 2)) h
  refine jx_gq flok_0 fwok_0 131 13 _ _ _ _ ?_
  simp (disch := omega) only [↓reduceIte, jx_wp, jx_stp, jx_f0, jx_f1, jx_f2, jx_f3, List.getElem?_cons_zero, List.getElem?_cons_succ, List.set_cons_zero, List.set_cons_succ, Nat.reduceAdd, true_and, and_true, if_true, if_false, Bool.false_eq_true, jx_s, Nat.reduceLT, dL_law_120, dL_law_121, dL_law_122, dL_law_123, dL_law_124, dL_law_125, dL_law_126, dL_law_127, dL_law_128, dL_law_129, dL_law_130, dL_law_131, jx_k1, jx_k2, jx_wq, jx_stq, jx_ite, jx_b0, jx_bn0, jx_u_eq, jx_u_na, jx_u_ni, jx_nb0, jx_nb1, jx_ni, jx_E, eq_self, jx_a0, jx_a1, ne_eq, not_false_eq_true, Nat.reduceLeDiff, Nat.reduceEqDiff, Nat.reduceLT, jx_subl, jx_al, jx_la, jx_nm, jx_ml, nI_add, jx_xn, jx_xl, jx_inn, jx_inl, jx_ltnn, jx_lenn, jx_eqnn, jx_ltnl, jx_lenl, jx_ltln, jx_leln, jx_eqnl, Int32.reduceAdd, Int32.reduceSub, Int32.reduceMul, Int32.reduceLT, Int32.reduceLE, jx_eqll, jx_ltll, Nat.reduceMul, Nat.reduceSub, forall_const, implies_true, false_implies, not_true_eq_false, true_implies, jx_tko, jx_ofn, jx_tka, jx_pro, jx_pra, and_self, Nat.not_lt_zero, k0, v0]
  refine jx_cV2 dL_law_131 li_L_13 c1 (congrArg Prod.fst (la_k3 h)) (by omega) (Nat.le_of_ble_eq_true rfl) ?_
  rintro _ ⟨n', ms', K', I', P'⟩ hQ - -
  obtain ⟨v, rfl, hM, Q2, c2, c3⟩ := c2 _ _ hQ
  simp only [Option.toList_some, List.cons_append, List.nil_append]
  refine jx_sc (fun k0' v0' => ?_)
  have k0 : K' 0 = (11, jx_gL G) := k0'
  have v0 : ∀ j, j < jx_gL G → I' 0 j = jx_gX G j := v0'
  refine jx_gq flok_0 fwok_0 145 13 _ _ _ _ ?_
  simp (disch := omega) only [↓reduceIte, jx_wp, jx_stp, jx_f0, jx_f1, jx_f2, jx_f3, List.getElem?_cons_zero, List.getElem?_cons_succ, List.set_cons_zero, List.set_cons_succ, Nat.reduceAdd, true_and, and_true, if_true, if_false, Bool.false_eq_true, jx_s, Nat.reduceLT, dL_law_134, dL_law_135, dL_law_136, dL_law_137, dL_law_138, dL_law_139, dL_law_140, dL_law_141, dL_law_142, dL_law_143, dL_law_144, dL_law_145, jx_k1, jx_k2, jx_wq, jx_stq, jx_ite, jx_b0, jx_bn0, jx_u_eq, jx_u_na, jx_u_ni, jx_nb0, jx_nb1, jx_ni, jx_E, eq_self, jx_a0, jx_a1, ne_eq, not_false_eq_true, Nat.reduceLeDiff, Nat.reduceEqDiff, Nat.reduceLT, jx_subl, jx_al, jx_la, jx_nm, jx_ml, nI_add, jx_xn, jx_xl, jx_inn, jx_inl, jx_ltnn, jx_lenn, jx_eqnn, jx_ltnl, jx_lenl, jx_ltln, jx_leln, jx_eqnl, Int32.reduceAdd, Int32.reduceSub, Int32.reduceMul, Int32.reduceLT, Int32.reduceLE, jx_eqll, jx_ltll, Nat.reduceMul, Nat.reduceSub, forall_const, implies_true, false_implies, not_true_eq_false, true_implies, jx_tko, jx_ofn, jx_tka, jx_pro, jx_pra, and_self, Nat.not_lt_zero, k0, v0]
  refine jx_cV2 dL_law_145 li_L_17 c2 (congrArg Prod.fst (mo_k98 hM)) (by omega) (Nat.le_of_ble_eq_true rfl) ?_
  rintro _ _ hQ2 - -
  obtain ⟨rfl, n2, ms2, K2, I2, P2, rfl, h2⟩ := c3 _ _ hQ2
  simp only [Option.toList_some, List.cons_append, List.nil_append]
  refine jx_gq flok_0 fwok_0 716 1 _ _ _ _ ?_
  simp (disch := omega) only [↓reduceIte, jx_wp, jx_stp, jx_f0, jx_f1, jx_f2, jx_f3, List.getElem?_cons_zero, List.getElem?_cons_succ, List.set_cons_zero, List.set_cons_succ, Nat.reduceAdd, true_and, and_true, if_true, if_false, Bool.false_eq_true, jx_s, Nat.reduceLT, dL_law_148, tg_148_568, jx_wq, jx_stq, jx_ite, jx_b0, jx_bn0, jx_u_eq, jx_u_na, jx_u_ni, jx_nb0, jx_nb1, jx_ni, jx_E, eq_self, jx_a0, jx_a1, ne_eq, not_false_eq_true, Nat.reduceLeDiff, Nat.reduceEqDiff, Nat.reduceLT, jx_subl, jx_al, jx_la, jx_nm, jx_ml, nI_add, jx_xn, jx_xl, jx_inn, jx_inl, jx_ltnn, jx_lenn, jx_eqnn, jx_ltnl, jx_lenl, jx_ltln, jx_leln, jx_eqnl, Int32.reduceAdd, Int32.reduceSub, Int32.reduceMul, Int32.reduceLT, Int32.reduceLE, jx_eqll, jx_ltll, Nat.reduceMul, Nat.reduceSub, forall_const, implies_true, false_implies, not_true_eq_false, true_implies, jx_tko, jx_ofn, jx_tka, jx_pro, jx_pra, and_self, Nat.not_lt_zero]
  exact kk _ _ _ _ _ h2
set_option maxHeartbeats 4000000 in
set_option maxRecDepth 100000 in
theorem lc_read {G : jx_G} {i : Nat} (hi : i + 4 ≤ jx_gL G) (hL : jx_gL G ≤ 2048) (kk : ∀ n ms K I P, la_I n ms K I P → jx_J G yL_law cL_law 4 (some FieldType.boolean) 13 (la_Q) 716 [some (.inr (some 0)), some (.inr (some 3)), some (.inr (some 98)), some (.inl (nI i))] [] (n, ms, K, I, P)) {n ms : Nat} {K : Nat → Nat × Nat} {I : Nat → Nat → Int32} {P : Nat → Nat → Option Nat} (h : la_I n ms K I P) : jx_J G yL_law cL_law 4 (some FieldType.boolean) 13 (la_Q) 153 [some (.inr (some 0)), some (.inr (some 3)), some (.inr (some 98)), some (.inl (nI i))] [] (n, ms, K, I, P) := by
  refine jx_sc (fun k0 v0 => ?_)
  have k0 : K 0 = (11, jx_gL G) := k0
  have v0 : ∀ j, j < jx_gL G → I 0 j = jx_gX G j := v0
  obtain ⟨d, d2, Q, hd, hd2, c1, c2⟩ := ld_read (G := G) (c := jx_gX G (i + 1)) (r := jx_gX G (i + 2)) h
  refine jx_gq flok_0 fwok_0 164 13 _ _ _ _ ?_
  simp (disch := omega) only [↓reduceIte, jx_wp, jx_stp, jx_f0, jx_f1, jx_f2, jx_f3, List.getElem?_cons_zero, List.getElem?_cons_succ, List.set_cons_zero, List.set_cons_succ, Nat.reduceAdd, true_and, and_true, if_true, if_false, Bool.false_eq_true, jx_s, Nat.reduceLT, dL_law_153, dL_law_154, dL_law_155, dL_law_156, dL_law_157, dL_law_158, dL_law_159, dL_law_160, dL_law_161, dL_law_162, dL_law_163, dL_law_164, jx_k1, jx_k2, jx_wq, jx_stq, jx_ite, jx_b0, jx_bn0, jx_u_eq, jx_u_na, jx_u_ni, jx_nb0, jx_nb1, jx_ni, jx_E, eq_self, jx_a0, jx_a1, ne_eq, not_false_eq_true, Nat.reduceLeDiff, Nat.reduceEqDiff, Nat.reduceLT, jx_subl, jx_al, jx_la, jx_nm, jx_ml, nI_add, jx_xn, jx_xl, jx_inn, jx_inl, jx_ltnn, jx_lenn, jx_eqnn, jx_ltnl, jx_lenl, jx_ltln, jx_leln, jx_eqnl, Int32.reduceAdd, Int32.reduceSub, Int32.reduceMul, Int32.reduceLT, Int32.reduceLE, jx_eqll, jx_ltll, Nat.reduceMul, Nat.reduceSub, forall_const, implies_true, false_implies, not_true_eq_false, true_implies, jx_tko, jx_ofn, jx_tka, jx_pro, jx_pra, and_self, Nat.not_lt_zero, k0, v0]
  refine jx_cV2 dL_law_164 li_L_18 c1 (congrArg Prod.fst (la_k3 h)) (by omega) (Nat.le_of_ble_eq_true rfl) ?_
  rintro _ ⟨n', ms', K', I', P'⟩ hQ - -
  obtain ⟨v, rfl, hM, Q2, c2, c3⟩ := c2 _ _ hQ
  simp only [Option.toList_some, List.cons_append, List.nil_append]
  refine jx_sc (fun k0' v0' => ?_)
  have k0 : K' 0 = (11, jx_gL G) := k0'
  have v0 : ∀ j, j < jx_gL G → I' 0 j = jx_gX G j := v0'
  refine jx_gq flok_0 fwok_0 178 13 _ _ _ _ ?_
  simp (disch := omega) only [↓reduceIte, jx_wp, jx_stp, jx_f0, jx_f1, jx_f2, jx_f3, List.getElem?_cons_zero, List.getElem?_cons_succ, List.set_cons_zero, List.set_cons_succ, Nat.reduceAdd, true_and, and_true, if_true, if_false, Bool.false_eq_true, jx_s, Nat.reduceLT, dL_law_167, dL_law_168, dL_law_169, dL_law_170, dL_law_171, dL_law_172, dL_law_173, dL_law_174, dL_law_175, dL_law_176, dL_law_177, dL_law_178, jx_k1, jx_k2, jx_wq, jx_stq, jx_ite, jx_b0, jx_bn0, jx_u_eq, jx_u_na, jx_u_ni, jx_nb0, jx_nb1, jx_ni, jx_E, eq_self, jx_a0, jx_a1, ne_eq, not_false_eq_true, Nat.reduceLeDiff, Nat.reduceEqDiff, Nat.reduceLT, jx_subl, jx_al, jx_la, jx_nm, jx_ml, nI_add, jx_xn, jx_xl, jx_inn, jx_inl, jx_ltnn, jx_lenn, jx_eqnn, jx_ltnl, jx_lenl, jx_ltln, jx_leln, jx_eqnl, Int32.reduceAdd, Int32.reduceSub, Int32.reduceMul, Int32.reduceLT, Int32.reduceLE, jx_eqll, jx_ltll, Nat.reduceMul, Nat.reduceSub, forall_const, implies_true, false_implies, not_true_eq_false, true_implies, jx_tko, jx_ofn, jx_tka, jx_pro, jx_pra, and_self, Nat.not_lt_zero, k0, v0]
  refine jx_cV2 dL_law_178 li_L_22 c2 (congrArg Prod.fst (mo_k98 hM)) (by omega) (Nat.le_of_ble_eq_true rfl) ?_
  rintro _ _ hQ2 - -
  obtain ⟨rfl, n2, ms2, K2, I2, P2, rfl, h2⟩ := c3 _ _ hQ2
  simp only [Option.toList_some, List.cons_append, List.nil_append]
  refine jx_gq flok_0 fwok_0 716 1 _ _ _ _ ?_
  simp (disch := omega) only [↓reduceIte, jx_wp, jx_stp, jx_f0, jx_f1, jx_f2, jx_f3, List.getElem?_cons_zero, List.getElem?_cons_succ, List.set_cons_zero, List.set_cons_succ, Nat.reduceAdd, true_and, and_true, if_true, if_false, Bool.false_eq_true, jx_s, Nat.reduceLT, dL_law_181, tg_181_535, jx_wq, jx_stq, jx_ite, jx_b0, jx_bn0, jx_u_eq, jx_u_na, jx_u_ni, jx_nb0, jx_nb1, jx_ni, jx_E, eq_self, jx_a0, jx_a1, ne_eq, not_false_eq_true, Nat.reduceLeDiff, Nat.reduceEqDiff, Nat.reduceLT, jx_subl, jx_al, jx_la, jx_nm, jx_ml, nI_add, jx_xn, jx_xl, jx_inn, jx_inl, jx_ltnn, jx_lenn, jx_eqnn, jx_ltnl, jx_lenl, jx_ltln, jx_leln, jx_eqnl, Int32.reduceAdd, Int32.reduceSub, Int32.reduceMul, Int32.reduceLT, Int32.reduceLE, jx_eqll, jx_ltll, Nat.reduceMul, Nat.reduceSub, forall_const, implies_true, false_implies, not_true_eq_false, true_implies, jx_tko, jx_ofn, jx_tka, jx_pro, jx_pra, and_self, Nat.not_lt_zero]
  exact kk _ _ _ _ _ h2
set_option maxHeartbeats 4000000 in
set_option maxRecDepth 100000 in
theorem lc_write {G : jx_G} {i : Nat} (hi : i + 4 ≤ jx_gL G) (hL : jx_gL G ≤ 2048) (kk : ∀ n ms K I P, la_I n ms K I P → jx_J G yL_law cL_law 4 (some FieldType.boolean) 13 (la_Q) 716 [some (.inr (some 0)), some (.inr (some 3)), some (.inr (some 98)), some (.inl (nI i))] [] (n, ms, K, I, P)) {n ms : Nat} {K : Nat → Nat × Nat} {I : Nat → Nat → Int32} {P : Nat → Nat → Option Nat} (h : la_I n ms K I P) : jx_J G yL_law cL_law 4 (some FieldType.boolean) 13 (la_Q) 186 [some (.inr (some 0)), some (.inr (some 3)), some (.inr (some 98)), some (.inl (nI i))] [] (n, ms, K, I, P) := by
  refine jx_sc (fun k0 v0 => ?_)
  have k0 : K 0 = (11, jx_gL G) := k0
  have v0 : ∀ j, j < jx_gL G → I 0 j = jx_gX G j := v0
  obtain ⟨d, d2, Q, hd, hd2, c1, c2⟩ := ld_write (G := G) (c := jx_gX G (i + 1)) (r := jx_gX G (i + 2)) (v := jx_gX G (i + 3)) h
  refine jx_gq flok_0 fwok_0 202 18 _ _ _ _ ?_
  simp (disch := omega) only [↓reduceIte, jx_wp, jx_stp, jx_f0, jx_f1, jx_f2, jx_f3, List.getElem?_cons_zero, List.getElem?_cons_succ, List.set_cons_zero, List.set_cons_succ, Nat.reduceAdd, true_and, and_true, if_true, if_false, Bool.false_eq_true, jx_s, Nat.reduceLT, dL_law_186, dL_law_187, dL_law_188, dL_law_189, dL_law_190, dL_law_191, dL_law_192, dL_law_193, dL_law_194, dL_law_195, dL_law_196, dL_law_197, dL_law_198, dL_law_199, dL_law_200, dL_law_201, dL_law_202, jx_k1, jx_k2, jx_k3, jx_wq, jx_stq, jx_ite, jx_b0, jx_bn0, jx_u_eq, jx_u_na, jx_u_ni, jx_nb0, jx_nb1, jx_ni, jx_E, eq_self, jx_a0, jx_a1, ne_eq, not_false_eq_true, Nat.reduceLeDiff, Nat.reduceEqDiff, Nat.reduceLT, jx_subl, jx_al, jx_la, jx_nm, jx_ml, nI_add, jx_xn, jx_xl, jx_inn, jx_inl, jx_ltnn, jx_lenn, jx_eqnn, jx_ltnl, jx_lenl, jx_ltln, jx_leln, jx_eqnl, Int32.reduceAdd, Int32.reduceSub, Int32.reduceMul, Int32.reduceLT, Int32.reduceLE, jx_eqll, jx_ltll, Nat.reduceMul, Nat.reduceSub, forall_const, implies_true, false_implies, not_true_eq_false, true_implies, jx_tko, jx_ofn, jx_tka, jx_pro, jx_pra, and_self, Nat.not_lt_zero, k0, v0]
  refine jx_cV3 dL_law_202 li_L_23 c1 (congrArg Prod.fst (la_k3 h)) (by omega) (Nat.le_of_ble_eq_true rfl) ?_
  rintro _ ⟨n', ms', K', I', P'⟩ hQ - -
  obtain ⟨v, rfl, hM, Q2, c2, c3⟩ := c2 _ _ hQ
  simp only [Option.toList_some, List.cons_append, List.nil_append]
  refine jx_sc (fun k0' v0' => ?_)
  have k0 : K' 0 = (11, jx_gL G) := k0'
  have v0 : ∀ j, j < jx_gL G → I' 0 j = jx_gX G j := v0'
  refine jx_gq flok_0 fwok_0 221 18 _ _ _ _ ?_
  simp (disch := omega) only [↓reduceIte, jx_wp, jx_stp, jx_f0, jx_f1, jx_f2, jx_f3, List.getElem?_cons_zero, List.getElem?_cons_succ, List.set_cons_zero, List.set_cons_succ, Nat.reduceAdd, true_and, and_true, if_true, if_false, Bool.false_eq_true, jx_s, Nat.reduceLT, dL_law_205, dL_law_206, dL_law_207, dL_law_208, dL_law_209, dL_law_210, dL_law_211, dL_law_212, dL_law_213, dL_law_214, dL_law_215, dL_law_216, dL_law_217, dL_law_218, dL_law_219, dL_law_220, dL_law_221, jx_k1, jx_k2, jx_k3, jx_wq, jx_stq, jx_ite, jx_b0, jx_bn0, jx_u_eq, jx_u_na, jx_u_ni, jx_nb0, jx_nb1, jx_ni, jx_E, eq_self, jx_a0, jx_a1, ne_eq, not_false_eq_true, Nat.reduceLeDiff, Nat.reduceEqDiff, Nat.reduceLT, jx_subl, jx_al, jx_la, jx_nm, jx_ml, nI_add, jx_xn, jx_xl, jx_inn, jx_inl, jx_ltnn, jx_lenn, jx_eqnn, jx_ltnl, jx_lenl, jx_ltln, jx_leln, jx_eqnl, Int32.reduceAdd, Int32.reduceSub, Int32.reduceMul, Int32.reduceLT, Int32.reduceLE, jx_eqll, jx_ltll, Nat.reduceMul, Nat.reduceSub, forall_const, implies_true, false_implies, not_true_eq_false, true_implies, jx_tko, jx_ofn, jx_tka, jx_pro, jx_pra, and_self, Nat.not_lt_zero, k0, v0]
  refine jx_cV3 dL_law_221 li_L_27 c2 (congrArg Prod.fst (mo_k98 hM)) (by omega) (Nat.le_of_ble_eq_true rfl) ?_
  rintro _ _ hQ2 - -
  obtain ⟨rfl, n2, ms2, K2, I2, P2, rfl, h2⟩ := c3 _ _ hQ2
  simp only [Option.toList_some, List.cons_append, List.nil_append]
  refine jx_gq flok_0 fwok_0 716 1 _ _ _ _ ?_
  simp (disch := omega) only [↓reduceIte, jx_wp, jx_stp, jx_f0, jx_f1, jx_f2, jx_f3, List.getElem?_cons_zero, List.getElem?_cons_succ, List.set_cons_zero, List.set_cons_succ, Nat.reduceAdd, true_and, and_true, if_true, if_false, Bool.false_eq_true, jx_s, Nat.reduceLT, dL_law_224, tg_224_492, jx_wq, jx_stq, jx_ite, jx_b0, jx_bn0, jx_u_eq, jx_u_na, jx_u_ni, jx_nb0, jx_nb1, jx_ni, jx_E, eq_self, jx_a0, jx_a1, ne_eq, not_false_eq_true, Nat.reduceLeDiff, Nat.reduceEqDiff, Nat.reduceLT, jx_subl, jx_al, jx_la, jx_nm, jx_ml, nI_add, jx_xn, jx_xl, jx_inn, jx_inl, jx_ltnn, jx_lenn, jx_eqnn, jx_ltnl, jx_lenl, jx_ltln, jx_leln, jx_eqnl, Int32.reduceAdd, Int32.reduceSub, Int32.reduceMul, Int32.reduceLT, Int32.reduceLE, jx_eqll, jx_ltll, Nat.reduceMul, Nat.reduceSub, forall_const, implies_true, false_implies, not_true_eq_false, true_implies, jx_tko, jx_ofn, jx_tka, jx_pro, jx_pra, and_self, Nat.not_lt_zero]
  exact kk _ _ _ _ _ h2
set_option maxHeartbeats 4000000 in
set_option maxRecDepth 100000 in
theorem lc_change {G : jx_G} {i : Nat} (hi : i + 4 ≤ jx_gL G) (hL : jx_gL G ≤ 2048) (kk : ∀ n ms K I P, la_I n ms K I P → jx_J G yL_law cL_law 4 (some FieldType.boolean) 13 (la_Q) 716 [some (.inr (some 0)), some (.inr (some 3)), some (.inr (some 98)), some (.inl (nI i))] [] (n, ms, K, I, P)) {n ms : Nat} {K : Nat → Nat × Nat} {I : Nat → Nat → Int32} {P : Nat → Nat → Option Nat} (h : la_I n ms K I P) : jx_J G yL_law cL_law 4 (some FieldType.boolean) 13 (la_Q) 229 [some (.inr (some 0)), some (.inr (some 3)), some (.inr (some 98)), some (.inl (nI i))] [] (n, ms, K, I, P) := by
  refine jx_sc (fun k0 v0 => ?_)
  have k0 : K 0 = (11, jx_gL G) := k0
  have v0 : ∀ j, j < jx_gL G → I 0 j = jx_gX G j := v0
  obtain ⟨d, d2, Q, hd, hd2, c1, c2⟩ := ld_change (G := G) (c := jx_gX G (i + 1)) (a := jx_gX G (i + 2)) h
  refine jx_gq flok_0 fwok_0 240 13 _ _ _ _ ?_
  simp (disch := omega) only [↓reduceIte, jx_wp, jx_stp, jx_f0, jx_f1, jx_f2, jx_f3, List.getElem?_cons_zero, List.getElem?_cons_succ, List.set_cons_zero, List.set_cons_succ, Nat.reduceAdd, true_and, and_true, if_true, if_false, Bool.false_eq_true, jx_s, Nat.reduceLT, dL_law_229, dL_law_230, dL_law_231, dL_law_232, dL_law_233, dL_law_234, dL_law_235, dL_law_236, dL_law_237, dL_law_238, dL_law_239, dL_law_240, jx_k1, jx_k2, jx_wq, jx_stq, jx_ite, jx_b0, jx_bn0, jx_u_eq, jx_u_na, jx_u_ni, jx_nb0, jx_nb1, jx_ni, jx_E, eq_self, jx_a0, jx_a1, ne_eq, not_false_eq_true, Nat.reduceLeDiff, Nat.reduceEqDiff, Nat.reduceLT, jx_subl, jx_al, jx_la, jx_nm, jx_ml, nI_add, jx_xn, jx_xl, jx_inn, jx_inl, jx_ltnn, jx_lenn, jx_eqnn, jx_ltnl, jx_lenl, jx_ltln, jx_leln, jx_eqnl, Int32.reduceAdd, Int32.reduceSub, Int32.reduceMul, Int32.reduceLT, Int32.reduceLE, jx_eqll, jx_ltll, Nat.reduceMul, Nat.reduceSub, forall_const, implies_true, false_implies, not_true_eq_false, true_implies, jx_tko, jx_ofn, jx_tka, jx_pro, jx_pra, and_self, Nat.not_lt_zero, k0, v0]
  refine jx_cV2 dL_law_240 li_L_28 c1 (congrArg Prod.fst (la_k3 h)) (by omega) (Nat.le_of_ble_eq_true rfl) ?_
  rintro _ ⟨n', ms', K', I', P'⟩ hQ - -
  obtain ⟨v, rfl, hM, Q2, c2, c3⟩ := c2 _ _ hQ
  simp only [Option.toList_some, List.cons_append, List.nil_append]
  refine jx_sc (fun k0' v0' => ?_)
  have k0 : K' 0 = (11, jx_gL G) := k0'
  have v0 : ∀ j, j < jx_gL G → I' 0 j = jx_gX G j := v0'
  refine jx_gq flok_0 fwok_0 254 13 _ _ _ _ ?_
  simp (disch := omega) only [↓reduceIte, jx_wp, jx_stp, jx_f0, jx_f1, jx_f2, jx_f3, List.getElem?_cons_zero, List.getElem?_cons_succ, List.set_cons_zero, List.set_cons_succ, Nat.reduceAdd, true_and, and_true, if_true, if_false, Bool.false_eq_true, jx_s, Nat.reduceLT, dL_law_243, dL_law_244, dL_law_245, dL_law_246, dL_law_247, dL_law_248, dL_law_249, dL_law_250, dL_law_251, dL_law_252, dL_law_253, dL_law_254, jx_k1, jx_k2, jx_wq, jx_stq, jx_ite, jx_b0, jx_bn0, jx_u_eq, jx_u_na, jx_u_ni, jx_nb0, jx_nb1, jx_ni, jx_E, eq_self, jx_a0, jx_a1, ne_eq, not_false_eq_true, Nat.reduceLeDiff, Nat.reduceEqDiff, Nat.reduceLT, jx_subl, jx_al, jx_la, jx_nm, jx_ml, nI_add, jx_xn, jx_xl, jx_inn, jx_inl, jx_ltnn, jx_lenn, jx_eqnn, jx_ltnl, jx_lenl, jx_ltln, jx_leln, jx_eqnl, Int32.reduceAdd, Int32.reduceSub, Int32.reduceMul, Int32.reduceLT, Int32.reduceLE, jx_eqll, jx_ltll, Nat.reduceMul, Nat.reduceSub, forall_const, implies_true, false_implies, not_true_eq_false, true_implies, jx_tko, jx_ofn, jx_tka, jx_pro, jx_pra, and_self, Nat.not_lt_zero, k0, v0]
  refine jx_cV2 dL_law_254 li_L_31 c2 (congrArg Prod.fst (mo_k98 hM)) (by omega) (Nat.le_of_ble_eq_true rfl) ?_
  rintro _ _ hQ2 - -
  obtain ⟨rfl, n2, ms2, K2, I2, P2, rfl, h2⟩ := c3 _ _ hQ2
  simp only [Option.toList_some, List.cons_append, List.nil_append]
  refine jx_gq flok_0 fwok_0 716 1 _ _ _ _ ?_
  simp (disch := omega) only [↓reduceIte, jx_wp, jx_stp, jx_f0, jx_f1, jx_f2, jx_f3, List.getElem?_cons_zero, List.getElem?_cons_succ, List.set_cons_zero, List.set_cons_succ, Nat.reduceAdd, true_and, and_true, if_true, if_false, Bool.false_eq_true, jx_s, Nat.reduceLT, dL_law_257, tg_257_459, jx_wq, jx_stq, jx_ite, jx_b0, jx_bn0, jx_u_eq, jx_u_na, jx_u_ni, jx_nb0, jx_nb1, jx_ni, jx_E, eq_self, jx_a0, jx_a1, ne_eq, not_false_eq_true, Nat.reduceLeDiff, Nat.reduceEqDiff, Nat.reduceLT, jx_subl, jx_al, jx_la, jx_nm, jx_ml, nI_add, jx_xn, jx_xl, jx_inn, jx_inl, jx_ltnn, jx_lenn, jx_eqnn, jx_ltnl, jx_lenl, jx_ltln, jx_leln, jx_eqnl, Int32.reduceAdd, Int32.reduceSub, Int32.reduceMul, Int32.reduceLT, Int32.reduceLE, jx_eqll, jx_ltll, Nat.reduceMul, Nat.reduceSub, forall_const, implies_true, false_implies, not_true_eq_false, true_implies, jx_tko, jx_ofn, jx_tka, jx_pro, jx_pra, and_self, Nat.not_lt_zero]
  exact kk _ _ _ _ _ h2
set_option maxHeartbeats 4000000 in
set_option maxRecDepth 100000 in
theorem lc_move {G : jx_G} {i : Nat} (hi : i + 4 ≤ jx_gL G) (hL : jx_gL G ≤ 2048) (kk : ∀ n ms K I P, la_I n ms K I P → jx_J G yL_law cL_law 4 (some FieldType.boolean) 13 (la_Q) 716 [some (.inr (some 0)), some (.inr (some 3)), some (.inr (some 98)), some (.inl (nI i))] [] (n, ms, K, I, P)) {n ms : Nat} {K : Nat → Nat × Nat} {I : Nat → Nat → Int32} {P : Nat → Nat → Option Nat} (h : la_I n ms K I P) : jx_J G yL_law cL_law 4 (some FieldType.boolean) 13 (la_Q) 262 [some (.inr (some 0)), some (.inr (some 3)), some (.inr (some 98)), some (.inl (nI i))] [] (n, ms, K, I, P) := by
  refine jx_sc (fun k0 v0 => ?_)
  have k0 : K 0 = (11, jx_gL G) := k0
  have v0 : ∀ j, j < jx_gL G → I 0 j = jx_gX G j := v0
  obtain ⟨d, d2, Q, hd, hd2, c1, c2⟩ := ld_move (G := G) (c := jx_gX G (i + 1)) h
  refine jx_gq flok_0 fwok_0 268 8 _ _ _ _ ?_
  simp (disch := omega) only [↓reduceIte, jx_wp, jx_stp, jx_f0, jx_f1, jx_f2, jx_f3, List.getElem?_cons_zero, List.getElem?_cons_succ, List.set_cons_zero, List.set_cons_succ, Nat.reduceAdd, true_and, and_true, if_true, if_false, Bool.false_eq_true, jx_s, Nat.reduceLT, dL_law_262, dL_law_263, dL_law_264, dL_law_265, dL_law_266, dL_law_267, dL_law_268, jx_k1, jx_wq, jx_stq, jx_ite, jx_b0, jx_bn0, jx_u_eq, jx_u_na, jx_u_ni, jx_nb0, jx_nb1, jx_ni, jx_E, eq_self, jx_a0, jx_a1, ne_eq, not_false_eq_true, Nat.reduceLeDiff, Nat.reduceEqDiff, Nat.reduceLT, jx_subl, jx_al, jx_la, jx_nm, jx_ml, nI_add, jx_xn, jx_xl, jx_inn, jx_inl, jx_ltnn, jx_lenn, jx_eqnn, jx_ltnl, jx_lenl, jx_ltln, jx_leln, jx_eqnl, Int32.reduceAdd, Int32.reduceSub, Int32.reduceMul, Int32.reduceLT, Int32.reduceLE, jx_eqll, jx_ltll, Nat.reduceMul, Nat.reduceSub, forall_const, implies_true, false_implies, not_true_eq_false, true_implies, jx_tko, jx_ofn, jx_tka, jx_pro, jx_pra, and_self, Nat.not_lt_zero, k0, v0]
  refine jx_cV1 dL_law_268 li_L_32 c1 (congrArg Prod.fst (la_k3 h)) (by omega) (Nat.le_of_ble_eq_true rfl) ?_
  rintro _ ⟨n', ms', K', I', P'⟩ hQ - -
  obtain ⟨v, rfl, hM, Q2, c2, c3⟩ := c2 _ _ hQ
  simp only [Option.toList_some, List.cons_append, List.nil_append]
  refine jx_sc (fun k0' v0' => ?_)
  have k0 : K' 0 = (11, jx_gL G) := k0'
  have v0 : ∀ j, j < jx_gL G → I' 0 j = jx_gX G j := v0'
  refine jx_gq flok_0 fwok_0 277 8 _ _ _ _ ?_
  simp (disch := omega) only [↓reduceIte, jx_wp, jx_stp, jx_f0, jx_f1, jx_f2, jx_f3, List.getElem?_cons_zero, List.getElem?_cons_succ, List.set_cons_zero, List.set_cons_succ, Nat.reduceAdd, true_and, and_true, if_true, if_false, Bool.false_eq_true, jx_s, Nat.reduceLT, dL_law_271, dL_law_272, dL_law_273, dL_law_274, dL_law_275, dL_law_276, dL_law_277, jx_k1, jx_wq, jx_stq, jx_ite, jx_b0, jx_bn0, jx_u_eq, jx_u_na, jx_u_ni, jx_nb0, jx_nb1, jx_ni, jx_E, eq_self, jx_a0, jx_a1, ne_eq, not_false_eq_true, Nat.reduceLeDiff, Nat.reduceEqDiff, Nat.reduceLT, jx_subl, jx_al, jx_la, jx_nm, jx_ml, nI_add, jx_xn, jx_xl, jx_inn, jx_inl, jx_ltnn, jx_lenn, jx_eqnn, jx_ltnl, jx_lenl, jx_ltln, jx_leln, jx_eqnl, Int32.reduceAdd, Int32.reduceSub, Int32.reduceMul, Int32.reduceLT, Int32.reduceLE, jx_eqll, jx_ltll, Nat.reduceMul, Nat.reduceSub, forall_const, implies_true, false_implies, not_true_eq_false, true_implies, jx_tko, jx_ofn, jx_tka, jx_pro, jx_pra, and_self, Nat.not_lt_zero, k0, v0]
  refine jx_cV1 dL_law_277 li_L_36 c2 (congrArg Prod.fst (mo_k98 hM)) (by omega) (Nat.le_of_ble_eq_true rfl) ?_
  rintro _ _ hQ2 - -
  obtain ⟨rfl, n2, ms2, K2, I2, P2, rfl, h2⟩ := c3 _ _ hQ2
  simp only [Option.toList_some, List.cons_append, List.nil_append]
  refine jx_gq flok_0 fwok_0 716 1 _ _ _ _ ?_
  simp (disch := omega) only [↓reduceIte, jx_wp, jx_stp, jx_f0, jx_f1, jx_f2, jx_f3, List.getElem?_cons_zero, List.getElem?_cons_succ, List.set_cons_zero, List.set_cons_succ, Nat.reduceAdd, true_and, and_true, if_true, if_false, Bool.false_eq_true, jx_s, Nat.reduceLT, dL_law_280, tg_280_436, jx_wq, jx_stq, jx_ite, jx_b0, jx_bn0, jx_u_eq, jx_u_na, jx_u_ni, jx_nb0, jx_nb1, jx_ni, jx_E, eq_self, jx_a0, jx_a1, ne_eq, not_false_eq_true, Nat.reduceLeDiff, Nat.reduceEqDiff, Nat.reduceLT, jx_subl, jx_al, jx_la, jx_nm, jx_ml, nI_add, jx_xn, jx_xl, jx_inn, jx_inl, jx_ltnn, jx_lenn, jx_eqnn, jx_ltnl, jx_lenl, jx_ltln, jx_leln, jx_eqnl, Int32.reduceAdd, Int32.reduceSub, Int32.reduceMul, Int32.reduceLT, Int32.reduceLE, jx_eqll, jx_ltll, Nat.reduceMul, Nat.reduceSub, forall_const, implies_true, false_implies, not_true_eq_false, true_implies, jx_tko, jx_ofn, jx_tka, jx_pro, jx_pra, and_self, Nat.not_lt_zero]
  exact kk _ _ _ _ _ h2
set_option maxHeartbeats 4000000 in
set_option maxRecDepth 100000 in
theorem lc_bag {G : jx_G} {i : Nat} (hi : i + 4 ≤ jx_gL G) (hL : jx_gL G ≤ 2048) (kk : ∀ n ms K I P, la_I n ms K I P → jx_J G yL_law cL_law 4 (some FieldType.boolean) 13 (la_Q) 716 [some (.inr (some 0)), some (.inr (some 3)), some (.inr (some 98)), some (.inl (nI i))] [] (n, ms, K, I, P)) {n ms : Nat} {K : Nat → Nat × Nat} {I : Nat → Nat → Int32} {P : Nat → Nat → Option Nat} (h : la_I n ms K I P) : jx_J G yL_law cL_law 4 (some FieldType.boolean) 13 (la_Q) 285 [some (.inr (some 0)), some (.inr (some 3)), some (.inr (some 98)), some (.inl (nI i))] [] (n, ms, K, I, P) := by
  refine jx_sc (fun k0 v0 => ?_)
  have k0 : K 0 = (11, jx_gL G) := k0
  have v0 : ∀ j, j < jx_gL G → I 0 j = jx_gX G j := v0
  obtain ⟨d, d2, Q, hd, hd2, c1, c2⟩ := ld_bag (G := G)  h
  refine jx_gq flok_0 fwok_0 286 3 _ _ _ _ ?_
  simp (disch := omega) only [↓reduceIte, jx_wp, jx_stp, jx_f0, jx_f1, jx_f2, jx_f3, List.getElem?_cons_zero, List.getElem?_cons_succ, List.set_cons_zero, List.set_cons_succ, Nat.reduceAdd, true_and, and_true, if_true, if_false, Bool.false_eq_true, jx_s, Nat.reduceLT, dL_law_285, dL_law_286, jx_wq, jx_stq, jx_ite, jx_b0, jx_bn0, jx_u_eq, jx_u_na, jx_u_ni, jx_nb0, jx_nb1, jx_ni, jx_E, eq_self, jx_a0, jx_a1, ne_eq, not_false_eq_true, Nat.reduceLeDiff, Nat.reduceEqDiff, Nat.reduceLT, jx_subl, jx_al, jx_la, jx_nm, jx_ml, nI_add, jx_xn, jx_xl, jx_inn, jx_inl, jx_ltnn, jx_lenn, jx_eqnn, jx_ltnl, jx_lenl, jx_ltln, jx_leln, jx_eqnl, Int32.reduceAdd, Int32.reduceSub, Int32.reduceMul, Int32.reduceLT, Int32.reduceLE, jx_eqll, jx_ltll, Nat.reduceMul, Nat.reduceSub, forall_const, implies_true, false_implies, not_true_eq_false, true_implies, jx_tko, jx_ofn, jx_tka, jx_pro, jx_pra, and_self, Nat.not_lt_zero, k0, v0]
  refine jx_cV0 dL_law_286 li_L_37 c1 (congrArg Prod.fst (la_k3 h)) (by omega) (Nat.le_of_ble_eq_true rfl) ?_
  rintro _ ⟨n', ms', K', I', P'⟩ hQ - -
  obtain ⟨v, rfl, hM, Q2, c2, c3⟩ := c2 _ _ hQ
  simp only [Option.toList_some, List.cons_append, List.nil_append]
  refine jx_sc (fun k0' v0' => ?_)
  have k0 : K' 0 = (11, jx_gL G) := k0'
  have v0 : ∀ j, j < jx_gL G → I' 0 j = jx_gX G j := v0'
  refine jx_gq flok_0 fwok_0 290 3 _ _ _ _ ?_
  simp (disch := omega) only [↓reduceIte, jx_wp, jx_stp, jx_f0, jx_f1, jx_f2, jx_f3, List.getElem?_cons_zero, List.getElem?_cons_succ, List.set_cons_zero, List.set_cons_succ, Nat.reduceAdd, true_and, and_true, if_true, if_false, Bool.false_eq_true, jx_s, Nat.reduceLT, dL_law_289, dL_law_290, jx_wq, jx_stq, jx_ite, jx_b0, jx_bn0, jx_u_eq, jx_u_na, jx_u_ni, jx_nb0, jx_nb1, jx_ni, jx_E, eq_self, jx_a0, jx_a1, ne_eq, not_false_eq_true, Nat.reduceLeDiff, Nat.reduceEqDiff, Nat.reduceLT, jx_subl, jx_al, jx_la, jx_nm, jx_ml, nI_add, jx_xn, jx_xl, jx_inn, jx_inl, jx_ltnn, jx_lenn, jx_eqnn, jx_ltnl, jx_lenl, jx_ltln, jx_leln, jx_eqnl, Int32.reduceAdd, Int32.reduceSub, Int32.reduceMul, Int32.reduceLT, Int32.reduceLE, jx_eqll, jx_ltll, Nat.reduceMul, Nat.reduceSub, forall_const, implies_true, false_implies, not_true_eq_false, true_implies, jx_tko, jx_ofn, jx_tka, jx_pro, jx_pra, and_self, Nat.not_lt_zero, k0, v0]
  refine jx_cV0 dL_law_290 li_L_41 c2 (congrArg Prod.fst (mo_k98 hM)) (by omega) (Nat.le_of_ble_eq_true rfl) ?_
  rintro _ _ hQ2 - -
  obtain ⟨rfl, n2, ms2, K2, I2, P2, rfl, h2⟩ := c3 _ _ hQ2
  simp only [Option.toList_some, List.cons_append, List.nil_append]
  refine jx_gq flok_0 fwok_0 716 1 _ _ _ _ ?_
  simp (disch := omega) only [↓reduceIte, jx_wp, jx_stp, jx_f0, jx_f1, jx_f2, jx_f3, List.getElem?_cons_zero, List.getElem?_cons_succ, List.set_cons_zero, List.set_cons_succ, Nat.reduceAdd, true_and, and_true, if_true, if_false, Bool.false_eq_true, jx_s, Nat.reduceLT, dL_law_293, tg_293_423, jx_wq, jx_stq, jx_ite, jx_b0, jx_bn0, jx_u_eq, jx_u_na, jx_u_ni, jx_nb0, jx_nb1, jx_ni, jx_E, eq_self, jx_a0, jx_a1, ne_eq, not_false_eq_true, Nat.reduceLeDiff, Nat.reduceEqDiff, Nat.reduceLT, jx_subl, jx_al, jx_la, jx_nm, jx_ml, nI_add, jx_xn, jx_xl, jx_inn, jx_inl, jx_ltnn, jx_lenn, jx_eqnn, jx_ltnl, jx_lenl, jx_ltln, jx_leln, jx_eqnl, Int32.reduceAdd, Int32.reduceSub, Int32.reduceMul, Int32.reduceLT, Int32.reduceLE, jx_eqll, jx_ltll, Nat.reduceMul, Nat.reduceSub, forall_const, implies_true, false_implies, not_true_eq_false, true_implies, jx_tko, jx_ofn, jx_tka, jx_pro, jx_pra, and_self, Nat.not_lt_zero]
  exact kk _ _ _ _ _ h2
set_option maxHeartbeats 4000000 in
set_option maxRecDepth 100000 in
theorem lc_message {G : jx_G} {i : Nat} (hi : i + 4 ≤ jx_gL G) (hL : jx_gL G ≤ 2048) (kk : ∀ n ms K I P, la_I n ms K I P → jx_J G yL_law cL_law 4 (some FieldType.boolean) 13 (la_Q) 716 [some (.inr (some 0)), some (.inr (some 3)), some (.inr (some 98)), some (.inl (nI i))] [] (n, ms, K, I, P)) {n ms : Nat} {K : Nat → Nat × Nat} {I : Nat → Nat → Int32} {P : Nat → Nat → Option Nat} (h : la_I n ms K I P) : jx_J G yL_law cL_law 4 (some FieldType.boolean) 13 (la_Q) 298 [some (.inr (some 0)), some (.inr (some 3)), some (.inr (some 98)), some (.inl (nI i))] [] (n, ms, K, I, P) := by
  refine jx_sc (fun k0 v0 => ?_)
  have k0 : K 0 = (11, jx_gL G) := k0
  have v0 : ∀ j, j < jx_gL G → I 0 j = jx_gX G j := v0
  obtain ⟨d, d2, Q, hd, hd2, c1, c2⟩ := ld_message (G := G) (i := jx_gX G (i + 1)) (a := jx_gX G (i + 2)) h
  refine jx_gq flok_0 fwok_0 309 13 _ _ _ _ ?_
  simp (disch := omega) only [↓reduceIte, jx_wp, jx_stp, jx_f0, jx_f1, jx_f2, jx_f3, List.getElem?_cons_zero, List.getElem?_cons_succ, List.set_cons_zero, List.set_cons_succ, Nat.reduceAdd, true_and, and_true, if_true, if_false, Bool.false_eq_true, jx_s, Nat.reduceLT, dL_law_298, dL_law_299, dL_law_300, dL_law_301, dL_law_302, dL_law_303, dL_law_304, dL_law_305, dL_law_306, dL_law_307, dL_law_308, dL_law_309, jx_k1, jx_k2, jx_wq, jx_stq, jx_ite, jx_b0, jx_bn0, jx_u_eq, jx_u_na, jx_u_ni, jx_nb0, jx_nb1, jx_ni, jx_E, eq_self, jx_a0, jx_a1, ne_eq, not_false_eq_true, Nat.reduceLeDiff, Nat.reduceEqDiff, Nat.reduceLT, jx_subl, jx_al, jx_la, jx_nm, jx_ml, nI_add, jx_xn, jx_xl, jx_inn, jx_inl, jx_ltnn, jx_lenn, jx_eqnn, jx_ltnl, jx_lenl, jx_ltln, jx_leln, jx_eqnl, Int32.reduceAdd, Int32.reduceSub, Int32.reduceMul, Int32.reduceLT, Int32.reduceLE, jx_eqll, jx_ltll, Nat.reduceMul, Nat.reduceSub, forall_const, implies_true, false_implies, not_true_eq_false, true_implies, jx_tko, jx_ofn, jx_tka, jx_pro, jx_pra, and_self, Nat.not_lt_zero, k0, v0]
  refine jx_cV2 dL_law_309 li_L_42 c1 (congrArg Prod.fst (la_k3 h)) (by omega) (Nat.le_of_ble_eq_true rfl) ?_
  rintro _ ⟨n', ms', K', I', P'⟩ hQ - -
  obtain ⟨v, rfl, hM, Q2, c2, c3⟩ := c2 _ _ hQ
  simp only [Option.toList_some, List.cons_append, List.nil_append]
  refine jx_sc (fun k0' v0' => ?_)
  have k0 : K' 0 = (11, jx_gL G) := k0'
  have v0 : ∀ j, j < jx_gL G → I' 0 j = jx_gX G j := v0'
  refine jx_gq flok_0 fwok_0 323 13 _ _ _ _ ?_
  simp (disch := omega) only [↓reduceIte, jx_wp, jx_stp, jx_f0, jx_f1, jx_f2, jx_f3, List.getElem?_cons_zero, List.getElem?_cons_succ, List.set_cons_zero, List.set_cons_succ, Nat.reduceAdd, true_and, and_true, if_true, if_false, Bool.false_eq_true, jx_s, Nat.reduceLT, dL_law_312, dL_law_313, dL_law_314, dL_law_315, dL_law_316, dL_law_317, dL_law_318, dL_law_319, dL_law_320, dL_law_321, dL_law_322, dL_law_323, jx_k1, jx_k2, jx_wq, jx_stq, jx_ite, jx_b0, jx_bn0, jx_u_eq, jx_u_na, jx_u_ni, jx_nb0, jx_nb1, jx_ni, jx_E, eq_self, jx_a0, jx_a1, ne_eq, not_false_eq_true, Nat.reduceLeDiff, Nat.reduceEqDiff, Nat.reduceLT, jx_subl, jx_al, jx_la, jx_nm, jx_ml, nI_add, jx_xn, jx_xl, jx_inn, jx_inl, jx_ltnn, jx_lenn, jx_eqnn, jx_ltnl, jx_lenl, jx_ltln, jx_leln, jx_eqnl, Int32.reduceAdd, Int32.reduceSub, Int32.reduceMul, Int32.reduceLT, Int32.reduceLE, jx_eqll, jx_ltll, Nat.reduceMul, Nat.reduceSub, forall_const, implies_true, false_implies, not_true_eq_false, true_implies, jx_tko, jx_ofn, jx_tka, jx_pro, jx_pra, and_self, Nat.not_lt_zero, k0, v0]
  refine jx_cV2 dL_law_323 li_L_45 c2 (congrArg Prod.fst (mo_k98 hM)) (by omega) (Nat.le_of_ble_eq_true rfl) ?_
  rintro _ _ hQ2 - -
  obtain ⟨rfl, n2, ms2, K2, I2, P2, rfl, h2⟩ := c3 _ _ hQ2
  simp only [Option.toList_some, List.cons_append, List.nil_append]
  refine jx_gq flok_0 fwok_0 716 1 _ _ _ _ ?_
  simp (disch := omega) only [↓reduceIte, jx_wp, jx_stp, jx_f0, jx_f1, jx_f2, jx_f3, List.getElem?_cons_zero, List.getElem?_cons_succ, List.set_cons_zero, List.set_cons_succ, Nat.reduceAdd, true_and, and_true, if_true, if_false, Bool.false_eq_true, jx_s, Nat.reduceLT, dL_law_326, tg_326_390, jx_wq, jx_stq, jx_ite, jx_b0, jx_bn0, jx_u_eq, jx_u_na, jx_u_ni, jx_nb0, jx_nb1, jx_ni, jx_E, eq_self, jx_a0, jx_a1, ne_eq, not_false_eq_true, Nat.reduceLeDiff, Nat.reduceEqDiff, Nat.reduceLT, jx_subl, jx_al, jx_la, jx_nm, jx_ml, nI_add, jx_xn, jx_xl, jx_inn, jx_inl, jx_ltnn, jx_lenn, jx_eqnn, jx_ltnl, jx_lenl, jx_ltln, jx_leln, jx_eqnl, Int32.reduceAdd, Int32.reduceSub, Int32.reduceMul, Int32.reduceLT, Int32.reduceLE, jx_eqll, jx_ltll, Nat.reduceMul, Nat.reduceSub, forall_const, implies_true, false_implies, not_true_eq_false, true_implies, jx_tko, jx_ofn, jx_tka, jx_pro, jx_pra, and_self, Nat.not_lt_zero]
  exact kk _ _ _ _ _ h2
set_option maxHeartbeats 4000000 in
set_option maxRecDepth 100000 in
theorem lc_deliver {G : jx_G} {i : Nat} (hi : i + 4 ≤ jx_gL G) (hL : jx_gL G ≤ 2048) (kk : ∀ n ms K I P, la_I n ms K I P → jx_J G yL_law cL_law 4 (some FieldType.boolean) 13 (la_Q) 716 [some (.inr (some 0)), some (.inr (some 3)), some (.inr (some 98)), some (.inl (nI i))] [] (n, ms, K, I, P)) {n ms : Nat} {K : Nat → Nat × Nat} {I : Nat → Nat → Int32} {P : Nat → Nat → Option Nat} (h : la_I n ms K I P) : jx_J G yL_law cL_law 4 (some FieldType.boolean) 13 (la_Q) 331 [some (.inr (some 0)), some (.inr (some 3)), some (.inr (some 98)), some (.inl (nI i))] [] (n, ms, K, I, P) := by
  refine jx_sc (fun k0 v0 => ?_)
  have k0 : K 0 = (11, jx_gL G) := k0
  have v0 : ∀ j, j < jx_gL G → I 0 j = jx_gX G j := v0
  obtain ⟨d, d2, Q, hd, hd2, c1, c2⟩ := ld_deliver (G := G) (i := jx_gX G (i + 1)) h
  refine jx_gq flok_0 fwok_0 337 8 _ _ _ _ ?_
  simp (disch := omega) only [↓reduceIte, jx_wp, jx_stp, jx_f0, jx_f1, jx_f2, jx_f3, List.getElem?_cons_zero, List.getElem?_cons_succ, List.set_cons_zero, List.set_cons_succ, Nat.reduceAdd, true_and, and_true, if_true, if_false, Bool.false_eq_true, jx_s, Nat.reduceLT, dL_law_331, dL_law_332, dL_law_333, dL_law_334, dL_law_335, dL_law_336, dL_law_337, jx_k1, jx_wq, jx_stq, jx_ite, jx_b0, jx_bn0, jx_u_eq, jx_u_na, jx_u_ni, jx_nb0, jx_nb1, jx_ni, jx_E, eq_self, jx_a0, jx_a1, ne_eq, not_false_eq_true, Nat.reduceLeDiff, Nat.reduceEqDiff, Nat.reduceLT, jx_subl, jx_al, jx_la, jx_nm, jx_ml, nI_add, jx_xn, jx_xl, jx_inn, jx_inl, jx_ltnn, jx_lenn, jx_eqnn, jx_ltnl, jx_lenl, jx_ltln, jx_leln, jx_eqnl, Int32.reduceAdd, Int32.reduceSub, Int32.reduceMul, Int32.reduceLT, Int32.reduceLE, jx_eqll, jx_ltll, Nat.reduceMul, Nat.reduceSub, forall_const, implies_true, false_implies, not_true_eq_false, true_implies, jx_tko, jx_ofn, jx_tka, jx_pro, jx_pra, and_self, Nat.not_lt_zero, k0, v0]
  refine jx_cV1 dL_law_337 li_L_46 c1 (congrArg Prod.fst (la_k3 h)) (by omega) (Nat.le_of_ble_eq_true rfl) ?_
  rintro _ ⟨n', ms', K', I', P'⟩ hQ - -
  obtain ⟨v, rfl, hM, Q2, c2, c3⟩ := c2 _ _ hQ
  simp only [Option.toList_some, List.cons_append, List.nil_append]
  refine jx_sc (fun k0' v0' => ?_)
  have k0 : K' 0 = (11, jx_gL G) := k0'
  have v0 : ∀ j, j < jx_gL G → I' 0 j = jx_gX G j := v0'
  refine jx_gq flok_0 fwok_0 346 8 _ _ _ _ ?_
  simp (disch := omega) only [↓reduceIte, jx_wp, jx_stp, jx_f0, jx_f1, jx_f2, jx_f3, List.getElem?_cons_zero, List.getElem?_cons_succ, List.set_cons_zero, List.set_cons_succ, Nat.reduceAdd, true_and, and_true, if_true, if_false, Bool.false_eq_true, jx_s, Nat.reduceLT, dL_law_340, dL_law_341, dL_law_342, dL_law_343, dL_law_344, dL_law_345, dL_law_346, jx_k1, jx_wq, jx_stq, jx_ite, jx_b0, jx_bn0, jx_u_eq, jx_u_na, jx_u_ni, jx_nb0, jx_nb1, jx_ni, jx_E, eq_self, jx_a0, jx_a1, ne_eq, not_false_eq_true, Nat.reduceLeDiff, Nat.reduceEqDiff, Nat.reduceLT, jx_subl, jx_al, jx_la, jx_nm, jx_ml, nI_add, jx_xn, jx_xl, jx_inn, jx_inl, jx_ltnn, jx_lenn, jx_eqnn, jx_ltnl, jx_lenl, jx_ltln, jx_leln, jx_eqnl, Int32.reduceAdd, Int32.reduceSub, Int32.reduceMul, Int32.reduceLT, Int32.reduceLE, jx_eqll, jx_ltll, Nat.reduceMul, Nat.reduceSub, forall_const, implies_true, false_implies, not_true_eq_false, true_implies, jx_tko, jx_ofn, jx_tka, jx_pro, jx_pra, and_self, Nat.not_lt_zero, k0, v0]
  refine jx_cV1 dL_law_346 li_L_49 c2 (congrArg Prod.fst (mo_k98 hM)) (by omega) (Nat.le_of_ble_eq_true rfl) ?_
  rintro _ _ hQ2 - -
  obtain ⟨rfl, n2, ms2, K2, I2, P2, rfl, h2⟩ := c3 _ _ hQ2
  simp only [Option.toList_some, List.cons_append, List.nil_append]
  refine jx_gq flok_0 fwok_0 716 1 _ _ _ _ ?_
  simp (disch := omega) only [↓reduceIte, jx_wp, jx_stp, jx_f0, jx_f1, jx_f2, jx_f3, List.getElem?_cons_zero, List.getElem?_cons_succ, List.set_cons_zero, List.set_cons_succ, Nat.reduceAdd, true_and, and_true, if_true, if_false, Bool.false_eq_true, jx_s, Nat.reduceLT, dL_law_349, tg_349_367, jx_wq, jx_stq, jx_ite, jx_b0, jx_bn0, jx_u_eq, jx_u_na, jx_u_ni, jx_nb0, jx_nb1, jx_ni, jx_E, eq_self, jx_a0, jx_a1, ne_eq, not_false_eq_true, Nat.reduceLeDiff, Nat.reduceEqDiff, Nat.reduceLT, jx_subl, jx_al, jx_la, jx_nm, jx_ml, nI_add, jx_xn, jx_xl, jx_inn, jx_inl, jx_ltnn, jx_lenn, jx_eqnn, jx_ltnl, jx_lenl, jx_ltln, jx_leln, jx_eqnl, Int32.reduceAdd, Int32.reduceSub, Int32.reduceMul, Int32.reduceLT, Int32.reduceLE, jx_eqll, jx_ltll, Nat.reduceMul, Nat.reduceSub, forall_const, implies_true, false_implies, not_true_eq_false, true_implies, jx_tko, jx_ofn, jx_tka, jx_pro, jx_pra, and_self, Nat.not_lt_zero]
  exact kk _ _ _ _ _ h2
set_option maxHeartbeats 4000000 in
set_option maxRecDepth 100000 in
theorem lc_lose {G : jx_G} {i : Nat} (hi : i + 4 ≤ jx_gL G) (hL : jx_gL G ≤ 2048) (kk : ∀ n ms K I P, la_I n ms K I P → jx_J G yL_law cL_law 4 (some FieldType.boolean) 13 (la_Q) 716 [some (.inr (some 0)), some (.inr (some 3)), some (.inr (some 98)), some (.inl (nI i))] [] (n, ms, K, I, P)) {n ms : Nat} {K : Nat → Nat × Nat} {I : Nat → Nat → Int32} {P : Nat → Nat → Option Nat} (h : la_I n ms K I P) : jx_J G yL_law cL_law 4 (some FieldType.boolean) 13 (la_Q) 354 [some (.inr (some 0)), some (.inr (some 3)), some (.inr (some 98)), some (.inl (nI i))] [] (n, ms, K, I, P) := by
  refine jx_sc (fun k0 v0 => ?_)
  have k0 : K 0 = (11, jx_gL G) := k0
  have v0 : ∀ j, j < jx_gL G → I 0 j = jx_gX G j := v0
  obtain ⟨d, d2, Q, hd, hd2, c1, c2⟩ := ld_lose (G := G) (i := jx_gX G (i + 1)) h
  refine jx_gq flok_0 fwok_0 360 8 _ _ _ _ ?_
  simp (disch := omega) only [↓reduceIte, jx_wp, jx_stp, jx_f0, jx_f1, jx_f2, jx_f3, List.getElem?_cons_zero, List.getElem?_cons_succ, List.set_cons_zero, List.set_cons_succ, Nat.reduceAdd, true_and, and_true, if_true, if_false, Bool.false_eq_true, jx_s, Nat.reduceLT, dL_law_354, dL_law_355, dL_law_356, dL_law_357, dL_law_358, dL_law_359, dL_law_360, jx_k1, jx_wq, jx_stq, jx_ite, jx_b0, jx_bn0, jx_u_eq, jx_u_na, jx_u_ni, jx_nb0, jx_nb1, jx_ni, jx_E, eq_self, jx_a0, jx_a1, ne_eq, not_false_eq_true, Nat.reduceLeDiff, Nat.reduceEqDiff, Nat.reduceLT, jx_subl, jx_al, jx_la, jx_nm, jx_ml, nI_add, jx_xn, jx_xl, jx_inn, jx_inl, jx_ltnn, jx_lenn, jx_eqnn, jx_ltnl, jx_lenl, jx_ltln, jx_leln, jx_eqnl, Int32.reduceAdd, Int32.reduceSub, Int32.reduceMul, Int32.reduceLT, Int32.reduceLE, jx_eqll, jx_ltll, Nat.reduceMul, Nat.reduceSub, forall_const, implies_true, false_implies, not_true_eq_false, true_implies, jx_tko, jx_ofn, jx_tka, jx_pro, jx_pra, and_self, Nat.not_lt_zero, k0, v0]
  refine jx_cV1 dL_law_360 li_L_50 c1 (congrArg Prod.fst (la_k3 h)) (by omega) (Nat.le_of_ble_eq_true rfl) ?_
  rintro _ ⟨n', ms', K', I', P'⟩ hQ - -
  obtain ⟨v, rfl, hM, Q2, c2, c3⟩ := c2 _ _ hQ
  simp only [Option.toList_some, List.cons_append, List.nil_append]
  refine jx_sc (fun k0' v0' => ?_)
  have k0 : K' 0 = (11, jx_gL G) := k0'
  have v0 : ∀ j, j < jx_gL G → I' 0 j = jx_gX G j := v0'
  refine jx_gq flok_0 fwok_0 369 8 _ _ _ _ ?_
  simp (disch := omega) only [↓reduceIte, jx_wp, jx_stp, jx_f0, jx_f1, jx_f2, jx_f3, List.getElem?_cons_zero, List.getElem?_cons_succ, List.set_cons_zero, List.set_cons_succ, Nat.reduceAdd, true_and, and_true, if_true, if_false, Bool.false_eq_true, jx_s, Nat.reduceLT, dL_law_363, dL_law_364, dL_law_365, dL_law_366, dL_law_367, dL_law_368, dL_law_369, jx_k1, jx_wq, jx_stq, jx_ite, jx_b0, jx_bn0, jx_u_eq, jx_u_na, jx_u_ni, jx_nb0, jx_nb1, jx_ni, jx_E, eq_self, jx_a0, jx_a1, ne_eq, not_false_eq_true, Nat.reduceLeDiff, Nat.reduceEqDiff, Nat.reduceLT, jx_subl, jx_al, jx_la, jx_nm, jx_ml, nI_add, jx_xn, jx_xl, jx_inn, jx_inl, jx_ltnn, jx_lenn, jx_eqnn, jx_ltnl, jx_lenl, jx_ltln, jx_leln, jx_eqnl, Int32.reduceAdd, Int32.reduceSub, Int32.reduceMul, Int32.reduceLT, Int32.reduceLE, jx_eqll, jx_ltll, Nat.reduceMul, Nat.reduceSub, forall_const, implies_true, false_implies, not_true_eq_false, true_implies, jx_tko, jx_ofn, jx_tka, jx_pro, jx_pra, and_self, Nat.not_lt_zero, k0, v0]
  refine jx_cV1 dL_law_369 li_L_54 c2 (congrArg Prod.fst (mo_k98 hM)) (by omega) (Nat.le_of_ble_eq_true rfl) ?_
  rintro _ _ hQ2 - -
  obtain ⟨rfl, n2, ms2, K2, I2, P2, rfl, h2⟩ := c3 _ _ hQ2
  simp only [Option.toList_some, List.cons_append, List.nil_append]
  refine jx_gq flok_0 fwok_0 716 1 _ _ _ _ ?_
  simp (disch := omega) only [↓reduceIte, jx_wp, jx_stp, jx_f0, jx_f1, jx_f2, jx_f3, List.getElem?_cons_zero, List.getElem?_cons_succ, List.set_cons_zero, List.set_cons_succ, Nat.reduceAdd, true_and, and_true, if_true, if_false, Bool.false_eq_true, jx_s, Nat.reduceLT, dL_law_372, tg_372_344, jx_wq, jx_stq, jx_ite, jx_b0, jx_bn0, jx_u_eq, jx_u_na, jx_u_ni, jx_nb0, jx_nb1, jx_ni, jx_E, eq_self, jx_a0, jx_a1, ne_eq, not_false_eq_true, Nat.reduceLeDiff, Nat.reduceEqDiff, Nat.reduceLT, jx_subl, jx_al, jx_la, jx_nm, jx_ml, nI_add, jx_xn, jx_xl, jx_inn, jx_inl, jx_ltnn, jx_lenn, jx_eqnn, jx_ltnl, jx_lenl, jx_ltln, jx_leln, jx_eqnl, Int32.reduceAdd, Int32.reduceSub, Int32.reduceMul, Int32.reduceLT, Int32.reduceLE, jx_eqll, jx_ltll, Nat.reduceMul, Nat.reduceSub, forall_const, implies_true, false_implies, not_true_eq_false, true_implies, jx_tko, jx_ofn, jx_tka, jx_pro, jx_pra, and_self, Nat.not_lt_zero]
  exact kk _ _ _ _ _ h2
set_option maxHeartbeats 4000000 in
set_option maxRecDepth 100000 in
theorem lc_run {G : jx_G} {i : Nat} (hi : i + 4 ≤ jx_gL G) (hL : jx_gL G ≤ 2048) (kk : ∀ n ms K I P, la_I n ms K I P → jx_J G yL_law cL_law 4 (some FieldType.boolean) 13 (la_Q) 716 [some (.inr (some 0)), some (.inr (some 3)), some (.inr (some 98)), some (.inl (nI i))] [] (n, ms, K, I, P)) {n ms : Nat} {K : Nat → Nat × Nat} {I : Nat → Nat → Int32} {P : Nat → Nat → Option Nat} (h : la_I n ms K I P) : jx_J G yL_law cL_law 4 (some FieldType.boolean) 13 (la_Q) 377 [some (.inr (some 0)), some (.inr (some 3)), some (.inr (some 98)), some (.inl (nI i))] [] (n, ms, K, I, P) := by
  refine jx_sc (fun k0 v0 => ?_)
  have k0 : K 0 = (11, jx_gL G) := k0
  have v0 : ∀ j, j < jx_gL G → I 0 j = jx_gX G j := v0
  obtain ⟨d, d2, Q, hd, hd2, c1, c2⟩ := ld_run (G := G) (s := jx_gX G (i + 1)) (m := jx_gX G (i + 2)) h
  refine jx_gq flok_0 fwok_0 388 13 _ _ _ _ ?_
  simp (disch := omega) only [↓reduceIte, jx_wp, jx_stp, jx_f0, jx_f1, jx_f2, jx_f3, List.getElem?_cons_zero, List.getElem?_cons_succ, List.set_cons_zero, List.set_cons_succ, Nat.reduceAdd, true_and, and_true, if_true, if_false, Bool.false_eq_true, jx_s, Nat.reduceLT, dL_law_377, dL_law_378, dL_law_379, dL_law_380, dL_law_381, dL_law_382, dL_law_383, dL_law_384, dL_law_385, dL_law_386, dL_law_387, dL_law_388, jx_k1, jx_k2, jx_wq, jx_stq, jx_ite, jx_b0, jx_bn0, jx_u_eq, jx_u_na, jx_u_ni, jx_nb0, jx_nb1, jx_ni, jx_E, eq_self, jx_a0, jx_a1, ne_eq, not_false_eq_true, Nat.reduceLeDiff, Nat.reduceEqDiff, Nat.reduceLT, jx_subl, jx_al, jx_la, jx_nm, jx_ml, nI_add, jx_xn, jx_xl, jx_inn, jx_inl, jx_ltnn, jx_lenn, jx_eqnn, jx_ltnl, jx_lenl, jx_ltln, jx_leln, jx_eqnl, Int32.reduceAdd, Int32.reduceSub, Int32.reduceMul, Int32.reduceLT, Int32.reduceLE, jx_eqll, jx_ltll, Nat.reduceMul, Nat.reduceSub, forall_const, implies_true, false_implies, not_true_eq_false, true_implies, jx_tko, jx_ofn, jx_tka, jx_pro, jx_pra, and_self, Nat.not_lt_zero, k0, v0]
  refine jx_cV2 dL_law_388 li_L_55 c1 (congrArg Prod.fst (la_k3 h)) (by omega) (Nat.le_of_ble_eq_true rfl) ?_
  rintro _ ⟨n', ms', K', I', P'⟩ hQ - -
  obtain ⟨v, rfl, hM, Q2, c2, c3⟩ := c2 _ _ hQ
  simp only [Option.toList_some, List.cons_append, List.nil_append]
  refine jx_sc (fun k0' v0' => ?_)
  have k0 : K' 0 = (11, jx_gL G) := k0'
  have v0 : ∀ j, j < jx_gL G → I' 0 j = jx_gX G j := v0'
  refine jx_gq flok_0 fwok_0 402 13 _ _ _ _ ?_
  simp (disch := omega) only [↓reduceIte, jx_wp, jx_stp, jx_f0, jx_f1, jx_f2, jx_f3, List.getElem?_cons_zero, List.getElem?_cons_succ, List.set_cons_zero, List.set_cons_succ, Nat.reduceAdd, true_and, and_true, if_true, if_false, Bool.false_eq_true, jx_s, Nat.reduceLT, dL_law_391, dL_law_392, dL_law_393, dL_law_394, dL_law_395, dL_law_396, dL_law_397, dL_law_398, dL_law_399, dL_law_400, dL_law_401, dL_law_402, jx_k1, jx_k2, jx_wq, jx_stq, jx_ite, jx_b0, jx_bn0, jx_u_eq, jx_u_na, jx_u_ni, jx_nb0, jx_nb1, jx_ni, jx_E, eq_self, jx_a0, jx_a1, ne_eq, not_false_eq_true, Nat.reduceLeDiff, Nat.reduceEqDiff, Nat.reduceLT, jx_subl, jx_al, jx_la, jx_nm, jx_ml, nI_add, jx_xn, jx_xl, jx_inn, jx_inl, jx_ltnn, jx_lenn, jx_eqnn, jx_ltnl, jx_lenl, jx_ltln, jx_leln, jx_eqnl, Int32.reduceAdd, Int32.reduceSub, Int32.reduceMul, Int32.reduceLT, Int32.reduceLE, jx_eqll, jx_ltll, Nat.reduceMul, Nat.reduceSub, forall_const, implies_true, false_implies, not_true_eq_false, true_implies, jx_tko, jx_ofn, jx_tka, jx_pro, jx_pra, and_self, Nat.not_lt_zero, k0, v0]
  refine jx_cV2 dL_law_402 li_L_58 c2 (congrArg Prod.fst (mo_k98 hM)) (by omega) (Nat.le_of_ble_eq_true rfl) ?_
  rintro _ _ hQ2 - -
  obtain ⟨rfl, n2, ms2, K2, I2, P2, rfl, h2⟩ := c3 _ _ hQ2
  simp only [Option.toList_some, List.cons_append, List.nil_append]
  refine jx_gq flok_0 fwok_0 716 1 _ _ _ _ ?_
  simp (disch := omega) only [↓reduceIte, jx_wp, jx_stp, jx_f0, jx_f1, jx_f2, jx_f3, List.getElem?_cons_zero, List.getElem?_cons_succ, List.set_cons_zero, List.set_cons_succ, Nat.reduceAdd, true_and, and_true, if_true, if_false, Bool.false_eq_true, jx_s, Nat.reduceLT, dL_law_405, tg_405_311, jx_wq, jx_stq, jx_ite, jx_b0, jx_bn0, jx_u_eq, jx_u_na, jx_u_ni, jx_nb0, jx_nb1, jx_ni, jx_E, eq_self, jx_a0, jx_a1, ne_eq, not_false_eq_true, Nat.reduceLeDiff, Nat.reduceEqDiff, Nat.reduceLT, jx_subl, jx_al, jx_la, jx_nm, jx_ml, nI_add, jx_xn, jx_xl, jx_inn, jx_inl, jx_ltnn, jx_lenn, jx_eqnn, jx_ltnl, jx_lenl, jx_ltln, jx_leln, jx_eqnl, Int32.reduceAdd, Int32.reduceSub, Int32.reduceMul, Int32.reduceLT, Int32.reduceLE, jx_eqll, jx_ltll, Nat.reduceMul, Nat.reduceSub, forall_const, implies_true, false_implies, not_true_eq_false, true_implies, jx_tko, jx_ofn, jx_tka, jx_pro, jx_pra, and_self, Nat.not_lt_zero]
  exact kk _ _ _ _ _ h2
set_option maxHeartbeats 4000000 in
set_option maxRecDepth 100000 in
theorem lc_stop {G : jx_G} {i : Nat} (hi : i + 4 ≤ jx_gL G) (hL : jx_gL G ≤ 2048) (kk : ∀ n ms K I P, la_I n ms K I P → jx_J G yL_law cL_law 4 (some FieldType.boolean) 13 (la_Q) 716 [some (.inr (some 0)), some (.inr (some 3)), some (.inr (some 98)), some (.inl (nI i))] [] (n, ms, K, I, P)) {n ms : Nat} {K : Nat → Nat × Nat} {I : Nat → Nat → Int32} {P : Nat → Nat → Option Nat} (h : la_I n ms K I P) : jx_J G yL_law cL_law 4 (some FieldType.boolean) 13 (la_Q) 410 [some (.inr (some 0)), some (.inr (some 3)), some (.inr (some 98)), some (.inl (nI i))] [] (n, ms, K, I, P) := by
  refine jx_sc (fun k0 v0 => ?_)
  have k0 : K 0 = (11, jx_gL G) := k0
  have v0 : ∀ j, j < jx_gL G → I 0 j = jx_gX G j := v0
  by_cases hb : jx_gX G (i + 1) = 0
  · obtain ⟨d, d2, Q, hd, hd2, c1, c2⟩ := ld_stop_s (G := G) (s := jx_gX G (i + 2)) h
    refine jx_gq flok_0 fwok_0 429 17 _ _ _ _ ?_
    simp (disch := omega) only [↓reduceIte, jx_wp, jx_stp, jx_f0, jx_f1, jx_f2, jx_f3, List.getElem?_cons_zero, List.getElem?_cons_succ, List.set_cons_zero, List.set_cons_succ, Nat.reduceAdd, true_and, and_true, if_true, if_false, Bool.false_eq_true, jx_s, Nat.reduceLT, dL_law_410, dL_law_411, dL_law_412, dL_law_413, dL_law_414, dL_law_415, dL_law_416, dL_law_419, dL_law_420, dL_law_423, dL_law_424, dL_law_425, dL_law_426, dL_law_427, dL_law_428, dL_law_429, jx_k1, tg_416_7, tg_420_4, jx_k0, jx_k2, jx_wq, jx_stq, jx_ite, jx_b0, jx_bn0, jx_u_eq, jx_u_na, jx_u_ni, jx_nb0, jx_nb1, jx_ni, jx_E, eq_self, jx_a0, jx_a1, ne_eq, not_false_eq_true, Nat.reduceLeDiff, Nat.reduceEqDiff, Nat.reduceLT, jx_subl, jx_al, jx_la, jx_nm, jx_ml, nI_add, jx_xn, jx_xl, jx_inn, jx_inl, jx_ltnn, jx_lenn, jx_eqnn, jx_ltnl, jx_lenl, jx_ltln, jx_leln, jx_eqnl, Int32.reduceAdd, Int32.reduceSub, Int32.reduceMul, Int32.reduceLT, Int32.reduceLE, jx_eqll, jx_ltll, Nat.reduceMul, Nat.reduceSub, forall_const, implies_true, false_implies, not_true_eq_false, true_implies, jx_tko, jx_ofn, jx_tka, jx_pro, jx_pra, and_self, Nat.not_lt_zero, k0, v0, hb]
    refine jx_cV2 dL_law_429 li_L_59 c1 (congrArg Prod.fst (la_k3 h)) (by omega) (Nat.le_of_ble_eq_true rfl) ?_
    rintro _ ⟨n', ms', K', I', P'⟩ hQ - -
    obtain ⟨v, rfl, hM, Q2, c2, c3⟩ := c2 _ _ hQ
    simp only [Option.toList_some, List.cons_append, List.nil_append]
    refine jx_sc (fun k0' v0' => ?_)
    have k0 : K' 0 = (11, jx_gL G) := k0'
    have v0 : ∀ j, j < jx_gL G → I' 0 j = jx_gX G j := v0'
    refine jx_gq flok_0 fwok_0 451 17 _ _ _ _ ?_
    simp (disch := omega) only [↓reduceIte, jx_wp, jx_stp, jx_f0, jx_f1, jx_f2, jx_f3, List.getElem?_cons_zero, List.getElem?_cons_succ, List.set_cons_zero, List.set_cons_succ, Nat.reduceAdd, true_and, and_true, if_true, if_false, Bool.false_eq_true, jx_s, Nat.reduceLT, dL_law_432, dL_law_433, dL_law_434, dL_law_435, dL_law_436, dL_law_437, dL_law_438, dL_law_441, dL_law_442, dL_law_445, dL_law_446, dL_law_447, dL_law_448, dL_law_449, dL_law_450, dL_law_451, jx_k1, tg_438_7, tg_442_4, jx_k0, jx_k2, jx_wq, jx_stq, jx_ite, jx_b0, jx_bn0, jx_u_eq, jx_u_na, jx_u_ni, jx_nb0, jx_nb1, jx_ni, jx_E, eq_self, jx_a0, jx_a1, ne_eq, not_false_eq_true, Nat.reduceLeDiff, Nat.reduceEqDiff, Nat.reduceLT, jx_subl, jx_al, jx_la, jx_nm, jx_ml, nI_add, jx_xn, jx_xl, jx_inn, jx_inl, jx_ltnn, jx_lenn, jx_eqnn, jx_ltnl, jx_lenl, jx_ltln, jx_leln, jx_eqnl, Int32.reduceAdd, Int32.reduceSub, Int32.reduceMul, Int32.reduceLT, Int32.reduceLE, jx_eqll, jx_ltll, Nat.reduceMul, Nat.reduceSub, forall_const, implies_true, false_implies, not_true_eq_false, true_implies, jx_tko, jx_ofn, jx_tka, jx_pro, jx_pra, and_self, Nat.not_lt_zero, k0, v0, hb]
    refine jx_cV2 dL_law_451 li_L_63 c2 (congrArg Prod.fst (mo_k98 hM)) (by omega) (Nat.le_of_ble_eq_true rfl) ?_
    rintro _ _ hQ2 - -
    obtain ⟨rfl, n2, ms2, K2, I2, P2, rfl, h2⟩ := c3 _ _ hQ2
    simp only [Option.toList_some, List.cons_append, List.nil_append]
    refine jx_gq flok_0 fwok_0 716 1 _ _ _ _ ?_
    simp (disch := omega) only [↓reduceIte, jx_wp, jx_stp, jx_f0, jx_f1, jx_f2, jx_f3, List.getElem?_cons_zero, List.getElem?_cons_succ, List.set_cons_zero, List.set_cons_succ, Nat.reduceAdd, true_and, and_true, if_true, if_false, Bool.false_eq_true, jx_s, Nat.reduceLT, dL_law_454, tg_454_262, jx_wq, jx_stq, jx_ite, jx_b0, jx_bn0, jx_u_eq, jx_u_na, jx_u_ni, jx_nb0, jx_nb1, jx_ni, jx_E, eq_self, jx_a0, jx_a1, ne_eq, not_false_eq_true, Nat.reduceLeDiff, Nat.reduceEqDiff, Nat.reduceLT, jx_subl, jx_al, jx_la, jx_nm, jx_ml, nI_add, jx_xn, jx_xl, jx_inn, jx_inl, jx_ltnn, jx_lenn, jx_eqnn, jx_ltnl, jx_lenl, jx_ltln, jx_leln, jx_eqnl, Int32.reduceAdd, Int32.reduceSub, Int32.reduceMul, Int32.reduceLT, Int32.reduceLE, jx_eqll, jx_ltll, Nat.reduceMul, Nat.reduceSub, forall_const, implies_true, false_implies, not_true_eq_false, true_implies, jx_tko, jx_ofn, jx_tka, jx_pro, jx_pra, and_self, Nat.not_lt_zero]
    exact kk _ _ _ _ _ h2
  · obtain ⟨d, d2, Q, hd, hd2, c1, c2⟩ := ld_stop_c (G := G) (s := jx_gX G (i + 2)) h
    refine jx_gq flok_0 fwok_0 429 17 _ _ _ _ ?_
    simp (disch := omega) only [↓reduceIte, jx_wp, jx_stp, jx_f0, jx_f1, jx_f2, jx_f3, List.getElem?_cons_zero, List.getElem?_cons_succ, List.set_cons_zero, List.set_cons_succ, Nat.reduceAdd, true_and, and_true, if_true, if_false, Bool.false_eq_true, jx_s, Nat.reduceLT, dL_law_410, dL_law_411, dL_law_412, dL_law_413, dL_law_414, dL_law_415, dL_law_416, dL_law_419, dL_law_420, dL_law_423, dL_law_424, dL_law_425, dL_law_426, dL_law_427, dL_law_428, dL_law_429, jx_k1, tg_416_7, tg_420_4, jx_k0, jx_k2, jx_wq, jx_stq, jx_ite, jx_b0, jx_bn0, jx_u_eq, jx_u_na, jx_u_ni, jx_nb0, jx_nb1, jx_ni, jx_E, eq_self, jx_a0, jx_a1, ne_eq, not_false_eq_true, Nat.reduceLeDiff, Nat.reduceEqDiff, Nat.reduceLT, jx_subl, jx_al, jx_la, jx_nm, jx_ml, nI_add, jx_xn, jx_xl, jx_inn, jx_inl, jx_ltnn, jx_lenn, jx_eqnn, jx_ltnl, jx_lenl, jx_ltln, jx_leln, jx_eqnl, Int32.reduceAdd, Int32.reduceSub, Int32.reduceMul, Int32.reduceLT, Int32.reduceLE, jx_eqll, jx_ltll, Nat.reduceMul, Nat.reduceSub, forall_const, implies_true, false_implies, not_true_eq_false, true_implies, jx_tko, jx_ofn, jx_tka, jx_pro, jx_pra, and_self, Nat.not_lt_zero, k0, v0, hb]
    refine jx_cV2 dL_law_429 li_L_59 c1 (congrArg Prod.fst (la_k3 h)) (by omega) (Nat.le_of_ble_eq_true rfl) ?_
    rintro _ ⟨n', ms', K', I', P'⟩ hQ - -
    obtain ⟨v, rfl, hM, Q2, c2, c3⟩ := c2 _ _ hQ
    simp only [Option.toList_some, List.cons_append, List.nil_append]
    refine jx_sc (fun k0' v0' => ?_)
    have k0 : K' 0 = (11, jx_gL G) := k0'
    have v0 : ∀ j, j < jx_gL G → I' 0 j = jx_gX G j := v0'
    refine jx_gq flok_0 fwok_0 451 17 _ _ _ _ ?_
    simp (disch := omega) only [↓reduceIte, jx_wp, jx_stp, jx_f0, jx_f1, jx_f2, jx_f3, List.getElem?_cons_zero, List.getElem?_cons_succ, List.set_cons_zero, List.set_cons_succ, Nat.reduceAdd, true_and, and_true, if_true, if_false, Bool.false_eq_true, jx_s, Nat.reduceLT, dL_law_432, dL_law_433, dL_law_434, dL_law_435, dL_law_436, dL_law_437, dL_law_438, dL_law_441, dL_law_442, dL_law_445, dL_law_446, dL_law_447, dL_law_448, dL_law_449, dL_law_450, dL_law_451, jx_k1, tg_438_7, tg_442_4, jx_k0, jx_k2, jx_wq, jx_stq, jx_ite, jx_b0, jx_bn0, jx_u_eq, jx_u_na, jx_u_ni, jx_nb0, jx_nb1, jx_ni, jx_E, eq_self, jx_a0, jx_a1, ne_eq, not_false_eq_true, Nat.reduceLeDiff, Nat.reduceEqDiff, Nat.reduceLT, jx_subl, jx_al, jx_la, jx_nm, jx_ml, nI_add, jx_xn, jx_xl, jx_inn, jx_inl, jx_ltnn, jx_lenn, jx_eqnn, jx_ltnl, jx_lenl, jx_ltln, jx_leln, jx_eqnl, Int32.reduceAdd, Int32.reduceSub, Int32.reduceMul, Int32.reduceLT, Int32.reduceLE, jx_eqll, jx_ltll, Nat.reduceMul, Nat.reduceSub, forall_const, implies_true, false_implies, not_true_eq_false, true_implies, jx_tko, jx_ofn, jx_tka, jx_pro, jx_pra, and_self, Nat.not_lt_zero, k0, v0, hb]
    refine jx_cV2 dL_law_451 li_L_63 c2 (congrArg Prod.fst (mo_k98 hM)) (by omega) (Nat.le_of_ble_eq_true rfl) ?_
    rintro _ _ hQ2 - -
    obtain ⟨rfl, n2, ms2, K2, I2, P2, rfl, h2⟩ := c3 _ _ hQ2
    simp only [Option.toList_some, List.cons_append, List.nil_append]
    refine jx_gq flok_0 fwok_0 716 1 _ _ _ _ ?_
    simp (disch := omega) only [↓reduceIte, jx_wp, jx_stp, jx_f0, jx_f1, jx_f2, jx_f3, List.getElem?_cons_zero, List.getElem?_cons_succ, List.set_cons_zero, List.set_cons_succ, Nat.reduceAdd, true_and, and_true, if_true, if_false, Bool.false_eq_true, jx_s, Nat.reduceLT, dL_law_454, tg_454_262, jx_wq, jx_stq, jx_ite, jx_b0, jx_bn0, jx_u_eq, jx_u_na, jx_u_ni, jx_nb0, jx_nb1, jx_ni, jx_E, eq_self, jx_a0, jx_a1, ne_eq, not_false_eq_true, Nat.reduceLeDiff, Nat.reduceEqDiff, Nat.reduceLT, jx_subl, jx_al, jx_la, jx_nm, jx_ml, nI_add, jx_xn, jx_xl, jx_inn, jx_inl, jx_ltnn, jx_lenn, jx_eqnn, jx_ltnl, jx_lenl, jx_ltln, jx_leln, jx_eqnl, Int32.reduceAdd, Int32.reduceSub, Int32.reduceMul, Int32.reduceLT, Int32.reduceLE, jx_eqll, jx_ltll, Nat.reduceMul, Nat.reduceSub, forall_const, implies_true, false_implies, not_true_eq_false, true_implies, jx_tko, jx_ofn, jx_tka, jx_pro, jx_pra, and_self, Nat.not_lt_zero]
    exact kk _ _ _ _ _ h2
set_option maxHeartbeats 4000000 in
set_option maxRecDepth 100000 in
theorem lc_map {G : jx_G} {i : Nat} (hi : i + 4 ≤ jx_gL G) (hL : jx_gL G ≤ 2048) (kk : ∀ n ms K I P, la_I n ms K I P → jx_J G yL_law cL_law 4 (some FieldType.boolean) 13 (la_Q) 716 [some (.inr (some 0)), some (.inr (some 3)), some (.inr (some 98)), some (.inl (nI i))] [] (n, ms, K, I, P)) {n ms : Nat} {K : Nat → Nat × Nat} {I : Nat → Nat → Int32} {P : Nat → Nat → Option Nat} (h : la_I n ms K I P) : jx_J G yL_law cL_law 4 (some FieldType.boolean) 13 (la_Q) 459 [some (.inr (some 0)), some (.inr (some 3)), some (.inr (some 98)), some (.inl (nI i))] [] (n, ms, K, I, P) := by
  refine jx_sc (fun k0 v0 => ?_)
  have k0 : K 0 = (11, jx_gL G) := k0
  have v0 : ∀ j, j < jx_gL G → I 0 j = jx_gX G j := v0
  by_cases hb : jx_gX G (i + 1) = 0
  · obtain ⟨d, d2, Q, hd, hd2, c1, c2⟩ := ld_map_s (G := G) (s := jx_gX G (i + 2)) (m := jx_gX G (i + 3)) h
    refine jx_gq flok_0 fwok_0 483 22 _ _ _ _ ?_
    simp (disch := omega) only [↓reduceIte, jx_wp, jx_stp, jx_f0, jx_f1, jx_f2, jx_f3, List.getElem?_cons_zero, List.getElem?_cons_succ, List.set_cons_zero, List.set_cons_succ, Nat.reduceAdd, true_and, and_true, if_true, if_false, Bool.false_eq_true, jx_s, Nat.reduceLT, dL_law_459, dL_law_460, dL_law_461, dL_law_462, dL_law_463, dL_law_464, dL_law_465, dL_law_468, dL_law_469, dL_law_472, dL_law_473, dL_law_474, dL_law_475, dL_law_476, dL_law_477, dL_law_478, dL_law_479, dL_law_480, dL_law_481, dL_law_482, dL_law_483, jx_k1, tg_465_7, tg_469_4, jx_k0, jx_k2, jx_k3, jx_wq, jx_stq, jx_ite, jx_b0, jx_bn0, jx_u_eq, jx_u_na, jx_u_ni, jx_nb0, jx_nb1, jx_ni, jx_E, eq_self, jx_a0, jx_a1, ne_eq, not_false_eq_true, Nat.reduceLeDiff, Nat.reduceEqDiff, Nat.reduceLT, jx_subl, jx_al, jx_la, jx_nm, jx_ml, nI_add, jx_xn, jx_xl, jx_inn, jx_inl, jx_ltnn, jx_lenn, jx_eqnn, jx_ltnl, jx_lenl, jx_ltln, jx_leln, jx_eqnl, Int32.reduceAdd, Int32.reduceSub, Int32.reduceMul, Int32.reduceLT, Int32.reduceLE, jx_eqll, jx_ltll, Nat.reduceMul, Nat.reduceSub, forall_const, implies_true, false_implies, not_true_eq_false, true_implies, jx_tko, jx_ofn, jx_tka, jx_pro, jx_pra, and_self, Nat.not_lt_zero, k0, v0, hb]
    refine jx_cV3 dL_law_483 li_L_64 c1 (congrArg Prod.fst (la_k3 h)) (by omega) (Nat.le_of_ble_eq_true rfl) ?_
    rintro _ ⟨n', ms', K', I', P'⟩ hQ - -
    obtain ⟨v, rfl, hM, Q2, c2, c3⟩ := c2 _ _ hQ
    simp only [Option.toList_some, List.cons_append, List.nil_append]
    refine jx_sc (fun k0' v0' => ?_)
    have k0 : K' 0 = (11, jx_gL G) := k0'
    have v0 : ∀ j, j < jx_gL G → I' 0 j = jx_gX G j := v0'
    refine jx_gq flok_0 fwok_0 510 22 _ _ _ _ ?_
    simp (disch := omega) only [↓reduceIte, jx_wp, jx_stp, jx_f0, jx_f1, jx_f2, jx_f3, List.getElem?_cons_zero, List.getElem?_cons_succ, List.set_cons_zero, List.set_cons_succ, Nat.reduceAdd, true_and, and_true, if_true, if_false, Bool.false_eq_true, jx_s, Nat.reduceLT, dL_law_486, dL_law_487, dL_law_488, dL_law_489, dL_law_490, dL_law_491, dL_law_492, dL_law_495, dL_law_496, dL_law_499, dL_law_500, dL_law_501, dL_law_502, dL_law_503, dL_law_504, dL_law_505, dL_law_506, dL_law_507, dL_law_508, dL_law_509, dL_law_510, jx_k1, tg_492_7, tg_496_4, jx_k0, jx_k2, jx_k3, jx_wq, jx_stq, jx_ite, jx_b0, jx_bn0, jx_u_eq, jx_u_na, jx_u_ni, jx_nb0, jx_nb1, jx_ni, jx_E, eq_self, jx_a0, jx_a1, ne_eq, not_false_eq_true, Nat.reduceLeDiff, Nat.reduceEqDiff, Nat.reduceLT, jx_subl, jx_al, jx_la, jx_nm, jx_ml, nI_add, jx_xn, jx_xl, jx_inn, jx_inl, jx_ltnn, jx_lenn, jx_eqnn, jx_ltnl, jx_lenl, jx_ltln, jx_leln, jx_eqnl, Int32.reduceAdd, Int32.reduceSub, Int32.reduceMul, Int32.reduceLT, Int32.reduceLE, jx_eqll, jx_ltll, Nat.reduceMul, Nat.reduceSub, forall_const, implies_true, false_implies, not_true_eq_false, true_implies, jx_tko, jx_ofn, jx_tka, jx_pro, jx_pra, and_self, Nat.not_lt_zero, k0, v0, hb]
    refine jx_cV3 dL_law_510 li_L_68 c2 (congrArg Prod.fst (mo_k98 hM)) (by omega) (Nat.le_of_ble_eq_true rfl) ?_
    rintro _ _ hQ2 - -
    obtain ⟨rfl, n2, ms2, K2, I2, P2, rfl, h2⟩ := c3 _ _ hQ2
    simp only [Option.toList_some, List.cons_append, List.nil_append]
    refine jx_gq flok_0 fwok_0 716 1 _ _ _ _ ?_
    simp (disch := omega) only [↓reduceIte, jx_wp, jx_stp, jx_f0, jx_f1, jx_f2, jx_f3, List.getElem?_cons_zero, List.getElem?_cons_succ, List.set_cons_zero, List.set_cons_succ, Nat.reduceAdd, true_and, and_true, if_true, if_false, Bool.false_eq_true, jx_s, Nat.reduceLT, dL_law_513, tg_513_203, jx_wq, jx_stq, jx_ite, jx_b0, jx_bn0, jx_u_eq, jx_u_na, jx_u_ni, jx_nb0, jx_nb1, jx_ni, jx_E, eq_self, jx_a0, jx_a1, ne_eq, not_false_eq_true, Nat.reduceLeDiff, Nat.reduceEqDiff, Nat.reduceLT, jx_subl, jx_al, jx_la, jx_nm, jx_ml, nI_add, jx_xn, jx_xl, jx_inn, jx_inl, jx_ltnn, jx_lenn, jx_eqnn, jx_ltnl, jx_lenl, jx_ltln, jx_leln, jx_eqnl, Int32.reduceAdd, Int32.reduceSub, Int32.reduceMul, Int32.reduceLT, Int32.reduceLE, jx_eqll, jx_ltll, Nat.reduceMul, Nat.reduceSub, forall_const, implies_true, false_implies, not_true_eq_false, true_implies, jx_tko, jx_ofn, jx_tka, jx_pro, jx_pra, and_self, Nat.not_lt_zero]
    exact kk _ _ _ _ _ h2
  · obtain ⟨d, d2, Q, hd, hd2, c1, c2⟩ := ld_map_c (G := G) (s := jx_gX G (i + 2)) (m := jx_gX G (i + 3)) h
    refine jx_gq flok_0 fwok_0 483 22 _ _ _ _ ?_
    simp (disch := omega) only [↓reduceIte, jx_wp, jx_stp, jx_f0, jx_f1, jx_f2, jx_f3, List.getElem?_cons_zero, List.getElem?_cons_succ, List.set_cons_zero, List.set_cons_succ, Nat.reduceAdd, true_and, and_true, if_true, if_false, Bool.false_eq_true, jx_s, Nat.reduceLT, dL_law_459, dL_law_460, dL_law_461, dL_law_462, dL_law_463, dL_law_464, dL_law_465, dL_law_468, dL_law_469, dL_law_472, dL_law_473, dL_law_474, dL_law_475, dL_law_476, dL_law_477, dL_law_478, dL_law_479, dL_law_480, dL_law_481, dL_law_482, dL_law_483, jx_k1, tg_465_7, tg_469_4, jx_k0, jx_k2, jx_k3, jx_wq, jx_stq, jx_ite, jx_b0, jx_bn0, jx_u_eq, jx_u_na, jx_u_ni, jx_nb0, jx_nb1, jx_ni, jx_E, eq_self, jx_a0, jx_a1, ne_eq, not_false_eq_true, Nat.reduceLeDiff, Nat.reduceEqDiff, Nat.reduceLT, jx_subl, jx_al, jx_la, jx_nm, jx_ml, nI_add, jx_xn, jx_xl, jx_inn, jx_inl, jx_ltnn, jx_lenn, jx_eqnn, jx_ltnl, jx_lenl, jx_ltln, jx_leln, jx_eqnl, Int32.reduceAdd, Int32.reduceSub, Int32.reduceMul, Int32.reduceLT, Int32.reduceLE, jx_eqll, jx_ltll, Nat.reduceMul, Nat.reduceSub, forall_const, implies_true, false_implies, not_true_eq_false, true_implies, jx_tko, jx_ofn, jx_tka, jx_pro, jx_pra, and_self, Nat.not_lt_zero, k0, v0, hb]
    refine jx_cV3 dL_law_483 li_L_64 c1 (congrArg Prod.fst (la_k3 h)) (by omega) (Nat.le_of_ble_eq_true rfl) ?_
    rintro _ ⟨n', ms', K', I', P'⟩ hQ - -
    obtain ⟨v, rfl, hM, Q2, c2, c3⟩ := c2 _ _ hQ
    simp only [Option.toList_some, List.cons_append, List.nil_append]
    refine jx_sc (fun k0' v0' => ?_)
    have k0 : K' 0 = (11, jx_gL G) := k0'
    have v0 : ∀ j, j < jx_gL G → I' 0 j = jx_gX G j := v0'
    refine jx_gq flok_0 fwok_0 510 22 _ _ _ _ ?_
    simp (disch := omega) only [↓reduceIte, jx_wp, jx_stp, jx_f0, jx_f1, jx_f2, jx_f3, List.getElem?_cons_zero, List.getElem?_cons_succ, List.set_cons_zero, List.set_cons_succ, Nat.reduceAdd, true_and, and_true, if_true, if_false, Bool.false_eq_true, jx_s, Nat.reduceLT, dL_law_486, dL_law_487, dL_law_488, dL_law_489, dL_law_490, dL_law_491, dL_law_492, dL_law_495, dL_law_496, dL_law_499, dL_law_500, dL_law_501, dL_law_502, dL_law_503, dL_law_504, dL_law_505, dL_law_506, dL_law_507, dL_law_508, dL_law_509, dL_law_510, jx_k1, tg_492_7, tg_496_4, jx_k0, jx_k2, jx_k3, jx_wq, jx_stq, jx_ite, jx_b0, jx_bn0, jx_u_eq, jx_u_na, jx_u_ni, jx_nb0, jx_nb1, jx_ni, jx_E, eq_self, jx_a0, jx_a1, ne_eq, not_false_eq_true, Nat.reduceLeDiff, Nat.reduceEqDiff, Nat.reduceLT, jx_subl, jx_al, jx_la, jx_nm, jx_ml, nI_add, jx_xn, jx_xl, jx_inn, jx_inl, jx_ltnn, jx_lenn, jx_eqnn, jx_ltnl, jx_lenl, jx_ltln, jx_leln, jx_eqnl, Int32.reduceAdd, Int32.reduceSub, Int32.reduceMul, Int32.reduceLT, Int32.reduceLE, jx_eqll, jx_ltll, Nat.reduceMul, Nat.reduceSub, forall_const, implies_true, false_implies, not_true_eq_false, true_implies, jx_tko, jx_ofn, jx_tka, jx_pro, jx_pra, and_self, Nat.not_lt_zero, k0, v0, hb]
    refine jx_cV3 dL_law_510 li_L_68 c2 (congrArg Prod.fst (mo_k98 hM)) (by omega) (Nat.le_of_ble_eq_true rfl) ?_
    rintro _ _ hQ2 - -
    obtain ⟨rfl, n2, ms2, K2, I2, P2, rfl, h2⟩ := c3 _ _ hQ2
    simp only [Option.toList_some, List.cons_append, List.nil_append]
    refine jx_gq flok_0 fwok_0 716 1 _ _ _ _ ?_
    simp (disch := omega) only [↓reduceIte, jx_wp, jx_stp, jx_f0, jx_f1, jx_f2, jx_f3, List.getElem?_cons_zero, List.getElem?_cons_succ, List.set_cons_zero, List.set_cons_succ, Nat.reduceAdd, true_and, and_true, if_true, if_false, Bool.false_eq_true, jx_s, Nat.reduceLT, dL_law_513, tg_513_203, jx_wq, jx_stq, jx_ite, jx_b0, jx_bn0, jx_u_eq, jx_u_na, jx_u_ni, jx_nb0, jx_nb1, jx_ni, jx_E, eq_self, jx_a0, jx_a1, ne_eq, not_false_eq_true, Nat.reduceLeDiff, Nat.reduceEqDiff, Nat.reduceLT, jx_subl, jx_al, jx_la, jx_nm, jx_ml, nI_add, jx_xn, jx_xl, jx_inn, jx_inl, jx_ltnn, jx_lenn, jx_eqnn, jx_ltnl, jx_lenl, jx_ltln, jx_leln, jx_eqnl, Int32.reduceAdd, Int32.reduceSub, Int32.reduceMul, Int32.reduceLT, Int32.reduceLE, jx_eqll, jx_ltll, Nat.reduceMul, Nat.reduceSub, forall_const, implies_true, false_implies, not_true_eq_false, true_implies, jx_tko, jx_ofn, jx_tka, jx_pro, jx_pra, and_self, Nat.not_lt_zero]
    exact kk _ _ _ _ _ h2
set_option maxHeartbeats 4000000 in
set_option maxRecDepth 100000 in
theorem lc_cell {G : jx_G} {i : Nat} (hi : i + 4 ≤ jx_gL G) (hL : jx_gL G ≤ 2048) (kk : ∀ n ms K I P, la_I n ms K I P → jx_J G yL_law cL_law 4 (some FieldType.boolean) 13 (la_Q) 716 [some (.inr (some 0)), some (.inr (some 3)), some (.inr (some 98)), some (.inl (nI i))] [] (n, ms, K, I, P)) {n ms : Nat} {K : Nat → Nat × Nat} {I : Nat → Nat → Int32} {P : Nat → Nat → Option Nat} (h : la_I n ms K I P) : jx_J G yL_law cL_law 4 (some FieldType.boolean) 13 (la_Q) 518 [some (.inr (some 0)), some (.inr (some 3)), some (.inr (some 98)), some (.inl (nI i))] [] (n, ms, K, I, P) := by
  refine jx_sc (fun k0 v0 => ?_)
  have k0 : K 0 = (11, jx_gL G) := k0
  have v0 : ∀ j, j < jx_gL G → I 0 j = jx_gX G j := v0
  obtain ⟨d, d2, Q, hd, hd2, c1, c2⟩ := ld_cell (G := G) (s := jx_gX G (i + 1)) (r := jx_gX G (i + 2)) (a := jx_gX G (i + 3)) h
  refine jx_gq flok_0 fwok_0 534 18 _ _ _ _ ?_
  simp (disch := omega) only [↓reduceIte, jx_wp, jx_stp, jx_f0, jx_f1, jx_f2, jx_f3, List.getElem?_cons_zero, List.getElem?_cons_succ, List.set_cons_zero, List.set_cons_succ, Nat.reduceAdd, true_and, and_true, if_true, if_false, Bool.false_eq_true, jx_s, Nat.reduceLT, dL_law_518, dL_law_519, dL_law_520, dL_law_521, dL_law_522, dL_law_523, dL_law_524, dL_law_525, dL_law_526, dL_law_527, dL_law_528, dL_law_529, dL_law_530, dL_law_531, dL_law_532, dL_law_533, dL_law_534, jx_k1, jx_k2, jx_k3, jx_wq, jx_stq, jx_ite, jx_b0, jx_bn0, jx_u_eq, jx_u_na, jx_u_ni, jx_nb0, jx_nb1, jx_ni, jx_E, eq_self, jx_a0, jx_a1, ne_eq, not_false_eq_true, Nat.reduceLeDiff, Nat.reduceEqDiff, Nat.reduceLT, jx_subl, jx_al, jx_la, jx_nm, jx_ml, nI_add, jx_xn, jx_xl, jx_inn, jx_inl, jx_ltnn, jx_lenn, jx_eqnn, jx_ltnl, jx_lenl, jx_ltln, jx_leln, jx_eqnl, Int32.reduceAdd, Int32.reduceSub, Int32.reduceMul, Int32.reduceLT, Int32.reduceLE, jx_eqll, jx_ltll, Nat.reduceMul, Nat.reduceSub, forall_const, implies_true, false_implies, not_true_eq_false, true_implies, jx_tko, jx_ofn, jx_tka, jx_pro, jx_pra, and_self, Nat.not_lt_zero, k0, v0]
  refine jx_cV3 dL_law_534 li_L_69 c1 (congrArg Prod.fst (la_k3 h)) (by omega) (Nat.le_of_ble_eq_true rfl) ?_
  rintro _ ⟨n', ms', K', I', P'⟩ hQ - -
  obtain ⟨v, rfl, hM, Q2, c2, c3⟩ := c2 _ _ hQ
  simp only [Option.toList_some, List.cons_append, List.nil_append]
  refine jx_sc (fun k0' v0' => ?_)
  have k0 : K' 0 = (11, jx_gL G) := k0'
  have v0 : ∀ j, j < jx_gL G → I' 0 j = jx_gX G j := v0'
  refine jx_gq flok_0 fwok_0 553 18 _ _ _ _ ?_
  simp (disch := omega) only [↓reduceIte, jx_wp, jx_stp, jx_f0, jx_f1, jx_f2, jx_f3, List.getElem?_cons_zero, List.getElem?_cons_succ, List.set_cons_zero, List.set_cons_succ, Nat.reduceAdd, true_and, and_true, if_true, if_false, Bool.false_eq_true, jx_s, Nat.reduceLT, dL_law_537, dL_law_538, dL_law_539, dL_law_540, dL_law_541, dL_law_542, dL_law_543, dL_law_544, dL_law_545, dL_law_546, dL_law_547, dL_law_548, dL_law_549, dL_law_550, dL_law_551, dL_law_552, dL_law_553, jx_k1, jx_k2, jx_k3, jx_wq, jx_stq, jx_ite, jx_b0, jx_bn0, jx_u_eq, jx_u_na, jx_u_ni, jx_nb0, jx_nb1, jx_ni, jx_E, eq_self, jx_a0, jx_a1, ne_eq, not_false_eq_true, Nat.reduceLeDiff, Nat.reduceEqDiff, Nat.reduceLT, jx_subl, jx_al, jx_la, jx_nm, jx_ml, nI_add, jx_xn, jx_xl, jx_inn, jx_inl, jx_ltnn, jx_lenn, jx_eqnn, jx_ltnl, jx_lenl, jx_ltln, jx_leln, jx_eqnl, Int32.reduceAdd, Int32.reduceSub, Int32.reduceMul, Int32.reduceLT, Int32.reduceLE, jx_eqll, jx_ltll, Nat.reduceMul, Nat.reduceSub, forall_const, implies_true, false_implies, not_true_eq_false, true_implies, jx_tko, jx_ofn, jx_tka, jx_pro, jx_pra, and_self, Nat.not_lt_zero, k0, v0]
  refine jx_cV3 dL_law_553 li_L_72 c2 (congrArg Prod.fst (mo_k98 hM)) (by omega) (Nat.le_of_ble_eq_true rfl) ?_
  rintro _ _ hQ2 - -
  obtain ⟨rfl, n2, ms2, K2, I2, P2, rfl, h2⟩ := c3 _ _ hQ2
  simp only [Option.toList_some, List.cons_append, List.nil_append]
  refine jx_gq flok_0 fwok_0 716 1 _ _ _ _ ?_
  simp (disch := omega) only [↓reduceIte, jx_wp, jx_stp, jx_f0, jx_f1, jx_f2, jx_f3, List.getElem?_cons_zero, List.getElem?_cons_succ, List.set_cons_zero, List.set_cons_succ, Nat.reduceAdd, true_and, and_true, if_true, if_false, Bool.false_eq_true, jx_s, Nat.reduceLT, dL_law_556, tg_556_160, jx_wq, jx_stq, jx_ite, jx_b0, jx_bn0, jx_u_eq, jx_u_na, jx_u_ni, jx_nb0, jx_nb1, jx_ni, jx_E, eq_self, jx_a0, jx_a1, ne_eq, not_false_eq_true, Nat.reduceLeDiff, Nat.reduceEqDiff, Nat.reduceLT, jx_subl, jx_al, jx_la, jx_nm, jx_ml, nI_add, jx_xn, jx_xl, jx_inn, jx_inl, jx_ltnn, jx_lenn, jx_eqnn, jx_ltnl, jx_lenl, jx_ltln, jx_leln, jx_eqnl, Int32.reduceAdd, Int32.reduceSub, Int32.reduceMul, Int32.reduceLT, Int32.reduceLE, jx_eqll, jx_ltll, Nat.reduceMul, Nat.reduceSub, forall_const, implies_true, false_implies, not_true_eq_false, true_implies, jx_tko, jx_ofn, jx_tka, jx_pro, jx_pra, and_self, Nat.not_lt_zero]
  exact kk _ _ _ _ _ h2
set_option maxHeartbeats 4000000 in
set_option maxRecDepth 100000 in
theorem lc_vote {G : jx_G} {i : Nat} (hi : i + 4 ≤ jx_gL G) (hL : jx_gL G ≤ 2048) (kk : ∀ n ms K I P, la_I n ms K I P → jx_J G yL_law cL_law 4 (some FieldType.boolean) 13 (la_Q) 716 [some (.inr (some 0)), some (.inr (some 3)), some (.inr (some 98)), some (.inl (nI i))] [] (n, ms, K, I, P)) {n ms : Nat} {K : Nat → Nat × Nat} {I : Nat → Nat → Int32} {P : Nat → Nat → Option Nat} (h : la_I n ms K I P) : jx_J G yL_law cL_law 4 (some FieldType.boolean) 13 (la_Q) 561 [some (.inr (some 0)), some (.inr (some 3)), some (.inr (some 98)), some (.inl (nI i))] [] (n, ms, K, I, P) := by
  refine jx_sc (fun k0 v0 => ?_)
  have k0 : K 0 = (11, jx_gL G) := k0
  have v0 : ∀ j, j < jx_gL G → I 0 j = jx_gX G j := v0
  obtain ⟨d, d2, Q, hd, hd2, c1, c2⟩ := ld_vote (G := G) (s := jx_gX G (i + 1)) (r := jx_gX G (i + 2)) (a := jx_gX G (i + 3)) h
  refine jx_gq flok_0 fwok_0 577 18 _ _ _ _ ?_
  simp (disch := omega) only [↓reduceIte, jx_wp, jx_stp, jx_f0, jx_f1, jx_f2, jx_f3, List.getElem?_cons_zero, List.getElem?_cons_succ, List.set_cons_zero, List.set_cons_succ, Nat.reduceAdd, true_and, and_true, if_true, if_false, Bool.false_eq_true, jx_s, Nat.reduceLT, dL_law_561, dL_law_562, dL_law_563, dL_law_564, dL_law_565, dL_law_566, dL_law_567, dL_law_568, dL_law_569, dL_law_570, dL_law_571, dL_law_572, dL_law_573, dL_law_574, dL_law_575, dL_law_576, dL_law_577, jx_k1, jx_k2, jx_k3, jx_wq, jx_stq, jx_ite, jx_b0, jx_bn0, jx_u_eq, jx_u_na, jx_u_ni, jx_nb0, jx_nb1, jx_ni, jx_E, eq_self, jx_a0, jx_a1, ne_eq, not_false_eq_true, Nat.reduceLeDiff, Nat.reduceEqDiff, Nat.reduceLT, jx_subl, jx_al, jx_la, jx_nm, jx_ml, nI_add, jx_xn, jx_xl, jx_inn, jx_inl, jx_ltnn, jx_lenn, jx_eqnn, jx_ltnl, jx_lenl, jx_ltln, jx_leln, jx_eqnl, Int32.reduceAdd, Int32.reduceSub, Int32.reduceMul, Int32.reduceLT, Int32.reduceLE, jx_eqll, jx_ltll, Nat.reduceMul, Nat.reduceSub, forall_const, implies_true, false_implies, not_true_eq_false, true_implies, jx_tko, jx_ofn, jx_tka, jx_pro, jx_pra, and_self, Nat.not_lt_zero, k0, v0]
  refine jx_cV3 dL_law_577 li_L_73 c1 (congrArg Prod.fst (la_k3 h)) (by omega) (Nat.le_of_ble_eq_true rfl) ?_
  rintro _ ⟨n', ms', K', I', P'⟩ hQ - -
  obtain ⟨v, rfl, hM, Q2, c2, c3⟩ := c2 _ _ hQ
  simp only [Option.toList_some, List.cons_append, List.nil_append]
  refine jx_sc (fun k0' v0' => ?_)
  have k0 : K' 0 = (11, jx_gL G) := k0'
  have v0 : ∀ j, j < jx_gL G → I' 0 j = jx_gX G j := v0'
  refine jx_gq flok_0 fwok_0 596 18 _ _ _ _ ?_
  simp (disch := omega) only [↓reduceIte, jx_wp, jx_stp, jx_f0, jx_f1, jx_f2, jx_f3, List.getElem?_cons_zero, List.getElem?_cons_succ, List.set_cons_zero, List.set_cons_succ, Nat.reduceAdd, true_and, and_true, if_true, if_false, Bool.false_eq_true, jx_s, Nat.reduceLT, dL_law_580, dL_law_581, dL_law_582, dL_law_583, dL_law_584, dL_law_585, dL_law_586, dL_law_587, dL_law_588, dL_law_589, dL_law_590, dL_law_591, dL_law_592, dL_law_593, dL_law_594, dL_law_595, dL_law_596, jx_k1, jx_k2, jx_k3, jx_wq, jx_stq, jx_ite, jx_b0, jx_bn0, jx_u_eq, jx_u_na, jx_u_ni, jx_nb0, jx_nb1, jx_ni, jx_E, eq_self, jx_a0, jx_a1, ne_eq, not_false_eq_true, Nat.reduceLeDiff, Nat.reduceEqDiff, Nat.reduceLT, jx_subl, jx_al, jx_la, jx_nm, jx_ml, nI_add, jx_xn, jx_xl, jx_inn, jx_inl, jx_ltnn, jx_lenn, jx_eqnn, jx_ltnl, jx_lenl, jx_ltln, jx_leln, jx_eqnl, Int32.reduceAdd, Int32.reduceSub, Int32.reduceMul, Int32.reduceLT, Int32.reduceLE, jx_eqll, jx_ltll, Nat.reduceMul, Nat.reduceSub, forall_const, implies_true, false_implies, not_true_eq_false, true_implies, jx_tko, jx_ofn, jx_tka, jx_pro, jx_pra, and_self, Nat.not_lt_zero, k0, v0]
  refine jx_cV3 dL_law_596 li_L_76 c2 (congrArg Prod.fst (mo_k98 hM)) (by omega) (Nat.le_of_ble_eq_true rfl) ?_
  rintro _ _ hQ2 - -
  obtain ⟨rfl, n2, ms2, K2, I2, P2, rfl, h2⟩ := c3 _ _ hQ2
  simp only [Option.toList_some, List.cons_append, List.nil_append]
  refine jx_gq flok_0 fwok_0 716 1 _ _ _ _ ?_
  simp (disch := omega) only [↓reduceIte, jx_wp, jx_stp, jx_f0, jx_f1, jx_f2, jx_f3, List.getElem?_cons_zero, List.getElem?_cons_succ, List.set_cons_zero, List.set_cons_succ, Nat.reduceAdd, true_and, and_true, if_true, if_false, Bool.false_eq_true, jx_s, Nat.reduceLT, dL_law_599, tg_599_117, jx_wq, jx_stq, jx_ite, jx_b0, jx_bn0, jx_u_eq, jx_u_na, jx_u_ni, jx_nb0, jx_nb1, jx_ni, jx_E, eq_self, jx_a0, jx_a1, ne_eq, not_false_eq_true, Nat.reduceLeDiff, Nat.reduceEqDiff, Nat.reduceLT, jx_subl, jx_al, jx_la, jx_nm, jx_ml, nI_add, jx_xn, jx_xl, jx_inn, jx_inl, jx_ltnn, jx_lenn, jx_eqnn, jx_ltnl, jx_lenl, jx_ltln, jx_leln, jx_eqnl, Int32.reduceAdd, Int32.reduceSub, Int32.reduceMul, Int32.reduceLT, Int32.reduceLE, jx_eqll, jx_ltll, Nat.reduceMul, Nat.reduceSub, forall_const, implies_true, false_implies, not_true_eq_false, true_implies, jx_tko, jx_ofn, jx_tka, jx_pro, jx_pra, and_self, Nat.not_lt_zero]
  exact kk _ _ _ _ _ h2
set_option maxHeartbeats 4000000 in
set_option maxRecDepth 100000 in
theorem lc_client {G : jx_G} {i : Nat} (hi : i + 4 ≤ jx_gL G) (hL : jx_gL G ≤ 2048) (kk : ∀ n ms K I P, la_I n ms K I P → jx_J G yL_law cL_law 4 (some FieldType.boolean) 13 (la_Q) 716 [some (.inr (some 0)), some (.inr (some 3)), some (.inr (some 98)), some (.inl (nI i))] [] (n, ms, K, I, P)) {n ms : Nat} {K : Nat → Nat × Nat} {I : Nat → Nat → Int32} {P : Nat → Nat → Option Nat} (h : la_I n ms K I P) : jx_J G yL_law cL_law 4 (some FieldType.boolean) 13 (la_Q) 604 [some (.inr (some 0)), some (.inr (some 3)), some (.inr (some 98)), some (.inl (nI i))] [] (n, ms, K, I, P) := by
  refine jx_sc (fun k0 v0 => ?_)
  have k0 : K 0 = (11, jx_gL G) := k0
  have v0 : ∀ j, j < jx_gL G → I 0 j = jx_gX G j := v0
  obtain ⟨d, d2, Q, hd, hd2, c1, c2⟩ := ld_client (G := G) (s := jx_gX G (i + 1)) (a := jx_gX G (i + 2)) h
  refine jx_gq flok_0 fwok_0 615 13 _ _ _ _ ?_
  simp (disch := omega) only [↓reduceIte, jx_wp, jx_stp, jx_f0, jx_f1, jx_f2, jx_f3, List.getElem?_cons_zero, List.getElem?_cons_succ, List.set_cons_zero, List.set_cons_succ, Nat.reduceAdd, true_and, and_true, if_true, if_false, Bool.false_eq_true, jx_s, Nat.reduceLT, dL_law_604, dL_law_605, dL_law_606, dL_law_607, dL_law_608, dL_law_609, dL_law_610, dL_law_611, dL_law_612, dL_law_613, dL_law_614, dL_law_615, jx_k1, jx_k2, jx_wq, jx_stq, jx_ite, jx_b0, jx_bn0, jx_u_eq, jx_u_na, jx_u_ni, jx_nb0, jx_nb1, jx_ni, jx_E, eq_self, jx_a0, jx_a1, ne_eq, not_false_eq_true, Nat.reduceLeDiff, Nat.reduceEqDiff, Nat.reduceLT, jx_subl, jx_al, jx_la, jx_nm, jx_ml, nI_add, jx_xn, jx_xl, jx_inn, jx_inl, jx_ltnn, jx_lenn, jx_eqnn, jx_ltnl, jx_lenl, jx_ltln, jx_leln, jx_eqnl, Int32.reduceAdd, Int32.reduceSub, Int32.reduceMul, Int32.reduceLT, Int32.reduceLE, jx_eqll, jx_ltll, Nat.reduceMul, Nat.reduceSub, forall_const, implies_true, false_implies, not_true_eq_false, true_implies, jx_tko, jx_ofn, jx_tka, jx_pro, jx_pra, and_self, Nat.not_lt_zero, k0, v0]
  refine jx_cV2 dL_law_615 li_L_77 c1 (congrArg Prod.fst (la_k3 h)) (by omega) (Nat.le_of_ble_eq_true rfl) ?_
  rintro _ ⟨n', ms', K', I', P'⟩ hQ - -
  obtain ⟨v, rfl, hM, Q2, c2, c3⟩ := c2 _ _ hQ
  simp only [Option.toList_some, List.cons_append, List.nil_append]
  refine jx_sc (fun k0' v0' => ?_)
  have k0 : K' 0 = (11, jx_gL G) := k0'
  have v0 : ∀ j, j < jx_gL G → I' 0 j = jx_gX G j := v0'
  refine jx_gq flok_0 fwok_0 629 13 _ _ _ _ ?_
  simp (disch := omega) only [↓reduceIte, jx_wp, jx_stp, jx_f0, jx_f1, jx_f2, jx_f3, List.getElem?_cons_zero, List.getElem?_cons_succ, List.set_cons_zero, List.set_cons_succ, Nat.reduceAdd, true_and, and_true, if_true, if_false, Bool.false_eq_true, jx_s, Nat.reduceLT, dL_law_618, dL_law_619, dL_law_620, dL_law_621, dL_law_622, dL_law_623, dL_law_624, dL_law_625, dL_law_626, dL_law_627, dL_law_628, dL_law_629, jx_k1, jx_k2, jx_wq, jx_stq, jx_ite, jx_b0, jx_bn0, jx_u_eq, jx_u_na, jx_u_ni, jx_nb0, jx_nb1, jx_ni, jx_E, eq_self, jx_a0, jx_a1, ne_eq, not_false_eq_true, Nat.reduceLeDiff, Nat.reduceEqDiff, Nat.reduceLT, jx_subl, jx_al, jx_la, jx_nm, jx_ml, nI_add, jx_xn, jx_xl, jx_inn, jx_inl, jx_ltnn, jx_lenn, jx_eqnn, jx_ltnl, jx_lenl, jx_ltln, jx_leln, jx_eqnl, Int32.reduceAdd, Int32.reduceSub, Int32.reduceMul, Int32.reduceLT, Int32.reduceLE, jx_eqll, jx_ltll, Nat.reduceMul, Nat.reduceSub, forall_const, implies_true, false_implies, not_true_eq_false, true_implies, jx_tko, jx_ofn, jx_tka, jx_pro, jx_pra, and_self, Nat.not_lt_zero, k0, v0]
  refine jx_cV2 dL_law_629 li_L_80 c2 (congrArg Prod.fst (mo_k98 hM)) (by omega) (Nat.le_of_ble_eq_true rfl) ?_
  rintro _ _ hQ2 - -
  obtain ⟨rfl, n2, ms2, K2, I2, P2, rfl, h2⟩ := c3 _ _ hQ2
  simp only [Option.toList_some, List.cons_append, List.nil_append]
  refine jx_gq flok_0 fwok_0 716 1 _ _ _ _ ?_
  simp (disch := omega) only [↓reduceIte, jx_wp, jx_stp, jx_f0, jx_f1, jx_f2, jx_f3, List.getElem?_cons_zero, List.getElem?_cons_succ, List.set_cons_zero, List.set_cons_succ, Nat.reduceAdd, true_and, and_true, if_true, if_false, Bool.false_eq_true, jx_s, Nat.reduceLT, dL_law_632, tg_632_84, jx_wq, jx_stq, jx_ite, jx_b0, jx_bn0, jx_u_eq, jx_u_na, jx_u_ni, jx_nb0, jx_nb1, jx_ni, jx_E, eq_self, jx_a0, jx_a1, ne_eq, not_false_eq_true, Nat.reduceLeDiff, Nat.reduceEqDiff, Nat.reduceLT, jx_subl, jx_al, jx_la, jx_nm, jx_ml, nI_add, jx_xn, jx_xl, jx_inn, jx_inl, jx_ltnn, jx_lenn, jx_eqnn, jx_ltnl, jx_lenl, jx_ltln, jx_leln, jx_eqnl, Int32.reduceAdd, Int32.reduceSub, Int32.reduceMul, Int32.reduceLT, Int32.reduceLE, jx_eqll, jx_ltll, Nat.reduceMul, Nat.reduceSub, forall_const, implies_true, false_implies, not_true_eq_false, true_implies, jx_tko, jx_ofn, jx_tka, jx_pro, jx_pra, and_self, Nat.not_lt_zero]
  exact kk _ _ _ _ _ h2
set_option maxHeartbeats 4000000 in
set_option maxRecDepth 100000 in
theorem lc_operation {G : jx_G} {i : Nat} (hi : i + 4 ≤ jx_gL G) (hL : jx_gL G ≤ 2048) (kk : ∀ n ms K I P, la_I n ms K I P → jx_J G yL_law cL_law 4 (some FieldType.boolean) 13 (la_Q) 716 [some (.inr (some 0)), some (.inr (some 3)), some (.inr (some 98)), some (.inl (nI i))] [] (n, ms, K, I, P)) {n ms : Nat} {K : Nat → Nat × Nat} {I : Nat → Nat → Int32} {P : Nat → Nat → Option Nat} (h : la_I n ms K I P) : jx_J G yL_law cL_law 4 (some FieldType.boolean) 13 (la_Q) 637 [some (.inr (some 0)), some (.inr (some 3)), some (.inr (some 98)), some (.inl (nI i))] [] (n, ms, K, I, P) := by
  refine jx_sc (fun k0 v0 => ?_)
  have k0 : K 0 = (11, jx_gL G) := k0
  have v0 : ∀ j, j < jx_gL G → I 0 j = jx_gX G j := v0
  obtain ⟨d, d2, Q, hd, hd2, c1, c2⟩ := ld_operation (G := G) (o := jx_gX G (i + 1)) (a := jx_gX G (i + 2)) h
  refine jx_gq flok_0 fwok_0 648 13 _ _ _ _ ?_
  simp (disch := omega) only [↓reduceIte, jx_wp, jx_stp, jx_f0, jx_f1, jx_f2, jx_f3, List.getElem?_cons_zero, List.getElem?_cons_succ, List.set_cons_zero, List.set_cons_succ, Nat.reduceAdd, true_and, and_true, if_true, if_false, Bool.false_eq_true, jx_s, Nat.reduceLT, dL_law_637, dL_law_638, dL_law_639, dL_law_640, dL_law_641, dL_law_642, dL_law_643, dL_law_644, dL_law_645, dL_law_646, dL_law_647, dL_law_648, jx_k1, jx_k2, jx_wq, jx_stq, jx_ite, jx_b0, jx_bn0, jx_u_eq, jx_u_na, jx_u_ni, jx_nb0, jx_nb1, jx_ni, jx_E, eq_self, jx_a0, jx_a1, ne_eq, not_false_eq_true, Nat.reduceLeDiff, Nat.reduceEqDiff, Nat.reduceLT, jx_subl, jx_al, jx_la, jx_nm, jx_ml, nI_add, jx_xn, jx_xl, jx_inn, jx_inl, jx_ltnn, jx_lenn, jx_eqnn, jx_ltnl, jx_lenl, jx_ltln, jx_leln, jx_eqnl, Int32.reduceAdd, Int32.reduceSub, Int32.reduceMul, Int32.reduceLT, Int32.reduceLE, jx_eqll, jx_ltll, Nat.reduceMul, Nat.reduceSub, forall_const, implies_true, false_implies, not_true_eq_false, true_implies, jx_tko, jx_ofn, jx_tka, jx_pro, jx_pra, and_self, Nat.not_lt_zero, k0, v0]
  refine jx_cV2 dL_law_648 li_L_81 c1 (congrArg Prod.fst (la_k3 h)) (by omega) (Nat.le_of_ble_eq_true rfl) ?_
  rintro _ ⟨n', ms', K', I', P'⟩ hQ - -
  obtain ⟨v, rfl, hM, Q2, c2, c3⟩ := c2 _ _ hQ
  simp only [Option.toList_some, List.cons_append, List.nil_append]
  refine jx_sc (fun k0' v0' => ?_)
  have k0 : K' 0 = (11, jx_gL G) := k0'
  have v0 : ∀ j, j < jx_gL G → I' 0 j = jx_gX G j := v0'
  refine jx_gq flok_0 fwok_0 662 13 _ _ _ _ ?_
  simp (disch := omega) only [↓reduceIte, jx_wp, jx_stp, jx_f0, jx_f1, jx_f2, jx_f3, List.getElem?_cons_zero, List.getElem?_cons_succ, List.set_cons_zero, List.set_cons_succ, Nat.reduceAdd, true_and, and_true, if_true, if_false, Bool.false_eq_true, jx_s, Nat.reduceLT, dL_law_651, dL_law_652, dL_law_653, dL_law_654, dL_law_655, dL_law_656, dL_law_657, dL_law_658, dL_law_659, dL_law_660, dL_law_661, dL_law_662, jx_k1, jx_k2, jx_wq, jx_stq, jx_ite, jx_b0, jx_bn0, jx_u_eq, jx_u_na, jx_u_ni, jx_nb0, jx_nb1, jx_ni, jx_E, eq_self, jx_a0, jx_a1, ne_eq, not_false_eq_true, Nat.reduceLeDiff, Nat.reduceEqDiff, Nat.reduceLT, jx_subl, jx_al, jx_la, jx_nm, jx_ml, nI_add, jx_xn, jx_xl, jx_inn, jx_inl, jx_ltnn, jx_lenn, jx_eqnn, jx_ltnl, jx_lenl, jx_ltln, jx_leln, jx_eqnl, Int32.reduceAdd, Int32.reduceSub, Int32.reduceMul, Int32.reduceLT, Int32.reduceLE, jx_eqll, jx_ltll, Nat.reduceMul, Nat.reduceSub, forall_const, implies_true, false_implies, not_true_eq_false, true_implies, jx_tko, jx_ofn, jx_tka, jx_pro, jx_pra, and_self, Nat.not_lt_zero, k0, v0]
  refine jx_cV2 dL_law_662 li_L_84 c2 (congrArg Prod.fst (mo_k98 hM)) (by omega) (Nat.le_of_ble_eq_true rfl) ?_
  rintro _ _ hQ2 - -
  obtain ⟨rfl, n2, ms2, K2, I2, P2, rfl, h2⟩ := c3 _ _ hQ2
  simp only [Option.toList_some, List.cons_append, List.nil_append]
  refine jx_gq flok_0 fwok_0 716 1 _ _ _ _ ?_
  simp (disch := omega) only [↓reduceIte, jx_wp, jx_stp, jx_f0, jx_f1, jx_f2, jx_f3, List.getElem?_cons_zero, List.getElem?_cons_succ, List.set_cons_zero, List.set_cons_succ, Nat.reduceAdd, true_and, and_true, if_true, if_false, Bool.false_eq_true, jx_s, Nat.reduceLT, dL_law_665, tg_665_51, jx_wq, jx_stq, jx_ite, jx_b0, jx_bn0, jx_u_eq, jx_u_na, jx_u_ni, jx_nb0, jx_nb1, jx_ni, jx_E, eq_self, jx_a0, jx_a1, ne_eq, not_false_eq_true, Nat.reduceLeDiff, Nat.reduceEqDiff, Nat.reduceLT, jx_subl, jx_al, jx_la, jx_nm, jx_ml, nI_add, jx_xn, jx_xl, jx_inn, jx_inl, jx_ltnn, jx_lenn, jx_eqnn, jx_ltnl, jx_lenl, jx_ltln, jx_leln, jx_eqnl, Int32.reduceAdd, Int32.reduceSub, Int32.reduceMul, Int32.reduceLT, Int32.reduceLE, jx_eqll, jx_ltll, Nat.reduceMul, Nat.reduceSub, forall_const, implies_true, false_implies, not_true_eq_false, true_implies, jx_tko, jx_ofn, jx_tka, jx_pro, jx_pra, and_self, Nat.not_lt_zero]
  exact kk _ _ _ _ _ h2
set_option maxHeartbeats 4000000 in
set_option maxRecDepth 100000 in
theorem lc_count {G : jx_G} {i : Nat} (hi : i + 4 ≤ jx_gL G) (hL : jx_gL G ≤ 2048) (kk : ∀ n ms K I P, la_I n ms K I P → jx_J G yL_law cL_law 4 (some FieldType.boolean) 13 (la_Q) 716 [some (.inr (some 0)), some (.inr (some 3)), some (.inr (some 98)), some (.inl (nI i))] [] (n, ms, K, I, P)) {n ms : Nat} {K : Nat → Nat × Nat} {I : Nat → Nat → Int32} {P : Nat → Nat → Option Nat} (h : la_I n ms K I P) : jx_J G yL_law cL_law 4 (some FieldType.boolean) 13 (la_Q) 670 [some (.inr (some 0)), some (.inr (some 3)), some (.inr (some 98)), some (.inl (nI i))] [] (n, ms, K, I, P) := by
  refine jx_sc (fun k0 v0 => ?_)
  have k0 : K 0 = (11, jx_gL G) := k0
  have v0 : ∀ j, j < jx_gL G → I 0 j = jx_gX G j := v0
  obtain ⟨d, d2, Q, hd, hd2, c1, c2⟩ := ld_count (G := G) (a := jx_gX G (i + 1)) h
  refine jx_gq flok_0 fwok_0 676 8 _ _ _ _ ?_
  simp (disch := omega) only [↓reduceIte, jx_wp, jx_stp, jx_f0, jx_f1, jx_f2, jx_f3, List.getElem?_cons_zero, List.getElem?_cons_succ, List.set_cons_zero, List.set_cons_succ, Nat.reduceAdd, true_and, and_true, if_true, if_false, Bool.false_eq_true, jx_s, Nat.reduceLT, dL_law_670, dL_law_671, dL_law_672, dL_law_673, dL_law_674, dL_law_675, dL_law_676, jx_k1, jx_wq, jx_stq, jx_ite, jx_b0, jx_bn0, jx_u_eq, jx_u_na, jx_u_ni, jx_nb0, jx_nb1, jx_ni, jx_E, eq_self, jx_a0, jx_a1, ne_eq, not_false_eq_true, Nat.reduceLeDiff, Nat.reduceEqDiff, Nat.reduceLT, jx_subl, jx_al, jx_la, jx_nm, jx_ml, nI_add, jx_xn, jx_xl, jx_inn, jx_inl, jx_ltnn, jx_lenn, jx_eqnn, jx_ltnl, jx_lenl, jx_ltln, jx_leln, jx_eqnl, Int32.reduceAdd, Int32.reduceSub, Int32.reduceMul, Int32.reduceLT, Int32.reduceLE, jx_eqll, jx_ltll, Nat.reduceMul, Nat.reduceSub, forall_const, implies_true, false_implies, not_true_eq_false, true_implies, jx_tko, jx_ofn, jx_tka, jx_pro, jx_pra, and_self, Nat.not_lt_zero, k0, v0]
  refine jx_cV1 dL_law_676 li_L_85 c1 (congrArg Prod.fst (la_k3 h)) (by omega) (Nat.le_of_ble_eq_true rfl) ?_
  rintro _ ⟨n', ms', K', I', P'⟩ hQ - -
  obtain ⟨v, rfl, hM, Q2, c2, c3⟩ := c2 _ _ hQ
  simp only [Option.toList_some, List.cons_append, List.nil_append]
  refine jx_sc (fun k0' v0' => ?_)
  have k0 : K' 0 = (11, jx_gL G) := k0'
  have v0 : ∀ j, j < jx_gL G → I' 0 j = jx_gX G j := v0'
  refine jx_gq flok_0 fwok_0 685 8 _ _ _ _ ?_
  simp (disch := omega) only [↓reduceIte, jx_wp, jx_stp, jx_f0, jx_f1, jx_f2, jx_f3, List.getElem?_cons_zero, List.getElem?_cons_succ, List.set_cons_zero, List.set_cons_succ, Nat.reduceAdd, true_and, and_true, if_true, if_false, Bool.false_eq_true, jx_s, Nat.reduceLT, dL_law_679, dL_law_680, dL_law_681, dL_law_682, dL_law_683, dL_law_684, dL_law_685, jx_k1, jx_wq, jx_stq, jx_ite, jx_b0, jx_bn0, jx_u_eq, jx_u_na, jx_u_ni, jx_nb0, jx_nb1, jx_ni, jx_E, eq_self, jx_a0, jx_a1, ne_eq, not_false_eq_true, Nat.reduceLeDiff, Nat.reduceEqDiff, Nat.reduceLT, jx_subl, jx_al, jx_la, jx_nm, jx_ml, nI_add, jx_xn, jx_xl, jx_inn, jx_inl, jx_ltnn, jx_lenn, jx_eqnn, jx_ltnl, jx_lenl, jx_ltln, jx_leln, jx_eqnl, Int32.reduceAdd, Int32.reduceSub, Int32.reduceMul, Int32.reduceLT, Int32.reduceLE, jx_eqll, jx_ltll, Nat.reduceMul, Nat.reduceSub, forall_const, implies_true, false_implies, not_true_eq_false, true_implies, jx_tko, jx_ofn, jx_tka, jx_pro, jx_pra, and_self, Nat.not_lt_zero, k0, v0]
  refine jx_cV1 dL_law_685 li_L_88 c2 (congrArg Prod.fst (mo_k98 hM)) (by omega) (Nat.le_of_ble_eq_true rfl) ?_
  rintro _ _ hQ2 - -
  obtain ⟨rfl, n2, ms2, K2, I2, P2, rfl, h2⟩ := c3 _ _ hQ2
  simp only [Option.toList_some, List.cons_append, List.nil_append]
  refine jx_gq flok_0 fwok_0 716 1 _ _ _ _ ?_
  simp (disch := omega) only [↓reduceIte, jx_wp, jx_stp, jx_f0, jx_f1, jx_f2, jx_f3, List.getElem?_cons_zero, List.getElem?_cons_succ, List.set_cons_zero, List.set_cons_succ, Nat.reduceAdd, true_and, and_true, if_true, if_false, Bool.false_eq_true, jx_s, Nat.reduceLT, dL_law_688, tg_688_28, jx_wq, jx_stq, jx_ite, jx_b0, jx_bn0, jx_u_eq, jx_u_na, jx_u_ni, jx_nb0, jx_nb1, jx_ni, jx_E, eq_self, jx_a0, jx_a1, ne_eq, not_false_eq_true, Nat.reduceLeDiff, Nat.reduceEqDiff, Nat.reduceLT, jx_subl, jx_al, jx_la, jx_nm, jx_ml, nI_add, jx_xn, jx_xl, jx_inn, jx_inl, jx_ltnn, jx_lenn, jx_eqnn, jx_ltnl, jx_lenl, jx_ltln, jx_leln, jx_eqnl, Int32.reduceAdd, Int32.reduceSub, Int32.reduceMul, Int32.reduceLT, Int32.reduceLE, jx_eqll, jx_ltll, Nat.reduceMul, Nat.reduceSub, forall_const, implies_true, false_implies, not_true_eq_false, true_implies, jx_tko, jx_ofn, jx_tka, jx_pro, jx_pra, and_self, Nat.not_lt_zero]
  exact kk _ _ _ _ _ h2
set_option maxHeartbeats 4000000 in
set_option maxRecDepth 100000 in
theorem lc_atomic {G : jx_G} {i : Nat} (hi : i + 4 ≤ jx_gL G) (hL : jx_gL G ≤ 2048) (kk : ∀ n ms K I P, la_I n ms K I P → jx_J G yL_law cL_law 4 (some FieldType.boolean) 13 (la_Q) 716 [some (.inr (some 0)), some (.inr (some 3)), some (.inr (some 98)), some (.inl (nI i))] [] (n, ms, K, I, P)) {n ms : Nat} {K : Nat → Nat × Nat} {I : Nat → Nat → Int32} {P : Nat → Nat → Option Nat} (h : la_I n ms K I P) : jx_J G yL_law cL_law 4 (some FieldType.boolean) 13 (la_Q) 693 [some (.inr (some 0)), some (.inr (some 3)), some (.inr (some 98)), some (.inl (nI i))] [] (n, ms, K, I, P) := by
  refine jx_sc (fun k0 v0 => ?_)
  have k0 : K 0 = (11, jx_gL G) := k0
  have v0 : ∀ j, j < jx_gL G → I 0 j = jx_gX G j := v0
  obtain ⟨d, d2, Q, hd, hd2, c1, c2⟩ := ld_atomic (G := G) (r := jx_gX G (i + 1)) h
  refine jx_gq flok_0 fwok_0 699 8 _ _ _ _ ?_
  simp (disch := omega) only [↓reduceIte, jx_wp, jx_stp, jx_f0, jx_f1, jx_f2, jx_f3, List.getElem?_cons_zero, List.getElem?_cons_succ, List.set_cons_zero, List.set_cons_succ, Nat.reduceAdd, true_and, and_true, if_true, if_false, Bool.false_eq_true, jx_s, Nat.reduceLT, dL_law_693, dL_law_694, dL_law_695, dL_law_696, dL_law_697, dL_law_698, dL_law_699, jx_k1, jx_wq, jx_stq, jx_ite, jx_b0, jx_bn0, jx_u_eq, jx_u_na, jx_u_ni, jx_nb0, jx_nb1, jx_ni, jx_E, eq_self, jx_a0, jx_a1, ne_eq, not_false_eq_true, Nat.reduceLeDiff, Nat.reduceEqDiff, Nat.reduceLT, jx_subl, jx_al, jx_la, jx_nm, jx_ml, nI_add, jx_xn, jx_xl, jx_inn, jx_inl, jx_ltnn, jx_lenn, jx_eqnn, jx_ltnl, jx_lenl, jx_ltln, jx_leln, jx_eqnl, Int32.reduceAdd, Int32.reduceSub, Int32.reduceMul, Int32.reduceLT, Int32.reduceLE, jx_eqll, jx_ltll, Nat.reduceMul, Nat.reduceSub, forall_const, implies_true, false_implies, not_true_eq_false, true_implies, jx_tko, jx_ofn, jx_tka, jx_pro, jx_pra, and_self, Nat.not_lt_zero, k0, v0]
  refine jx_cV1 dL_law_699 li_L_89 c1 (congrArg Prod.fst (la_k3 h)) (by omega) (Nat.le_of_ble_eq_true rfl) ?_
  rintro _ ⟨n', ms', K', I', P'⟩ hQ - -
  obtain ⟨v, rfl, hM, Q2, c2, c3⟩ := c2 _ _ hQ
  simp only [Option.toList_some, List.cons_append, List.nil_append]
  refine jx_sc (fun k0' v0' => ?_)
  have k0 : K' 0 = (11, jx_gL G) := k0'
  have v0 : ∀ j, j < jx_gL G → I' 0 j = jx_gX G j := v0'
  refine jx_gq flok_0 fwok_0 708 8 _ _ _ _ ?_
  simp (disch := omega) only [↓reduceIte, jx_wp, jx_stp, jx_f0, jx_f1, jx_f2, jx_f3, List.getElem?_cons_zero, List.getElem?_cons_succ, List.set_cons_zero, List.set_cons_succ, Nat.reduceAdd, true_and, and_true, if_true, if_false, Bool.false_eq_true, jx_s, Nat.reduceLT, dL_law_702, dL_law_703, dL_law_704, dL_law_705, dL_law_706, dL_law_707, dL_law_708, jx_k1, jx_wq, jx_stq, jx_ite, jx_b0, jx_bn0, jx_u_eq, jx_u_na, jx_u_ni, jx_nb0, jx_nb1, jx_ni, jx_E, eq_self, jx_a0, jx_a1, ne_eq, not_false_eq_true, Nat.reduceLeDiff, Nat.reduceEqDiff, Nat.reduceLT, jx_subl, jx_al, jx_la, jx_nm, jx_ml, nI_add, jx_xn, jx_xl, jx_inn, jx_inl, jx_ltnn, jx_lenn, jx_eqnn, jx_ltnl, jx_lenl, jx_ltln, jx_leln, jx_eqnl, Int32.reduceAdd, Int32.reduceSub, Int32.reduceMul, Int32.reduceLT, Int32.reduceLE, jx_eqll, jx_ltll, Nat.reduceMul, Nat.reduceSub, forall_const, implies_true, false_implies, not_true_eq_false, true_implies, jx_tko, jx_ofn, jx_tka, jx_pro, jx_pra, and_self, Nat.not_lt_zero, k0, v0]
  refine jx_cV1 dL_law_708 li_L_92 c2 (congrArg Prod.fst (mo_k98 hM)) (by omega) (Nat.le_of_ble_eq_true rfl) ?_
  rintro _ _ hQ2 - -
  obtain ⟨rfl, n2, ms2, K2, I2, P2, rfl, h2⟩ := c3 _ _ hQ2
  simp only [Option.toList_some, List.cons_append, List.nil_append]
  refine jx_gq flok_0 fwok_0 716 1 _ _ _ _ ?_
  simp (disch := omega) only [↓reduceIte, jx_wp, jx_stp, jx_f0, jx_f1, jx_f2, jx_f3, List.getElem?_cons_zero, List.getElem?_cons_succ, List.set_cons_zero, List.set_cons_succ, Nat.reduceAdd, true_and, and_true, if_true, if_false, Bool.false_eq_true, jx_s, Nat.reduceLT, dL_law_711, tg_711_5, jx_wq, jx_stq, jx_ite, jx_b0, jx_bn0, jx_u_eq, jx_u_na, jx_u_ni, jx_nb0, jx_nb1, jx_ni, jx_E, eq_self, jx_a0, jx_a1, ne_eq, not_false_eq_true, Nat.reduceLeDiff, Nat.reduceEqDiff, Nat.reduceLT, jx_subl, jx_al, jx_la, jx_nm, jx_ml, nI_add, jx_xn, jx_xl, jx_inn, jx_inl, jx_ltnn, jx_lenn, jx_eqnn, jx_ltnl, jx_lenl, jx_ltln, jx_leln, jx_eqnl, Int32.reduceAdd, Int32.reduceSub, Int32.reduceMul, Int32.reduceLT, Int32.reduceLE, jx_eqll, jx_ltll, Nat.reduceMul, Nat.reduceSub, forall_const, implies_true, false_implies, not_true_eq_false, true_implies, jx_tko, jx_ofn, jx_tka, jx_pro, jx_pra, and_self, Nat.not_lt_zero]
  exact kk _ _ _ _ _ h2
