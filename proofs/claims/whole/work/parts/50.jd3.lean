/-- what a full list of c places grows to -/
def jd_cap (c : Nat) : Nat := if c = 0 then 10 else c + max 1 (c / 2)
theorem jd_cap_lt {c : Nat} (h : c < 400000) : jd_cap c < 1000000 := by
  unfold jd_cap
  split <;> omega
theorem jd_cap_gt {c : Nat} : c < jd_cap c := by
  unfold jd_cap
  split <;> omega
set_option maxHeartbeats 4000000 in
set_option maxRecDepth 100000 in
theorem jd_newLen {G : jx_G} {n ms : Nat} {K : Nat → Nat × Nat} {I : Nat → Nat → Int32} {P : Nat → Nat → Option Nat} {c : Nat} (h0 : 0 < c) (hc : c < 400000) : jx_C G yJ8_newLength_cabcc cJ8_newLength_cabcc 4 (some FieldType.int) 1 [.inl (nI c), .inl 1, .inl (nI (c / 2))] (n, ms, K, I, P) (jx_E (some (.inl (nI (jd_cap c)))) (n, ms, K, I, P)) := by
  refine jx_C_of (by decide) (Nat.le_of_ble_eq_true rfl) ?_
  simp only [List.map_cons, List.map_nil, List.length_cons, List.length_nil, Nat.reduceAdd, Nat.reduceSub, List.replicate_zero, List.append_nil, List.replicate_succ, List.cons_append, List.nil_append]
  have e1 : (if (1 : Int32) < nI (c / 2) then nI (c / 2) else 1) = nI (max 1 (c / 2)) := by
    have e0 : ((1 : Int32) < nI (c / 2)) = (1 < c / 2) := jx_ltln (m := 1) (by omega) (by omega)
    rw [e0]
    by_cases h : 1 < c / 2
    · rw [if_pos h, Nat.max_eq_right (by omega)]
    · rw [if_neg h, Nat.max_eq_left (by omega)]
      rfl
  have e2 : c + max 1 (c / 2) = jd_cap c := by
    unfold jd_cap
    rw [if_neg (by omega)]
  have e3 := jd_cap_lt hc
  have e4 := @jd_cap_gt c
  refine jx_gq flok_J8 (fwok_J8 rfl) 99999 3 _ _ _ _ ?_
  simp (disch := omega) only [↓reduceIte, jx_wp, jx_stp, jx_f0, jx_f1, jx_f2, jx_f3, List.getElem?_cons_zero, List.getElem?_cons_succ, List.set_cons_zero, List.set_cons_succ, Nat.reduceAdd, true_and, and_true, if_true, if_false, Bool.false_eq_true, jx_s, Nat.reduceLT, dJ8_newLength_cabcc_0, dJ8_newLength_cabcc_1, dJ8_newLength_cabcc_2, dJ8_newLength_cabcc_3, dJ8_newLength_cabcc_6, dJ8_newLength_cabcc_7, dJ8_newLength_cabcc_8, dJ8_newLength_cabcc_9, dJ8_newLength_cabcc_10, dJ8_newLength_cabcc_13, dJ8_newLength_cabcc_14, dJ8_newLength_cabcc_16, dJ8_newLength_cabcc_19, dJ8_newLength_cabcc_20, dJ8_newLength_cabcc_21, dJ8_newLength_cabcc_22, dJ8_newLength_cabcc_23, dJ8_newLength_cabcc_26, jx_k0, tg_10_11, tg_16_5, jx_wq, jx_stq, jx_ite, jx_b0, jx_bn0, jx_u_eq, jx_u_na, jx_u_ni, jx_nb0, jx_nb1, jx_ni, jx_E, eq_self, jx_a0, jx_a1, ne_eq, not_false_eq_true, Nat.reduceLeDiff, Nat.reduceEqDiff, Nat.reduceLT, jx_subl, jx_al, jx_la, jx_nm, jx_ml, nI_add, jx_xn, jx_xl, jx_inn, jx_inl, jx_ltnn, jx_lenn, jx_eqnn, jx_ltnl, jx_lenl, jx_ltln, jx_leln, jx_eqnl, Int32.reduceAdd, Int32.reduceSub, Int32.reduceMul, Int32.reduceLT, Int32.reduceLE, jx_eqll, jx_ltll, Nat.reduceMul, Nat.reduceSub, forall_const, implies_true, false_implies, not_true_eq_false, true_implies]
  refine jx_cS2 dJ8_newLength_cabcc_3 li_J8_194 (jd_max) (Nat.le_of_ble_eq_true rfl) (Nat.le_of_ble_eq_true rfl) ?_
  rintro _ _ ⟨rfl, rfl⟩ - -
  simp only [Option.toList_some, Option.toList_none, List.cons_append, List.nil_append]
  rw [e1]
  refine jx_gq flok_J8 (fwok_J8 rfl) 99999 9 _ _ _ _ ?_
  simp (disch := omega) only [↓reduceIte, jx_wp, jx_stp, jx_f0, jx_f1, jx_f2, jx_f3, List.getElem?_cons_zero, List.getElem?_cons_succ, List.set_cons_zero, List.set_cons_succ, Nat.reduceAdd, true_and, and_true, if_true, if_false, Bool.false_eq_true, jx_s, Nat.reduceLT, dJ8_newLength_cabcc_0, dJ8_newLength_cabcc_1, dJ8_newLength_cabcc_2, dJ8_newLength_cabcc_3, dJ8_newLength_cabcc_6, dJ8_newLength_cabcc_7, dJ8_newLength_cabcc_8, dJ8_newLength_cabcc_9, dJ8_newLength_cabcc_10, dJ8_newLength_cabcc_13, dJ8_newLength_cabcc_14, dJ8_newLength_cabcc_16, dJ8_newLength_cabcc_19, dJ8_newLength_cabcc_20, dJ8_newLength_cabcc_21, dJ8_newLength_cabcc_22, dJ8_newLength_cabcc_23, dJ8_newLength_cabcc_26, jx_k0, tg_10_11, tg_16_5, jx_wq, jx_stq, jx_ite, jx_b0, jx_bn0, jx_u_eq, jx_u_na, jx_u_ni, jx_nb0, jx_nb1, jx_ni, jx_E, eq_self, jx_a0, jx_a1, ne_eq, not_false_eq_true, Nat.reduceLeDiff, Nat.reduceEqDiff, Nat.reduceLT, jx_subl, jx_al, jx_la, jx_nm, jx_ml, nI_add, jx_xn, jx_xl, jx_inn, jx_inl, jx_ltnn, jx_lenn, jx_eqnn, jx_ltnl, jx_lenl, jx_ltln, jx_leln, jx_eqnl, Int32.reduceAdd, Int32.reduceSub, Int32.reduceMul, Int32.reduceLT, Int32.reduceLE, jx_eqll, jx_ltll, Nat.reduceMul, Nat.reduceSub, forall_const, implies_true, false_implies, not_true_eq_false, true_implies, e2]
  refine jx_ldc dJ8_newLength_cabcc_14 ck_J8_200 ?_
  refine jx_gq flok_J8 (fwok_J8 rfl) 99999 4 _ _ _ _ ?_
  simp (disch := omega) only [↓reduceIte, jx_wp, jx_stp, jx_f0, jx_f1, jx_f2, jx_f3, List.getElem?_cons_zero, List.getElem?_cons_succ, List.set_cons_zero, List.set_cons_succ, Nat.reduceAdd, true_and, and_true, if_true, if_false, Bool.false_eq_true, jx_s, Nat.reduceLT, dJ8_newLength_cabcc_0, dJ8_newLength_cabcc_1, dJ8_newLength_cabcc_2, dJ8_newLength_cabcc_3, dJ8_newLength_cabcc_6, dJ8_newLength_cabcc_7, dJ8_newLength_cabcc_8, dJ8_newLength_cabcc_9, dJ8_newLength_cabcc_10, dJ8_newLength_cabcc_13, dJ8_newLength_cabcc_14, dJ8_newLength_cabcc_16, dJ8_newLength_cabcc_19, dJ8_newLength_cabcc_20, dJ8_newLength_cabcc_21, dJ8_newLength_cabcc_22, dJ8_newLength_cabcc_23, dJ8_newLength_cabcc_26, jx_k0, tg_10_11, tg_16_5, jx_wq, jx_stq, jx_ite, jx_b0, jx_bn0, jx_u_eq, jx_u_na, jx_u_ni, jx_nb0, jx_nb1, jx_ni, jx_E, eq_self, jx_a0, jx_a1, ne_eq, not_false_eq_true, Nat.reduceLeDiff, Nat.reduceEqDiff, Nat.reduceLT, jx_subl, jx_al, jx_la, jx_nm, jx_ml, nI_add, jx_xn, jx_xl, jx_inn, jx_inl, jx_ltnn, jx_lenn, jx_eqnn, jx_ltnl, jx_lenl, jx_ltln, jx_leln, jx_eqnl, Int32.reduceAdd, Int32.reduceSub, Int32.reduceMul, Int32.reduceLT, Int32.reduceLE, jx_eqll, jx_ltll, Nat.reduceMul, Nat.reduceSub, forall_const, implies_true, false_implies, not_true_eq_false, true_implies, e2]
def jd_K (K : Nat → Nat × Nat) (n c : Nat) : Nat → Nat × Nat := fun b => if b = n then (16, c) else K b
def jd_I (I : Nat → Nat → Int32) (n : Nat) : Nat → Nat → Int32 := fun b j => if b = n then 0 else I b j
def jd_P (P : Nat → Nat → Option Nat) (n e k : Nat) : Nat → Nat → Option Nat := fun b j => if b = n then (if j < k then P e j else none) else P b j
theorem jd_z0 : (0 : Int32).toNatClampNeg = 0 := by decide
theorem jd_as4 : jx_asg 4 "java/lang/Object" := ⟨_, rfl, Or.inr ca_X3⟩
theorem jd_cp {n ms c c2 e : Nat} {K : Nat → Nat × Nat} {I : Nat → Nat → Int32} {P : Nat → Nat → Option Nat} (h : (e = n) = False) : jx_cpP (n + 1, ms + c2, (fun b => if b = n then (16, c2) else K b), (fun b k => if b = n then 0 else I b k), (fun b k => if b = n then none else P b k)) e n 0 0 c = (n + 1, ms + c2, jd_K K n c2, jd_I I n, jd_P P n e c) := by
  have e1 : (fun x j => if x = n then va_cpy ((fun b k => if b = n then none else P b k) e) ((fun b k => if b = n then none else P b k) n) 0 0 c j else (fun b k => if b = n then none else P b k) x j) = jd_P P n e c := by
    funext b j
    by_cases hb : b = n
    · simp only [hb, jd_P, va_cpy, if_true, h, if_false, Nat.zero_le, true_and, Nat.zero_add, Nat.sub_zero]
    · simp only [hb, jd_P, if_false]
  unfold jx_cpP
  simp only [e1]
  rfl
set_option maxHeartbeats 4000000 in
set_option maxRecDepth 100000 in
theorem jd_copy3 {G : jx_G} {n ms : Nat} {K : Nat → Nat × Nat} {I : Nat → Nat → Int32} {P : Nat → Nat → Option Nat} {e c c2 : Nat} (he : K e = (16, c)) (h3 : 3 ≤ e) (hen : e < n) (hnq : ∀ j, j < c → ∀ q, P e j = some q → q ≠ n) (hcc : c ≤ c2) (hc2 : c2 < 1000000) (hel : ∀ j, j < c → ∀ q, P e j = some q → (K q).1 = 4) (hn : n + 1 ≤ 600003) (hms : ms + c2 ≤ 7302250) : jx_C G yJ7_copyOf_6403c cJ7_copyOf_6403c 4 (some (FieldType.array (FieldType.object "java/lang/Object"))) 1 [.inr (some e), .inl (nI c2), .inr (some 2)] (n, ms, K, I, P) (jx_E (some (.inr (some n))) (n + 1, ms + c2, jd_K K n c2, jd_I I n, jd_P P n e c)) := by
  refine jx_C_of (by decide) (Nat.le_of_ble_eq_true rfl) ?_
  simp only [List.map_cons, List.map_nil, List.length_cons, List.length_nil, Nat.reduceAdd, Nat.reduceSub, List.replicate_zero, List.append_nil, List.replicate_succ, List.cons_append, List.nil_append]
  have hne : (e = n) = False := eq_false (by omega)
  have hc3 : c ≤ 2147483647 := by omega
  refine jx_gq flok_J7 (fwok_J7 rfl) 99999 1 _ _ _ _ ?_
  simp (disch := omega) only [↓reduceIte, jx_wp, jx_stp, jx_f0, jx_f1, jx_f2, jx_f3, List.getElem?_cons_zero, List.getElem?_cons_succ, List.set_cons_zero, List.set_cons_succ, Nat.reduceAdd, true_and, and_true, if_true, if_false, Bool.false_eq_true, jx_s, Nat.reduceLT, dJ7_copyOf_6403c_0, dJ7_copyOf_6403c_1, dJ7_copyOf_6403c_3, dJ7_copyOf_6403c_6, dJ7_copyOf_6403c_7, dJ7_copyOf_6403c_10, dJ7_copyOf_6403c_13, dJ7_copyOf_6403c_14, dJ7_copyOf_6403c_17, dJ7_copyOf_6403c_18, dJ7_copyOf_6403c_21, dJ7_copyOf_6403c_24, dJ7_copyOf_6403c_25, dJ7_copyOf_6403c_26, dJ7_copyOf_6403c_27, dJ7_copyOf_6403c_28, dJ7_copyOf_6403c_29, dJ7_copyOf_6403c_30, dJ7_copyOf_6403c_31, dJ7_copyOf_6403c_32, dJ7_copyOf_6403c_35, dJ7_copyOf_6403c_38, dJ7_copyOf_6403c_39, tg_3_10, tg_10_14, jx_k0, jx_wq, jx_stq, jx_ite, jx_b0, jx_bn0, jx_u_eq, jx_u_na, jx_u_ni, jx_nb0, jx_nb1, jx_ni, jx_E, eq_self, jx_a0, jx_a1, ne_eq, not_false_eq_true, Nat.reduceLeDiff, Nat.reduceEqDiff, Nat.reduceLT, jx_subl, jx_al, jx_la, jx_nm, jx_ml, nI_add, jx_xn, jx_xl, jx_inn, jx_inl, jx_ltnn, jx_lenn, jx_eqnn, jx_ltnl, jx_lenl, jx_ltln, jx_leln, jx_eqnl, Int32.reduceAdd, Int32.reduceSub, Int32.reduceMul, Int32.reduceLT, Int32.reduceLE, jx_eqll, jx_ltll, Nat.reduceMul, Nat.reduceSub, forall_const, implies_true, false_implies, not_true_eq_false, true_implies]
  refine jx_ldcM dJ7_copyOf_6403c_1 lc_J7_110 ?_
  refine jx_acmp_ne dJ7_copyOf_6403c_3 (tgt := 13) (by decide) (Or.inl rfl) (fun h => absurd rfl h) (fun _ => ?_)
  refine jx_gq flok_J7 (fwok_J7 rfl) 99999 1 _ _ _ _ ?_
  simp (disch := omega) only [↓reduceIte, jx_wp, jx_stp, jx_f0, jx_f1, jx_f2, jx_f3, List.getElem?_cons_zero, List.getElem?_cons_succ, List.set_cons_zero, List.set_cons_succ, Nat.reduceAdd, true_and, and_true, if_true, if_false, Bool.false_eq_true, jx_s, Nat.reduceLT, dJ7_copyOf_6403c_0, dJ7_copyOf_6403c_1, dJ7_copyOf_6403c_3, dJ7_copyOf_6403c_6, dJ7_copyOf_6403c_7, dJ7_copyOf_6403c_10, dJ7_copyOf_6403c_13, dJ7_copyOf_6403c_14, dJ7_copyOf_6403c_17, dJ7_copyOf_6403c_18, dJ7_copyOf_6403c_21, dJ7_copyOf_6403c_24, dJ7_copyOf_6403c_25, dJ7_copyOf_6403c_26, dJ7_copyOf_6403c_27, dJ7_copyOf_6403c_28, dJ7_copyOf_6403c_29, dJ7_copyOf_6403c_30, dJ7_copyOf_6403c_31, dJ7_copyOf_6403c_32, dJ7_copyOf_6403c_35, dJ7_copyOf_6403c_38, dJ7_copyOf_6403c_39, tg_3_10, tg_10_14, jx_k0, jx_wq, jx_stq, jx_ite, jx_b0, jx_bn0, jx_u_eq, jx_u_na, jx_u_ni, jx_nb0, jx_nb1, jx_ni, jx_E, eq_self, jx_a0, jx_a1, ne_eq, not_false_eq_true, Nat.reduceLeDiff, Nat.reduceEqDiff, Nat.reduceLT, jx_subl, jx_al, jx_la, jx_nm, jx_ml, nI_add, jx_xn, jx_xl, jx_inn, jx_inl, jx_ltnn, jx_lenn, jx_eqnn, jx_ltnl, jx_lenl, jx_ltln, jx_leln, jx_eqnl, Int32.reduceAdd, Int32.reduceSub, Int32.reduceMul, Int32.reduceLT, Int32.reduceLE, jx_eqll, jx_ltll, Nat.reduceMul, Nat.reduceSub, forall_const, implies_true, false_implies, not_true_eq_false, true_implies]
  refine jx_anewarray (c := 16) (N := c2) dJ7_copyOf_6403c_7 (by decide) (by decide) rfl lc_J7_2 ao_16_javalangObject (by simp (disch := omega) only [jx_ltnl, Nat.not_lt_zero, not_false_eq_true]) (nI_clamp (by omega)) (by omega) hn hms ?_
  simp only [jx_nw]
  refine jx_gq flok_J7 (fwok_J7 rfl) 99999 12 _ _ _ _ ?_
  simp (disch := omega) only [↓reduceIte, jx_wp, jx_stp, jx_f0, jx_f1, jx_f2, jx_f3, List.getElem?_cons_zero, List.getElem?_cons_succ, List.set_cons_zero, List.set_cons_succ, Nat.reduceAdd, true_and, and_true, if_true, if_false, Bool.false_eq_true, jx_s, Nat.reduceLT, dJ7_copyOf_6403c_0, dJ7_copyOf_6403c_1, dJ7_copyOf_6403c_3, dJ7_copyOf_6403c_6, dJ7_copyOf_6403c_7, dJ7_copyOf_6403c_10, dJ7_copyOf_6403c_13, dJ7_copyOf_6403c_14, dJ7_copyOf_6403c_17, dJ7_copyOf_6403c_18, dJ7_copyOf_6403c_21, dJ7_copyOf_6403c_24, dJ7_copyOf_6403c_25, dJ7_copyOf_6403c_26, dJ7_copyOf_6403c_27, dJ7_copyOf_6403c_28, dJ7_copyOf_6403c_29, dJ7_copyOf_6403c_30, dJ7_copyOf_6403c_31, dJ7_copyOf_6403c_32, dJ7_copyOf_6403c_35, dJ7_copyOf_6403c_38, dJ7_copyOf_6403c_39, tg_3_10, tg_10_14, jx_k0, jx_wq, jx_stq, jx_ite, jx_b0, jx_bn0, jx_u_eq, jx_u_na, jx_u_ni, jx_nb0, jx_nb1, jx_ni, jx_E, eq_self, jx_a0, jx_a1, ne_eq, not_false_eq_true, Nat.reduceLeDiff, Nat.reduceEqDiff, Nat.reduceLT, jx_subl, jx_al, jx_la, jx_nm, jx_ml, nI_add, jx_xn, jx_xl, jx_inn, jx_inl, jx_ltnn, jx_lenn, jx_eqnn, jx_ltnl, jx_lenl, jx_ltln, jx_leln, jx_eqnl, Int32.reduceAdd, Int32.reduceSub, Int32.reduceMul, Int32.reduceLT, Int32.reduceLE, jx_eqll, jx_ltll, Nat.reduceMul, Nat.reduceSub, forall_const, implies_true, false_implies, not_true_eq_false, true_implies, hne, he]
  refine jx_cS2 dJ7_copyOf_6403c_32 li_J7_304 (jd_min) (Nat.le_of_ble_eq_true rfl) (Nat.le_of_ble_eq_true rfl) ?_
  rintro _ _ ⟨rfl, rfl⟩ - -
  simp only [Option.toList_some, Option.toList_none, List.cons_append, List.nil_append]
  rw [if_neg (show ¬ nI c2 < nI c by rw [jx_ltnn (by omega) (by omega)]; omega)]
  refine jx_copyP (cv := 4) dJ7_copyOf_6403c_35 ln_J7_150 nt_arraycopy st_arraycopy in_System (by simp only [hne, he, if_false]) (by simp only [if_true]) h3 (by omega) (by decide) (by simp) jd_as4 (by decide) (by decide) (by simp (disch := omega) only [jx_ltnl, Nat.not_lt_zero, not_false_eq_true]) (by simp only [hne, he, if_false, nI_clamp hc3, jd_z0]; omega) (by simp only [if_true, nI_clamp hc3, jd_z0]; omega) ?_ ?_
  · intro j hj q
    simp only [hne, if_false, nI_clamp hc3, jd_z0, Nat.zero_add] at hj ⊢
    intro hq
    have h4 := hel j hj q hq
    have hqn : q ≠ n := hnq j hj q hq
    rw [if_neg hqn]
    exact h4
  rw [nI_clamp hc3, jd_z0, jd_cp hne]
  refine jx_gq flok_J7 (fwok_J7 rfl) 99999 3 _ _ _ _ ?_
  simp (disch := omega) only [↓reduceIte, jx_wp, jx_stp, jx_f0, jx_f1, jx_f2, jx_f3, List.getElem?_cons_zero, List.getElem?_cons_succ, List.set_cons_zero, List.set_cons_succ, Nat.reduceAdd, true_and, and_true, if_true, if_false, Bool.false_eq_true, jx_s, Nat.reduceLT, dJ7_copyOf_6403c_0, dJ7_copyOf_6403c_1, dJ7_copyOf_6403c_3, dJ7_copyOf_6403c_6, dJ7_copyOf_6403c_7, dJ7_copyOf_6403c_10, dJ7_copyOf_6403c_13, dJ7_copyOf_6403c_14, dJ7_copyOf_6403c_17, dJ7_copyOf_6403c_18, dJ7_copyOf_6403c_21, dJ7_copyOf_6403c_24, dJ7_copyOf_6403c_25, dJ7_copyOf_6403c_26, dJ7_copyOf_6403c_27, dJ7_copyOf_6403c_28, dJ7_copyOf_6403c_29, dJ7_copyOf_6403c_30, dJ7_copyOf_6403c_31, dJ7_copyOf_6403c_32, dJ7_copyOf_6403c_35, dJ7_copyOf_6403c_38, dJ7_copyOf_6403c_39, tg_3_10, tg_10_14, jx_k0, jx_wq, jx_stq, jx_ite, jx_b0, jx_bn0, jx_u_eq, jx_u_na, jx_u_ni, jx_nb0, jx_nb1, jx_ni, jx_E, eq_self, jx_a0, jx_a1, ne_eq, not_false_eq_true, Nat.reduceLeDiff, Nat.reduceEqDiff, Nat.reduceLT, jx_subl, jx_al, jx_la, jx_nm, jx_ml, nI_add, jx_xn, jx_xl, jx_inn, jx_inl, jx_ltnn, jx_lenn, jx_eqnn, jx_ltnl, jx_lenl, jx_ltln, jx_leln, jx_eqnl, Int32.reduceAdd, Int32.reduceSub, Int32.reduceMul, Int32.reduceLT, Int32.reduceLE, jx_eqll, jx_ltll, Nat.reduceMul, Nat.reduceSub, forall_const, implies_true, false_implies, not_true_eq_false, true_implies]
set_option maxHeartbeats 4000000 in
set_option maxRecDepth 100000 in
theorem jd_copy2 {G : jx_G} {n ms : Nat} {K : Nat → Nat × Nat} {I : Nat → Nat → Int32} {P : Nat → Nat → Option Nat} {e c c2 : Nat} (he : K e = (16, c)) (h3 : 3 ≤ e) (hen : e < n) (hnq : ∀ j, j < c → ∀ q, P e j = some q → q ≠ n) (hcc : c ≤ c2) (hc2 : c2 < 1000000) (hel : ∀ j, j < c → ∀ q, P e j = some q → (K q).1 = 4) (hn : n + 1 ≤ 600003) (hms : ms + c2 ≤ 7302250) : jx_C G yJ7_copyOf_1904c cJ7_copyOf_1904c 2 (some (FieldType.array (FieldType.object "java/lang/Object"))) 2 [.inr (some e), .inl (nI c2)] (n, ms, K, I, P) (jx_E (some (.inr (some n))) (n + 1, ms + c2, jd_K K n c2, jd_I I n, jd_P P n e c)) := by
  refine jx_C_of (by decide) (Nat.le_of_ble_eq_true rfl) ?_
  simp only [List.map_cons, List.map_nil, List.length_cons, List.length_nil, Nat.reduceAdd, Nat.reduceSub, List.replicate_zero, List.append_nil, List.replicate_succ, List.cons_append, List.nil_append]
  refine jx_gq flok_J7 (fwok_J7 rfl) 99999 3 _ _ _ _ ?_
  simp (disch := omega) only [↓reduceIte, jx_wp, jx_stp, jx_f0, jx_f1, jx_f2, jx_f3, List.getElem?_cons_zero, List.getElem?_cons_succ, List.set_cons_zero, List.set_cons_succ, Nat.reduceAdd, true_and, and_true, if_true, if_false, Bool.false_eq_true, jx_s, Nat.reduceLT, dJ7_copyOf_1904c_0, dJ7_copyOf_1904c_1, dJ7_copyOf_1904c_2, dJ7_copyOf_1904c_3, dJ7_copyOf_1904c_6, dJ7_copyOf_1904c_9, jx_wq, jx_stq, jx_ite, jx_b0, jx_bn0, jx_u_eq, jx_u_na, jx_u_ni, jx_nb0, jx_nb1, jx_ni, jx_E, eq_self, jx_a0, jx_a1, ne_eq, not_false_eq_true, Nat.reduceLeDiff, Nat.reduceEqDiff, Nat.reduceLT, jx_subl, jx_al, jx_la, jx_nm, jx_ml, nI_add, jx_xn, jx_xl, jx_inn, jx_inl, jx_ltnn, jx_lenn, jx_eqnn, jx_ltnl, jx_lenl, jx_ltln, jx_leln, jx_eqnl, Int32.reduceAdd, Int32.reduceSub, Int32.reduceMul, Int32.reduceLT, Int32.reduceLE, jx_eqll, jx_ltll, Nat.reduceMul, Nat.reduceSub, forall_const, implies_true, false_implies, not_true_eq_false, true_implies]
  refine jx_getClass dJ7_copyOf_1904c_3 (by rw [he]) h3 ln_J7_86 se_getClass_LjavalangObject im_getClass nt_getClass (by decide) (by simp) ?_
  refine jx_cS3 dJ7_copyOf_1904c_6 li_J7_300 (jd_copy3 he h3 hen hnq hcc hc2 hel hn hms) (Nat.le_of_ble_eq_true rfl) (Nat.le_of_ble_eq_true rfl) ?_
  rintro _ _ ⟨rfl, rfl⟩ - -
  simp only [Option.toList_some, Option.toList_none, List.cons_append, List.nil_append]
  refine jx_gq flok_J7 (fwok_J7 rfl) 99999 2 _ _ _ _ ?_
  simp (disch := omega) only [↓reduceIte, jx_wp, jx_stp, jx_f0, jx_f1, jx_f2, jx_f3, List.getElem?_cons_zero, List.getElem?_cons_succ, List.set_cons_zero, List.set_cons_succ, Nat.reduceAdd, true_and, and_true, if_true, if_false, Bool.false_eq_true, jx_s, Nat.reduceLT, dJ7_copyOf_1904c_0, dJ7_copyOf_1904c_1, dJ7_copyOf_1904c_2, dJ7_copyOf_1904c_3, dJ7_copyOf_1904c_6, dJ7_copyOf_1904c_9, jx_wq, jx_stq, jx_ite, jx_b0, jx_bn0, jx_u_eq, jx_u_na, jx_u_ni, jx_nb0, jx_nb1, jx_ni, jx_E, eq_self, jx_a0, jx_a1, ne_eq, not_false_eq_true, Nat.reduceLeDiff, Nat.reduceEqDiff, Nat.reduceLT, jx_subl, jx_al, jx_la, jx_nm, jx_ml, nI_add, jx_xn, jx_xl, jx_inn, jx_inl, jx_ltnn, jx_lenn, jx_eqnn, jx_ltnl, jx_lenl, jx_ltln, jx_leln, jx_eqnl, Int32.reduceAdd, Int32.reduceSub, Int32.reduceMul, Int32.reduceLT, Int32.reduceLE, jx_eqll, jx_ltll, Nat.reduceMul, Nat.reduceSub, forall_const, implies_true, false_implies, not_true_eq_false, true_implies]
