/-! the rows of the search are made -/
def mn_K (K : Nat → Nat × Nat) (n : Nat) : Nat → Nat × Nat := fun b => if b = n then (17, 4) else if n < b ∧ b < n + 1 + 4 then (11, 14) else K b
def mn_I (I : Nat → Nat → Int32) (n : Nat) : Nat → Nat → Int32 := fun b k => if n ≤ b ∧ b < n + 1 + 4 then 0 else I b k
def mn_P (P : Nat → Nat → Option Nat) (n : Nat) : Nat → Nat → Option Nat := fun b k => if b = n then (if k < 4 then some (n + 1 + k) else none) else if n < b ∧ b < n + 1 + 4 then none else P b k
theorem mn_eq {n ms : Nat} {K : Nat → Nat × Nat} {I : Nat → Nat → Int32} {P : Nat → Nat → Option Nat} : jx_mn (n, ms, K, I, P) 4 14 = (n + 5, ms + 60, mn_K K n, mn_I I n, mn_P P n) := rfl
theorem mn_K_n {K : Nat → Nat × Nat} {n : Nat} : mn_K K n n = (17, 4) := if_pos rfl
theorem mn_K_r {K : Nat → Nat × Nat} {n b : Nat} (h : n < b ∧ b < n + 5) : mn_K K n b = (11, 14) := by
  unfold mn_K
  rw [if_neg (by omega), if_pos (by omega)]
theorem mn_K_o {K : Nat → Nat × Nat} {n b : Nat} (h : b < n ∨ n + 5 ≤ b) : mn_K K n b = K b := by
  unfold mn_K
  rw [if_neg (by omega), if_neg (by omega)]
theorem mn_I_o {I : Nat → Nat → Int32} {n b j : Nat} (h : b < n ∨ n + 5 ≤ b) : mn_I I n b j = I b j := by
  unfold mn_I
  rw [if_neg (by omega)]
theorem mn_P_n {P : Nat → Nat → Option Nat} {n j : Nat} (h : j < 4) : mn_P P n n j = some (n + 1 + j) := by
  unfold mn_P
  rw [if_pos rfl, if_pos h]
theorem mn_P_o {P : Nat → Nat → Option Nat} {n b j : Nat} (h : b < n ∨ n + 5 ≤ b) : mn_P P n b j = P b j := by
  unfold mn_P
  rw [if_neg (by omega), if_neg (by omega)]
set_option maxHeartbeats 4000000 in
set_option maxRecDepth 100000 in
theorem ri_init {G : jx_G} {ms : Nat} {K : Nat → Nat × Nat} {I : Nat → Nat → Int32} {P : Nat → Nat → Option Nat} (hk : K 11 = (6, 7)) (hms : ms + 486 ≤ 7302250) : jx_C G yX5_init cX5_init 1 none 1 [.inr (some 11)] (12, ms, K, I, P) (ri_Q ms K I P) := by
  refine jx_C_of (by decide) (Nat.le_of_ble_eq_true rfl) ?_
  simp only [List.map_cons, List.map_nil, List.length_cons, List.length_nil, Nat.reduceAdd, Nat.reduceSub, List.replicate_zero, List.append_nil, List.replicate_succ, List.cons_append, List.nil_append]
  refine jx_gq flok_X5 fiok_X5 1 1 _ _ _ _ ?_
  simp (disch := omega) only [↓reduceIte, jx_wp, jx_stp, jx_f0, jx_f1, jx_f2, jx_f3, List.getElem?_cons_zero, List.getElem?_cons_succ, List.set_cons_zero, List.set_cons_succ, Nat.reduceAdd, true_and, and_true, if_true, if_false, Bool.false_eq_true, jx_s, Nat.reduceLT, dX5_init_0, jx_wq, jx_stq, jx_ite, jx_b0, jx_bn0, jx_u_eq, jx_u_na, jx_u_ni, jx_nb0, jx_nb1, jx_ni, jx_E, eq_self, jx_a0, jx_a1, ne_eq, not_false_eq_true, Nat.reduceLeDiff, Nat.reduceEqDiff, Nat.reduceLT, jx_subl, jx_al, jx_la, jx_nm, jx_ml, jx_xn, jx_xl, jx_inn, jx_inl, jx_ltnn, jx_lenn, jx_eqnn, jx_ltnl, jx_lenl, jx_ltln, jx_leln, jx_eqnl, Int32.reduceAdd, Int32.reduceSub, Int32.reduceMul, Int32.reduceLT, Int32.reduceLE, jx_eqll, jx_ltll, Nat.reduceMul, Nat.reduceSub, forall_const, implies_true, false_implies, not_true_eq_false, true_implies, and_self, Nat.not_lt_zero]
  refine jx_objInit dX5_init_1 ob_X5_5 ob_i ob_c (by decide) (by simp) ?_
  refine jx_gq flok_X5 fiok_X5 7 2 _ _ _ _ ?_
  simp (disch := omega) only [↓reduceIte, jx_wp, jx_stp, jx_f0, jx_f1, jx_f2, jx_f3, List.getElem?_cons_zero, List.getElem?_cons_succ, List.set_cons_zero, List.set_cons_succ, Nat.reduceAdd, true_and, and_true, if_true, if_false, Bool.false_eq_true, jx_s, Nat.reduceLT, dX5_init_4, dX5_init_5, jx_b14, jx_wq, jx_stq, jx_ite, jx_b0, jx_bn0, jx_u_eq, jx_u_na, jx_u_ni, jx_nb0, jx_nb1, jx_ni, jx_E, eq_self, jx_a0, jx_a1, ne_eq, not_false_eq_true, Nat.reduceLeDiff, Nat.reduceEqDiff, Nat.reduceLT, jx_subl, jx_al, jx_la, jx_nm, jx_ml, jx_xn, jx_xl, jx_inn, jx_inl, jx_ltnn, jx_lenn, jx_eqnn, jx_ltnl, jx_lenl, jx_ltln, jx_leln, jx_eqnl, Int32.reduceAdd, Int32.reduceSub, Int32.reduceMul, Int32.reduceLT, Int32.reduceLE, jx_eqll, jx_ltll, Nat.reduceMul, Nat.reduceSub, forall_const, implies_true, false_implies, not_true_eq_false, true_implies, and_self, Nat.not_lt_zero]
  refine jx_anewarray (c := 14) (N := 14) dX5_init_7 (by decide) (by decide) rfl lc_X5_11 ao_23_RegisterFleetOperation (by decide) (by decide) (by decide) (by simp only; omega) (by simp only; omega) ?_
  rw [nw_eq]
  refine jx_gq flok_X5 fiok_X5 17 4 _ _ _ _ ?_
  simp (disch := omega) only [↓reduceIte, jx_wp, jx_stp, jx_f0, jx_f1, jx_f2, jx_f3, List.getElem?_cons_zero, List.getElem?_cons_succ, List.set_cons_zero, List.set_cons_succ, Nat.reduceAdd, true_and, and_true, if_true, if_false, Bool.false_eq_true, jx_s, Nat.reduceLT, dX5_init_10, dX5_init_13, dX5_init_14, dX5_init_15, fi_X5_13, ft_6_0, jx_k4, jx_b14, jx_wq, jx_stq, jx_ite, jx_b0, jx_bn0, jx_u_eq, jx_u_na, jx_u_ni, jx_nb0, jx_nb1, jx_ni, jx_E, eq_self, jx_a0, jx_a1, ne_eq, not_false_eq_true, Nat.reduceLeDiff, Nat.reduceEqDiff, Nat.reduceLT, jx_subl, jx_al, jx_la, jx_nm, jx_ml, jx_xn, jx_xl, jx_inn, jx_inl, jx_ltnn, jx_lenn, jx_eqnn, jx_ltnl, jx_lenl, jx_ltln, jx_leln, jx_eqnl, Int32.reduceAdd, Int32.reduceSub, Int32.reduceMul, Int32.reduceLT, Int32.reduceLE, jx_eqll, jx_ltll, Nat.reduceMul, Nat.reduceSub, forall_const, implies_true, false_implies, not_true_eq_false, true_implies, and_self, Nat.not_lt_zero, fv_6_0, hk, nw_K_o, nw_I_o, nw_P_o, nw_K_n, nw_I_n, nw_P_n, mn_K_n, mn_K_o, mn_I_o, mn_P_o]
  refine jx_multi (N := 4) (K := 14) dX5_init_17 lc_X5_17 ac_int (by decide) (by decide) (by decide) (by decide) ⟨by omega, by omega⟩ (by simp only; omega) (by simp only; omega) ?_
  rw [mn_eq]
  refine jx_gq flok_X5 fiok_X5 26 3 _ _ _ _ ?_
  simp (disch := omega) only [↓reduceIte, jx_wp, jx_stp, jx_f0, jx_f1, jx_f2, jx_f3, List.getElem?_cons_zero, List.getElem?_cons_succ, List.set_cons_zero, List.set_cons_succ, Nat.reduceAdd, true_and, and_true, if_true, if_false, Bool.false_eq_true, jx_s, Nat.reduceLT, dX5_init_21, dX5_init_24, dX5_init_25, fi_X5_19, ft_6_1, jx_k4, jx_wq, jx_stq, jx_ite, jx_b0, jx_bn0, jx_u_eq, jx_u_na, jx_u_ni, jx_nb0, jx_nb1, jx_ni, jx_E, eq_self, jx_a0, jx_a1, ne_eq, not_false_eq_true, Nat.reduceLeDiff, Nat.reduceEqDiff, Nat.reduceLT, jx_subl, jx_al, jx_la, jx_nm, jx_ml, jx_xn, jx_xl, jx_inn, jx_inl, jx_ltnn, jx_lenn, jx_eqnn, jx_ltnl, jx_lenl, jx_ltln, jx_leln, jx_eqnl, Int32.reduceAdd, Int32.reduceSub, Int32.reduceMul, Int32.reduceLT, Int32.reduceLE, jx_eqll, jx_ltll, Nat.reduceMul, Nat.reduceSub, forall_const, implies_true, false_implies, not_true_eq_false, true_implies, and_self, Nat.not_lt_zero, fv_6_1, hk, nw_K_o, nw_I_o, nw_P_o, nw_K_n, nw_I_n, nw_P_n, mn_K_n, mn_K_o, mn_I_o, mn_P_o]
  refine jx_newarray (c := 11) (N := 4) dX5_init_26 (Or.inl ⟨rfl, rfl⟩) ac_int (by decide) (by decide) (by decide) (by simp only; omega) (by simp only; omega) ?_
  rw [nw_eq]
  refine jx_gq flok_X5 fiok_X5 33 3 _ _ _ _ ?_
  simp (disch := omega) only [↓reduceIte, jx_wp, jx_stp, jx_f0, jx_f1, jx_f2, jx_f3, List.getElem?_cons_zero, List.getElem?_cons_succ, List.set_cons_zero, List.set_cons_succ, Nat.reduceAdd, true_and, and_true, if_true, if_false, Bool.false_eq_true, jx_s, Nat.reduceLT, dX5_init_28, dX5_init_31, dX5_init_32, fi_X5_22, ft_6_2, jx_k4, jx_wq, jx_stq, jx_ite, jx_b0, jx_bn0, jx_u_eq, jx_u_na, jx_u_ni, jx_nb0, jx_nb1, jx_ni, jx_E, eq_self, jx_a0, jx_a1, ne_eq, not_false_eq_true, Nat.reduceLeDiff, Nat.reduceEqDiff, Nat.reduceLT, jx_subl, jx_al, jx_la, jx_nm, jx_ml, jx_xn, jx_xl, jx_inn, jx_inl, jx_ltnn, jx_lenn, jx_eqnn, jx_ltnl, jx_lenl, jx_ltln, jx_leln, jx_eqnl, Int32.reduceAdd, Int32.reduceSub, Int32.reduceMul, Int32.reduceLT, Int32.reduceLE, jx_eqll, jx_ltll, Nat.reduceMul, Nat.reduceSub, forall_const, implies_true, false_implies, not_true_eq_false, true_implies, and_self, Nat.not_lt_zero, fv_6_2, hk, nw_K_o, nw_I_o, nw_P_o, nw_K_n, nw_I_n, nw_P_n, mn_K_n, mn_K_o, mn_I_o, mn_P_o]
  refine jx_newarray (c := 11) (N := 4) dX5_init_33 (Or.inl ⟨rfl, rfl⟩) ac_int (by decide) (by decide) (by decide) (by simp only; omega) (by simp only; omega) ?_
  rw [nw_eq]
  refine jx_gq flok_X5 fiok_X5 40 3 _ _ _ _ ?_
  simp (disch := omega) only [↓reduceIte, jx_wp, jx_stp, jx_f0, jx_f1, jx_f2, jx_f3, List.getElem?_cons_zero, List.getElem?_cons_succ, List.set_cons_zero, List.set_cons_succ, Nat.reduceAdd, true_and, and_true, if_true, if_false, Bool.false_eq_true, jx_s, Nat.reduceLT, dX5_init_35, dX5_init_38, dX5_init_39, fi_X5_26, ft_6_3, jx_k4, jx_wq, jx_stq, jx_ite, jx_b0, jx_bn0, jx_u_eq, jx_u_na, jx_u_ni, jx_nb0, jx_nb1, jx_ni, jx_E, eq_self, jx_a0, jx_a1, ne_eq, not_false_eq_true, Nat.reduceLeDiff, Nat.reduceEqDiff, Nat.reduceLT, jx_subl, jx_al, jx_la, jx_nm, jx_ml, jx_xn, jx_xl, jx_inn, jx_inl, jx_ltnn, jx_lenn, jx_eqnn, jx_ltnl, jx_lenl, jx_ltln, jx_leln, jx_eqnl, Int32.reduceAdd, Int32.reduceSub, Int32.reduceMul, Int32.reduceLT, Int32.reduceLE, jx_eqll, jx_ltll, Nat.reduceMul, Nat.reduceSub, forall_const, implies_true, false_implies, not_true_eq_false, true_implies, and_self, Nat.not_lt_zero, fv_6_3, hk, nw_K_o, nw_I_o, nw_P_o, nw_K_n, nw_I_n, nw_P_n, mn_K_n, mn_K_o, mn_I_o, mn_P_o]
  refine jx_newarray (c := 11) (N := 4) dX5_init_40 (Or.inl ⟨rfl, rfl⟩) ac_int (by decide) (by decide) (by decide) (by simp only; omega) (by simp only; omega) ?_
  rw [nw_eq]
  refine jx_gq flok_X5 fiok_X5 49 3 _ _ _ _ ?_
  simp (disch := omega) only [↓reduceIte, jx_wp, jx_stp, jx_f0, jx_f1, jx_f2, jx_f3, List.getElem?_cons_zero, List.getElem?_cons_succ, List.set_cons_zero, List.set_cons_succ, Nat.reduceAdd, true_and, and_true, if_true, if_false, Bool.false_eq_true, jx_s, Nat.reduceLT, dX5_init_42, dX5_init_45, dX5_init_46, fi_X5_29, ft_6_4, jx_h400, jx_wq, jx_stq, jx_ite, jx_b0, jx_bn0, jx_u_eq, jx_u_na, jx_u_ni, jx_nb0, jx_nb1, jx_ni, jx_E, eq_self, jx_a0, jx_a1, ne_eq, not_false_eq_true, Nat.reduceLeDiff, Nat.reduceEqDiff, Nat.reduceLT, jx_subl, jx_al, jx_la, jx_nm, jx_ml, jx_xn, jx_xl, jx_inn, jx_inl, jx_ltnn, jx_lenn, jx_eqnn, jx_ltnl, jx_lenl, jx_ltln, jx_leln, jx_eqnl, Int32.reduceAdd, Int32.reduceSub, Int32.reduceMul, Int32.reduceLT, Int32.reduceLE, jx_eqll, jx_ltll, Nat.reduceMul, Nat.reduceSub, forall_const, implies_true, false_implies, not_true_eq_false, true_implies, and_self, Nat.not_lt_zero, fv_6_4, hk, nw_K_o, nw_I_o, nw_P_o, nw_K_n, nw_I_n, nw_P_n, mn_K_n, mn_K_o, mn_I_o, mn_P_o]
  refine jx_newarray (c := 11) (N := 400) dX5_init_49 (Or.inl ⟨rfl, rfl⟩) ac_int (by decide) (by decide) (by decide) (by simp only; omega) (by simp only; omega) ?_
  rw [nw_eq]
  refine jx_gq flok_X5 fiok_X5 99999 2 _ _ _ _ ?_
  simp (disch := omega) only [↓reduceIte, jx_wp, jx_stp, jx_f0, jx_f1, jx_f2, jx_f3, List.getElem?_cons_zero, List.getElem?_cons_succ, List.set_cons_zero, List.set_cons_succ, Nat.reduceAdd, true_and, and_true, if_true, if_false, Bool.false_eq_true, jx_s, Nat.reduceLT, dX5_init_51, dX5_init_54, fi_X5_32, ft_6_5, jx_wq, jx_stq, jx_ite, jx_b0, jx_bn0, jx_u_eq, jx_u_na, jx_u_ni, jx_nb0, jx_nb1, jx_ni, jx_E, eq_self, jx_a0, jx_a1, ne_eq, not_false_eq_true, Nat.reduceLeDiff, Nat.reduceEqDiff, Nat.reduceLT, jx_subl, jx_al, jx_la, jx_nm, jx_ml, jx_xn, jx_xl, jx_inn, jx_inl, jx_ltnn, jx_lenn, jx_eqnn, jx_ltnl, jx_lenl, jx_ltln, jx_leln, jx_eqnl, Int32.reduceAdd, Int32.reduceSub, Int32.reduceMul, Int32.reduceLT, Int32.reduceLE, jx_eqll, jx_ltll, Nat.reduceMul, Nat.reduceSub, forall_const, implies_true, false_implies, not_true_eq_false, true_implies, and_self, Nat.not_lt_zero, fv_6_5, hk, nw_K_o, nw_I_o, nw_P_o, nw_K_n, nw_I_n, nw_P_n, mn_K_n, mn_K_o, mn_I_o, mn_P_o]
  refine ⟨rfl, _, _, _, rfl, ⟨fun a h => ?_, fun a j h1 h2 => ⟨?_, ?_⟩⟩, ?_, ?_, ?_, fun c hc => ⟨?_, ?_⟩, ?_, ?_, ?_, ?_, ?_, ?_, ?_, ?_, ?_, ?_⟩
  case refine_7 =>
    simp (disch := omega) only [jx_u_na, nw_K_o, nw_I_o, nw_P_o, nw_K_n, nw_I_n, nw_P_n, mn_P_n]
  case refine_8 =>
    simp (disch := omega) only [nw_K_o, nw_I_o, nw_P_o, nw_K_n, nw_I_n, nw_P_n, mn_K_r]
  all_goals simp (disch := omega) only [hk, jx_u_na, jx_u_ni, jx_u_eq, nw_K_o, nw_I_o, nw_P_o, nw_K_n, nw_I_n, nw_P_n, mn_K_n, mn_K_o, mn_I_o, mn_P_o]
theorem ri_all : ∀ G : jx_G, ri_H G := fun G ms K I P h1 h2 => ri_init h1 h2
