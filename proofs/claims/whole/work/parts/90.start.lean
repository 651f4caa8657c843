/-- what start leaves -/
def rl_S (J : Nat → Nat → Int32) (B : Nat) (A : Nat → Nat) (h : Nat) (T : Nat → Prop) (X : Nat → Nat → Int32) (w : Option jx_V) (M : jx_M) : Prop := w = some (.inl (nI B)) ∧ ∃ A2 n ms K I P, M = (n, ms, K, I, P) ∧ (∀ o, o < B → A2 o = A o) ∧ rl n ms K I P J (B + 1) A2 h T X
set_option maxHeartbeats 4000000 in
set_option maxRecDepth 100000 in
theorem rl_start1 {G : jx_G} {n ms : Nat} {K : Nat → Nat × Nat} {I : Nat → Nat → Int32} {P : Nat → Nat → Option Nat} {J : Nat → Nat → Int32} {B h : Nat} {A : Nat → Nat} {T : Nat → Prop} {X : Nat → Nat → Int32} {c q x : Nat} {kd s v : Int32} (hR : rl n ms K I P J B A h T X) (hc : c < 4) (hB59 : B < 60) (hq2 : kd = 2 → J 133 c = nI (4 + c) ∧ I (78 + 5 * c) 11 = J 134 c ∧ I (78 + 5 * c) 13 = s) (hq3 : kd = 3 → I (78 + 5 * c) 11 = J 134 c ∧ I (78 + 5 * c) 13 = J 135 c) (hq4 : kd = 2 ∨ kd = 3 → ∀ j, J 134 c = nI j → j < 5 → J 99 (6 * (7 + c) + j) = -1 ∨ I (78 + 5 * c) 12 = J 99 (6 * (7 + c) + j)) (hk : ck_h (mo_S1 J B kd c s v) (B + 1) c B q) (hno : mo_S1 J B kd c s v 119 B = 2 ∨ mo_S1 J B kd c s v 119 B = 3 → mo_S1 J B kd c s v 99 (6 * (7 + c) + jx_x (mo_S1 J B kd c s v 134 c)) ≠ -1) (hx : J 98 9 = nI x) (hx2 : x + h + 9 ≤ 15999) {a : Nat} (hpB : P 10 B = some a) : jx_C G yX8_start cX8_start 6 (some FieldType.int) 9 [.inr (some 3), .inr (some (78 + 5 * c)), .inl kd, .inl s, .inl v] (n, ms, K, I, P) (rl_S (mo_BA (mo_S1 J B kd c s v) c B) B A h T X) := by
  refine jx_C_of (by decide) (Nat.le_of_ble_eq_true rfl) ?_
  simp only [List.map_cons, List.map_nil, List.length_cons, List.length_nil, Nat.reduceAdd, Nat.reduceSub, List.replicate_zero, List.append_nil, List.replicate_succ, List.cons_append, List.nil_append]
  obtain ⟨n0, n1, n2, n3, n4, n5, n6⟩ := id hR.1
  obtain ⟨g0, g1, g2, g3, g4, g5, g6, g7, g8, g9, g10⟩ := id n0
  have hC := (g9 c hc).2
  obtain ⟨c0, c1, c2, c3, c4, d1, d2, d3, d4⟩ := id hC
  have s0 := (n4 c hc).1.1
  obtain ⟨t0, t1, t2, t3, t4, t5, t6⟩ := id n5
  obtain ⟨n140, bnd, bms⟩ : 140 ≤ n ∧ n + 6 ≤ 600003 ∧ ms + 24040 ≤ 7302250 := by
    obtain ⟨-, ⟨L, y, S, z, e, cc, e2, cc2, ⟨⟨-, l1, l2, -, -, -, -, w⟩, -, -, -, b4, b5, b6, -⟩, -⟩, -⟩ := hR
    have := l1.2.2.2.2.1
    have := l2.2.2.2.2.1
    exact ⟨w, by omega, by omega⟩
  have hx9 : mo_S1 J B kd c s v 98 9 = nI x := by rw [S1_F (by omega) (by omega) (by omega) (by omega), hx]
  obtain ⟨u1, u2, u3, u4⟩ := t5 B a hB59 hpB
  have hinj : ∀ o f, o < 60 → P 10 o = some f → o ≠ B → f ≠ a := fun o f q1 q2 q3 q4 => by
    have w := (t5 o f q1 q2).2.2.2
    rw [q4, u4, jx_eqnn (by omega) (by omega)] at w
    exact q3 w.symm
  refine jx_gq flok_X8 (fwok_X8 rfl) 99999 7 _ _ _ _ ?_
  simp (disch := omega) only [↓reduceIte, jx_wp, jx_stp, jx_f0, jx_f1, jx_f2, jx_f3, List.getElem?_cons_zero, List.getElem?_cons_succ, List.set_cons_zero, List.set_cons_succ, Nat.reduceAdd, true_and, and_true, if_true, if_false, Bool.false_eq_true, jx_s, Nat.reduceLT, dX8_start_0, dX8_start_1, dX8_start_4, dX8_start_5, dX8_start_6, dX8_start_9, dX8_start_10, dX8_start_12, dX8_start_15, dX8_start_17, dX8_start_18, dX8_start_20, dX8_start_23, dX8_start_24, dX8_start_25, dX8_start_27, dX8_start_30, dX8_start_32, dX8_start_35, fl_X8_31, ft_9_3, fl_X8_259, ft_2_0, fl_X8_177, ft_5_0, jx_wq, jx_stq, jx_ite, jx_b0, jx_bn0, jx_u_eq, jx_u_na, jx_u_ni, jx_nb0, jx_nb1, jx_ni, jx_E, eq_self, jx_a0, jx_a1, ne_eq, not_false_eq_true, Nat.reduceLeDiff, Nat.reduceEqDiff, Nat.reduceLT, jx_subl, jx_al, jx_la, jx_nm, jx_ml, nI_add, jx_xn, jx_xl, jx_inn, jx_inl, jx_ltnn, jx_lenn, jx_eqnn, jx_ltnl, jx_lenl, jx_ltln, jx_leln, jx_eqnl, Int32.reduceAdd, Int32.reduceSub, Int32.reduceMul, Int32.reduceLT, Int32.reduceLE, jx_eqll, jx_ltll, Nat.reduceMul, Nat.reduceSub, forall_const, implies_true, false_implies, not_true_eq_false, true_implies, jx_tko, jx_ofn, jx_tka, jx_pro, jx_pra, and_self, Nat.not_lt_zero, jx_nbb, g0, g6, c0, s0]
  refine jx_cV4 dX8_start_12 li_X8_262 (lg_open1 (c := c) g10 hB59 t2 hpB u1 (by omega)) (congrArg Prod.fst g10.1) (Nat.le_of_ble_eq_true rfl) (Nat.le_of_ble_eq_true rfl) ?_
  rintro _ _ ⟨rfl, rfl⟩ - -
  simp only [Option.toList_some, Option.toList_none, List.cons_append, List.nil_append]
  refine jx_gq flok_X8 (fwok_X8 rfl) 99999 3 _ _ _ _ ?_
  simp (disch := omega) only [↓reduceIte, jx_wp, jx_stp, jx_f0, jx_f1, jx_f2, jx_f3, List.getElem?_cons_zero, List.getElem?_cons_succ, List.set_cons_zero, List.set_cons_succ, Nat.reduceAdd, true_and, and_true, if_true, if_false, Bool.false_eq_true, jx_s, Nat.reduceLT, dX8_start_0, dX8_start_1, dX8_start_4, dX8_start_5, dX8_start_6, dX8_start_9, dX8_start_10, dX8_start_12, dX8_start_15, dX8_start_17, dX8_start_18, dX8_start_20, dX8_start_23, dX8_start_24, dX8_start_25, dX8_start_27, dX8_start_30, dX8_start_32, dX8_start_35, fl_X8_31, ft_9_3, fl_X8_259, ft_2_0, fl_X8_177, ft_5_0, jx_wq, jx_stq, jx_ite, jx_b0, jx_bn0, jx_u_eq, jx_u_na, jx_u_ni, jx_nb0, jx_nb1, jx_ni, jx_E, eq_self, jx_a0, jx_a1, ne_eq, not_false_eq_true, Nat.reduceLeDiff, Nat.reduceEqDiff, Nat.reduceLT, jx_subl, jx_al, jx_la, jx_nm, jx_ml, nI_add, jx_xn, jx_xl, jx_inn, jx_inl, jx_ltnn, jx_lenn, jx_eqnn, jx_ltnl, jx_lenl, jx_ltln, jx_leln, jx_eqnl, Int32.reduceAdd, Int32.reduceSub, Int32.reduceMul, Int32.reduceLT, Int32.reduceLE, jx_eqll, jx_ltll, Nat.reduceMul, Nat.reduceSub, forall_const, implies_true, false_implies, not_true_eq_false, true_implies, jx_tko, jx_ofn, jx_tka, jx_pro, jx_pra, and_self, Nat.not_lt_zero, jx_nbb]
  refine jx_cV1 dX8_start_20 li_X8_266 (cn_takeUp hC) (congrArg Prod.fst c0) (Nat.le_of_ble_eq_true rfl) (Nat.le_of_ble_eq_true rfl) ?_
  rintro _ _ ⟨rfl, rfl⟩ - -
  simp only [Option.toList_some, Option.toList_none, List.cons_append, List.nil_append]
  
  refine st_23 (A := ls_up A B a) ls_up_eq (rl_st (Ix := I) hR hc hB59 (Nat.le_refl _) n140 (fun _ _ => rfl) u1 u2 u3 (fun o ho => hinj o _ (by omega) (t6 o ho).1 (by omega)) (fun _ => u1) (fun _ _ _ _ => rfl) u4 (fun _ _ _ _ => rfl) hpB (Nat.le_refl _) (Nat.le_refl _) hinj hq2 hq3 hq4) hk hno hx9 hx2 (fun n2 ms2 K2 I2 P2 hr => ⟨rfl, _, n2, ms2, K2, I2, P2, rfl, fun o ho => ls_up_lt ho, hr⟩)
set_option maxHeartbeats 4000000 in
set_option maxRecDepth 100000 in
theorem rl_start0 {G : jx_G} {n ms : Nat} {K : Nat → Nat × Nat} {I : Nat → Nat → Int32} {P : Nat → Nat → Option Nat} {J : Nat → Nat → Int32} {B h : Nat} {A : Nat → Nat} {T : Nat → Prop} {X : Nat → Nat → Int32} {c q x : Nat} {kd s v : Int32} (hR : rl n ms K I P J B A h T X) (hc : c < 4) (hB59 : B < 60) (hq2 : kd = 2 → J 133 c = nI (4 + c) ∧ I (78 + 5 * c) 11 = J 134 c ∧ I (78 + 5 * c) 13 = s) (hq3 : kd = 3 → I (78 + 5 * c) 11 = J 134 c ∧ I (78 + 5 * c) 13 = J 135 c) (hq4 : kd = 2 ∨ kd = 3 → ∀ j, J 134 c = nI j → j < 5 → J 99 (6 * (7 + c) + j) = -1 ∨ I (78 + 5 * c) 12 = J 99 (6 * (7 + c) + j)) (hk : ck_h (mo_S1 J B kd c s v) (B + 1) c B q) (hno : mo_S1 J B kd c s v 119 B = 2 ∨ mo_S1 J B kd c s v 119 B = 3 → mo_S1 J B kd c s v 99 (6 * (7 + c) + jx_x (mo_S1 J B kd c s v 134 c)) ≠ -1) (hx : J 98 9 = nI x) (hx2 : x + h + 9 ≤ 15999) (hpB : P 10 B = none) : jx_C G yX8_start cX8_start 6 (some FieldType.int) 9 [.inr (some 3), .inr (some (78 + 5 * c)), .inl kd, .inl s, .inl v] (n, ms, K, I, P) (rl_S (mo_BA (mo_S1 J B kd c s v) c B) B A h T X) := by
  refine jx_C_of (by decide) (Nat.le_of_ble_eq_true rfl) ?_
  simp only [List.map_cons, List.map_nil, List.length_cons, List.length_nil, Nat.reduceAdd, Nat.reduceSub, List.replicate_zero, List.append_nil, List.replicate_succ, List.cons_append, List.nil_append]
  obtain ⟨n0, n1, n2, n3, n4, n5, n6⟩ := id hR.1
  obtain ⟨g0, g1, g2, g3, g4, g5, g6, g7, g8, g9, g10⟩ := id n0
  have hC := (g9 c hc).2
  obtain ⟨c0, c1, c2, c3, c4, d1, d2, d3, d4⟩ := id hC
  have s0 := (n4 c hc).1.1
  obtain ⟨t0, t1, t2, t3, t4, t5, t6⟩ := id n5
  obtain ⟨n140, bnd, bms⟩ : 140 ≤ n ∧ n + 6 ≤ 600003 ∧ ms + 24040 ≤ 7302250 := by
    obtain ⟨-, ⟨L, y, S, z, e, cc, e2, cc2, ⟨⟨-, l1, l2, -, -, -, -, w⟩, -, -, -, b4, b5, b6, -⟩, -⟩, -⟩ := hR
    have := l1.2.2.2.2.1
    have := l2.2.2.2.2.1
    exact ⟨w, by omega, by omega⟩
  have hx9 : mo_S1 J B kd c s v 98 9 = nI x := by rw [S1_F (by omega) (by omega) (by omega) (by omega), hx]
  have hno2 : ∀ o f, o < 60 → P 10 o = some f → f < n := fun o f q1 q2 => (t5 o f q1 q2).2.2.1
  have hP2 : ∀ b j, b < n → ¬ (b = 10 ∧ j = B) → jx_u (nw_P P n) 10 B (some n) b j = P b j := fun b j q1 q2 => by
    unfold jx_u
    rw [if_neg q2, nw_P_o (by omega)]
  have hom : om (jx_u (nw_P P n) 10 B (some n)) = om P + 1 := om_new hB59 hpB (jx_u_eq _ _ _ _) (fun o q => hP2 10 o (by omega) (by omega))
  have hC2 : ob_C (nw_K K n 5 9) (jx_u (nw_P P n) 10 B (some n)) (78 + 5 * c) := ob_C_to hC (fun b q1 q2 => nw_K_o (by omega)) (fun b j q1 q2 q3 => hP2 b j (by omega) (by omega))
  have c02 := hC2.1
  refine jx_gq flok_X8 (fwok_X8 rfl) 99999 7 _ _ _ _ ?_
  simp (disch := omega) only [↓reduceIte, jx_wp, jx_stp, jx_f0, jx_f1, jx_f2, jx_f3, List.getElem?_cons_zero, List.getElem?_cons_succ, List.set_cons_zero, List.set_cons_succ, Nat.reduceAdd, true_and, and_true, if_true, if_false, Bool.false_eq_true, jx_s, Nat.reduceLT, dX8_start_0, dX8_start_1, dX8_start_4, dX8_start_5, dX8_start_6, dX8_start_9, dX8_start_10, dX8_start_12, dX8_start_15, dX8_start_17, dX8_start_18, dX8_start_20, dX8_start_23, dX8_start_24, dX8_start_25, dX8_start_27, dX8_start_30, dX8_start_32, dX8_start_35, fl_X8_31, ft_9_3, fl_X8_259, ft_2_0, fl_X8_177, ft_5_0, jx_wq, jx_stq, jx_ite, jx_b0, jx_bn0, jx_u_eq, jx_u_na, jx_u_ni, jx_nb0, jx_nb1, jx_ni, jx_E, eq_self, jx_a0, jx_a1, ne_eq, not_false_eq_true, Nat.reduceLeDiff, Nat.reduceEqDiff, Nat.reduceLT, jx_subl, jx_al, jx_la, jx_nm, jx_ml, nI_add, jx_xn, jx_xl, jx_inn, jx_inl, jx_ltnn, jx_lenn, jx_eqnn, jx_ltnl, jx_lenl, jx_ltln, jx_leln, jx_eqnl, Int32.reduceAdd, Int32.reduceSub, Int32.reduceMul, Int32.reduceLT, Int32.reduceLE, jx_eqll, jx_ltll, Nat.reduceMul, Nat.reduceSub, forall_const, implies_true, false_implies, not_true_eq_false, true_implies, jx_tko, jx_ofn, jx_tka, jx_pro, jx_pra, and_self, Nat.not_lt_zero, jx_nbb, g0, g6, c0, s0]
  refine jx_cV4 dX8_start_12 li_X8_262 (lg_open0 (c := c) g10 hB59 t2 hpB (by omega) (by omega) (by omega)) (congrArg Prod.fst g10.1) (Nat.le_of_ble_eq_true rfl) (Nat.le_of_ble_eq_true rfl) ?_
  rintro _ _ ⟨rfl, rfl⟩ - -
  simp only [Option.toList_some, Option.toList_none, List.cons_append, List.nil_append]
  refine jx_gq flok_X8 (fwok_X8 rfl) 99999 3 _ _ _ _ ?_
  simp (disch := omega) only [↓reduceIte, jx_wp, jx_stp, jx_f0, jx_f1, jx_f2, jx_f3, List.getElem?_cons_zero, List.getElem?_cons_succ, List.set_cons_zero, List.set_cons_succ, Nat.reduceAdd, true_and, and_true, if_true, if_false, Bool.false_eq_true, jx_s, Nat.reduceLT, dX8_start_0, dX8_start_1, dX8_start_4, dX8_start_5, dX8_start_6, dX8_start_9, dX8_start_10, dX8_start_12, dX8_start_15, dX8_start_17, dX8_start_18, dX8_start_20, dX8_start_23, dX8_start_24, dX8_start_25, dX8_start_27, dX8_start_30, dX8_start_32, dX8_start_35, fl_X8_31, ft_9_3, fl_X8_259, ft_2_0, fl_X8_177, ft_5_0, jx_wq, jx_stq, jx_ite, jx_b0, jx_bn0, jx_u_eq, jx_u_na, jx_u_ni, jx_nb0, jx_nb1, jx_ni, jx_E, eq_self, jx_a0, jx_a1, ne_eq, not_false_eq_true, Nat.reduceLeDiff, Nat.reduceEqDiff, Nat.reduceLT, jx_subl, jx_al, jx_la, jx_nm, jx_ml, nI_add, jx_xn, jx_xl, jx_inn, jx_inl, jx_ltnn, jx_lenn, jx_eqnn, jx_ltnl, jx_lenl, jx_ltln, jx_leln, jx_eqnl, Int32.reduceAdd, Int32.reduceSub, Int32.reduceMul, Int32.reduceLT, Int32.reduceLE, jx_eqll, jx_ltll, Nat.reduceMul, Nat.reduceSub, forall_const, implies_true, false_implies, not_true_eq_false, true_implies, jx_tko, jx_ofn, jx_tka, jx_pro, jx_pra, and_self, Nat.not_lt_zero, jx_nbb]
  refine jx_cV1 dX8_start_20 li_X8_266 (cn_takeUp hC2) (congrArg Prod.fst c02) (Nat.le_of_ble_eq_true rfl) (Nat.le_of_ble_eq_true rfl) ?_
  rintro _ _ ⟨rfl, rfl⟩ - -
  simp only [Option.toList_some, Option.toList_none, List.cons_append, List.nil_append]
  
  refine st_23 (A := ls_up A B n) ls_up_eq (rl_st (Ix := jx_u (nw_I I n) n 0 (nI B)) (P2 := jx_u (nw_P P n) 10 B (some n)) hR hc hB59 (by omega) n140 (fun b q => nw_K_o (by omega)) nw_K_n n140 (by omega) (fun o ho q => by have := hno2 o _ (by omega) (t6 o ho).1; omega) (fun q => absurd q (by omega)) (fun b j q1 q2 => by rw [jx_u_na q2, nw_I_o q2]) (jx_u_eq _ _ _ _) hP2 (jx_u_eq _ _ _ _) (by rw [hom]; omega) (by rw [hom]; omega) (fun o f q1 q2 q3 q4 => by
    rw [hP2 10 o (by omega) (by omega)] at q2
    have := hno2 o f q1 q2
    omega) hq2 hq3 hq4) hk hno hx9 hx2 (fun n2 ms2 K2 I2 P2 hr => ⟨rfl, _, n2, ms2, K2, I2, P2, rfl, fun o ho => ls_up_lt ho, hr⟩)
