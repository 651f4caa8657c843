set_option maxHeartbeats 4000000 in
set_option maxRecDepth 100000 in
theorem st_23 {G : jx_G} {n ms : Nat} {K : Nat → Nat × Nat} {I : Nat → Nat → Int32} {P : Nat → Nat → Option Nat} {J : Nat → Nat → Int32} {B h : Nat} {A : Nat → Nat} {T : Nat → Prop} {X : Nat → Nat → Int32} {Q : Option jx_V → jx_M → Prop} {c q x a : Nat} {kd s v : Int32} (hAB : A B = a) (hR : rl n ms K I P J (B + 1) A h T X) (hk : ck_h J (B + 1) c B q) (hno : J 119 B = 2 ∨ J 119 B = 3 → J 99 (6 * (7 + c) + jx_x (J 134 c)) ≠ -1) (hx : J 98 9 = nI x) (hx2 : x + h + 9 ≤ 15999) (kk : ∀ n2 ms2 K2 I2 P2, rl n2 ms2 K2 I2 P2 (mo_BA J c B) (B + 1) A h T X → Q (some (.inl (nI B))) (n2, ms2, K2, I2, P2)) : jx_J G yX8_start cX8_start 6 (some FieldType.int) 9 (Q) 23 [some (.inr (some 3)), some (.inr (some (78 + 5 * c))), some (.inl kd), some (.inl s), some (.inl v), some (.inr (some a))] [] (n, ms, K, I, P) := by
  subst hAB
  obtain ⟨u, hu1, hu2, hW⟩ := rl_W (G := G) hR hk hno
  obtain ⟨hc, ho, -⟩ := id hk
  have g0 := (rl_f hR hc ho).1
  refine jx_gq flok_X8 (fwok_X8 rfl) 99999 3 _ _ _ _ ?_
  simp (disch := omega) only [↓reduceIte, jx_wp, jx_stp, jx_f0, jx_f1, jx_f2, jx_f3, List.getElem?_cons_zero, List.getElem?_cons_succ, List.set_cons_zero, List.set_cons_succ, Nat.reduceAdd, true_and, and_true, if_true, if_false, Bool.false_eq_true, jx_s, Nat.reduceLT, dX8_start_0, dX8_start_1, dX8_start_4, dX8_start_5, dX8_start_6, dX8_start_9, dX8_start_10, dX8_start_12, dX8_start_15, dX8_start_17, dX8_start_18, dX8_start_20, dX8_start_23, dX8_start_24, dX8_start_25, dX8_start_27, dX8_start_30, dX8_start_32, dX8_start_35, fl_X8_31, ft_9_3, fl_X8_259, ft_2_0, fl_X8_177, ft_5_0, jx_wq, jx_stq, jx_ite, jx_b0, jx_bn0, jx_u_eq, jx_u_na, jx_u_ni, jx_nb0, jx_nb1, jx_ni, jx_E, eq_self, jx_a0, jx_a1, ne_eq, not_false_eq_true, Nat.reduceLeDiff, Nat.reduceEqDiff, Nat.reduceLT, jx_subl, jx_al, jx_la, jx_nm, jx_ml, nI_add, jx_xn, jx_xl, jx_inn, jx_inl, jx_ltnn, jx_lenn, jx_eqnn, jx_ltnl, jx_lenl, jx_ltln, jx_leln, jx_eqnl, Int32.reduceAdd, Int32.reduceSub, Int32.reduceMul, Int32.reduceLT, Int32.reduceLE, jx_eqll, jx_ltll, Nat.reduceMul, Nat.reduceSub, forall_const, implies_true, false_implies, not_true_eq_false, true_implies, jx_tko, jx_ofn, jx_tka, jx_pro, jx_pra, and_self, Nat.not_lt_zero, jx_nbb]
  refine jx_cV2 dX8_start_27 li_X8_270 (rl_ask hR (ck_am hk h) hx (by omega) hu1 hW) (congrArg Prod.fst g0) (Nat.le_of_ble_eq_true rfl) (Nat.le_of_ble_eq_true rfl) ?_
  rintro _ _ ⟨rfl, m2, ms2, K2, I2, P2, rfl, hR2⟩ - -
  simp only [Option.toList_some, Option.toList_none, List.cons_append, List.nil_append]
  rw [← hu2] at hR2
  obtain ⟨-, -, -, hA1, -, -, -, -, hA4, -⟩ := rl_f hR2 hc ho
  refine jx_gq flok_X8 (fwok_X8 rfl) 99999 4 _ _ _ _ ?_
  simp (disch := omega) only [↓reduceIte, jx_wp, jx_stp, jx_f0, jx_f1, jx_f2, jx_f3, List.getElem?_cons_zero, List.getElem?_cons_succ, List.set_cons_zero, List.set_cons_succ, Nat.reduceAdd, true_and, and_true, if_true, if_false, Bool.false_eq_true, jx_s, Nat.reduceLT, dX8_start_0, dX8_start_1, dX8_start_4, dX8_start_5, dX8_start_6, dX8_start_9, dX8_start_10, dX8_start_12, dX8_start_15, dX8_start_17, dX8_start_18, dX8_start_20, dX8_start_23, dX8_start_24, dX8_start_25, dX8_start_27, dX8_start_30, dX8_start_32, dX8_start_35, fl_X8_31, ft_9_3, fl_X8_259, ft_2_0, fl_X8_177, ft_5_0, jx_wq, jx_stq, jx_ite, jx_b0, jx_bn0, jx_u_eq, jx_u_na, jx_u_ni, jx_nb0, jx_nb1, jx_ni, jx_E, eq_self, jx_a0, jx_a1, ne_eq, not_false_eq_true, Nat.reduceLeDiff, Nat.reduceEqDiff, Nat.reduceLT, jx_subl, jx_al, jx_la, jx_nm, jx_ml, nI_add, jx_xn, jx_xl, jx_inn, jx_inl, jx_ltnn, jx_lenn, jx_eqnn, jx_ltnl, jx_lenl, jx_ltln, jx_leln, jx_eqnl, Int32.reduceAdd, Int32.reduceSub, Int32.reduceMul, Int32.reduceLT, Int32.reduceLE, jx_eqll, jx_ltll, Nat.reduceMul, Nat.reduceSub, forall_const, implies_true, false_implies, not_true_eq_false, true_implies, jx_tko, jx_ofn, jx_tka, jx_pro, jx_pra, and_self, Nat.not_lt_zero, jx_nbb, hA1, hA4]
  exact kk _ _ _ _ _ hR2
theorem om_new {P P2 : Nat → Nat → Option Nat} {B a : Nat} (hB : B < 60) (h0 : P 10 B = none) (h1 : P2 10 B = some a) (h2 : ∀ o, o ≠ B → P2 10 o = P 10 o) : om P2 = om P + 1 := by
  have key : ∀ k, (List.range k).countP (fun o => (P2 10 o).isSome) = (List.range k).countP (fun o => (P 10 o).isSome) + (if B < k then 1 else 0) := by
    intro k
    induction k with
    | zero => simp
    | succ k ih =>
      rw [List.range_succ, List.countP_append, List.countP_append, ih]
      by_cases e : k = B
      · subst e
        simp [h0, h1]
      · have e2 : (B < k + 1) = (B < k) := propext ⟨fun q => by omega, fun q => by omega⟩
        simp only [List.countP_singleton, h2 k e, e2]
        omega
  have := key 60
  rw [if_pos hB] at this
  exact this
