set_option maxHeartbeats 4000000 in
set_option maxRecDepth 100000 in
theorem rl_serve1 {G : jx_G} {n ms : Nat} {K : Nat → Nat × Nat} {I : Nat → Nat → Int32} {P : Nat → Nat → Option Nat} {J J0 : Nat → Nat → Int32} {B h : Nat} {A : Nat → Nat} {T : Nat → Prop} {X : Nat → Nat → Int32} {s t x j : Nat} (hR0 : rl n ms K I P J0 B A h T X) (hs : s < 7) (ht : T t) (hj : hd_j X t J) (hJo : ∀ a j, 98 ≤ a → a < 140 → ¬ (a = 99 ∧ 6 * s ≤ j ∧ j < 6 * s + 6) → J a j = J0 a j) (hJm : ∀ k, k < 6 → J 99 (6 * s + k) = if X (t + 2) k = -1 ∨ J0 99 (6 * s + k) = 0 then X (t + 2) k else J0 99 (6 * s + k)) (hsv : J 98 48 = nI s) (hkd : J 98 47 = 1) (hnu : J 98 51 = nI j) (hj3 : j < 3) (hx : J 98 9 = nI x) (hx2 : x + h + 9 ≤ 15999) : jx_C G yX8_serve cX8_serve 4 none 8 [.inr (some 3), .inr (some (22 + 8 * s)), .inr (some t)] (n, ms, K, I, P) (rl_Q none (mo_g1 J x s j) B A h T X) := by
  refine jx_C_of (by decide) (Nat.le_of_ble_eq_true rfl) ?_
  simp only [List.map_cons, List.map_nil, List.length_cons, List.length_nil, Nat.reduceAdd, Nat.reduceSub, List.replicate_zero, List.append_nil, List.replicate_succ, List.cons_append, List.nil_append]
  have hR := rl_join_s hR0 hs ht hJo hJm
  obtain ⟨t0, t1, t2, t3⟩ := hd_ok_t hR0 ht
  obtain ⟨k0, k1, k2, k3, k4, p0, p1, p2, p3⟩ := id t0
  have hS := (hR0.1.1.2.2.2.2.2.2.2.2.1 s hs).2
  obtain ⟨s0, s1, s2, s3, s4, s5, s6, s7, r0, r1, r2, r3, r4, r5, r6⟩ := id hS
  have g0 := hR0.1.1.1
  have g5 := hR0.1.1.2.2.2.2.2.1
  obtain ⟨-, -, -, t3'⟩ := hd_ok_t hR ht
  obtain ⟨j0, j1, j2, j3, j4, j5, j6, j7, j8, j9, j10, j11⟩ := id hj
  refine jx_gq flok_X8 (fwok_X8 rfl) 99999 4 _ _ _ _ ?_
  simp (disch := omega) only [↓reduceIte, jx_wp, jx_stp, jx_f0, jx_f1, jx_f2, jx_f3, List.getElem?_cons_zero, List.getElem?_cons_succ, List.set_cons_zero, List.set_cons_succ, Nat.reduceAdd, true_and, and_true, if_true, if_false, Bool.false_eq_true, jx_s, Nat.reduceLT, dX8_serve_0, dX8_serve_1, dX8_serve_4, dX8_serve_5, dX8_serve_8, dX8_serve_11, dX8_serve_12, dX8_serve_15, dX8_serve_17, dX8_serve_20, dX8_serve_21, dX8_serve_22, dX8_serve_25, dX8_serve_26, dX8_serve_29, dX8_serve_31, dX8_serve_32, dX8_serve_33, dX8_serve_36, dX8_serve_37, dX8_serve_40, dX8_serve_41, dX8_serve_44, dX8_serve_47, dX8_serve_48, dX8_serve_49, dX8_serve_50, dX8_serve_53, dX8_serve_56, dX8_serve_57, dX8_serve_58, dX8_serve_61, dX8_serve_64, dX8_serve_65, dX8_serve_66, dX8_serve_67, dX8_serve_70, fl_X8_157, ft_7_0, fl_X8_131, ft_4_0, fl_X8_103, ft_4_3, jx_b6, tg_17_4, fl_X8_24, ft_9_2, jx_b10, fl_X8_108, ft_4_4, fl_X8_111, ft_4_5, fl_X8_114, ft_4_6, fw_X8_114, fl_X8_117, ft_4_7, fw_X8_117, jx_wq, jx_stq, jx_ite, jx_b0, jx_bn0, jx_u_eq, jx_u_na, jx_u_ni, jx_nb0, jx_nb1, jx_ni, jx_E, eq_self, jx_a0, jx_a1, ne_eq, not_false_eq_true, Nat.reduceLeDiff, Nat.reduceEqDiff, Nat.reduceLT, jx_subl, jx_al, jx_la, jx_nm, jx_ml, nI_add, jx_xn, jx_xl, jx_inn, jx_inl, jx_ltnn, jx_lenn, jx_eqnn, jx_ltnl, jx_lenl, jx_ltln, jx_leln, jx_eqnl, Int32.reduceAdd, Int32.reduceSub, Int32.reduceMul, Int32.reduceLT, Int32.reduceLE, jx_eqll, jx_ltll, Nat.reduceMul, Nat.reduceSub, forall_const, implies_true, false_implies, not_true_eq_false, true_implies, jx_tko, jx_ofn, jx_tka, jx_pro, jx_pra, and_self, Nat.not_lt_zero, jx_nbb, fv_4_6, fv_4_7, s0, r0, k0, p0]
  refine jx_cV1 dX8_serve_8 li_X8_282 (sm_join s1 r1 s2 k1 p3 k2 (by omega) (by omega)) (congrArg Prod.fst s1) (Nat.le_of_ble_eq_true rfl) (Nat.le_of_ble_eq_true rfl) ?_
  rintro _ _ ⟨rfl, rfl⟩ - -
  simp only [Option.toList_some, Option.toList_none, List.cons_append, List.nil_append]
  generalize hI' : sm_jn I (22 + 8 * s + 2) (t + 2) 6 = I' at hR t3' ⊢
  have e3 : I' t 3 = J 98 47 := by rw [t3' t 3 (by omega) (by omega), j0]
  have e4 : I' t 4 = J 98 48 := by rw [t3' t 4 (by omega) (by omega), j1]
  have e5 : I' t 5 = J 98 49 := by rw [t3' t 5 (by omega) (by omega), j2]
  have e6 : I' t 6 = J 98 50 := by rw [t3' t 6 (by omega) (by omega), j3]
  have e7 : I' t 7 = J 98 51 := by rw [t3' t 7 (by omega) (by omega), j4]
  have e3' : I' t 3 = 1 := e3.trans hkd
  have e48 : I' t 4 = nI s := e4.trans hsv
  obtain ⟨hN, ⟨L, x', S, z, e, cc, e2, c2, hB, hT⟩, hX, hag⟩ := id hR
  obtain ⟨bg, bj, -, -, bb, bn, bm⟩ := id hB
  obtain ⟨bf, bl, bl2, bee, bmi, bms, bdj, b140⟩ := id bg
  have exx : x' = x := by
    have w := bj.symm.trans hx
    rw [jx_eqnn (by omega) (by omega)] at w
    exact w
  subst exx
  have cb1 := bl.2.2.2.2.1
  have cb2 := bl2.2.2.2.2.1
  obtain ⟨v0, v1, v2, v3⟩ := hN.2.2.2.1 s hs
  refine jx_gq flok_X8 (fwok_X8 rfl) 99999 18 _ _ _ _ ?_
  simp (disch := omega) only [↓reduceIte, jx_wp, jx_stp, jx_f0, jx_f1, jx_f2, jx_f3, List.getElem?_cons_zero, List.getElem?_cons_succ, List.set_cons_zero, List.set_cons_succ, Nat.reduceAdd, true_and, and_true, if_true, if_false, Bool.false_eq_true, jx_s, Nat.reduceLT, dX8_serve_0, dX8_serve_1, dX8_serve_4, dX8_serve_5, dX8_serve_8, dX8_serve_11, dX8_serve_12, dX8_serve_15, dX8_serve_17, dX8_serve_20, dX8_serve_21, dX8_serve_22, dX8_serve_25, dX8_serve_26, dX8_serve_29, dX8_serve_31, dX8_serve_32, dX8_serve_33, dX8_serve_36, dX8_serve_37, dX8_serve_40, dX8_serve_41, dX8_serve_44, dX8_serve_47, dX8_serve_48, dX8_serve_49, dX8_serve_50, dX8_serve_53, dX8_serve_56, dX8_serve_57, dX8_serve_58, dX8_serve_61, dX8_serve_64, dX8_serve_65, dX8_serve_66, dX8_serve_67, dX8_serve_70, fl_X8_157, ft_7_0, fl_X8_131, ft_4_0, fl_X8_103, ft_4_3, jx_b6, tg_17_4, fl_X8_24, ft_9_2, jx_b10, fl_X8_108, ft_4_4, fl_X8_111, ft_4_5, fl_X8_114, ft_4_6, fw_X8_114, fl_X8_117, ft_4_7, fw_X8_117, jx_wq, jx_stq, jx_ite, jx_b0, jx_bn0, jx_u_eq, jx_u_na, jx_u_ni, jx_nb0, jx_nb1, jx_ni, jx_E, eq_self, jx_a0, jx_a1, ne_eq, not_false_eq_true, Nat.reduceLeDiff, Nat.reduceEqDiff, Nat.reduceLT, jx_subl, jx_al, jx_la, jx_nm, jx_ml, nI_add, jx_xn, jx_xl, jx_inn, jx_inl, jx_ltnn, jx_lenn, jx_eqnn, jx_ltnl, jx_lenl, jx_ltln, jx_leln, jx_eqnl, Int32.reduceAdd, Int32.reduceSub, Int32.reduceMul, Int32.reduceLT, Int32.reduceLE, jx_eqll, jx_ltll, Nat.reduceMul, Nat.reduceSub, forall_const, implies_true, false_implies, not_true_eq_false, true_implies, jx_tko, jx_ofn, jx_tka, jx_pro, jx_pra, and_self, Nat.not_lt_zero, jx_nbb, fv_4_6, fv_4_7, k0, e3', e48, e5, g0, g5, s0, r0]
  refine jx_cV4 dX8_serve_44 li_X8_286 (bg_post s1 r1 s2 (by omega) (by omega) (by omega) bg (by omega) (by omega) (by omega)) (congrArg Prod.fst bf.1) (Nat.le_of_ble_eq_true rfl) (Nat.le_of_ble_eq_true rfl) ?_
  rintro _ _ ⟨q, z2, m2, ms2, K2, I2, P2, e3q, c3', rfl, rfl, hK2, hz, hcon, h6, hKK, hII, hPP, -, hn, hm⟩ hnn -
  simp only [Option.toList_some, Option.toList_none, List.cons_append, List.nil_append]
  have hnn : n ≤ m2 := hnn
  obtain ⟨-, -, -, -, w2, -, -, w140⟩ := id hK2
  obtain ⟨wq, wq1, wq2⟩ := w2 x' (by omega)
  rw [ls_up_eq] at wq wq1 wq2
  obtain ⟨y3, y4, y5, y6, y7, y8, yz, ym⟩ := hcon
  obtain ⟨h0t, -, -, hLt, hSt⟩ := hT t ht
  have htq : t ≠ q := by
    rcases hz with ⟨w1, w3⟩ | ⟨w1, w4, w3⟩
    · rw [w3]
      exact (hSt z2 (by omega)).symm
    · omega
  have te1 := ob_M_e t0 bl.2.1
  have te2 := ob_M_e t0 bl2.2.1
  have hen := bl.2.2.2.2.2.2.2
  have hen2 := bl2.2.2.2.2.2.2.2
  have tq : ob_M K2 P2 t := ob_M_fr t0 (fun b w1 w3 => hKK b (by omega)) (fun b j w1 w3 => hPP b j (by omega) (by omega) (by omega) (by omega) (by omega))
  have far := ob_M_far tq wq htq
  have hS2 : ob_S K2 P2 (22 + 8 * s) := ob_S_to hS (fun a w1 w3 => hKK a (by omega)) (fun a j w1 w3 => hPP a j (by omega) (by omega) (by omega) (by omega) (by omega))
  have hIt : ∀ b j, t ≤ b → b < t + 5 → I2 b j = X b j := fun b j w1 w3 => by rw [hII b j (by omega) (by omega) (by omega) (by omega) (by omega), t3' b j w1 w3]
  have hIs : ∀ b j, 9 ≤ b → b < 98 → I2 b j = I' b j := fun b j w1 w3 => hII b j (by omega) (by omega) (by omega) (by omega) (by omega)
  have kq := wq.1
  have kt := tq.1
  have f6 : I2 t 6 = J 98 50 := by rw [hIt t 6 (by omega) (by omega), j3]
  have f7 : I2 t 7 = J 98 51 := by rw [hIt t 7 (by omega) (by omega), j4]
  have f3 : I2 t 3 = 1 := by rw [hIt t 3 (by omega) (by omega), j0, hkd]
  have ft : ∀ r, I2 (t + 3) r = X (t + 3) r ∧ I2 (t + 4) r = X (t + 4) r := fun r => ⟨hIt _ _ (by omega) (by omega), hIt _ _ (by omega) (by omega)⟩
  have sv3 : ∀ r, r < 3 → I2 (22 + 8 * s + 3) r = J 101 (3 * s + r) ∧ I2 (22 + 8 * s + 4) r = J 102 (3 * s + r) := fun r hr => by
    rw [hIs _ _ (by omega) (by omega), hIs _ _ (by omega) (by omega)]
    exact v2 r hr
  have sv5 : ∀ k, k < 5 → I2 (22 + 8 * s + 5) k = J 103 (5 * s + k) ∧ I2 (22 + 8 * s + 6) k = J 104 (5 * s + k) ∧ I2 (22 + 8 * s + 7) k = J 105 (5 * s + k) := fun k hk => by
    rw [hIs _ _ (by omega) (by omega), hIs _ _ (by omega) (by omega), hIs _ _ (by omega) (by omega)]
    exact v3 k hk
  have t50 : I2 (t + 3) 0 = J 98 52 := (ft 0).1.trans j5
  have t51 : I2 (t + 3) 1 = J 98 54 := (ft 1).1.trans j7
  have t52 : I2 (t + 3) 2 = J 98 56 := (ft 2).1.trans j9
  have t60 : I2 (t + 4) 0 = J 98 53 := (ft 0).2.trans j6
  have t61 : I2 (t + 4) 1 = J 98 55 := (ft 1).2.trans j8
  have t62 : I2 (t + 4) 2 = J 98 57 := (ft 2).2.trans j10
  refine jx_gq flok_X8 (fwok_X8 rfl) 99999 12 _ _ _ _ ?_
  simp (disch := omega) only [↓reduceIte, jx_wp, jx_stp, jx_f0, jx_f1, jx_f2, jx_f3, List.getElem?_cons_zero, List.getElem?_cons_succ, List.set_cons_zero, List.set_cons_succ, Nat.reduceAdd, true_and, and_true, if_true, if_false, Bool.false_eq_true, jx_s, Nat.reduceLT, dX8_serve_0, dX8_serve_1, dX8_serve_4, dX8_serve_5, dX8_serve_8, dX8_serve_11, dX8_serve_12, dX8_serve_15, dX8_serve_17, dX8_serve_20, dX8_serve_21, dX8_serve_22, dX8_serve_25, dX8_serve_26, dX8_serve_29, dX8_serve_31, dX8_serve_32, dX8_serve_33, dX8_serve_36, dX8_serve_37, dX8_serve_40, dX8_serve_41, dX8_serve_44, dX8_serve_47, dX8_serve_48, dX8_serve_49, dX8_serve_50, dX8_serve_53, dX8_serve_56, dX8_serve_57, dX8_serve_58, dX8_serve_61, dX8_serve_64, dX8_serve_65, dX8_serve_66, dX8_serve_67, dX8_serve_70, fl_X8_157, ft_7_0, fl_X8_131, ft_4_0, fl_X8_103, ft_4_3, jx_b6, tg_17_4, fl_X8_24, ft_9_2, jx_b10, fl_X8_108, ft_4_4, fl_X8_111, ft_4_5, fl_X8_114, ft_4_6, fw_X8_114, fl_X8_117, ft_4_7, fw_X8_117, jx_wq, jx_stq, jx_ite, jx_b0, jx_bn0, jx_u_eq, jx_u_na, jx_u_ni, jx_nb0, jx_nb1, jx_ni, jx_E, eq_self, jx_a0, jx_a1, ne_eq, not_false_eq_true, Nat.reduceLeDiff, Nat.reduceEqDiff, Nat.reduceLT, jx_subl, jx_al, jx_la, jx_nm, jx_ml, nI_add, jx_xn, jx_xl, jx_inn, jx_inl, jx_ltnn, jx_lenn, jx_eqnn, jx_ltnl, jx_lenl, jx_ltln, jx_leln, jx_eqnl, Int32.reduceAdd, Int32.reduceSub, Int32.reduceMul, Int32.reduceLT, Int32.reduceLE, jx_eqll, jx_ltll, Nat.reduceMul, Nat.reduceSub, forall_const, implies_true, false_implies, not_true_eq_false, true_implies, jx_tko, jx_ofn, jx_tka, jx_pro, jx_pra, and_self, Nat.not_lt_zero, jx_nbb, fv_4_6, fv_4_7, kq, kt, f6, f7]
  refine jx_cV2 dX8_serve_67 li_X8_290 (sv_ob1 hS2 tq wq (by omega) (by omega) far (by simp (disch := omega) only [jx_u_na, f3]) (by simp (disch := omega) only [jx_u_na, f7, hnu]) hj3) (congrArg Prod.fst hS2.1) (Nat.le_of_ble_eq_true rfl) (Nat.le_of_ble_eq_true rfl) ?_
  rintro _ _ ⟨rfl, rfl⟩ - -
  simp only [Option.toList_some, Option.toList_none, List.cons_append, List.nil_append]
  refine jx_gq flok_X8 (fwok_X8 rfl) 99999 3 _ _ _ _ ?_
  simp (disch := omega) only [↓reduceIte, jx_wp, jx_stp, jx_f0, jx_f1, jx_f2, jx_f3, List.getElem?_cons_zero, List.getElem?_cons_succ, List.set_cons_zero, List.set_cons_succ, Nat.reduceAdd, true_and, and_true, if_true, if_false, Bool.false_eq_true, jx_s, Nat.reduceLT, dX8_serve_0, dX8_serve_1, dX8_serve_4, dX8_serve_5, dX8_serve_8, dX8_serve_11, dX8_serve_12, dX8_serve_15, dX8_serve_17, dX8_serve_20, dX8_serve_21, dX8_serve_22, dX8_serve_25, dX8_serve_26, dX8_serve_29, dX8_serve_31, dX8_serve_32, dX8_serve_33, dX8_serve_36, dX8_serve_37, dX8_serve_40, dX8_serve_41, dX8_serve_44, dX8_serve_47, dX8_serve_48, dX8_serve_49, dX8_serve_50, dX8_serve_53, dX8_serve_56, dX8_serve_57, dX8_serve_58, dX8_serve_61, dX8_serve_64, dX8_serve_65, dX8_serve_66, dX8_serve_67, dX8_serve_70, fl_X8_157, ft_7_0, fl_X8_131, ft_4_0, fl_X8_103, ft_4_3, jx_b6, tg_17_4, fl_X8_24, ft_9_2, jx_b10, fl_X8_108, ft_4_4, fl_X8_111, ft_4_5, fl_X8_114, ft_4_6, fw_X8_114, fl_X8_117, ft_4_7, fw_X8_117, jx_wq, jx_stq, jx_ite, jx_b0, jx_bn0, jx_u_eq, jx_u_na, jx_u_ni, jx_nb0, jx_nb1, jx_ni, jx_E, eq_self, jx_a0, jx_a1, ne_eq, not_false_eq_true, Nat.reduceLeDiff, Nat.reduceEqDiff, Nat.reduceLT, jx_subl, jx_al, jx_la, jx_nm, jx_ml, nI_add, jx_xn, jx_xl, jx_inn, jx_inl, jx_ltnn, jx_lenn, jx_eqnn, jx_ltnl, jx_lenl, jx_ltln, jx_leln, jx_eqnl, Int32.reduceAdd, Int32.reduceSub, Int32.reduceMul, Int32.reduceLT, Int32.reduceLE, jx_eqll, jx_ltll, Nat.reduceMul, Nat.reduceSub, forall_const, implies_true, false_implies, not_true_eq_false, true_implies, jx_tko, jx_ofn, jx_tka, jx_pro, jx_pra, and_self, Nat.not_lt_zero, jx_nbb, fv_4_6, fv_4_7]
  refine ⟨rfl, m2, ms2, K2, _, P2, rfl, ?_⟩
  try simp (disch := omega) only [jx_u_na, jx_u_ni]
  have FJ : ∀ a i, 98 ≤ a → a < 140 → ¬ (101 ≤ a ∧ a ≤ 118) → ¬ (a = 98 ∧ (i = 9 ∨ i = 10)) → mo_g1 J x' s j a i = J a i := fun a i w1 w3 w4 w5 => by
    unfold mo_g1 mo_an
    simp (disch := omega) only [jx_u_na]
    rw [mo_ly_F a i w1 w3 (by omega) w5]
    try simp (disch := omega) only [jx_u_na, mo_h_na]
  refine rl_srv (I4 := sv_ln (jx_u (jx_u I2 q 6 (J 98 50)) q 7 (J 98 51)) (22 + 8 * s) j (I2 (t + 3) 0) (I2 (t + 4) 0)) (J3 := mo_g1 J x' s j) hN hB hT hX hag (by omega) hK2 hz h6 hKK hII hPP hn hm hnn wq1 hs (fun b j w1 w3 => ?_) ?_ ⟨?_, fun k hk => ?_, fun r hr => ?_, fun k hk => ?_⟩ ?_ ?_ (fun a i w1 w3 w4 => ?_) (fun i hi => ?_) (fun a i w1 w3 w4 w5 => ?_) (fun r hr w => ?_)
  · simp (disch := omega) only [jx_u_na, jx_u_ni, jx_u_eq, sv_ln_na]
  · unfold mgs  mo_g1 mo_an mo_ly
    refine ⟨?_, ?_, ?_, ?_, ?_, ?_, ?_, ?_, ?_, ?_, ?_, ?_, fun k hk => ?_⟩
    · simp (disch := omega) only [jx_u_na, jx_u_ni, jx_u_eq, sv_ln_na, mo_h_na, y3, y4, y5, y8, (yz 0 (by omega)).1, (yz 0 (by omega)).2, (yz 1 (by omega)).1, (yz 1 (by omega)).2, (yz 2 (by omega)).1, (yz 2 (by omega)).2]
    · simp (disch := omega) only [jx_u_na, jx_u_ni, jx_u_eq, sv_ln_na, mo_h_na, y3, y4, y5, y8, (yz 0 (by omega)).1, (yz 0 (by omega)).2, (yz 1 (by omega)).1, (yz 1 (by omega)).2, (yz 2 (by omega)).1, (yz 2 (by omega)).2]
    · simp (disch := omega) only [jx_u_na, jx_u_ni, jx_u_eq, sv_ln_na, mo_h_na, y3, y4, y5, y8, (yz 0 (by omega)).1, (yz 0 (by omega)).2, (yz 1 (by omega)).1, (yz 1 (by omega)).2, (yz 2 (by omega)).1, (yz 2 (by omega)).2]
    · simp (disch := omega) only [jx_u_na, jx_u_ni, jx_u_eq, sv_ln_na, mo_h_na, y3, y4, y5, y8, (yz 0 (by omega)).1, (yz 0 (by omega)).2, (yz 1 (by omega)).1, (yz 1 (by omega)).2, (yz 2 (by omega)).1, (yz 2 (by omega)).2]
    · simp (disch := omega) only [jx_u_na, jx_u_ni, jx_u_eq, sv_ln_na, mo_h_na, y3, y4, y5, y8, (yz 0 (by omega)).1, (yz 0 (by omega)).2, (yz 1 (by omega)).1, (yz 1 (by omega)).2, (yz 2 (by omega)).1, (yz 2 (by omega)).2, hnu]
    · simp (disch := omega) only [jx_u_na, jx_u_ni, jx_u_eq, sv_ln_na, mo_h_na, y3, y4, y5, y8, (yz 0 (by omega)).1, (yz 0 (by omega)).2, (yz 1 (by omega)).1, (yz 1 (by omega)).2, (yz 2 (by omega)).1, (yz 2 (by omega)).2]
    · simp (disch := omega) only [jx_u_na, jx_u_ni, jx_u_eq, sv_ln_na, mo_h_na, y3, y4, y5, y8, (yz 0 (by omega)).1, (yz 0 (by omega)).2, (yz 1 (by omega)).1, (yz 1 (by omega)).2, (yz 2 (by omega)).1, (yz 2 (by omega)).2]
    · simp (disch := omega) only [jx_u_na, jx_u_ni, jx_u_eq, sv_ln_na, mo_h_na, y3, y4, y5, y8, (yz 0 (by omega)).1, (yz 0 (by omega)).2, (yz 1 (by omega)).1, (yz 1 (by omega)).2, (yz 2 (by omega)).1, (yz 2 (by omega)).2]
    · simp (disch := omega) only [jx_u_na, jx_u_ni, jx_u_eq, sv_ln_na, mo_h_na, y3, y4, y5, y8, (yz 0 (by omega)).1, (yz 0 (by omega)).2, (yz 1 (by omega)).1, (yz 1 (by omega)).2, (yz 2 (by omega)).1, (yz 2 (by omega)).2]
    · simp (disch := omega) only [jx_u_na, jx_u_ni, jx_u_eq, sv_ln_na, mo_h_na, y3, y4, y5, y8, (yz 0 (by omega)).1, (yz 0 (by omega)).2, (yz 1 (by omega)).1, (yz 1 (by omega)).2, (yz 2 (by omega)).1, (yz 2 (by omega)).2]
    · simp (disch := omega) only [jx_u_na, jx_u_ni, jx_u_eq, sv_ln_na, mo_h_na, y3, y4, y5, y8, (yz 0 (by omega)).1, (yz 0 (by omega)).2, (yz 1 (by omega)).1, (yz 1 (by omega)).2, (yz 2 (by omega)).1, (yz 2 (by omega)).2]
    · simp (disch := omega) only [jx_u_na, jx_u_ni, jx_u_eq, sv_ln_na, mo_h_na, y3, y4, y5, y8, (yz 0 (by omega)).1, (yz 0 (by omega)).2, (yz 1 (by omega)).1, (yz 1 (by omega)).2, (yz 2 (by omega)).1, (yz 2 (by omega)).2]
    · rcases (show k = 0 ∨ k = 1 ∨ k = 2 ∨ k = 3 ∨ k = 4 ∨ k = 5 by omega) with rfl | rfl | rfl | rfl | rfl | rfl
      all_goals simp (disch := omega) only [jx_u_na, jx_u_ni, jx_u_eq, sv_ln_na, mo_h_na, ym, v1, Nat.add_zero]
  · rw [FJ 100 s (by omega) (by omega) (by omega) (by omega)]
    simp (disch := omega) only [jx_u_na, jx_u_ni, sv_ln_na]
    rw [hIs _ _ (by omega) (by omega), v0]
  · rw [FJ 99 _ (by omega) (by omega) (by omega) (by omega)]
    simp (disch := omega) only [jx_u_na, jx_u_ni, sv_ln_na]
    rw [hIs _ _ (by omega) (by omega), v1 k hk]
  · have w9 : ∀ a i, 101 ≤ a → a ≤ 102 → mo_g1 J x' s j a i = mo_h J s j (J 98 52) (J 98 53) a i := fun a i w1 w3 => by
      unfold mo_g1 mo_an
      simp (disch := omega) only [jx_u_na]
      rw [mo_ly_F a i (by omega) (by omega) (by omega) (by omega)]
    rw [w9 _ _ (by omega) (by omega), w9 _ _ (by omega) (by omega), t50, t60]
    exact ln_h hj3 (fun r hr => by simp (disch := omega) only [jx_u_na]; exact sv3 r hr) r hr
  · have w9 : ∀ a i, 103 ≤ a → a ≤ 105 → mo_g1 J x' s j a i = J a i := fun a i w1 w3 => by
      unfold mo_g1 mo_an
      simp (disch := omega) only [jx_u_na]
      rw [mo_ly_F a i (by omega) (by omega) (by omega) (by omega)]
      try simp (disch := omega) only [jx_u_na, mo_h_na]
    rw [w9 _ _ (by omega) (by omega), w9 _ _ (by omega) (by omega), w9 _ _ (by omega) (by omega)]
    simp (disch := omega) only [jx_u_na, jx_u_ni, sv_ln_na]
    exact sv5 k hk
  · unfold mo_g1 mo_an mo_ly
    simp (disch := omega) only [jx_u_na, jx_u_ni, jx_u_eq]
  · unfold mo_g1 mo_an mo_ly
    simp (disch := omega) only [jx_u_na, jx_u_ni, jx_u_eq, mo_h_na]
  · unfold mo_g1 mo_an
    simp (disch := omega) only [jx_u_ni]
    rw [mo_ly_lt w1 w3 w4]
    try simp (disch := omega) only [jx_u_na, mo_h_na]
  · unfold mo_g1 mo_an
    simp (disch := omega) only [jx_u_na]
    rw [mo_ly_m hi]
    try simp (disch := omega) only [jx_u_na, mo_h_na]
  · exact FJ a i w1 w3 w4 w5
  · have w9 : ∀ a i, (a = 101 ∨ a = 102) ∧ (∃ k, k < 3 ∧ i = 3 * r + k) ∨ (103 ≤ a ∧ a ≤ 105) ∧ (∃ k, k < 5 ∧ i = 5 * r + k) → mo_g1 J x' s j a i = J a i := fun a i w1 => by
      have w2 : (a = 101 ∨ a = 102) ∧ (i < 3 * s ∨ 3 * s + 3 ≤ i) ∨ (103 ≤ a ∧ a ≤ 105) ∧ (i < 5 * s ∨ 5 * s + 5 ≤ i) := by
        rcases w1 with ⟨w1, k, w3, w4⟩ | ⟨w1, k, w3, w4⟩
        · left
          refine ⟨w1, ?_⟩
          rcases Nat.lt_or_gt_of_ne w with w5 | w5
          · omega
          · omega
        · right
          refine ⟨w1, ?_⟩
          rcases Nat.lt_or_gt_of_ne w with w5 | w5
          · omega
          · omega
      unfold mo_g1 mo_an
      simp (disch := omega) only [jx_u_na]
      rw [mo_ly_F a i (by omega) (by omega) (by omega) (by omega)]
      try simp (disch := omega) only [jx_u_no, mo_h_o]
    exact ⟨fun i hi => ⟨w9 _ _ (Or.inl ⟨by omega, i, hi, rfl⟩), w9 _ _ (Or.inl ⟨by omega, i, hi, rfl⟩)⟩, fun k hk => ⟨w9 _ _ (Or.inr ⟨by omega, k, hk, rfl⟩), w9 _ _ (Or.inr ⟨by omega, k, hk, rfl⟩), w9 _ _ (Or.inr ⟨by omega, k, hk, rfl⟩)⟩⟩
set_option maxHeartbeats 4000000 in
set_option maxRecDepth 100000 in
theorem rl_serve2g {G : jx_G} {n ms : Nat} {K : Nat → Nat × Nat} {I : Nat → Nat → Int32} {P : Nat → Nat → Option Nat} {J J0 : Nat → Nat → Int32} {B h : Nat} {A : Nat → Nat} {T : Nat → Prop} {X : Nat → Nat → Int32} {s t x j : Nat} (hR0 : rl n ms K I P J0 B A h T X) (hs : s < 7) (ht : T t) (hj : hd_j X t J) (hJo : ∀ a j, 98 ≤ a → a < 140 → ¬ (a = 99 ∧ 6 * s ≤ j ∧ j < 6 * s + 6) → J a j = J0 a j) (hJm : ∀ k, k < 6 → J 99 (6 * s + k) = if X (t + 2) k = -1 ∨ J0 99 (6 * s + k) = 0 then X (t + 2) k else J0 99 (6 * s + k)) (hsv : J 98 48 = nI s) (hkd : J 98 47 = 2) (hnu : J 98 51 = nI j) (hj5 : j < 5) (hg : J 103 (5 * s + j) < J 98 52) (hx : J 98 9 = nI x) (hx2 : x + h + 9 ≤ 15999) : jx_C G yX8_serve cX8_serve 4 none 8 [.inr (some 3), .inr (some (22 + 8 * s)), .inr (some t)] (n, ms, K, I, P) (rl_Q none (mo_g2 J x s j) B A h T X) := by
  refine jx_C_of (by decide) (Nat.le_of_ble_eq_true rfl) ?_
  simp only [List.map_cons, List.map_nil, List.length_cons, List.length_nil, Nat.reduceAdd, Nat.reduceSub, List.replicate_zero, List.append_nil, List.replicate_succ, List.cons_append, List.nil_append]
  have hR := rl_join_s hR0 hs ht hJo hJm
  obtain ⟨t0, t1, t2, t3⟩ := hd_ok_t hR0 ht
  obtain ⟨k0, k1, k2, k3, k4, p0, p1, p2, p3⟩ := id t0
  have hS := (hR0.1.1.2.2.2.2.2.2.2.2.1 s hs).2
  obtain ⟨s0, s1, s2, s3, s4, s5, s6, s7, r0, r1, r2, r3, r4, r5, r6⟩ := id hS
  have g0 := hR0.1.1.1
  have g5 := hR0.1.1.2.2.2.2.2.1
  obtain ⟨-, -, -, t3'⟩ := hd_ok_t hR ht
  obtain ⟨j0, j1, j2, j3, j4, j5, j6, j7, j8, j9, j10, j11⟩ := id hj
  refine jx_gq flok_X8 (fwok_X8 rfl) 99999 4 _ _ _ _ ?_
  simp (disch := omega) only [↓reduceIte, jx_wp, jx_stp, jx_f0, jx_f1, jx_f2, jx_f3, List.getElem?_cons_zero, List.getElem?_cons_succ, List.set_cons_zero, List.set_cons_succ, Nat.reduceAdd, true_and, and_true, if_true, if_false, Bool.false_eq_true, jx_s, Nat.reduceLT, dX8_serve_0, dX8_serve_1, dX8_serve_4, dX8_serve_5, dX8_serve_8, dX8_serve_11, dX8_serve_12, dX8_serve_15, dX8_serve_17, dX8_serve_20, dX8_serve_21, dX8_serve_22, dX8_serve_25, dX8_serve_26, dX8_serve_29, dX8_serve_31, dX8_serve_32, dX8_serve_33, dX8_serve_36, dX8_serve_37, dX8_serve_40, dX8_serve_41, dX8_serve_44, dX8_serve_47, dX8_serve_48, dX8_serve_49, dX8_serve_50, dX8_serve_53, dX8_serve_56, dX8_serve_57, dX8_serve_58, dX8_serve_61, dX8_serve_64, dX8_serve_65, dX8_serve_66, dX8_serve_67, dX8_serve_70, fl_X8_157, ft_7_0, fl_X8_131, ft_4_0, fl_X8_103, ft_4_3, jx_b6, tg_17_4, fl_X8_24, ft_9_2, jx_b10, fl_X8_108, ft_4_4, fl_X8_111, ft_4_5, fl_X8_114, ft_4_6, fw_X8_114, fl_X8_117, ft_4_7, fw_X8_117, jx_wq, jx_stq, jx_ite, jx_b0, jx_bn0, jx_u_eq, jx_u_na, jx_u_ni, jx_nb0, jx_nb1, jx_ni, jx_E, eq_self, jx_a0, jx_a1, ne_eq, not_false_eq_true, Nat.reduceLeDiff, Nat.reduceEqDiff, Nat.reduceLT, jx_subl, jx_al, jx_la, jx_nm, jx_ml, nI_add, jx_xn, jx_xl, jx_inn, jx_inl, jx_ltnn, jx_lenn, jx_eqnn, jx_ltnl, jx_lenl, jx_ltln, jx_leln, jx_eqnl, Int32.reduceAdd, Int32.reduceSub, Int32.reduceMul, Int32.reduceLT, Int32.reduceLE, jx_eqll, jx_ltll, Nat.reduceMul, Nat.reduceSub, forall_const, implies_true, false_implies, not_true_eq_false, true_implies, jx_tko, jx_ofn, jx_tka, jx_pro, jx_pra, and_self, Nat.not_lt_zero, jx_nbb, fv_4_6, fv_4_7, s0, r0, k0, p0]
  refine jx_cV1 dX8_serve_8 li_X8_282 (sm_join s1 r1 s2 k1 p3 k2 (by omega) (by omega)) (congrArg Prod.fst s1) (Nat.le_of_ble_eq_true rfl) (Nat.le_of_ble_eq_true rfl) ?_
  rintro _ _ ⟨rfl, rfl⟩ - -
  simp only [Option.toList_some, Option.toList_none, List.cons_append, List.nil_append]
  generalize hI' : sm_jn I (22 + 8 * s + 2) (t + 2) 6 = I' at hR t3' ⊢
  have e3 : I' t 3 = J 98 47 := by rw [t3' t 3 (by omega) (by omega), j0]
  have e4 : I' t 4 = J 98 48 := by rw [t3' t 4 (by omega) (by omega), j1]
  have e5 : I' t 5 = J 98 49 := by rw [t3' t 5 (by omega) (by omega), j2]
  have e6 : I' t 6 = J 98 50 := by rw [t3' t 6 (by omega) (by omega), j3]
  have e7 : I' t 7 = J 98 51 := by rw [t3' t 7 (by omega) (by omega), j4]
  have e3' : I' t 3 = 2 := e3.trans hkd
  have e48 : I' t 4 = nI s := e4.trans hsv
  obtain ⟨hN, ⟨L, x', S, z, e, cc, e2, c2, hB, hT⟩, hX, hag⟩ := id hR
  obtain ⟨bg, bj, -, -, bb, bn, bm⟩ := id hB
  obtain ⟨bf, bl, bl2, bee, bmi, bms, bdj, b140⟩ := id bg
  have exx : x' = x := by
    have w := bj.symm.trans hx
    rw [jx_eqnn (by omega) (by omega)] at w
    exact w
  subst exx
  have cb1 := bl.2.2.2.2.1
  have cb2 := bl2.2.2.2.2.1
  obtain ⟨v0, v1, v2, v3⟩ := hN.2.2.2.1 s hs
  refine jx_gq flok_X8 (fwok_X8 rfl) 99999 18 _ _ _ _ ?_
  simp (disch := omega) only [↓reduceIte, jx_wp, jx_stp, jx_f0, jx_f1, jx_f2, jx_f3, List.getElem?_cons_zero, List.getElem?_cons_succ, List.set_cons_zero, List.set_cons_succ, Nat.reduceAdd, true_and, and_true, if_true, if_false, Bool.false_eq_true, jx_s, Nat.reduceLT, dX8_serve_0, dX8_serve_1, dX8_serve_4, dX8_serve_5, dX8_serve_8, dX8_serve_11, dX8_serve_12, dX8_serve_15, dX8_serve_17, dX8_serve_20, dX8_serve_21, dX8_serve_22, dX8_serve_25, dX8_serve_26, dX8_serve_29, dX8_serve_31, dX8_serve_32, dX8_serve_33, dX8_serve_36, dX8_serve_37, dX8_serve_40, dX8_serve_41, dX8_serve_44, dX8_serve_47, dX8_serve_48, dX8_serve_49, dX8_serve_50, dX8_serve_53, dX8_serve_56, dX8_serve_57, dX8_serve_58, dX8_serve_61, dX8_serve_64, dX8_serve_65, dX8_serve_66, dX8_serve_67, dX8_serve_70, fl_X8_157, ft_7_0, fl_X8_131, ft_4_0, fl_X8_103, ft_4_3, jx_b6, tg_17_4, fl_X8_24, ft_9_2, jx_b10, fl_X8_108, ft_4_4, fl_X8_111, ft_4_5, fl_X8_114, ft_4_6, fw_X8_114, fl_X8_117, ft_4_7, fw_X8_117, jx_wq, jx_stq, jx_ite, jx_b0, jx_bn0, jx_u_eq, jx_u_na, jx_u_ni, jx_nb0, jx_nb1, jx_ni, jx_E, eq_self, jx_a0, jx_a1, ne_eq, not_false_eq_true, Nat.reduceLeDiff, Nat.reduceEqDiff, Nat.reduceLT, jx_subl, jx_al, jx_la, jx_nm, jx_ml, nI_add, jx_xn, jx_xl, jx_inn, jx_inl, jx_ltnn, jx_lenn, jx_eqnn, jx_ltnl, jx_lenl, jx_ltln, jx_leln, jx_eqnl, Int32.reduceAdd, Int32.reduceSub, Int32.reduceMul, Int32.reduceLT, Int32.reduceLE, jx_eqll, jx_ltll, Nat.reduceMul, Nat.reduceSub, forall_const, implies_true, false_implies, not_true_eq_false, true_implies, jx_tko, jx_ofn, jx_tka, jx_pro, jx_pra, and_self, Nat.not_lt_zero, jx_nbb, fv_4_6, fv_4_7, k0, e3', e48, e5, g0, g5, s0, r0]
  refine jx_cV4 dX8_serve_44 li_X8_286 (bg_post s1 r1 s2 (by omega) (by omega) (by omega) bg (by omega) (by omega) (by omega)) (congrArg Prod.fst bf.1) (Nat.le_of_ble_eq_true rfl) (Nat.le_of_ble_eq_true rfl) ?_
  rintro _ _ ⟨q, z2, m2, ms2, K2, I2, P2, e3q, c3', rfl, rfl, hK2, hz, hcon, h6, hKK, hII, hPP, -, hn, hm⟩ hnn -
  simp only [Option.toList_some, Option.toList_none, List.cons_append, List.nil_append]
  have hnn : n ≤ m2 := hnn
  obtain ⟨-, -, -, -, w2, -, -, w140⟩ := id hK2
  obtain ⟨wq, wq1, wq2⟩ := w2 x' (by omega)
  rw [ls_up_eq] at wq wq1 wq2
  obtain ⟨y3, y4, y5, y6, y7, y8, yz, ym⟩ := hcon
  obtain ⟨h0t, -, -, hLt, hSt⟩ := hT t ht
  have htq : t ≠ q := by
    rcases hz with ⟨w1, w3⟩ | ⟨w1, w4, w3⟩
    · rw [w3]
      exact (hSt z2 (by omega)).symm
    · omega
  have te1 := ob_M_e t0 bl.2.1
  have te2 := ob_M_e t0 bl2.2.1
  have hen := bl.2.2.2.2.2.2.2
  have hen2 := bl2.2.2.2.2.2.2.2
  have tq : ob_M K2 P2 t := ob_M_fr t0 (fun b w1 w3 => hKK b (by omega)) (fun b j w1 w3 => hPP b j (by omega) (by omega) (by omega) (by omega) (by omega))
  have far := ob_M_far tq wq htq
  have hS2 : ob_S K2 P2 (22 + 8 * s) := ob_S_to hS (fun a w1 w3 => hKK a (by omega)) (fun a j w1 w3 => hPP a j (by omega) (by omega) (by omega) (by omega) (by omega))
  have hIt : ∀ b j, t ≤ b → b < t + 5 → I2 b j = X b j := fun b j w1 w3 => by rw [hII b j (by omega) (by omega) (by omega) (by omega) (by omega), t3' b j w1 w3]
  have hIs : ∀ b j, 9 ≤ b → b < 98 → I2 b j = I' b j := fun b j w1 w3 => hII b j (by omega) (by omega) (by omega) (by omega) (by omega)
  have kq := wq.1
  have kt := tq.1
  have f6 : I2 t 6 = J 98 50 := by rw [hIt t 6 (by omega) (by omega), j3]
  have f7 : I2 t 7 = J 98 51 := by rw [hIt t 7 (by omega) (by omega), j4]
  have f3 : I2 t 3 = 2 := by rw [hIt t 3 (by omega) (by omega), j0, hkd]
  have ft : ∀ r, I2 (t + 3) r = X (t + 3) r ∧ I2 (t + 4) r = X (t + 4) r := fun r => ⟨hIt _ _ (by omega) (by omega), hIt _ _ (by omega) (by omega)⟩
  have sv3 : ∀ r, r < 3 → I2 (22 + 8 * s + 3) r = J 101 (3 * s + r) ∧ I2 (22 + 8 * s + 4) r = J 102 (3 * s + r) := fun r hr => by
    rw [hIs _ _ (by omega) (by omega), hIs _ _ (by omega) (by omega)]
    exact v2 r hr
  have sv5 : ∀ k, k < 5 → I2 (22 + 8 * s + 5) k = J 103 (5 * s + k) ∧ I2 (22 + 8 * s + 6) k = J 104 (5 * s + k) ∧ I2 (22 + 8 * s + 7) k = J 105 (5 * s + k) := fun k hk => by
    rw [hIs _ _ (by omega) (by omega), hIs _ _ (by omega) (by omega), hIs _ _ (by omega) (by omega)]
    exact v3 k hk
  have t50 : I2 (t + 3) 0 = J 98 52 := (ft 0).1.trans j5
  have t51 : I2 (t + 3) 1 = J 98 54 := (ft 1).1.trans j7
  have t52 : I2 (t + 3) 2 = J 98 56 := (ft 2).1.trans j9
  have t60 : I2 (t + 4) 0 = J 98 53 := (ft 0).2.trans j6
  have t61 : I2 (t + 4) 1 = J 98 55 := (ft 1).2.trans j8
  have t62 : I2 (t + 4) 2 = J 98 57 := (ft 2).2.trans j10
  have sv5j := sv5 j hj5
  refine jx_gq flok_X8 (fwok_X8 rfl) 99999 12 _ _ _ _ ?_
  simp (disch := omega) only [↓reduceIte, jx_wp, jx_stp, jx_f0, jx_f1, jx_f2, jx_f3, List.getElem?_cons_zero, List.getElem?_cons_succ, List.set_cons_zero, List.set_cons_succ, Nat.reduceAdd, true_and, and_true, if_true, if_false, Bool.false_eq_true, jx_s, Nat.reduceLT, dX8_serve_0, dX8_serve_1, dX8_serve_4, dX8_serve_5, dX8_serve_8, dX8_serve_11, dX8_serve_12, dX8_serve_15, dX8_serve_17, dX8_serve_20, dX8_serve_21, dX8_serve_22, dX8_serve_25, dX8_serve_26, dX8_serve_29, dX8_serve_31, dX8_serve_32, dX8_serve_33, dX8_serve_36, dX8_serve_37, dX8_serve_40, dX8_serve_41, dX8_serve_44, dX8_serve_47, dX8_serve_48, dX8_serve_49, dX8_serve_50, dX8_serve_53, dX8_serve_56, dX8_serve_57, dX8_serve_58, dX8_serve_61, dX8_serve_64, dX8_serve_65, dX8_serve_66, dX8_serve_67, dX8_serve_70, fl_X8_157, ft_7_0, fl_X8_131, ft_4_0, fl_X8_103, ft_4_3, jx_b6, tg_17_4, fl_X8_24, ft_9_2, jx_b10, fl_X8_108, ft_4_4, fl_X8_111, ft_4_5, fl_X8_114, ft_4_6, fw_X8_114, fl_X8_117, ft_4_7, fw_X8_117, jx_wq, jx_stq, jx_ite, jx_b0, jx_bn0, jx_u_eq, jx_u_na, jx_u_ni, jx_nb0, jx_nb1, jx_ni, jx_E, eq_self, jx_a0, jx_a1, ne_eq, not_false_eq_true, Nat.reduceLeDiff, Nat.reduceEqDiff, Nat.reduceLT, jx_subl, jx_al, jx_la, jx_nm, jx_ml, nI_add, jx_xn, jx_xl, jx_inn, jx_inl, jx_ltnn, jx_lenn, jx_eqnn, jx_ltnl, jx_lenl, jx_ltln, jx_leln, jx_eqnl, Int32.reduceAdd, Int32.reduceSub, Int32.reduceMul, Int32.reduceLT, Int32.reduceLE, jx_eqll, jx_ltll, Nat.reduceMul, Nat.reduceSub, forall_const, implies_true, false_implies, not_true_eq_false, true_implies, jx_tko, jx_ofn, jx_tka, jx_pro, jx_pra, and_self, Nat.not_lt_zero, jx_nbb, fv_4_6, fv_4_7, kq, kt, f6, f7]
  refine jx_cV2 dX8_serve_67 li_X8_290 (sv_ob2g hS2 tq wq (by omega) (by omega) far hj5 (by simp (disch := omega) only [jx_u_na, f7, hnu]) (by simp (disch := omega) only [jx_u_na, f3]) (by simp (disch := omega) only [jx_u_na, t50, sv5j.1]; exact hg)) (congrArg Prod.fst hS2.1) (Nat.le_of_ble_eq_true rfl) (Nat.le_of_ble_eq_true rfl) ?_
  rintro _ _ ⟨rfl, rfl⟩ - -
  simp only [Option.toList_some, Option.toList_none, List.cons_append, List.nil_append]
  refine jx_gq flok_X8 (fwok_X8 rfl) 99999 3 _ _ _ _ ?_
  simp (disch := omega) only [↓reduceIte, jx_wp, jx_stp, jx_f0, jx_f1, jx_f2, jx_f3, List.getElem?_cons_zero, List.getElem?_cons_succ, List.set_cons_zero, List.set_cons_succ, Nat.reduceAdd, true_and, and_true, if_true, if_false, Bool.false_eq_true, jx_s, Nat.reduceLT, dX8_serve_0, dX8_serve_1, dX8_serve_4, dX8_serve_5, dX8_serve_8, dX8_serve_11, dX8_serve_12, dX8_serve_15, dX8_serve_17, dX8_serve_20, dX8_serve_21, dX8_serve_22, dX8_serve_25, dX8_serve_26, dX8_serve_29, dX8_serve_31, dX8_serve_32, dX8_serve_33, dX8_serve_36, dX8_serve_37, dX8_serve_40, dX8_serve_41, dX8_serve_44, dX8_serve_47, dX8_serve_48, dX8_serve_49, dX8_serve_50, dX8_serve_53, dX8_serve_56, dX8_serve_57, dX8_serve_58, dX8_serve_61, dX8_serve_64, dX8_serve_65, dX8_serve_66, dX8_serve_67, dX8_serve_70, fl_X8_157, ft_7_0, fl_X8_131, ft_4_0, fl_X8_103, ft_4_3, jx_b6, tg_17_4, fl_X8_24, ft_9_2, jx_b10, fl_X8_108, ft_4_4, fl_X8_111, ft_4_5, fl_X8_114, ft_4_6, fw_X8_114, fl_X8_117, ft_4_7, fw_X8_117, jx_wq, jx_stq, jx_ite, jx_b0, jx_bn0, jx_u_eq, jx_u_na, jx_u_ni, jx_nb0, jx_nb1, jx_ni, jx_E, eq_self, jx_a0, jx_a1, ne_eq, not_false_eq_true, Nat.reduceLeDiff, Nat.reduceEqDiff, Nat.reduceLT, jx_subl, jx_al, jx_la, jx_nm, jx_ml, nI_add, jx_xn, jx_xl, jx_inn, jx_inl, jx_ltnn, jx_lenn, jx_eqnn, jx_ltnl, jx_lenl, jx_ltln, jx_leln, jx_eqnl, Int32.reduceAdd, Int32.reduceSub, Int32.reduceMul, Int32.reduceLT, Int32.reduceLE, jx_eqll, jx_ltll, Nat.reduceMul, Nat.reduceSub, forall_const, implies_true, false_implies, not_true_eq_false, true_implies, jx_tko, jx_ofn, jx_tka, jx_pro, jx_pra, and_self, Nat.not_lt_zero, jx_nbb, fv_4_6, fv_4_7]
  refine ⟨rfl, m2, ms2, K2, _, P2, rfl, ?_⟩
  try simp (disch := omega) only [jx_u_na, jx_u_ni]
  have FJ : ∀ a i, 98 ≤ a → a < 140 → ¬ (101 ≤ a ∧ a ≤ 118) → ¬ (a = 98 ∧ (i = 9 ∨ i = 10)) → mo_g2 J x' s j a i = J a i := fun a i w1 w3 w4 w5 => by
    unfold mo_g2 mo_an
    simp (disch := omega) only [jx_u_na]
    rw [mo_ly_F a i w1 w3 (by omega) w5]
    try simp (disch := omega) only [jx_u_na, mo_h_na]
  refine rl_srv (I4 := sv_g2 (jx_u (jx_u I2 q 6 (J 98 50)) q 7 (J 98 51)) (22 + 8 * s) t q j) (J3 := mo_g2 J x' s j) hN hB hT hX hag (by omega) hK2 hz h6 hKK hII hPP hn hm hnn wq1 hs (fun b j w1 w3 => ?_) ?_ ⟨?_, fun k hk => ?_, fun r hr => ?_, fun k hk => ?_⟩ ?_ ?_ (fun a i w1 w3 w4 => ?_) (fun i hi => ?_) (fun a i w1 w3 w4 w5 => ?_) (fun r hr w => ?_)
  · unfold sv_g2
    simp (disch := omega) only [jx_u_na, jx_u_ni, jx_u_eq, sv_ln_na]
  · unfold mgs sv_g2 mo_g2 mo_an mo_ly
    refine ⟨?_, ?_, ?_, ?_, ?_, ?_, ?_, ?_, ?_, ?_, ?_, ?_, fun k hk => ?_⟩
    · simp (disch := omega) only [jx_u_na, jx_u_ni, jx_u_eq, sv_ln_na, mo_h_na, y3, y4, y5, y8, (yz 0 (by omega)).1, (yz 0 (by omega)).2, (yz 1 (by omega)).1, (yz 1 (by omega)).2, (yz 2 (by omega)).1, (yz 2 (by omega)).2]
    · simp (disch := omega) only [jx_u_na, jx_u_ni, jx_u_eq, sv_ln_na, mo_h_na, y3, y4, y5, y8, (yz 0 (by omega)).1, (yz 0 (by omega)).2, (yz 1 (by omega)).1, (yz 1 (by omega)).2, (yz 2 (by omega)).1, (yz 2 (by omega)).2]
    · simp (disch := omega) only [jx_u_na, jx_u_ni, jx_u_eq, sv_ln_na, mo_h_na, y3, y4, y5, y8, (yz 0 (by omega)).1, (yz 0 (by omega)).2, (yz 1 (by omega)).1, (yz 1 (by omega)).2, (yz 2 (by omega)).1, (yz 2 (by omega)).2]
    · simp (disch := omega) only [jx_u_na, jx_u_ni, jx_u_eq, sv_ln_na, mo_h_na, y3, y4, y5, y8, (yz 0 (by omega)).1, (yz 0 (by omega)).2, (yz 1 (by omega)).1, (yz 1 (by omega)).2, (yz 2 (by omega)).1, (yz 2 (by omega)).2]
    · simp (disch := omega) only [jx_u_na, jx_u_ni, jx_u_eq, sv_ln_na, mo_h_na, y3, y4, y5, y8, (yz 0 (by omega)).1, (yz 0 (by omega)).2, (yz 1 (by omega)).1, (yz 1 (by omega)).2, (yz 2 (by omega)).1, (yz 2 (by omega)).2, hnu]
    · simp (disch := omega) only [jx_u_na, jx_u_ni, jx_u_eq, sv_ln_na, mo_h_na, y3, y4, y5, y8, (yz 0 (by omega)).1, (yz 0 (by omega)).2, (yz 1 (by omega)).1, (yz 1 (by omega)).2, (yz 2 (by omega)).1, (yz 2 (by omega)).2, sv5j.2.1]
    · simp (disch := omega) only [jx_u_na, jx_u_ni, jx_u_eq, sv_ln_na, mo_h_na, y3, y4, y5, y8, (yz 0 (by omega)).1, (yz 0 (by omega)).2, (yz 1 (by omega)).1, (yz 1 (by omega)).2, (yz 2 (by omega)).1, (yz 2 (by omega)).2, sv5j.2.2]
    · simp (disch := omega) only [jx_u_na, jx_u_ni, jx_u_eq, sv_ln_na, mo_h_na, y3, y4, y5, y8, (yz 0 (by omega)).1, (yz 0 (by omega)).2, (yz 1 (by omega)).1, (yz 1 (by omega)).2, (yz 2 (by omega)).1, (yz 2 (by omega)).2]
    · simp (disch := omega) only [jx_u_na, jx_u_ni, jx_u_eq, sv_ln_na, mo_h_na, y3, y4, y5, y8, (yz 0 (by omega)).1, (yz 0 (by omega)).2, (yz 1 (by omega)).1, (yz 1 (by omega)).2, (yz 2 (by omega)).1, (yz 2 (by omega)).2]
    · simp (disch := omega) only [jx_u_na, jx_u_ni, jx_u_eq, sv_ln_na, mo_h_na, y3, y4, y5, y8, (yz 0 (by omega)).1, (yz 0 (by omega)).2, (yz 1 (by omega)).1, (yz 1 (by omega)).2, (yz 2 (by omega)).1, (yz 2 (by omega)).2]
    · simp (disch := omega) only [jx_u_na, jx_u_ni, jx_u_eq, sv_ln_na, mo_h_na, y3, y4, y5, y8, (yz 0 (by omega)).1, (yz 0 (by omega)).2, (yz 1 (by omega)).1, (yz 1 (by omega)).2, (yz 2 (by omega)).1, (yz 2 (by omega)).2]
    · simp (disch := omega) only [jx_u_na, jx_u_ni, jx_u_eq, sv_ln_na, mo_h_na, y3, y4, y5, y8, (yz 0 (by omega)).1, (yz 0 (by omega)).2, (yz 1 (by omega)).1, (yz 1 (by omega)).2, (yz 2 (by omega)).1, (yz 2 (by omega)).2]
    · rcases (show k = 0 ∨ k = 1 ∨ k = 2 ∨ k = 3 ∨ k = 4 ∨ k = 5 by omega) with rfl | rfl | rfl | rfl | rfl | rfl
      all_goals simp (disch := omega) only [jx_u_na, jx_u_ni, jx_u_eq, sv_ln_na, mo_h_na, ym, v1, Nat.add_zero]
  · rw [FJ 100 s (by omega) (by omega) (by omega) (by omega)]
    unfold sv_g2
    simp (disch := omega) only [jx_u_na, jx_u_ni, sv_ln_na]
    rw [hIs _ _ (by omega) (by omega), v0]
  · rw [FJ 99 _ (by omega) (by omega) (by omega) (by omega)]
    unfold sv_g2
    simp (disch := omega) only [jx_u_na, jx_u_ni, sv_ln_na]
    rw [hIs _ _ (by omega) (by omega), v1 k hk]
  · have w9 : ∀ a i, 101 ≤ a → a ≤ 102 → mo_g2 J x' s j a i = J a i := fun a i w1 w3 => by
      unfold mo_g2 mo_an
      simp (disch := omega) only [jx_u_na]
      rw [mo_ly_F a i (by omega) (by omega) (by omega) (by omega)]
      try simp (disch := omega) only [jx_u_na]
    rw [w9 _ _ (by omega) (by omega), w9 _ _ (by omega) (by omega)]
    unfold sv_g2
    simp (disch := omega) only [jx_u_na, jx_u_ni]
    exact sv3 r hr
  · have w9 : ∀ a i, 103 ≤ a → a ≤ 105 → mo_g2 J x' s j a i = jx_u J 103 (5 * s + j) (J 98 52) a i := fun a i w1 w3 => by
      unfold mo_g2 mo_an
      simp (disch := omega) only [jx_u_na]
      rw [mo_ly_F a i (by omega) (by omega) (by omega) (by omega)]
    rw [w9 _ _ (by omega) (by omega), w9 _ _ (by omega) (by omega), w9 _ _ (by omega) (by omega)]
    unfold sv_g2
    by_cases wk : k = j
    · subst wk
      simp (disch := omega) only [jx_u_na, jx_u_ni, jx_u_eq, t50, t60, (sv5 k hk).1, (sv5 k hk).2.1, (sv5 k hk).2.2, and_self]
    · simp (disch := omega) only [jx_u_na, jx_u_ni]
      exact sv5 k hk
  · unfold mo_g2 mo_an mo_ly
    simp (disch := omega) only [jx_u_na, jx_u_ni, jx_u_eq]
  · unfold mo_g2 mo_an mo_ly
    simp (disch := omega) only [jx_u_na, jx_u_ni, jx_u_eq, mo_h_na]
  · unfold mo_g2 mo_an
    simp (disch := omega) only [jx_u_ni]
    rw [mo_ly_lt w1 w3 w4]
    try simp (disch := omega) only [jx_u_na, mo_h_na]
  · unfold mo_g2 mo_an
    simp (disch := omega) only [jx_u_na]
    rw [mo_ly_m hi]
    try simp (disch := omega) only [jx_u_na, mo_h_na]
  · exact FJ a i w1 w3 w4 w5
  · have w9 : ∀ a i, (a = 101 ∨ a = 102) ∧ (∃ k, k < 3 ∧ i = 3 * r + k) ∨ (103 ≤ a ∧ a ≤ 105) ∧ (∃ k, k < 5 ∧ i = 5 * r + k) → mo_g2 J x' s j a i = J a i := fun a i w1 => by
      have w2 : (a = 101 ∨ a = 102) ∧ (i < 3 * s ∨ 3 * s + 3 ≤ i) ∨ (103 ≤ a ∧ a ≤ 105) ∧ (i < 5 * s ∨ 5 * s + 5 ≤ i) := by
        rcases w1 with ⟨w1, k, w3, w4⟩ | ⟨w1, k, w3, w4⟩
        · left
          refine ⟨w1, ?_⟩
          rcases Nat.lt_or_gt_of_ne w with w5 | w5
          · omega
          · omega
        · right
          refine ⟨w1, ?_⟩
          rcases Nat.lt_or_gt_of_ne w with w5 | w5
          · omega
          · omega
      unfold mo_g2 mo_an
      simp (disch := omega) only [jx_u_na]
      rw [mo_ly_F a i (by omega) (by omega) (by omega) (by omega)]
      try simp (disch := omega) only [jx_u_no, mo_h_o]
    exact ⟨fun i hi => ⟨w9 _ _ (Or.inl ⟨by omega, i, hi, rfl⟩), w9 _ _ (Or.inl ⟨by omega, i, hi, rfl⟩)⟩, fun k hk => ⟨w9 _ _ (Or.inr ⟨by omega, k, hk, rfl⟩), w9 _ _ (Or.inr ⟨by omega, k, hk, rfl⟩), w9 _ _ (Or.inr ⟨by omega, k, hk, rfl⟩)⟩⟩
set_option maxHeartbeats 4000000 in
set_option maxRecDepth 100000 in
theorem rl_serve2b {G : jx_G} {n ms : Nat} {K : Nat → Nat × Nat} {I : Nat → Nat → Int32} {P : Nat → Nat → Option Nat} {J J0 : Nat → Nat → Int32} {B h : Nat} {A : Nat → Nat} {T : Nat → Prop} {X : Nat → Nat → Int32} {s t x j : Nat} (hR0 : rl n ms K I P J0 B A h T X) (hs : s < 7) (ht : T t) (hj : hd_j X t J) (hJo : ∀ a j, 98 ≤ a → a < 140 → ¬ (a = 99 ∧ 6 * s ≤ j ∧ j < 6 * s + 6) → J a j = J0 a j) (hJm : ∀ k, k < 6 → J 99 (6 * s + k) = if X (t + 2) k = -1 ∨ J0 99 (6 * s + k) = 0 then X (t + 2) k else J0 99 (6 * s + k)) (hsv : J 98 48 = nI s) (hkd : J 98 47 = 2) (hnu : J 98 51 = nI j) (hj5 : j < 5) (hg : ¬ J 103 (5 * s + j) < J 98 52) (hx : J 98 9 = nI x) (hx2 : x + h + 9 ≤ 15999) : jx_C G yX8_serve cX8_serve 4 none 8 [.inr (some 3), .inr (some (22 + 8 * s)), .inr (some t)] (n, ms, K, I, P) (rl_Q none (mo_bd J x 12 s j) B A h T X) := by
  refine jx_C_of (by decide) (Nat.le_of_ble_eq_true rfl) ?_
  simp only [List.map_cons, List.map_nil, List.length_cons, List.length_nil, Nat.reduceAdd, Nat.reduceSub, List.replicate_zero, List.append_nil, List.replicate_succ, List.cons_append, List.nil_append]
  have hR := rl_join_s hR0 hs ht hJo hJm
  obtain ⟨t0, t1, t2, t3⟩ := hd_ok_t hR0 ht
  obtain ⟨k0, k1, k2, k3, k4, p0, p1, p2, p3⟩ := id t0
  have hS := (hR0.1.1.2.2.2.2.2.2.2.2.1 s hs).2
  obtain ⟨s0, s1, s2, s3, s4, s5, s6, s7, r0, r1, r2, r3, r4, r5, r6⟩ := id hS
  have g0 := hR0.1.1.1
  have g5 := hR0.1.1.2.2.2.2.2.1
  obtain ⟨-, -, -, t3'⟩ := hd_ok_t hR ht
  obtain ⟨j0, j1, j2, j3, j4, j5, j6, j7, j8, j9, j10, j11⟩ := id hj
  refine jx_gq flok_X8 (fwok_X8 rfl) 99999 4 _ _ _ _ ?_
  simp (disch := omega) only [↓reduceIte, jx_wp, jx_stp, jx_f0, jx_f1, jx_f2, jx_f3, List.getElem?_cons_zero, List.getElem?_cons_succ, List.set_cons_zero, List.set_cons_succ, Nat.reduceAdd, true_and, and_true, if_true, if_false, Bool.false_eq_true, jx_s, Nat.reduceLT, dX8_serve_0, dX8_serve_1, dX8_serve_4, dX8_serve_5, dX8_serve_8, dX8_serve_11, dX8_serve_12, dX8_serve_15, dX8_serve_17, dX8_serve_20, dX8_serve_21, dX8_serve_22, dX8_serve_25, dX8_serve_26, dX8_serve_29, dX8_serve_31, dX8_serve_32, dX8_serve_33, dX8_serve_36, dX8_serve_37, dX8_serve_40, dX8_serve_41, dX8_serve_44, dX8_serve_47, dX8_serve_48, dX8_serve_49, dX8_serve_50, dX8_serve_53, dX8_serve_56, dX8_serve_57, dX8_serve_58, dX8_serve_61, dX8_serve_64, dX8_serve_65, dX8_serve_66, dX8_serve_67, dX8_serve_70, fl_X8_157, ft_7_0, fl_X8_131, ft_4_0, fl_X8_103, ft_4_3, jx_b6, tg_17_4, fl_X8_24, ft_9_2, jx_b10, fl_X8_108, ft_4_4, fl_X8_111, ft_4_5, fl_X8_114, ft_4_6, fw_X8_114, fl_X8_117, ft_4_7, fw_X8_117, jx_wq, jx_stq, jx_ite, jx_b0, jx_bn0, jx_u_eq, jx_u_na, jx_u_ni, jx_nb0, jx_nb1, jx_ni, jx_E, eq_self, jx_a0, jx_a1, ne_eq, not_false_eq_true, Nat.reduceLeDiff, Nat.reduceEqDiff, Nat.reduceLT, jx_subl, jx_al, jx_la, jx_nm, jx_ml, nI_add, jx_xn, jx_xl, jx_inn, jx_inl, jx_ltnn, jx_lenn, jx_eqnn, jx_ltnl, jx_lenl, jx_ltln, jx_leln, jx_eqnl, Int32.reduceAdd, Int32.reduceSub, Int32.reduceMul, Int32.reduceLT, Int32.reduceLE, jx_eqll, jx_ltll, Nat.reduceMul, Nat.reduceSub, forall_const, implies_true, false_implies, not_true_eq_false, true_implies, jx_tko, jx_ofn, jx_tka, jx_pro, jx_pra, and_self, Nat.not_lt_zero, jx_nbb, fv_4_6, fv_4_7, s0, r0, k0, p0]
  refine jx_cV1 dX8_serve_8 li_X8_282 (sm_join s1 r1 s2 k1 p3 k2 (by omega) (by omega)) (congrArg Prod.fst s1) (Nat.le_of_ble_eq_true rfl) (Nat.le_of_ble_eq_true rfl) ?_
  rintro _ _ ⟨rfl, rfl⟩ - -
  simp only [Option.toList_some, Option.toList_none, List.cons_append, List.nil_append]
  generalize hI' : sm_jn I (22 + 8 * s + 2) (t + 2) 6 = I' at hR t3' ⊢
  have e3 : I' t 3 = J 98 47 := by rw [t3' t 3 (by omega) (by omega), j0]
  have e4 : I' t 4 = J 98 48 := by rw [t3' t 4 (by omega) (by omega), j1]
  have e5 : I' t 5 = J 98 49 := by rw [t3' t 5 (by omega) (by omega), j2]
  have e6 : I' t 6 = J 98 50 := by rw [t3' t 6 (by omega) (by omega), j3]
  have e7 : I' t 7 = J 98 51 := by rw [t3' t 7 (by omega) (by omega), j4]
  have e3' : I' t 3 = 2 := e3.trans hkd
  have e48 : I' t 4 = nI s := e4.trans hsv
  obtain ⟨hN, ⟨L, x', S, z, e, cc, e2, c2, hB, hT⟩, hX, hag⟩ := id hR
  obtain ⟨bg, bj, -, -, bb, bn, bm⟩ := id hB
  obtain ⟨bf, bl, bl2, bee, bmi, bms, bdj, b140⟩ := id bg
  have exx : x' = x := by
    have w := bj.symm.trans hx
    rw [jx_eqnn (by omega) (by omega)] at w
    exact w
  subst exx
  have cb1 := bl.2.2.2.2.1
  have cb2 := bl2.2.2.2.2.1
  obtain ⟨v0, v1, v2, v3⟩ := hN.2.2.2.1 s hs
  refine jx_gq flok_X8 (fwok_X8 rfl) 99999 18 _ _ _ _ ?_
  simp (disch := omega) only [↓reduceIte, jx_wp, jx_stp, jx_f0, jx_f1, jx_f2, jx_f3, List.getElem?_cons_zero, List.getElem?_cons_succ, List.set_cons_zero, List.set_cons_succ, Nat.reduceAdd, true_and, and_true, if_true, if_false, Bool.false_eq_true, jx_s, Nat.reduceLT, dX8_serve_0, dX8_serve_1, dX8_serve_4, dX8_serve_5, dX8_serve_8, dX8_serve_11, dX8_serve_12, dX8_serve_15, dX8_serve_17, dX8_serve_20, dX8_serve_21, dX8_serve_22, dX8_serve_25, dX8_serve_26, dX8_serve_29, dX8_serve_31, dX8_serve_32, dX8_serve_33, dX8_serve_36, dX8_serve_37, dX8_serve_40, dX8_serve_41, dX8_serve_44, dX8_serve_47, dX8_serve_48, dX8_serve_49, dX8_serve_50, dX8_serve_53, dX8_serve_56, dX8_serve_57, dX8_serve_58, dX8_serve_61, dX8_serve_64, dX8_serve_65, dX8_serve_66, dX8_serve_67, dX8_serve_70, fl_X8_157, ft_7_0, fl_X8_131, ft_4_0, fl_X8_103, ft_4_3, jx_b6, tg_17_4, fl_X8_24, ft_9_2, jx_b10, fl_X8_108, ft_4_4, fl_X8_111, ft_4_5, fl_X8_114, ft_4_6, fw_X8_114, fl_X8_117, ft_4_7, fw_X8_117, jx_wq, jx_stq, jx_ite, jx_b0, jx_bn0, jx_u_eq, jx_u_na, jx_u_ni, jx_nb0, jx_nb1, jx_ni, jx_E, eq_self, jx_a0, jx_a1, ne_eq, not_false_eq_true, Nat.reduceLeDiff, Nat.reduceEqDiff, Nat.reduceLT, jx_subl, jx_al, jx_la, jx_nm, jx_ml, nI_add, jx_xn, jx_xl, jx_inn, jx_inl, jx_ltnn, jx_lenn, jx_eqnn, jx_ltnl, jx_lenl, jx_ltln, jx_leln, jx_eqnl, Int32.reduceAdd, Int32.reduceSub, Int32.reduceMul, Int32.reduceLT, Int32.reduceLE, jx_eqll, jx_ltll, Nat.reduceMul, Nat.reduceSub, forall_const, implies_true, false_implies, not_true_eq_false, true_implies, jx_tko, jx_ofn, jx_tka, jx_pro, jx_pra, and_self, Nat.not_lt_zero, jx_nbb, fv_4_6, fv_4_7, k0, e3', e48, e5, g0, g5, s0, r0]
  refine jx_cV4 dX8_serve_44 li_X8_286 (bg_post s1 r1 s2 (by omega) (by omega) (by omega) bg (by omega) (by omega) (by omega)) (congrArg Prod.fst bf.1) (Nat.le_of_ble_eq_true rfl) (Nat.le_of_ble_eq_true rfl) ?_
  rintro _ _ ⟨q, z2, m2, ms2, K2, I2, P2, e3q, c3', rfl, rfl, hK2, hz, hcon, h6, hKK, hII, hPP, -, hn, hm⟩ hnn -
  simp only [Option.toList_some, Option.toList_none, List.cons_append, List.nil_append]
  have hnn : n ≤ m2 := hnn
  obtain ⟨-, -, -, -, w2, -, -, w140⟩ := id hK2
  obtain ⟨wq, wq1, wq2⟩ := w2 x' (by omega)
  rw [ls_up_eq] at wq wq1 wq2
  obtain ⟨y3, y4, y5, y6, y7, y8, yz, ym⟩ := hcon
  obtain ⟨h0t, -, -, hLt, hSt⟩ := hT t ht
  have htq : t ≠ q := by
    rcases hz with ⟨w1, w3⟩ | ⟨w1, w4, w3⟩
    · rw [w3]
      exact (hSt z2 (by omega)).symm
    · omega
  have te1 := ob_M_e t0 bl.2.1
  have te2 := ob_M_e t0 bl2.2.1
  have hen := bl.2.2.2.2.2.2.2
  have hen2 := bl2.2.2.2.2.2.2.2
  have tq : ob_M K2 P2 t := ob_M_fr t0 (fun b w1 w3 => hKK b (by omega)) (fun b j w1 w3 => hPP b j (by omega) (by omega) (by omega) (by omega) (by omega))
  have far := ob_M_far tq wq htq
  have hS2 : ob_S K2 P2 (22 + 8 * s) := ob_S_to hS (fun a w1 w3 => hKK a (by omega)) (fun a j w1 w3 => hPP a j (by omega) (by omega) (by omega) (by omega) (by omega))
  have hIt : ∀ b j, t ≤ b → b < t + 5 → I2 b j = X b j := fun b j w1 w3 => by rw [hII b j (by omega) (by omega) (by omega) (by omega) (by omega), t3' b j w1 w3]
  have hIs : ∀ b j, 9 ≤ b → b < 98 → I2 b j = I' b j := fun b j w1 w3 => hII b j (by omega) (by omega) (by omega) (by omega) (by omega)
  have kq := wq.1
  have kt := tq.1
  have f6 : I2 t 6 = J 98 50 := by rw [hIt t 6 (by omega) (by omega), j3]
  have f7 : I2 t 7 = J 98 51 := by rw [hIt t 7 (by omega) (by omega), j4]
  have f3 : I2 t 3 = 2 := by rw [hIt t 3 (by omega) (by omega), j0, hkd]
  have ft : ∀ r, I2 (t + 3) r = X (t + 3) r ∧ I2 (t + 4) r = X (t + 4) r := fun r => ⟨hIt _ _ (by omega) (by omega), hIt _ _ (by omega) (by omega)⟩
  have sv3 : ∀ r, r < 3 → I2 (22 + 8 * s + 3) r = J 101 (3 * s + r) ∧ I2 (22 + 8 * s + 4) r = J 102 (3 * s + r) := fun r hr => by
    rw [hIs _ _ (by omega) (by omega), hIs _ _ (by omega) (by omega)]
    exact v2 r hr
  have sv5 : ∀ k, k < 5 → I2 (22 + 8 * s + 5) k = J 103 (5 * s + k) ∧ I2 (22 + 8 * s + 6) k = J 104 (5 * s + k) ∧ I2 (22 + 8 * s + 7) k = J 105 (5 * s + k) := fun k hk => by
    rw [hIs _ _ (by omega) (by omega), hIs _ _ (by omega) (by omega), hIs _ _ (by omega) (by omega)]
    exact v3 k hk
  have t50 : I2 (t + 3) 0 = J 98 52 := (ft 0).1.trans j5
  have t51 : I2 (t + 3) 1 = J 98 54 := (ft 1).1.trans j7
  have t52 : I2 (t + 3) 2 = J 98 56 := (ft 2).1.trans j9
  have t60 : I2 (t + 4) 0 = J 98 53 := (ft 0).2.trans j6
  have t61 : I2 (t + 4) 1 = J 98 55 := (ft 1).2.trans j8
  have t62 : I2 (t + 4) 2 = J 98 57 := (ft 2).2.trans j10
  have sv5j := sv5 j hj5
  refine jx_gq flok_X8 (fwok_X8 rfl) 99999 12 _ _ _ _ ?_
  simp (disch := omega) only [↓reduceIte, jx_wp, jx_stp, jx_f0, jx_f1, jx_f2, jx_f3, List.getElem?_cons_zero, List.getElem?_cons_succ, List.set_cons_zero, List.set_cons_succ, Nat.reduceAdd, true_and, and_true, if_true, if_false, Bool.false_eq_true, jx_s, Nat.reduceLT, dX8_serve_0, dX8_serve_1, dX8_serve_4, dX8_serve_5, dX8_serve_8, dX8_serve_11, dX8_serve_12, dX8_serve_15, dX8_serve_17, dX8_serve_20, dX8_serve_21, dX8_serve_22, dX8_serve_25, dX8_serve_26, dX8_serve_29, dX8_serve_31, dX8_serve_32, dX8_serve_33, dX8_serve_36, dX8_serve_37, dX8_serve_40, dX8_serve_41, dX8_serve_44, dX8_serve_47, dX8_serve_48, dX8_serve_49, dX8_serve_50, dX8_serve_53, dX8_serve_56, dX8_serve_57, dX8_serve_58, dX8_serve_61, dX8_serve_64, dX8_serve_65, dX8_serve_66, dX8_serve_67, dX8_serve_70, fl_X8_157, ft_7_0, fl_X8_131, ft_4_0, fl_X8_103, ft_4_3, jx_b6, tg_17_4, fl_X8_24, ft_9_2, jx_b10, fl_X8_108, ft_4_4, fl_X8_111, ft_4_5, fl_X8_114, ft_4_6, fw_X8_114, fl_X8_117, ft_4_7, fw_X8_117, jx_wq, jx_stq, jx_ite, jx_b0, jx_bn0, jx_u_eq, jx_u_na, jx_u_ni, jx_nb0, jx_nb1, jx_ni, jx_E, eq_self, jx_a0, jx_a1, ne_eq, not_false_eq_true, Nat.reduceLeDiff, Nat.reduceEqDiff, Nat.reduceLT, jx_subl, jx_al, jx_la, jx_nm, jx_ml, nI_add, jx_xn, jx_xl, jx_inn, jx_inl, jx_ltnn, jx_lenn, jx_eqnn, jx_ltnl, jx_lenl, jx_ltln, jx_leln, jx_eqnl, Int32.reduceAdd, Int32.reduceSub, Int32.reduceMul, Int32.reduceLT, Int32.reduceLE, jx_eqll, jx_ltll, Nat.reduceMul, Nat.reduceSub, forall_const, implies_true, false_implies, not_true_eq_false, true_implies, jx_tko, jx_ofn, jx_tka, jx_pro, jx_pra, and_self, Nat.not_lt_zero, jx_nbb, fv_4_6, fv_4_7, kq, kt, f6, f7]
  refine jx_cV2 dX8_serve_67 li_X8_290 (sv_ob2b hS2 tq wq (by omega) (by omega) far hj5 (by simp (disch := omega) only [jx_u_na, f7, hnu]) (by simp (disch := omega) only [jx_u_na, f3]) (by simp (disch := omega) only [jx_u_na, t50, sv5j.1]; exact hg)) (congrArg Prod.fst hS2.1) (Nat.le_of_ble_eq_true rfl) (Nat.le_of_ble_eq_true rfl) ?_
  rintro _ _ ⟨rfl, rfl⟩ - -
  simp only [Option.toList_some, Option.toList_none, List.cons_append, List.nil_append]
  refine jx_gq flok_X8 (fwok_X8 rfl) 99999 3 _ _ _ _ ?_
  simp (disch := omega) only [↓reduceIte, jx_wp, jx_stp, jx_f0, jx_f1, jx_f2, jx_f3, List.getElem?_cons_zero, List.getElem?_cons_succ, List.set_cons_zero, List.set_cons_succ, Nat.reduceAdd, true_and, and_true, if_true, if_false, Bool.false_eq_true, jx_s, Nat.reduceLT, dX8_serve_0, dX8_serve_1, dX8_serve_4, dX8_serve_5, dX8_serve_8, dX8_serve_11, dX8_serve_12, dX8_serve_15, dX8_serve_17, dX8_serve_20, dX8_serve_21, dX8_serve_22, dX8_serve_25, dX8_serve_26, dX8_serve_29, dX8_serve_31, dX8_serve_32, dX8_serve_33, dX8_serve_36, dX8_serve_37, dX8_serve_40, dX8_serve_41, dX8_serve_44, dX8_serve_47, dX8_serve_48, dX8_serve_49, dX8_serve_50, dX8_serve_53, dX8_serve_56, dX8_serve_57, dX8_serve_58, dX8_serve_61, dX8_serve_64, dX8_serve_65, dX8_serve_66, dX8_serve_67, dX8_serve_70, fl_X8_157, ft_7_0, fl_X8_131, ft_4_0, fl_X8_103, ft_4_3, jx_b6, tg_17_4, fl_X8_24, ft_9_2, jx_b10, fl_X8_108, ft_4_4, fl_X8_111, ft_4_5, fl_X8_114, ft_4_6, fw_X8_114, fl_X8_117, ft_4_7, fw_X8_117, jx_wq, jx_stq, jx_ite, jx_b0, jx_bn0, jx_u_eq, jx_u_na, jx_u_ni, jx_nb0, jx_nb1, jx_ni, jx_E, eq_self, jx_a0, jx_a1, ne_eq, not_false_eq_true, Nat.reduceLeDiff, Nat.reduceEqDiff, Nat.reduceLT, jx_subl, jx_al, jx_la, jx_nm, jx_ml, nI_add, jx_xn, jx_xl, jx_inn, jx_inl, jx_ltnn, jx_lenn, jx_eqnn, jx_ltnl, jx_lenl, jx_ltln, jx_leln, jx_eqnl, Int32.reduceAdd, Int32.reduceSub, Int32.reduceMul, Int32.reduceLT, Int32.reduceLE, jx_eqll, jx_ltll, Nat.reduceMul, Nat.reduceSub, forall_const, implies_true, false_implies, not_true_eq_false, true_implies, jx_tko, jx_ofn, jx_tka, jx_pro, jx_pra, and_self, Nat.not_lt_zero, jx_nbb, fv_4_6, fv_4_7]
  refine ⟨rfl, m2, ms2, K2, _, P2, rfl, ?_⟩
  try simp (disch := omega) only [jx_u_na, jx_u_ni]
  have FJ : ∀ a i, 98 ≤ a → a < 140 → ¬ (101 ≤ a ∧ a ≤ 118) → ¬ (a = 98 ∧ (i = 9 ∨ i = 10)) → mo_bd J x' 12 s j a i = J a i := fun a i w1 w3 w4 w5 => by
    unfold mo_bd
    simp (disch := omega) only [jx_u_na]
    rw [mo_ly_F a i w1 w3 (by omega) w5]
    try simp (disch := omega) only [jx_u_na, mo_h_na]
  refine rl_srv (I4 := sv_bd (jx_u (jx_u I2 q 6 (J 98 50)) q 7 (J 98 51)) (22 + 8 * s) q j) (J3 := mo_bd J x' 12 s j) hN hB hT hX hag (by omega) hK2 hz h6 hKK hII hPP hn hm hnn wq1 hs (fun b j w1 w3 => ?_) ?_ ⟨?_, fun k hk => ?_, fun r hr => ?_, fun k hk => ?_⟩ ?_ ?_ (fun a i w1 w3 w4 => ?_) (fun i hi => ?_) (fun a i w1 w3 w4 w5 => ?_) (fun r hr w => ?_)
  · unfold sv_bd
    simp (disch := omega) only [jx_u_na, jx_u_ni, jx_u_eq, sv_ln_na]
  · unfold mgs sv_bd mo_bd mo_ly
    refine ⟨?_, ?_, ?_, ?_, ?_, ?_, ?_, ?_, ?_, ?_, ?_, ?_, fun k hk => ?_⟩
    · simp (disch := omega) only [jx_u_na, jx_u_ni, jx_u_eq, sv_ln_na, mo_h_na, y3, y4, y5, y8, (yz 0 (by omega)).1, (yz 0 (by omega)).2, (yz 1 (by omega)).1, (yz 1 (by omega)).2, (yz 2 (by omega)).1, (yz 2 (by omega)).2]
    · simp (disch := omega) only [jx_u_na, jx_u_ni, jx_u_eq, sv_ln_na, mo_h_na, y3, y4, y5, y8, (yz 0 (by omega)).1, (yz 0 (by omega)).2, (yz 1 (by omega)).1, (yz 1 (by omega)).2, (yz 2 (by omega)).1, (yz 2 (by omega)).2]
    · simp (disch := omega) only [jx_u_na, jx_u_ni, jx_u_eq, sv_ln_na, mo_h_na, y3, y4, y5, y8, (yz 0 (by omega)).1, (yz 0 (by omega)).2, (yz 1 (by omega)).1, (yz 1 (by omega)).2, (yz 2 (by omega)).1, (yz 2 (by omega)).2]
    · simp (disch := omega) only [jx_u_na, jx_u_ni, jx_u_eq, sv_ln_na, mo_h_na, y3, y4, y5, y8, (yz 0 (by omega)).1, (yz 0 (by omega)).2, (yz 1 (by omega)).1, (yz 1 (by omega)).2, (yz 2 (by omega)).1, (yz 2 (by omega)).2]
    · simp (disch := omega) only [jx_u_na, jx_u_ni, jx_u_eq, sv_ln_na, mo_h_na, y3, y4, y5, y8, (yz 0 (by omega)).1, (yz 0 (by omega)).2, (yz 1 (by omega)).1, (yz 1 (by omega)).2, (yz 2 (by omega)).1, (yz 2 (by omega)).2, hnu]
    · simp (disch := omega) only [jx_u_na, jx_u_ni, jx_u_eq, sv_ln_na, mo_h_na, y3, y4, y5, y8, (yz 0 (by omega)).1, (yz 0 (by omega)).2, (yz 1 (by omega)).1, (yz 1 (by omega)).2, (yz 2 (by omega)).1, (yz 2 (by omega)).2, sv5j.1]
    · simp (disch := omega) only [jx_u_na, jx_u_ni, jx_u_eq, sv_ln_na, mo_h_na, y3, y4, y5, y8, (yz 0 (by omega)).1, (yz 0 (by omega)).2, (yz 1 (by omega)).1, (yz 1 (by omega)).2, (yz 2 (by omega)).1, (yz 2 (by omega)).2]
    · simp (disch := omega) only [jx_u_na, jx_u_ni, jx_u_eq, sv_ln_na, mo_h_na, y3, y4, y5, y8, (yz 0 (by omega)).1, (yz 0 (by omega)).2, (yz 1 (by omega)).1, (yz 1 (by omega)).2, (yz 2 (by omega)).1, (yz 2 (by omega)).2]
    · simp (disch := omega) only [jx_u_na, jx_u_ni, jx_u_eq, sv_ln_na, mo_h_na, y3, y4, y5, y8, (yz 0 (by omega)).1, (yz 0 (by omega)).2, (yz 1 (by omega)).1, (yz 1 (by omega)).2, (yz 2 (by omega)).1, (yz 2 (by omega)).2]
    · simp (disch := omega) only [jx_u_na, jx_u_ni, jx_u_eq, sv_ln_na, mo_h_na, y3, y4, y5, y8, (yz 0 (by omega)).1, (yz 0 (by omega)).2, (yz 1 (by omega)).1, (yz 1 (by omega)).2, (yz 2 (by omega)).1, (yz 2 (by omega)).2]
    · simp (disch := omega) only [jx_u_na, jx_u_ni, jx_u_eq, sv_ln_na, mo_h_na, y3, y4, y5, y8, (yz 0 (by omega)).1, (yz 0 (by omega)).2, (yz 1 (by omega)).1, (yz 1 (by omega)).2, (yz 2 (by omega)).1, (yz 2 (by omega)).2]
    · simp (disch := omega) only [jx_u_na, jx_u_ni, jx_u_eq, sv_ln_na, mo_h_na, y3, y4, y5, y8, (yz 0 (by omega)).1, (yz 0 (by omega)).2, (yz 1 (by omega)).1, (yz 1 (by omega)).2, (yz 2 (by omega)).1, (yz 2 (by omega)).2]
    · rcases (show k = 0 ∨ k = 1 ∨ k = 2 ∨ k = 3 ∨ k = 4 ∨ k = 5 by omega) with rfl | rfl | rfl | rfl | rfl | rfl
      all_goals simp (disch := omega) only [jx_u_na, jx_u_ni, jx_u_eq, sv_ln_na, mo_h_na, ym, v1, Nat.add_zero]
  · rw [FJ 100 s (by omega) (by omega) (by omega) (by omega)]
    unfold sv_bd
    simp (disch := omega) only [jx_u_na, jx_u_ni, sv_ln_na]
    rw [hIs _ _ (by omega) (by omega), v0]
  · rw [FJ 99 _ (by omega) (by omega) (by omega) (by omega)]
    unfold sv_bd
    simp (disch := omega) only [jx_u_na, jx_u_ni, sv_ln_na]
    rw [hIs _ _ (by omega) (by omega), v1 k hk]
  · have w9 : ∀ a i, 101 ≤ a → a ≤ 102 → mo_bd J x' 12 s j a i = J a i := fun a i w1 w3 => by
      unfold mo_bd
      simp (disch := omega) only [jx_u_na]
      rw [mo_ly_F a i (by omega) (by omega) (by omega) (by omega)]
      try simp (disch := omega) only [jx_u_na]
    rw [w9 _ _ (by omega) (by omega), w9 _ _ (by omega) (by omega)]
    unfold sv_bd
    simp (disch := omega) only [jx_u_na, jx_u_ni]
    exact sv3 r hr
  · have w9 : ∀ a i, 103 ≤ a → a ≤ 105 → mo_bd J x' 12 s j a i = J a i := fun a i w1 w3 => by
      unfold mo_bd
      simp (disch := omega) only [jx_u_na]
      rw [mo_ly_F a i (by omega) (by omega) (by omega) (by omega)]
      try simp (disch := omega) only [jx_u_na, mo_h_na]
    rw [w9 _ _ (by omega) (by omega), w9 _ _ (by omega) (by omega), w9 _ _ (by omega) (by omega)]
    unfold sv_bd
    simp (disch := omega) only [jx_u_na, jx_u_ni, sv_ln_na]
    exact sv5 k hk
  · unfold mo_bd mo_ly
    simp (disch := omega) only [jx_u_na, jx_u_ni, jx_u_eq]
  · unfold mo_bd mo_ly
    simp (disch := omega) only [jx_u_na, jx_u_ni, jx_u_eq, mo_h_na]
  · unfold mo_bd
    simp (disch := omega) only [jx_u_ni]
    rw [mo_ly_lt w1 w3 w4]
    try simp (disch := omega) only [jx_u_na, mo_h_na]
  · unfold mo_bd
    simp (disch := omega) only [jx_u_na]
    rw [mo_ly_m hi]
    try simp (disch := omega) only [jx_u_na, mo_h_na]
  · exact FJ a i w1 w3 w4 w5
  · have w9 : ∀ a i, (a = 101 ∨ a = 102) ∧ (∃ k, k < 3 ∧ i = 3 * r + k) ∨ (103 ≤ a ∧ a ≤ 105) ∧ (∃ k, k < 5 ∧ i = 5 * r + k) → mo_bd J x' 12 s j a i = J a i := fun a i w1 => by
      have w2 : (a = 101 ∨ a = 102) ∧ (i < 3 * s ∨ 3 * s + 3 ≤ i) ∨ (103 ≤ a ∧ a ≤ 105) ∧ (i < 5 * s ∨ 5 * s + 5 ≤ i) := by
        rcases w1 with ⟨w1, k, w3, w4⟩ | ⟨w1, k, w3, w4⟩
        · left
          refine ⟨w1, ?_⟩
          rcases Nat.lt_or_gt_of_ne w with w5 | w5
          · omega
          · omega
        · right
          refine ⟨w1, ?_⟩
          rcases Nat.lt_or_gt_of_ne w with w5 | w5
          · omega
          · omega
      unfold mo_bd
      simp (disch := omega) only [jx_u_na]
      rw [mo_ly_F a i (by omega) (by omega) (by omega) (by omega)]
      try simp (disch := omega) only [jx_u_no, mo_h_o]
    exact ⟨fun i hi => ⟨w9 _ _ (Or.inl ⟨by omega, i, hi, rfl⟩), w9 _ _ (Or.inl ⟨by omega, i, hi, rfl⟩)⟩, fun k hk => ⟨w9 _ _ (Or.inr ⟨by omega, k, hk, rfl⟩), w9 _ _ (Or.inr ⟨by omega, k, hk, rfl⟩), w9 _ _ (Or.inr ⟨by omega, k, hk, rfl⟩)⟩⟩
