/-- what a step of askMissing needs -/
def am_h (J : Nat → Nat → Int32) (B c o q h : Nat) : Prop := c < 4 ∧ o < B ∧ J 128 c = nI o ∧ J 98 1 = nI q ∧ q ≤ 7 ∧ (J 119 o = 0 ∨ J 119 o = 1 ∨ J 119 o = 2 ∨ J 119 o = 3) ∧ (J 132 c = 1 ∨ J 132 c = 2) ∧ (J 119 o = 3 → J 121 o = J 134 c)
set_option maxHeartbeats 4000000 in
set_option maxRecDepth 100000 in
theorem am_w1 {G : jx_G} {n ms : Nat} {K : Nat → Nat × Nat} {I : Nat → Nat → Int32} {P : Nat → Nat → Option Nat} {J : Nat → Nat → Int32} {B h : Nat} {A : Nat → Nat} {T : Nat → Prop} {X : Nat → Nat → Int32} {Q : Option jx_V → jx_M → Prop} {c o s q : Nat} {y : Int32} (hR : rl n ms K I P J B A h T X) (ha : am_h J B c o q h) (hs : J 119 o = 0 ∨ J 119 o = 1) (hp : J 132 c = 1) (hsq : s < q) (hx : ∀ x, J 98 9 = nI x → x ≤ 16000 → x + h + 1 ≤ 15999) (kk : ∀ n2 ms2 K2 I2 P2 x5, rl n2 ms2 K2 I2 P2 (mo_a1 J c o y s) B A h T X → jx_J G yX8_askMissing cX8_askMissing 6 none 8 (Q) 16 [some (.inr (some 3)), some (.inr (some (78 + 5 * c))), some (.inr (some (A o))), some (.inl y), some (.inl (nI (s + 1))), x5] [] (n2, ms2, K2, I2, P2)) : ∀ x5, jx_J G yX8_askMissing cX8_askMissing 6 none 8 (Q) 16 [some (.inr (some 3)), some (.inr (some (78 + 5 * c))), some (.inr (some (A o))), some (.inl y), some (.inl (nI s)), x5] [] (n, ms, K, I, P) := by
  intro x5
  obtain ⟨hN, ⟨L, x, S, z, e, cc, e2, c2, hB, hT⟩, hX, hag⟩ := id hR
  obtain ⟨hc, ho, hd, hq, hq7, -, -, hm3⟩ := ha
  obtain ⟨n0, n1, n2, n3, n4, n5, n6⟩ := id hN
  obtain ⟨g0, g1, g2, g3, g4, g5, g6, g7, g8, g9, g10⟩ := id n0
  have hC := (g9 c hc).2
  obtain ⟨c0, c1, c2', c3, c4, d1, d2, d3, d4⟩ := id hC
  obtain ⟨hcs, hct⟩ := n4 c hc
  obtain ⟨s0, s1, s2, s3⟩ := id hcs
  have hB60 : B ≤ 60 := n5.1
  obtain ⟨o', ho', hd', hP4, hco⟩ := hct.resolve_left (fun q => by have q2 := hd.symm.trans q.1; rw [jx_m1 (by omega)] at q2; exact q2)
  have eo : o' = o := by
    have := hd.symm.trans hd'
    rw [jx_eqnn (by omega) (by omega)] at this
    exact this.symm
  subst eo
  obtain ⟨lo1, lo2⟩ := n5.2.2.2.2.2.2 o' ho
  obtain ⟨hA1, hA2, hA3, hA4⟩ := n5.2.2.2.2.2.1 o' _ (by omega) lo1
  obtain ⟨q0, q1, q2, q3, q4, q5, q6, q7, q8⟩ := id hco
  have hB' := hB
  obtain ⟨bg, bj, -, -, bb, bn, bm⟩ := hB'
  obtain ⟨bf, bl, bl2, bee, bmi, bms, bdj, b140⟩ := id bg
  have hx9 := hx x bj (by omega)
  have cb1 := bl.2.2.2.2.1
  have cb2 := bl2.2.2.2.2.1
  have hqs : ¬ q ≤ s := by omega
  have n65 : I 3 5 = nI q := n6.trans hq
  have hs1 : I (A o') 1 = 0 ∨ I (A o') 1 = 1 := by rw [lo2.1]; exact hs
  have hp1 : I (78 + 5 * c) 7 = 1 := q0.trans hp
  have e31 : (jx_x (J 98 9)) = x := by rw [bj]; exact jx_xn (by omega)
  have n2' : ¬ J 119 o' = 2 := by rcases hs with h | h <;> rw [h] <;> decide
  refine jx_gq flok_X8 (fwok_X8 rfl) 16 7 _ _ _ _ ?_
  simp (disch := omega) only [↓reduceIte, jx_wp, jx_stp, jx_f0, jx_f1, jx_f2, jx_f3, List.getElem?_cons_zero, List.getElem?_cons_succ, List.set_cons_zero, List.set_cons_succ, Nat.reduceAdd, true_and, and_true, if_true, if_false, Bool.false_eq_true, jx_s, Nat.reduceLT, dX8_askMissing_0, dX8_askMissing_1, dX8_askMissing_2, dX8_askMissing_5, dX8_askMissing_6, dX8_askMissing_9, dX8_askMissing_10, dX8_askMissing_11, dX8_askMissing_12, dX8_askMissing_13, dX8_askMissing_14, dX8_askMissing_16, dX8_askMissing_18, dX8_askMissing_19, dX8_askMissing_22, dX8_askMissing_25, dX8_askMissing_26, dX8_askMissing_28, dX8_askMissing_31, dX8_askMissing_34, dX8_askMissing_35, dX8_askMissing_38, dX8_askMissing_39, dX8_askMissing_40, dX8_askMissing_43, dX8_askMissing_45, dX8_askMissing_46, dX8_askMissing_49, dX8_askMissing_50, dX8_askMissing_53, dX8_askMissing_56, dX8_askMissing_58, dX8_askMissing_59, dX8_askMissing_60, dX8_askMissing_62, dX8_askMissing_65, dX8_askMissing_68, dX8_askMissing_71, dX8_askMissing_72, dX8_askMissing_73, dX8_askMissing_76, dX8_askMissing_77, dX8_askMissing_78, dX8_askMissing_81, fl_X8_183, ft_2_8, jx_km1, jx_k0, fl_X8_65, ft_9_5, tg_22_49, tg_31_34, fl_X8_24, ft_9_2, fl_X8_259, ft_2_0, fl_X8_69, ft_2_1, jx_k1, tg_68_m52, fw_X8_183, jx_wq, jx_stq, jx_ite, jx_b0, jx_bn0, jx_u_eq, jx_u_na, jx_u_ni, jx_nb0, jx_nb1, jx_ni, jx_E, eq_self, jx_a0, jx_a1, ne_eq, not_false_eq_true, Nat.reduceLeDiff, Nat.reduceEqDiff, Nat.reduceLT, jx_subl, jx_al, jx_la, jx_nm, jx_ml, nI_add, jx_xn, jx_xl, jx_inn, jx_inl, jx_ltnn, jx_lenn, jx_eqnn, jx_ltnl, jx_lenl, jx_ltln, jx_leln, jx_eqnl, Int32.reduceAdd, Int32.reduceSub, Int32.reduceMul, Int32.reduceLT, Int32.reduceLE, jx_eqll, jx_ltll, Nat.reduceMul, Nat.reduceSub, forall_const, implies_true, false_implies, not_true_eq_false, true_implies, jx_tko, jx_ofn, jx_tka, jx_pro, jx_pra, and_self, Nat.not_lt_zero, jx_nbb, fv_2_8, g0, g5, n65, hqs]
  refine jx_cS2 dX8_askMissing_28 li_X8_334 (cl_isIn) (Nat.le_of_ble_eq_true rfl) (Nat.le_of_ble_eq_true rfl) ?_
  rintro _ _ ⟨rfl, rfl⟩ - -
  simp only [Option.toList_some, Option.toList_none, List.cons_append, List.nil_append]
  by_cases hbit : y >>> (nI s &&& 31) &&& 1 = 0
  · refine jx_gq flok_X8 (fwok_X8 rfl) 16 4 _ _ _ _ ?_
    simp (disch := omega) only [↓reduceIte, jx_wp, jx_stp, jx_f0, jx_f1, jx_f2, jx_f3, List.getElem?_cons_zero, List.getElem?_cons_succ, List.set_cons_zero, List.set_cons_succ, Nat.reduceAdd, true_and, and_true, if_true, if_false, Bool.false_eq_true, jx_s, Nat.reduceLT, dX8_askMissing_0, dX8_askMissing_1, dX8_askMissing_2, dX8_askMissing_5, dX8_askMissing_6, dX8_askMissing_9, dX8_askMissing_10, dX8_askMissing_11, dX8_askMissing_12, dX8_askMissing_13, dX8_askMissing_14, dX8_askMissing_16, dX8_askMissing_18, dX8_askMissing_19, dX8_askMissing_22, dX8_askMissing_25, dX8_askMissing_26, dX8_askMissing_28, dX8_askMissing_31, dX8_askMissing_34, dX8_askMissing_35, dX8_askMissing_38, dX8_askMissing_39, dX8_askMissing_40, dX8_askMissing_43, dX8_askMissing_45, dX8_askMissing_46, dX8_askMissing_49, dX8_askMissing_50, dX8_askMissing_53, dX8_askMissing_56, dX8_askMissing_58, dX8_askMissing_59, dX8_askMissing_60, dX8_askMissing_62, dX8_askMissing_65, dX8_askMissing_68, dX8_askMissing_71, dX8_askMissing_72, dX8_askMissing_73, dX8_askMissing_76, dX8_askMissing_77, dX8_askMissing_78, dX8_askMissing_81, fl_X8_183, ft_2_8, jx_km1, jx_k0, fl_X8_65, ft_9_5, tg_22_49, tg_31_34, fl_X8_24, ft_9_2, fl_X8_259, ft_2_0, fl_X8_69, ft_2_1, jx_k1, tg_68_m52, fw_X8_183, jx_wq, jx_stq, jx_ite, jx_b0, jx_bn0, jx_u_eq, jx_u_na, jx_u_ni, jx_nb0, jx_nb1, jx_ni, jx_E, eq_self, jx_a0, jx_a1, ne_eq, not_false_eq_true, Nat.reduceLeDiff, Nat.reduceEqDiff, Nat.reduceLT, jx_subl, jx_al, jx_la, jx_nm, jx_ml, nI_add, jx_xn, jx_xl, jx_inn, jx_inl, jx_ltnn, jx_lenn, jx_eqnn, jx_ltnl, jx_lenl, jx_ltln, jx_leln, jx_eqnl, Int32.reduceAdd, Int32.reduceSub, Int32.reduceMul, Int32.reduceLT, Int32.reduceLE, jx_eqll, jx_ltll, Nat.reduceMul, Nat.reduceSub, forall_const, implies_true, false_implies, not_true_eq_false, true_implies, jx_tko, jx_ofn, jx_tka, jx_pro, jx_pra, and_self, Nat.not_lt_zero, jx_nbb, fv_2_8, hbit]
    refine kk n ms K I P _ ?_
    unfold mo_a1
    rw [if_pos hbit]
    exact hR
  · refine jx_gq flok_X8 (fwok_X8 rfl) 16 5 _ _ _ _ ?_
    simp (disch := omega) only [↓reduceIte, jx_wp, jx_stp, jx_f0, jx_f1, jx_f2, jx_f3, List.getElem?_cons_zero, List.getElem?_cons_succ, List.set_cons_zero, List.set_cons_succ, Nat.reduceAdd, true_and, and_true, if_true, if_false, Bool.false_eq_true, jx_s, Nat.reduceLT, dX8_askMissing_0, dX8_askMissing_1, dX8_askMissing_2, dX8_askMissing_5, dX8_askMissing_6, dX8_askMissing_9, dX8_askMissing_10, dX8_askMissing_11, dX8_askMissing_12, dX8_askMissing_13, dX8_askMissing_14, dX8_askMissing_16, dX8_askMissing_18, dX8_askMissing_19, dX8_askMissing_22, dX8_askMissing_25, dX8_askMissing_26, dX8_askMissing_28, dX8_askMissing_31, dX8_askMissing_34, dX8_askMissing_35, dX8_askMissing_38, dX8_askMissing_39, dX8_askMissing_40, dX8_askMissing_43, dX8_askMissing_45, dX8_askMissing_46, dX8_askMissing_49, dX8_askMissing_50, dX8_askMissing_53, dX8_askMissing_56, dX8_askMissing_58, dX8_askMissing_59, dX8_askMissing_60, dX8_askMissing_62, dX8_askMissing_65, dX8_askMissing_68, dX8_askMissing_71, dX8_askMissing_72, dX8_askMissing_73, dX8_askMissing_76, dX8_askMissing_77, dX8_askMissing_78, dX8_askMissing_81, fl_X8_183, ft_2_8, jx_km1, jx_k0, fl_X8_65, ft_9_5, tg_22_49, tg_31_34, fl_X8_24, ft_9_2, fl_X8_259, ft_2_0, fl_X8_69, ft_2_1, jx_k1, tg_68_m52, fw_X8_183, jx_wq, jx_stq, jx_ite, jx_b0, jx_bn0, jx_u_eq, jx_u_na, jx_u_ni, jx_nb0, jx_nb1, jx_ni, jx_E, eq_self, jx_a0, jx_a1, ne_eq, not_false_eq_true, Nat.reduceLeDiff, Nat.reduceEqDiff, Nat.reduceLT, jx_subl, jx_al, jx_la, jx_nm, jx_ml, nI_add, jx_xn, jx_xl, jx_inn, jx_inl, jx_ltnn, jx_lenn, jx_eqnn, jx_ltnl, jx_lenl, jx_ltln, jx_leln, jx_eqnl, Int32.reduceAdd, Int32.reduceSub, Int32.reduceMul, Int32.reduceLT, Int32.reduceLE, jx_eqll, jx_ltll, Nat.reduceMul, Nat.reduceSub, forall_const, implies_true, false_implies, not_true_eq_false, true_implies, jx_tko, jx_ofn, jx_tka, jx_pro, jx_pra, and_self, Nat.not_lt_zero, jx_nbb, fv_2_8, hbit, g0, g5]
    refine jx_cV1 dX8_askMissing_40 li_X8_337 (cn_qk0 hC hA1 hs1) (congrArg Prod.fst c0) (Nat.le_of_ble_eq_true rfl) (Nat.le_of_ble_eq_true rfl) ?_
    rintro _ _ ⟨rfl, rfl⟩ - -
    simp only [Option.toList_some, Option.toList_none, List.cons_append, List.nil_append]
    rw [show (if I (78 + 5 * c) 7 = 1 then (0 : Int32) else 1) = 0 from by rw [hp1]; rfl]
    refine jx_gq flok_X8 (fwok_X8 rfl) 16 6 _ _ _ _ ?_
    simp (disch := omega) only [↓reduceIte, jx_wp, jx_stp, jx_f0, jx_f1, jx_f2, jx_f3, List.getElem?_cons_zero, List.getElem?_cons_succ, List.set_cons_zero, List.set_cons_succ, Nat.reduceAdd, true_and, and_true, if_true, if_false, Bool.false_eq_true, jx_s, Nat.reduceLT, dX8_askMissing_0, dX8_askMissing_1, dX8_askMissing_2, dX8_askMissing_5, dX8_askMissing_6, dX8_askMissing_9, dX8_askMissing_10, dX8_askMissing_11, dX8_askMissing_12, dX8_askMissing_13, dX8_askMissing_14, dX8_askMissing_16, dX8_askMissing_18, dX8_askMissing_19, dX8_askMissing_22, dX8_askMissing_25, dX8_askMissing_26, dX8_askMissing_28, dX8_askMissing_31, dX8_askMissing_34, dX8_askMissing_35, dX8_askMissing_38, dX8_askMissing_39, dX8_askMissing_40, dX8_askMissing_43, dX8_askMissing_45, dX8_askMissing_46, dX8_askMissing_49, dX8_askMissing_50, dX8_askMissing_53, dX8_askMissing_56, dX8_askMissing_58, dX8_askMissing_59, dX8_askMissing_60, dX8_askMissing_62, dX8_askMissing_65, dX8_askMissing_68, dX8_askMissing_71, dX8_askMissing_72, dX8_askMissing_73, dX8_askMissing_76, dX8_askMissing_77, dX8_askMissing_78, dX8_askMissing_81, fl_X8_183, ft_2_8, jx_km1, jx_k0, fl_X8_65, ft_9_5, tg_22_49, tg_31_34, fl_X8_24, ft_9_2, fl_X8_259, ft_2_0, fl_X8_69, ft_2_1, jx_k1, tg_68_m52, fw_X8_183, jx_wq, jx_stq, jx_ite, jx_b0, jx_bn0, jx_u_eq, jx_u_na, jx_u_ni, jx_nb0, jx_nb1, jx_ni, jx_E, eq_self, jx_a0, jx_a1, ne_eq, not_false_eq_true, Nat.reduceLeDiff, Nat.reduceEqDiff, Nat.reduceLT, jx_subl, jx_al, jx_la, jx_nm, jx_ml, nI_add, jx_xn, jx_xl, jx_inn, jx_inl, jx_ltnn, jx_lenn, jx_eqnn, jx_ltnl, jx_lenl, jx_ltln, jx_leln, jx_eqnl, Int32.reduceAdd, Int32.reduceSub, Int32.reduceMul, Int32.reduceLT, Int32.reduceLE, jx_eqll, jx_ltll, Nat.reduceMul, Nat.reduceSub, forall_const, implies_true, false_implies, not_true_eq_false, true_implies, jx_tko, jx_ofn, jx_tka, jx_pro, jx_pra, and_self, Nat.not_lt_zero, jx_nbb, fv_2_8, c0, d1, s0]
    refine jx_cV4 dX8_askMissing_53 li_X8_286 (bg_post c1 d4 c2' (by omega) (by omega) (by omega) bg (by omega) (by omega) (by omega)) (congrArg Prod.fst bf.1) (Nat.le_of_ble_eq_true rfl) (Nat.le_of_ble_eq_true rfl) ?_
    rintro _ _ ⟨p, z2, m2, ms2, K2, I2, P2, e3, c3', rfl, rfl, hK2, hz, hcon, h6, hKK, hII, hPP, -, hn, hm⟩ hnn -
    simp only [Option.toList_some, Option.toList_none, List.cons_append, List.nil_append]
    have hnn : n ≤ m2 := hnn
    have hk2 := hK2
    obtain ⟨-, w1, -, -, w2, -, -, w140⟩ := hk2
    obtain ⟨wp, wp1, wp2⟩ := w2 x (by omega)
    rw [ls_up_eq] at wp wp1 wp2
    have hC2 : ob_C K2 P2 (78 + 5 * c) := ob_C_to hC (fun a h1 h2 => hKK a (by omega)) (fun a j h1 h2 h3 => hPP a j (by omega) (by omega) (by omega) (by have := bl.2.2.2.2.2.2.2; omega) (by have := bl2.2.2.2.2.2.2.2; omega))
    have hA5 : K2 (A o') = (5, 9) := by rw [hKK _ hA3, hA1]
    have hAp : A o' < p ∨ p + 5 ≤ A o' := by
      obtain ⟨k0, k1, k2, k3, k4, -⟩ := wp
      have r0 : A o' ≠ p := fun h => by rw [h, k0] at hA5; simp at hA5
      have r1 : A o' ≠ p + 1 := fun h => by rw [h, k1] at hA5; simp at hA5
      have r2 : A o' ≠ p + 2 := fun h => by rw [h, k2] at hA5; simp at hA5
      have r3 : A o' ≠ p + 3 := fun h => by rw [h, k3] at hA5; simp at hA5
      have r4 : A o' ≠ p + 4 := fun h => by rw [h, k4] at hA5; simp at hA5
      omega
    have hIc : ∀ b j, 78 ≤ b → b < 98 → I2 b j = I b j := fun b j h1 h2 => hII b j (by omega) (by omega) (by omega) (by omega) (by omega)
    have hIa : ∀ j, I2 (A o') j = I (A o') j := fun j => hII _ j hA3 (by omega) (by omega) (by omega) hAp
    obtain ⟨t3, t4, t5, t6, t7, t8, tz, tm⟩ := hcon
    have c02 := hC2.1
    refine jx_gq flok_X8 (fwok_X8 rfl) 16 4 _ _ _ _ ?_
    simp (disch := omega) only [↓reduceIte, jx_wp, jx_stp, jx_f0, jx_f1, jx_f2, jx_f3, List.getElem?_cons_zero, List.getElem?_cons_succ, List.set_cons_zero, List.set_cons_succ, Nat.reduceAdd, true_and, and_true, if_true, if_false, Bool.false_eq_true, jx_s, Nat.reduceLT, dX8_askMissing_0, dX8_askMissing_1, dX8_askMissing_2, dX8_askMissing_5, dX8_askMissing_6, dX8_askMissing_9, dX8_askMissing_10, dX8_askMissing_11, dX8_askMissing_12, dX8_askMissing_13, dX8_askMissing_14, dX8_askMissing_16, dX8_askMissing_18, dX8_askMissing_19, dX8_askMissing_22, dX8_askMissing_25, dX8_askMissing_26, dX8_askMissing_28, dX8_askMissing_31, dX8_askMissing_34, dX8_askMissing_35, dX8_askMissing_38, dX8_askMissing_39, dX8_askMissing_40, dX8_askMissing_43, dX8_askMissing_45, dX8_askMissing_46, dX8_askMissing_49, dX8_askMissing_50, dX8_askMissing_53, dX8_askMissing_56, dX8_askMissing_58, dX8_askMissing_59, dX8_askMissing_60, dX8_askMissing_62, dX8_askMissing_65, dX8_askMissing_68, dX8_askMissing_71, dX8_askMissing_72, dX8_askMissing_73, dX8_askMissing_76, dX8_askMissing_77, dX8_askMissing_78, dX8_askMissing_81, fl_X8_183, ft_2_8, jx_km1, jx_k0, fl_X8_65, ft_9_5, tg_22_49, tg_31_34, fl_X8_24, ft_9_2, fl_X8_259, ft_2_0, fl_X8_69, ft_2_1, jx_k1, tg_68_m52, fw_X8_183, jx_wq, jx_stq, jx_ite, jx_b0, jx_bn0, jx_u_eq, jx_u_na, jx_u_ni, jx_nb0, jx_nb1, jx_ni, jx_E, eq_self, jx_a0, jx_a1, ne_eq, not_false_eq_true, Nat.reduceLeDiff, Nat.reduceEqDiff, Nat.reduceLT, jx_subl, jx_al, jx_la, jx_nm, jx_ml, nI_add, jx_xn, jx_xl, jx_inn, jx_inl, jx_ltnn, jx_lenn, jx_eqnn, jx_ltnl, jx_lenl, jx_ltln, jx_leln, jx_eqnl, Int32.reduceAdd, Int32.reduceSub, Int32.reduceMul, Int32.reduceLT, Int32.reduceLE, jx_eqll, jx_ltll, Nat.reduceMul, Nat.reduceSub, forall_const, implies_true, false_implies, not_true_eq_false, true_implies, jx_tko, jx_ofn, jx_tka, jx_pro, jx_pra, and_self, Nat.not_lt_zero, jx_nbb, fv_2_8]
    refine jx_cV2 dX8_askMissing_62 li_X8_340 (cn_fq0 hC2 hA5 wp (by omega) (by omega) (by rw [hIa]; exact hs1) t3) (congrArg Prod.fst c02) (Nat.le_of_ble_eq_true rfl) (Nat.le_of_ble_eq_true rfl) ?_
    rintro _ _ ⟨rfl, rfl⟩ - -
    simp only [Option.toList_some, Option.toList_none, List.cons_append, List.nil_append]
    refine jx_gq flok_X8 (fwok_X8 rfl) 16 3 _ _ _ _ ?_
    simp (disch := omega) only [↓reduceIte, jx_wp, jx_stp, jx_f0, jx_f1, jx_f2, jx_f3, List.getElem?_cons_zero, List.getElem?_cons_succ, List.set_cons_zero, List.set_cons_succ, Nat.reduceAdd, true_and, and_true, if_true, if_false, Bool.false_eq_true, jx_s, Nat.reduceLT, dX8_askMissing_0, dX8_askMissing_1, dX8_askMissing_2, dX8_askMissing_5, dX8_askMissing_6, dX8_askMissing_9, dX8_askMissing_10, dX8_askMissing_11, dX8_askMissing_12, dX8_askMissing_13, dX8_askMissing_14, dX8_askMissing_16, dX8_askMissing_18, dX8_askMissing_19, dX8_askMissing_22, dX8_askMissing_25, dX8_askMissing_26, dX8_askMissing_28, dX8_askMissing_31, dX8_askMissing_34, dX8_askMissing_35, dX8_askMissing_38, dX8_askMissing_39, dX8_askMissing_40, dX8_askMissing_43, dX8_askMissing_45, dX8_askMissing_46, dX8_askMissing_49, dX8_askMissing_50, dX8_askMissing_53, dX8_askMissing_56, dX8_askMissing_58, dX8_askMissing_59, dX8_askMissing_60, dX8_askMissing_62, dX8_askMissing_65, dX8_askMissing_68, dX8_askMissing_71, dX8_askMissing_72, dX8_askMissing_73, dX8_askMissing_76, dX8_askMissing_77, dX8_askMissing_78, dX8_askMissing_81, fl_X8_183, ft_2_8, jx_km1, jx_k0, fl_X8_65, ft_9_5, tg_22_49, tg_31_34, fl_X8_24, ft_9_2, fl_X8_259, ft_2_0, fl_X8_69, ft_2_1, jx_k1, tg_68_m52, fw_X8_183, jx_wq, jx_stq, jx_ite, jx_b0, jx_bn0, jx_u_eq, jx_u_na, jx_u_ni, jx_nb0, jx_nb1, jx_ni, jx_E, eq_self, jx_a0, jx_a1, ne_eq, not_false_eq_true, Nat.reduceLeDiff, Nat.reduceEqDiff, Nat.reduceLT, jx_subl, jx_al, jx_la, jx_nm, jx_ml, nI_add, jx_xn, jx_xl, jx_inn, jx_inl, jx_ltnn, jx_lenn, jx_eqnn, jx_ltnl, jx_lenl, jx_ltln, jx_leln, jx_eqnl, Int32.reduceAdd, Int32.reduceSub, Int32.reduceMul, Int32.reduceLT, Int32.reduceLE, jx_eqll, jx_ltll, Nat.reduceMul, Nat.reduceSub, forall_const, implies_true, false_implies, not_true_eq_false, true_implies, jx_tko, jx_ofn, jx_tka, jx_pro, jx_pra, and_self, Nat.not_lt_zero, jx_nbb, fv_2_8]
    refine kk _ _ _ _ _ _ ?_
    have hsb : I2 (A o') 3 = J 121 o' := by rw [hIa, lo2.2.2.1]
    have hj : mo_a1 J c o' y s = mo_fi J (mo_ly J x 0 (nI s) (nI c) (J 129 c) (J 121 o') (7 + c)) c o' x := by
      unfold mo_a1
      rw [if_neg hbit, e31]
      congr 2
      · unfold mo_kd
        simp [hs, hp]
      · unfold mo_sb
        simp [hs]
    rw [hj]
    obtain ⟨u1, u2, u3, u4, u5⟩ := @mo_fi_fr J x s c (7 + c) o' 0 (J 129 c) (J 121 o')
    have M0 : mgs (cn_f0 I2 (78 + 5 * c) p (I2 (A o') 3)) p (mo_ly J x 0 (nI s) (nI c) (J 129 c) (J 121 o') (7 + c)) x := by
      refine mgs_ly ?_ ?_ ?_ ?_ ?_ ?_ (fun j hj => ?_) (fun j hj => ?_)
      · unfold cn_f0
        simp (disch := omega) only [jx_u_ni, t3]
      · unfold cn_f0
        simp (disch := omega) only [jx_u_ni, t4]
      · unfold cn_f0
        simp (disch := omega) only [jx_u_ni, t5]
      · unfold cn_f0
        simp (disch := omega) only [jx_u_ni, jx_u_eq]
        rw [hIc _ _ (by omega) (by omega), s2]
      · unfold cn_f0
        simp (disch := omega) only [jx_u_eq, hsb]
      · unfold cn_f0
        simp (disch := omega) only [jx_u_ni, t8]
      · unfold cn_f0
        simp (disch := omega) only [jx_u_na]
        exact tz j hj
      · unfold cn_f0
        simp (disch := omega) only [jx_u_na]
        rw [tm j hj, s3 j hj]
    refine rl_put hN hB hT hX hag (by omega) hK2 hz h6 hKK hII hPP hn hm (fun b j hb => ?_) ?_ u1 u2 u3 u4 u5 (by omega)
    · rw [cn_f0_na hb]
    · unfold mo_fi
      simp only [hs, hp, show ¬ ((1 : Int32) = 2) from by decide, if_true, if_false]
      exact M0
set_option maxHeartbeats 4000000 in
set_option maxRecDepth 100000 in
theorem am_w2 {G : jx_G} {n ms : Nat} {K : Nat → Nat × Nat} {I : Nat → Nat → Int32} {P : Nat → Nat → Option Nat} {J : Nat → Nat → Int32} {B h : Nat} {A : Nat → Nat} {T : Nat → Prop} {X : Nat → Nat → Int32} {Q : Option jx_V → jx_M → Prop} {c o s q : Nat} {y : Int32} (hR : rl n ms K I P J B A h T X) (ha : am_h J B c o q h) (hs : J 119 o = 0 ∨ J 119 o = 1) (hp : J 132 c = 2) (hsq : s < q) (hx : ∀ x, J 98 9 = nI x → x ≤ 16000 → x + h + 1 ≤ 15999) (kk : ∀ n2 ms2 K2 I2 P2 x5, rl n2 ms2 K2 I2 P2 (mo_a1 J c o y s) B A h T X → jx_J G yX8_askMissing cX8_askMissing 6 none 8 (Q) 16 [some (.inr (some 3)), some (.inr (some (78 + 5 * c))), some (.inr (some (A o))), some (.inl y), some (.inl (nI (s + 1))), x5] [] (n2, ms2, K2, I2, P2)) : ∀ x5, jx_J G yX8_askMissing cX8_askMissing 6 none 8 (Q) 16 [some (.inr (some 3)), some (.inr (some (78 + 5 * c))), some (.inr (some (A o))), some (.inl y), some (.inl (nI s)), x5] [] (n, ms, K, I, P) := by
  intro x5
  obtain ⟨hN, ⟨L, x, S, z, e, cc, e2, c2, hB, hT⟩, hX, hag⟩ := id hR
  obtain ⟨hc, ho, hd, hq, hq7, -, -, hm3⟩ := ha
  obtain ⟨n0, n1, n2, n3, n4, n5, n6⟩ := id hN
  obtain ⟨g0, g1, g2, g3, g4, g5, g6, g7, g8, g9, g10⟩ := id n0
  have hC := (g9 c hc).2
  obtain ⟨c0, c1, c2', c3, c4, d1, d2, d3, d4⟩ := id hC
  obtain ⟨hcs, hct⟩ := n4 c hc
  obtain ⟨s0, s1, s2, s3⟩ := id hcs
  have hB60 : B ≤ 60 := n5.1
  obtain ⟨o', ho', hd', hP4, hco⟩ := hct.resolve_left (fun q => by have q2 := hd.symm.trans q.1; rw [jx_m1 (by omega)] at q2; exact q2)
  have eo : o' = o := by
    have := hd.symm.trans hd'
    rw [jx_eqnn (by omega) (by omega)] at this
    exact this.symm
  subst eo
  obtain ⟨lo1, lo2⟩ := n5.2.2.2.2.2.2 o' ho
  obtain ⟨hA1, hA2, hA3, hA4⟩ := n5.2.2.2.2.2.1 o' _ (by omega) lo1
  obtain ⟨q0, q1, q2, q3, q4, q5, q6, q7, q8⟩ := id hco
  have hB' := hB
  obtain ⟨bg, bj, -, -, bb, bn, bm⟩ := hB'
  obtain ⟨bf, bl, bl2, bee, bmi, bms, bdj, b140⟩ := id bg
  have hx9 := hx x bj (by omega)
  have cb1 := bl.2.2.2.2.1
  have cb2 := bl2.2.2.2.2.1
  have hqs : ¬ q ≤ s := by omega
  have n65 : I 3 5 = nI q := n6.trans hq
  have hs1 : I (A o') 1 = 0 ∨ I (A o') 1 = 1 := by rw [lo2.1]; exact hs
  have hp1 : I (78 + 5 * c) 7 = 2 := q0.trans hp
  have e31 : (jx_x (J 98 9)) = x := by rw [bj]; exact jx_xn (by omega)
  have n2' : ¬ J 119 o' = 2 := by rcases hs with h | h <;> rw [h] <;> decide
  refine jx_gq flok_X8 (fwok_X8 rfl) 16 7 _ _ _ _ ?_
  simp (disch := omega) only [↓reduceIte, jx_wp, jx_stp, jx_f0, jx_f1, jx_f2, jx_f3, List.getElem?_cons_zero, List.getElem?_cons_succ, List.set_cons_zero, List.set_cons_succ, Nat.reduceAdd, true_and, and_true, if_true, if_false, Bool.false_eq_true, jx_s, Nat.reduceLT, dX8_askMissing_0, dX8_askMissing_1, dX8_askMissing_2, dX8_askMissing_5, dX8_askMissing_6, dX8_askMissing_9, dX8_askMissing_10, dX8_askMissing_11, dX8_askMissing_12, dX8_askMissing_13, dX8_askMissing_14, dX8_askMissing_16, dX8_askMissing_18, dX8_askMissing_19, dX8_askMissing_22, dX8_askMissing_25, dX8_askMissing_26, dX8_askMissing_28, dX8_askMissing_31, dX8_askMissing_34, dX8_askMissing_35, dX8_askMissing_38, dX8_askMissing_39, dX8_askMissing_40, dX8_askMissing_43, dX8_askMissing_45, dX8_askMissing_46, dX8_askMissing_49, dX8_askMissing_50, dX8_askMissing_53, dX8_askMissing_56, dX8_askMissing_58, dX8_askMissing_59, dX8_askMissing_60, dX8_askMissing_62, dX8_askMissing_65, dX8_askMissing_68, dX8_askMissing_71, dX8_askMissing_72, dX8_askMissing_73, dX8_askMissing_76, dX8_askMissing_77, dX8_askMissing_78, dX8_askMissing_81, fl_X8_183, ft_2_8, jx_km1, jx_k0, fl_X8_65, ft_9_5, tg_22_49, tg_31_34, fl_X8_24, ft_9_2, fl_X8_259, ft_2_0, fl_X8_69, ft_2_1, jx_k1, tg_68_m52, fw_X8_183, jx_wq, jx_stq, jx_ite, jx_b0, jx_bn0, jx_u_eq, jx_u_na, jx_u_ni, jx_nb0, jx_nb1, jx_ni, jx_E, eq_self, jx_a0, jx_a1, ne_eq, not_false_eq_true, Nat.reduceLeDiff, Nat.reduceEqDiff, Nat.reduceLT, jx_subl, jx_al, jx_la, jx_nm, jx_ml, nI_add, jx_xn, jx_xl, jx_inn, jx_inl, jx_ltnn, jx_lenn, jx_eqnn, jx_ltnl, jx_lenl, jx_ltln, jx_leln, jx_eqnl, Int32.reduceAdd, Int32.reduceSub, Int32.reduceMul, Int32.reduceLT, Int32.reduceLE, jx_eqll, jx_ltll, Nat.reduceMul, Nat.reduceSub, forall_const, implies_true, false_implies, not_true_eq_false, true_implies, jx_tko, jx_ofn, jx_tka, jx_pro, jx_pra, and_self, Nat.not_lt_zero, jx_nbb, fv_2_8, g0, g5, n65, hqs]
  refine jx_cS2 dX8_askMissing_28 li_X8_334 (cl_isIn) (Nat.le_of_ble_eq_true rfl) (Nat.le_of_ble_eq_true rfl) ?_
  rintro _ _ ⟨rfl, rfl⟩ - -
  simp only [Option.toList_some, Option.toList_none, List.cons_append, List.nil_append]
  by_cases hbit : y >>> (nI s &&& 31) &&& 1 = 0
  · refine jx_gq flok_X8 (fwok_X8 rfl) 16 4 _ _ _ _ ?_
    simp (disch := omega) only [↓reduceIte, jx_wp, jx_stp, jx_f0, jx_f1, jx_f2, jx_f3, List.getElem?_cons_zero, List.getElem?_cons_succ, List.set_cons_zero, List.set_cons_succ, Nat.reduceAdd, true_and, and_true, if_true, if_false, Bool.false_eq_true, jx_s, Nat.reduceLT, dX8_askMissing_0, dX8_askMissing_1, dX8_askMissing_2, dX8_askMissing_5, dX8_askMissing_6, dX8_askMissing_9, dX8_askMissing_10, dX8_askMissing_11, dX8_askMissing_12, dX8_askMissing_13, dX8_askMissing_14, dX8_askMissing_16, dX8_askMissing_18, dX8_askMissing_19, dX8_askMissing_22, dX8_askMissing_25, dX8_askMissing_26, dX8_askMissing_28, dX8_askMissing_31, dX8_askMissing_34, dX8_askMissing_35, dX8_askMissing_38, dX8_askMissing_39, dX8_askMissing_40, dX8_askMissing_43, dX8_askMissing_45, dX8_askMissing_46, dX8_askMissing_49, dX8_askMissing_50, dX8_askMissing_53, dX8_askMissing_56, dX8_askMissing_58, dX8_askMissing_59, dX8_askMissing_60, dX8_askMissing_62, dX8_askMissing_65, dX8_askMissing_68, dX8_askMissing_71, dX8_askMissing_72, dX8_askMissing_73, dX8_askMissing_76, dX8_askMissing_77, dX8_askMissing_78, dX8_askMissing_81, fl_X8_183, ft_2_8, jx_km1, jx_k0, fl_X8_65, ft_9_5, tg_22_49, tg_31_34, fl_X8_24, ft_9_2, fl_X8_259, ft_2_0, fl_X8_69, ft_2_1, jx_k1, tg_68_m52, fw_X8_183, jx_wq, jx_stq, jx_ite, jx_b0, jx_bn0, jx_u_eq, jx_u_na, jx_u_ni, jx_nb0, jx_nb1, jx_ni, jx_E, eq_self, jx_a0, jx_a1, ne_eq, not_false_eq_true, Nat.reduceLeDiff, Nat.reduceEqDiff, Nat.reduceLT, jx_subl, jx_al, jx_la, jx_nm, jx_ml, nI_add, jx_xn, jx_xl, jx_inn, jx_inl, jx_ltnn, jx_lenn, jx_eqnn, jx_ltnl, jx_lenl, jx_ltln, jx_leln, jx_eqnl, Int32.reduceAdd, Int32.reduceSub, Int32.reduceMul, Int32.reduceLT, Int32.reduceLE, jx_eqll, jx_ltll, Nat.reduceMul, Nat.reduceSub, forall_const, implies_true, false_implies, not_true_eq_false, true_implies, jx_tko, jx_ofn, jx_tka, jx_pro, jx_pra, and_self, Nat.not_lt_zero, jx_nbb, fv_2_8, hbit]
    refine kk n ms K I P _ ?_
    unfold mo_a1
    rw [if_pos hbit]
    exact hR
  · refine jx_gq flok_X8 (fwok_X8 rfl) 16 5 _ _ _ _ ?_
    simp (disch := omega) only [↓reduceIte, jx_wp, jx_stp, jx_f0, jx_f1, jx_f2, jx_f3, List.getElem?_cons_zero, List.getElem?_cons_succ, List.set_cons_zero, List.set_cons_succ, Nat.reduceAdd, true_and, and_true, if_true, if_false, Bool.false_eq_true, jx_s, Nat.reduceLT, dX8_askMissing_0, dX8_askMissing_1, dX8_askMissing_2, dX8_askMissing_5, dX8_askMissing_6, dX8_askMissing_9, dX8_askMissing_10, dX8_askMissing_11, dX8_askMissing_12, dX8_askMissing_13, dX8_askMissing_14, dX8_askMissing_16, dX8_askMissing_18, dX8_askMissing_19, dX8_askMissing_22, dX8_askMissing_25, dX8_askMissing_26, dX8_askMissing_28, dX8_askMissing_31, dX8_askMissing_34, dX8_askMissing_35, dX8_askMissing_38, dX8_askMissing_39, dX8_askMissing_40, dX8_askMissing_43, dX8_askMissing_45, dX8_askMissing_46, dX8_askMissing_49, dX8_askMissing_50, dX8_askMissing_53, dX8_askMissing_56, dX8_askMissing_58, dX8_askMissing_59, dX8_askMissing_60, dX8_askMissing_62, dX8_askMissing_65, dX8_askMissing_68, dX8_askMissing_71, dX8_askMissing_72, dX8_askMissing_73, dX8_askMissing_76, dX8_askMissing_77, dX8_askMissing_78, dX8_askMissing_81, fl_X8_183, ft_2_8, jx_km1, jx_k0, fl_X8_65, ft_9_5, tg_22_49, tg_31_34, fl_X8_24, ft_9_2, fl_X8_259, ft_2_0, fl_X8_69, ft_2_1, jx_k1, tg_68_m52, fw_X8_183, jx_wq, jx_stq, jx_ite, jx_b0, jx_bn0, jx_u_eq, jx_u_na, jx_u_ni, jx_nb0, jx_nb1, jx_ni, jx_E, eq_self, jx_a0, jx_a1, ne_eq, not_false_eq_true, Nat.reduceLeDiff, Nat.reduceEqDiff, Nat.reduceLT, jx_subl, jx_al, jx_la, jx_nm, jx_ml, nI_add, jx_xn, jx_xl, jx_inn, jx_inl, jx_ltnn, jx_lenn, jx_eqnn, jx_ltnl, jx_lenl, jx_ltln, jx_leln, jx_eqnl, Int32.reduceAdd, Int32.reduceSub, Int32.reduceMul, Int32.reduceLT, Int32.reduceLE, jx_eqll, jx_ltll, Nat.reduceMul, Nat.reduceSub, forall_const, implies_true, false_implies, not_true_eq_false, true_implies, jx_tko, jx_ofn, jx_tka, jx_pro, jx_pra, and_self, Nat.not_lt_zero, jx_nbb, fv_2_8, hbit, g0, g5]
    refine jx_cV1 dX8_askMissing_40 li_X8_337 (cn_qk0 hC hA1 hs1) (congrArg Prod.fst c0) (Nat.le_of_ble_eq_true rfl) (Nat.le_of_ble_eq_true rfl) ?_
    rintro _ _ ⟨rfl, rfl⟩ - -
    simp only [Option.toList_some, Option.toList_none, List.cons_append, List.nil_append]
    rw [show (if I (78 + 5 * c) 7 = 1 then (0 : Int32) else 1) = 1 from by rw [hp1]; rfl]
    refine jx_gq flok_X8 (fwok_X8 rfl) 16 6 _ _ _ _ ?_
    simp (disch := omega) only [↓reduceIte, jx_wp, jx_stp, jx_f0, jx_f1, jx_f2, jx_f3, List.getElem?_cons_zero, List.getElem?_cons_succ, List.set_cons_zero, List.set_cons_succ, Nat.reduceAdd, true_and, and_true, if_true, if_false, Bool.false_eq_true, jx_s, Nat.reduceLT, dX8_askMissing_0, dX8_askMissing_1, dX8_askMissing_2, dX8_askMissing_5, dX8_askMissing_6, dX8_askMissing_9, dX8_askMissing_10, dX8_askMissing_11, dX8_askMissing_12, dX8_askMissing_13, dX8_askMissing_14, dX8_askMissing_16, dX8_askMissing_18, dX8_askMissing_19, dX8_askMissing_22, dX8_askMissing_25, dX8_askMissing_26, dX8_askMissing_28, dX8_askMissing_31, dX8_askMissing_34, dX8_askMissing_35, dX8_askMissing_38, dX8_askMissing_39, dX8_askMissing_40, dX8_askMissing_43, dX8_askMissing_45, dX8_askMissing_46, dX8_askMissing_49, dX8_askMissing_50, dX8_askMissing_53, dX8_askMissing_56, dX8_askMissing_58, dX8_askMissing_59, dX8_askMissing_60, dX8_askMissing_62, dX8_askMissing_65, dX8_askMissing_68, dX8_askMissing_71, dX8_askMissing_72, dX8_askMissing_73, dX8_askMissing_76, dX8_askMissing_77, dX8_askMissing_78, dX8_askMissing_81, fl_X8_183, ft_2_8, jx_km1, jx_k0, fl_X8_65, ft_9_5, tg_22_49, tg_31_34, fl_X8_24, ft_9_2, fl_X8_259, ft_2_0, fl_X8_69, ft_2_1, jx_k1, tg_68_m52, fw_X8_183, jx_wq, jx_stq, jx_ite, jx_b0, jx_bn0, jx_u_eq, jx_u_na, jx_u_ni, jx_nb0, jx_nb1, jx_ni, jx_E, eq_self, jx_a0, jx_a1, ne_eq, not_false_eq_true, Nat.reduceLeDiff, Nat.reduceEqDiff, Nat.reduceLT, jx_subl, jx_al, jx_la, jx_nm, jx_ml, nI_add, jx_xn, jx_xl, jx_inn, jx_inl, jx_ltnn, jx_lenn, jx_eqnn, jx_ltnl, jx_lenl, jx_ltln, jx_leln, jx_eqnl, Int32.reduceAdd, Int32.reduceSub, Int32.reduceMul, Int32.reduceLT, Int32.reduceLE, jx_eqll, jx_ltll, Nat.reduceMul, Nat.reduceSub, forall_const, implies_true, false_implies, not_true_eq_false, true_implies, jx_tko, jx_ofn, jx_tka, jx_pro, jx_pra, and_self, Nat.not_lt_zero, jx_nbb, fv_2_8, c0, d1, s0]
    refine jx_cV4 dX8_askMissing_53 li_X8_286 (bg_post c1 d4 c2' (by omega) (by omega) (by omega) bg (by omega) (by omega) (by omega)) (congrArg Prod.fst bf.1) (Nat.le_of_ble_eq_true rfl) (Nat.le_of_ble_eq_true rfl) ?_
    rintro _ _ ⟨p, z2, m2, ms2, K2, I2, P2, e3, c3', rfl, rfl, hK2, hz, hcon, h6, hKK, hII, hPP, -, hn, hm⟩ hnn -
    simp only [Option.toList_some, Option.toList_none, List.cons_append, List.nil_append]
    have hnn : n ≤ m2 := hnn
    have hk2 := hK2
    obtain ⟨-, w1, -, -, w2, -, -, w140⟩ := hk2
    obtain ⟨wp, wp1, wp2⟩ := w2 x (by omega)
    rw [ls_up_eq] at wp wp1 wp2
    have hC2 : ob_C K2 P2 (78 + 5 * c) := ob_C_to hC (fun a h1 h2 => hKK a (by omega)) (fun a j h1 h2 h3 => hPP a j (by omega) (by omega) (by omega) (by have := bl.2.2.2.2.2.2.2; omega) (by have := bl2.2.2.2.2.2.2.2; omega))
    have hA5 : K2 (A o') = (5, 9) := by rw [hKK _ hA3, hA1]
    have hAp : A o' < p ∨ p + 5 ≤ A o' := by
      obtain ⟨k0, k1, k2, k3, k4, -⟩ := wp
      have r0 : A o' ≠ p := fun h => by rw [h, k0] at hA5; simp at hA5
      have r1 : A o' ≠ p + 1 := fun h => by rw [h, k1] at hA5; simp at hA5
      have r2 : A o' ≠ p + 2 := fun h => by rw [h, k2] at hA5; simp at hA5
      have r3 : A o' ≠ p + 3 := fun h => by rw [h, k3] at hA5; simp at hA5
      have r4 : A o' ≠ p + 4 := fun h => by rw [h, k4] at hA5; simp at hA5
      omega
    have hIc : ∀ b j, 78 ≤ b → b < 98 → I2 b j = I b j := fun b j h1 h2 => hII b j (by omega) (by omega) (by omega) (by omega) (by omega)
    have hIa : ∀ j, I2 (A o') j = I (A o') j := fun j => hII _ j hA3 (by omega) (by omega) (by omega) hAp
    obtain ⟨t3, t4, t5, t6, t7, t8, tz, tm⟩ := hcon
    have c02 := hC2.1
    refine jx_gq flok_X8 (fwok_X8 rfl) 16 4 _ _ _ _ ?_
    simp (disch := omega) only [↓reduceIte, jx_wp, jx_stp, jx_f0, jx_f1, jx_f2, jx_f3, List.getElem?_cons_zero, List.getElem?_cons_succ, List.set_cons_zero, List.set_cons_succ, Nat.reduceAdd, true_and, and_true, if_true, if_false, Bool.false_eq_true, jx_s, Nat.reduceLT, dX8_askMissing_0, dX8_askMissing_1, dX8_askMissing_2, dX8_askMissing_5, dX8_askMissing_6, dX8_askMissing_9, dX8_askMissing_10, dX8_askMissing_11, dX8_askMissing_12, dX8_askMissing_13, dX8_askMissing_14, dX8_askMissing_16, dX8_askMissing_18, dX8_askMissing_19, dX8_askMissing_22, dX8_askMissing_25, dX8_askMissing_26, dX8_askMissing_28, dX8_askMissing_31, dX8_askMissing_34, dX8_askMissing_35, dX8_askMissing_38, dX8_askMissing_39, dX8_askMissing_40, dX8_askMissing_43, dX8_askMissing_45, dX8_askMissing_46, dX8_askMissing_49, dX8_askMissing_50, dX8_askMissing_53, dX8_askMissing_56, dX8_askMissing_58, dX8_askMissing_59, dX8_askMissing_60, dX8_askMissing_62, dX8_askMissing_65, dX8_askMissing_68, dX8_askMissing_71, dX8_askMissing_72, dX8_askMissing_73, dX8_askMissing_76, dX8_askMissing_77, dX8_askMissing_78, dX8_askMissing_81, fl_X8_183, ft_2_8, jx_km1, jx_k0, fl_X8_65, ft_9_5, tg_22_49, tg_31_34, fl_X8_24, ft_9_2, fl_X8_259, ft_2_0, fl_X8_69, ft_2_1, jx_k1, tg_68_m52, fw_X8_183, jx_wq, jx_stq, jx_ite, jx_b0, jx_bn0, jx_u_eq, jx_u_na, jx_u_ni, jx_nb0, jx_nb1, jx_ni, jx_E, eq_self, jx_a0, jx_a1, ne_eq, not_false_eq_true, Nat.reduceLeDiff, Nat.reduceEqDiff, Nat.reduceLT, jx_subl, jx_al, jx_la, jx_nm, jx_ml, nI_add, jx_xn, jx_xl, jx_inn, jx_inl, jx_ltnn, jx_lenn, jx_eqnn, jx_ltnl, jx_lenl, jx_ltln, jx_leln, jx_eqnl, Int32.reduceAdd, Int32.reduceSub, Int32.reduceMul, Int32.reduceLT, Int32.reduceLE, jx_eqll, jx_ltll, Nat.reduceMul, Nat.reduceSub, forall_const, implies_true, false_implies, not_true_eq_false, true_implies, jx_tko, jx_ofn, jx_tka, jx_pro, jx_pra, and_self, Nat.not_lt_zero, jx_nbb, fv_2_8]
    refine jx_cV2 dX8_askMissing_62 li_X8_340 (cn_fq1 hC2 hA5 wp (by omega) (by omega) (by rw [hIa]; exact hs1) t3) (congrArg Prod.fst c02) (Nat.le_of_ble_eq_true rfl) (Nat.le_of_ble_eq_true rfl) ?_
    rintro _ _ ⟨rfl, rfl⟩ - -
    simp only [Option.toList_some, Option.toList_none, List.cons_append, List.nil_append]
    refine jx_gq flok_X8 (fwok_X8 rfl) 16 3 _ _ _ _ ?_
    simp (disch := omega) only [↓reduceIte, jx_wp, jx_stp, jx_f0, jx_f1, jx_f2, jx_f3, List.getElem?_cons_zero, List.getElem?_cons_succ, List.set_cons_zero, List.set_cons_succ, Nat.reduceAdd, true_and, and_true, if_true, if_false, Bool.false_eq_true, jx_s, Nat.reduceLT, dX8_askMissing_0, dX8_askMissing_1, dX8_askMissing_2, dX8_askMissing_5, dX8_askMissing_6, dX8_askMissing_9, dX8_askMissing_10, dX8_askMissing_11, dX8_askMissing_12, dX8_askMissing_13, dX8_askMissing_14, dX8_askMissing_16, dX8_askMissing_18, dX8_askMissing_19, dX8_askMissing_22, dX8_askMissing_25, dX8_askMissing_26, dX8_askMissing_28, dX8_askMissing_31, dX8_askMissing_34, dX8_askMissing_35, dX8_askMissing_38, dX8_askMissing_39, dX8_askMissing_40, dX8_askMissing_43, dX8_askMissing_45, dX8_askMissing_46, dX8_askMissing_49, dX8_askMissing_50, dX8_askMissing_53, dX8_askMissing_56, dX8_askMissing_58, dX8_askMissing_59, dX8_askMissing_60, dX8_askMissing_62, dX8_askMissing_65, dX8_askMissing_68, dX8_askMissing_71, dX8_askMissing_72, dX8_askMissing_73, dX8_askMissing_76, dX8_askMissing_77, dX8_askMissing_78, dX8_askMissing_81, fl_X8_183, ft_2_8, jx_km1, jx_k0, fl_X8_65, ft_9_5, tg_22_49, tg_31_34, fl_X8_24, ft_9_2, fl_X8_259, ft_2_0, fl_X8_69, ft_2_1, jx_k1, tg_68_m52, fw_X8_183, jx_wq, jx_stq, jx_ite, jx_b0, jx_bn0, jx_u_eq, jx_u_na, jx_u_ni, jx_nb0, jx_nb1, jx_ni, jx_E, eq_self, jx_a0, jx_a1, ne_eq, not_false_eq_true, Nat.reduceLeDiff, Nat.reduceEqDiff, Nat.reduceLT, jx_subl, jx_al, jx_la, jx_nm, jx_ml, nI_add, jx_xn, jx_xl, jx_inn, jx_inl, jx_ltnn, jx_lenn, jx_eqnn, jx_ltnl, jx_lenl, jx_ltln, jx_leln, jx_eqnl, Int32.reduceAdd, Int32.reduceSub, Int32.reduceMul, Int32.reduceLT, Int32.reduceLE, jx_eqll, jx_ltll, Nat.reduceMul, Nat.reduceSub, forall_const, implies_true, false_implies, not_true_eq_false, true_implies, jx_tko, jx_ofn, jx_tka, jx_pro, jx_pra, and_self, Nat.not_lt_zero, jx_nbb, fv_2_8]
    refine kk _ _ _ _ _ _ ?_
    have hsb : I2 (A o') 3 = J 121 o' := by rw [hIa, lo2.2.2.1]
    have hj : mo_a1 J c o' y s = mo_fi J (mo_ly J x 1 (nI s) (nI c) (J 129 c) (J 121 o') (7 + c)) c o' x := by
      unfold mo_a1
      rw [if_neg hbit, e31]
      congr 2
      · unfold mo_kd
        simp [hs, hp]
      · unfold mo_sb
        simp [hs]
    rw [hj]
    obtain ⟨u1, u2, u3, u4, u5⟩ := @mo_fi_fr J x s c (7 + c) o' 1 (J 129 c) (J 121 o')
    have M0 : mgs (cn_f0 I2 (78 + 5 * c) p (I2 (A o') 3)) p (mo_ly J x 1 (nI s) (nI c) (J 129 c) (J 121 o') (7 + c)) x := by
      refine mgs_ly ?_ ?_ ?_ ?_ ?_ ?_ (fun j hj => ?_) (fun j hj => ?_)
      · unfold cn_f0
        simp (disch := omega) only [jx_u_ni, t3]
      · unfold cn_f0
        simp (disch := omega) only [jx_u_ni, t4]
      · unfold cn_f0
        simp (disch := omega) only [jx_u_ni, t5]
      · unfold cn_f0
        simp (disch := omega) only [jx_u_ni, jx_u_eq]
        rw [hIc _ _ (by omega) (by omega), s2]
      · unfold cn_f0
        simp (disch := omega) only [jx_u_eq, hsb]
      · unfold cn_f0
        simp (disch := omega) only [jx_u_ni, t8]
      · unfold cn_f0
        simp (disch := omega) only [jx_u_na]
        exact tz j hj
      · unfold cn_f0
        simp (disch := omega) only [jx_u_na]
        rw [tm j hj, s3 j hj]
    refine rl_put hN hB hT hX hag (by omega) hK2 hz h6 hKK hII hPP hn hm (fun b j hb => ?_) ?_ u1 u2 u3 u4 u5 (by omega)
    · rw [cn_f1_na hb, cn_f0_na hb]
    · unfold mo_fi
      simp only [hs, hp, if_true, if_false]
      rw [hIc (78 + 5 * c + 3) 0 (by omega) (by omega), hIc (78 + 5 * c + 4) 0 (by omega) (by omega), q3 0 (by omega), q4 0 (by omega) (fun w => absurd w.1 n2')]
      exact mgs_u0 M0
set_option maxHeartbeats 4000000 in
set_option maxRecDepth 100000 in
theorem am_c1 {G : jx_G} {n ms : Nat} {K : Nat → Nat × Nat} {I : Nat → Nat → Int32} {P : Nat → Nat → Option Nat} {J : Nat → Nat → Int32} {B h : Nat} {A : Nat → Nat} {T : Nat → Prop} {X : Nat → Nat → Int32} {Q : Option jx_V → jx_M → Prop} {c o s q : Nat} {y : Int32} (hR : rl n ms K I P J B A h T X) (ha : am_h J B c o q h) (hs : J 119 o = 2) (hp : J 132 c = 1) (hsq : s < q) (hx : ∀ x, J 98 9 = nI x → x ≤ 16000 → x + h + 1 ≤ 15999) (kk : ∀ n2 ms2 K2 I2 P2 x5, rl n2 ms2 K2 I2 P2 (mo_a1 J c o y s) B A h T X → jx_J G yX8_askMissing cX8_askMissing 6 none 8 (Q) 16 [some (.inr (some 3)), some (.inr (some (78 + 5 * c))), some (.inr (some (A o))), some (.inl y), some (.inl (nI (s + 1))), x5] [] (n2, ms2, K2, I2, P2)) : ∀ x5, jx_J G yX8_askMissing cX8_askMissing 6 none 8 (Q) 16 [some (.inr (some 3)), some (.inr (some (78 + 5 * c))), some (.inr (some (A o))), some (.inl y), some (.inl (nI s)), x5] [] (n, ms, K, I, P) := by
  intro x5
  obtain ⟨hN, ⟨L, x, S, z, e, cc, e2, c2, hB, hT⟩, hX, hag⟩ := id hR
  obtain ⟨hc, ho, hd, hq, hq7, -, -, hm3⟩ := ha
  obtain ⟨n0, n1, n2, n3, n4, n5, n6⟩ := id hN
  obtain ⟨g0, g1, g2, g3, g4, g5, g6, g7, g8, g9, g10⟩ := id n0
  have hC := (g9 c hc).2
  obtain ⟨c0, c1, c2', c3, c4, d1, d2, d3, d4⟩ := id hC
  obtain ⟨hcs, hct⟩ := n4 c hc
  obtain ⟨s0, s1, s2, s3⟩ := id hcs
  have hB60 : B ≤ 60 := n5.1
  obtain ⟨o', ho', hd', hP4, hco⟩ := hct.resolve_left (fun q => by have q2 := hd.symm.trans q.1; rw [jx_m1 (by omega)] at q2; exact q2)
  have eo : o' = o := by
    have := hd.symm.trans hd'
    rw [jx_eqnn (by omega) (by omega)] at this
    exact this.symm
  subst eo
  obtain ⟨lo1, lo2⟩ := n5.2.2.2.2.2.2 o' ho
  obtain ⟨hA1, hA2, hA3, hA4⟩ := n5.2.2.2.2.2.1 o' _ (by omega) lo1
  obtain ⟨q0, q1, q2, q3, q4, q5, q6, q7, q8⟩ := id hco
  have hB' := hB
  obtain ⟨bg, bj, -, -, bb, bn, bm⟩ := hB'
  obtain ⟨bf, bl, bl2, bee, bmi, bms, bdj, b140⟩ := id bg
  have hx9 := hx x bj (by omega)
  have cb1 := bl.2.2.2.2.1
  have cb2 := bl2.2.2.2.2.1
  have hqs : ¬ q ≤ s := by omega
  have n65 : I 3 5 = nI q := n6.trans hq
  have hs1 : I (A o') 1 = 2 := by rw [lo2.1]; exact hs
  have hp1 : I (78 + 5 * c) 7 = 1 := q0.trans hp
  have e31 : (jx_x (J 98 9)) = x := by rw [bj]; exact jx_xn (by omega)
  refine jx_gq flok_X8 (fwok_X8 rfl) 16 7 _ _ _ _ ?_
  simp (disch := omega) only [↓reduceIte, jx_wp, jx_stp, jx_f0, jx_f1, jx_f2, jx_f3, List.getElem?_cons_zero, List.getElem?_cons_succ, List.set_cons_zero, List.set_cons_succ, Nat.reduceAdd, true_and, and_true, if_true, if_false, Bool.false_eq_true, jx_s, Nat.reduceLT, dX8_askMissing_0, dX8_askMissing_1, dX8_askMissing_2, dX8_askMissing_5, dX8_askMissing_6, dX8_askMissing_9, dX8_askMissing_10, dX8_askMissing_11, dX8_askMissing_12, dX8_askMissing_13, dX8_askMissing_14, dX8_askMissing_16, dX8_askMissing_18, dX8_askMissing_19, dX8_askMissing_22, dX8_askMissing_25, dX8_askMissing_26, dX8_askMissing_28, dX8_askMissing_31, dX8_askMissing_34, dX8_askMissing_35, dX8_askMissing_38, dX8_askMissing_39, dX8_askMissing_40, dX8_askMissing_43, dX8_askMissing_45, dX8_askMissing_46, dX8_askMissing_49, dX8_askMissing_50, dX8_askMissing_53, dX8_askMissing_56, dX8_askMissing_58, dX8_askMissing_59, dX8_askMissing_60, dX8_askMissing_62, dX8_askMissing_65, dX8_askMissing_68, dX8_askMissing_71, dX8_askMissing_72, dX8_askMissing_73, dX8_askMissing_76, dX8_askMissing_77, dX8_askMissing_78, dX8_askMissing_81, fl_X8_183, ft_2_8, jx_km1, jx_k0, fl_X8_65, ft_9_5, tg_22_49, tg_31_34, fl_X8_24, ft_9_2, fl_X8_259, ft_2_0, fl_X8_69, ft_2_1, jx_k1, tg_68_m52, fw_X8_183, jx_wq, jx_stq, jx_ite, jx_b0, jx_bn0, jx_u_eq, jx_u_na, jx_u_ni, jx_nb0, jx_nb1, jx_ni, jx_E, eq_self, jx_a0, jx_a1, ne_eq, not_false_eq_true, Nat.reduceLeDiff, Nat.reduceEqDiff, Nat.reduceLT, jx_subl, jx_al, jx_la, jx_nm, jx_ml, nI_add, jx_xn, jx_xl, jx_inn, jx_inl, jx_ltnn, jx_lenn, jx_eqnn, jx_ltnl, jx_lenl, jx_ltln, jx_leln, jx_eqnl, Int32.reduceAdd, Int32.reduceSub, Int32.reduceMul, Int32.reduceLT, Int32.reduceLE, jx_eqll, jx_ltll, Nat.reduceMul, Nat.reduceSub, forall_const, implies_true, false_implies, not_true_eq_false, true_implies, jx_tko, jx_ofn, jx_tka, jx_pro, jx_pra, and_self, Nat.not_lt_zero, jx_nbb, fv_2_8, g0, g5, n65, hqs]
  refine jx_cS2 dX8_askMissing_28 li_X8_334 (cl_isIn) (Nat.le_of_ble_eq_true rfl) (Nat.le_of_ble_eq_true rfl) ?_
  rintro _ _ ⟨rfl, rfl⟩ - -
  simp only [Option.toList_some, Option.toList_none, List.cons_append, List.nil_append]
  by_cases hbit : y >>> (nI s &&& 31) &&& 1 = 0
  · refine jx_gq flok_X8 (fwok_X8 rfl) 16 4 _ _ _ _ ?_
    simp (disch := omega) only [↓reduceIte, jx_wp, jx_stp, jx_f0, jx_f1, jx_f2, jx_f3, List.getElem?_cons_zero, List.getElem?_cons_succ, List.set_cons_zero, List.set_cons_succ, Nat.reduceAdd, true_and, and_true, if_true, if_false, Bool.false_eq_true, jx_s, Nat.reduceLT, dX8_askMissing_0, dX8_askMissing_1, dX8_askMissing_2, dX8_askMissing_5, dX8_askMissing_6, dX8_askMissing_9, dX8_askMissing_10, dX8_askMissing_11, dX8_askMissing_12, dX8_askMissing_13, dX8_askMissing_14, dX8_askMissing_16, dX8_askMissing_18, dX8_askMissing_19, dX8_askMissing_22, dX8_askMissing_25, dX8_askMissing_26, dX8_askMissing_28, dX8_askMissing_31, dX8_askMissing_34, dX8_askMissing_35, dX8_askMissing_38, dX8_askMissing_39, dX8_askMissing_40, dX8_askMissing_43, dX8_askMissing_45, dX8_askMissing_46, dX8_askMissing_49, dX8_askMissing_50, dX8_askMissing_53, dX8_askMissing_56, dX8_askMissing_58, dX8_askMissing_59, dX8_askMissing_60, dX8_askMissing_62, dX8_askMissing_65, dX8_askMissing_68, dX8_askMissing_71, dX8_askMissing_72, dX8_askMissing_73, dX8_askMissing_76, dX8_askMissing_77, dX8_askMissing_78, dX8_askMissing_81, fl_X8_183, ft_2_8, jx_km1, jx_k0, fl_X8_65, ft_9_5, tg_22_49, tg_31_34, fl_X8_24, ft_9_2, fl_X8_259, ft_2_0, fl_X8_69, ft_2_1, jx_k1, tg_68_m52, fw_X8_183, jx_wq, jx_stq, jx_ite, jx_b0, jx_bn0, jx_u_eq, jx_u_na, jx_u_ni, jx_nb0, jx_nb1, jx_ni, jx_E, eq_self, jx_a0, jx_a1, ne_eq, not_false_eq_true, Nat.reduceLeDiff, Nat.reduceEqDiff, Nat.reduceLT, jx_subl, jx_al, jx_la, jx_nm, jx_ml, nI_add, jx_xn, jx_xl, jx_inn, jx_inl, jx_ltnn, jx_lenn, jx_eqnn, jx_ltnl, jx_lenl, jx_ltln, jx_leln, jx_eqnl, Int32.reduceAdd, Int32.reduceSub, Int32.reduceMul, Int32.reduceLT, Int32.reduceLE, jx_eqll, jx_ltll, Nat.reduceMul, Nat.reduceSub, forall_const, implies_true, false_implies, not_true_eq_false, true_implies, jx_tko, jx_ofn, jx_tka, jx_pro, jx_pra, and_self, Nat.not_lt_zero, jx_nbb, fv_2_8, hbit]
    refine kk n ms K I P _ ?_
    unfold mo_a1
    rw [if_pos hbit]
    exact hR
  · refine jx_gq flok_X8 (fwok_X8 rfl) 16 5 _ _ _ _ ?_
    simp (disch := omega) only [↓reduceIte, jx_wp, jx_stp, jx_f0, jx_f1, jx_f2, jx_f3, List.getElem?_cons_zero, List.getElem?_cons_succ, List.set_cons_zero, List.set_cons_succ, Nat.reduceAdd, true_and, and_true, if_true, if_false, Bool.false_eq_true, jx_s, Nat.reduceLT, dX8_askMissing_0, dX8_askMissing_1, dX8_askMissing_2, dX8_askMissing_5, dX8_askMissing_6, dX8_askMissing_9, dX8_askMissing_10, dX8_askMissing_11, dX8_askMissing_12, dX8_askMissing_13, dX8_askMissing_14, dX8_askMissing_16, dX8_askMissing_18, dX8_askMissing_19, dX8_askMissing_22, dX8_askMissing_25, dX8_askMissing_26, dX8_askMissing_28, dX8_askMissing_31, dX8_askMissing_34, dX8_askMissing_35, dX8_askMissing_38, dX8_askMissing_39, dX8_askMissing_40, dX8_askMissing_43, dX8_askMissing_45, dX8_askMissing_46, dX8_askMissing_49, dX8_askMissing_50, dX8_askMissing_53, dX8_askMissing_56, dX8_askMissing_58, dX8_askMissing_59, dX8_askMissing_60, dX8_askMissing_62, dX8_askMissing_65, dX8_askMissing_68, dX8_askMissing_71, dX8_askMissing_72, dX8_askMissing_73, dX8_askMissing_76, dX8_askMissing_77, dX8_askMissing_78, dX8_askMissing_81, fl_X8_183, ft_2_8, jx_km1, jx_k0, fl_X8_65, ft_9_5, tg_22_49, tg_31_34, fl_X8_24, ft_9_2, fl_X8_259, ft_2_0, fl_X8_69, ft_2_1, jx_k1, tg_68_m52, fw_X8_183, jx_wq, jx_stq, jx_ite, jx_b0, jx_bn0, jx_u_eq, jx_u_na, jx_u_ni, jx_nb0, jx_nb1, jx_ni, jx_E, eq_self, jx_a0, jx_a1, ne_eq, not_false_eq_true, Nat.reduceLeDiff, Nat.reduceEqDiff, Nat.reduceLT, jx_subl, jx_al, jx_la, jx_nm, jx_ml, nI_add, jx_xn, jx_xl, jx_inn, jx_inl, jx_ltnn, jx_lenn, jx_eqnn, jx_ltnl, jx_lenl, jx_ltln, jx_leln, jx_eqnl, Int32.reduceAdd, Int32.reduceSub, Int32.reduceMul, Int32.reduceLT, Int32.reduceLE, jx_eqll, jx_ltll, Nat.reduceMul, Nat.reduceSub, forall_const, implies_true, false_implies, not_true_eq_false, true_implies, jx_tko, jx_ofn, jx_tka, jx_pro, jx_pra, and_self, Nat.not_lt_zero, jx_nbb, fv_2_8, hbit, g0, g5]
    refine jx_cV1 dX8_askMissing_40 li_X8_337 (cn_qk2 hC hA1 hs1) (congrArg Prod.fst c0) (Nat.le_of_ble_eq_true rfl) (Nat.le_of_ble_eq_true rfl) ?_
    rintro _ _ ⟨rfl, rfl⟩ - -
    simp only [Option.toList_some, Option.toList_none, List.cons_append, List.nil_append]
    rw [show (if I (78 + 5 * c) 7 = 1 then (2 : Int32) else 3) = 2 from by rw [hp1]; rfl]
    refine jx_gq flok_X8 (fwok_X8 rfl) 16 6 _ _ _ _ ?_
    simp (disch := omega) only [↓reduceIte, jx_wp, jx_stp, jx_f0, jx_f1, jx_f2, jx_f3, List.getElem?_cons_zero, List.getElem?_cons_succ, List.set_cons_zero, List.set_cons_succ, Nat.reduceAdd, true_and, and_true, if_true, if_false, Bool.false_eq_true, jx_s, Nat.reduceLT, dX8_askMissing_0, dX8_askMissing_1, dX8_askMissing_2, dX8_askMissing_5, dX8_askMissing_6, dX8_askMissing_9, dX8_askMissing_10, dX8_askMissing_11, dX8_askMissing_12, dX8_askMissing_13, dX8_askMissing_14, dX8_askMissing_16, dX8_askMissing_18, dX8_askMissing_19, dX8_askMissing_22, dX8_askMissing_25, dX8_askMissing_26, dX8_askMissing_28, dX8_askMissing_31, dX8_askMissing_34, dX8_askMissing_35, dX8_askMissing_38, dX8_askMissing_39, dX8_askMissing_40, dX8_askMissing_43, dX8_askMissing_45, dX8_askMissing_46, dX8_askMissing_49, dX8_askMissing_50, dX8_askMissing_53, dX8_askMissing_56, dX8_askMissing_58, dX8_askMissing_59, dX8_askMissing_60, dX8_askMissing_62, dX8_askMissing_65, dX8_askMissing_68, dX8_askMissing_71, dX8_askMissing_72, dX8_askMissing_73, dX8_askMissing_76, dX8_askMissing_77, dX8_askMissing_78, dX8_askMissing_81, fl_X8_183, ft_2_8, jx_km1, jx_k0, fl_X8_65, ft_9_5, tg_22_49, tg_31_34, fl_X8_24, ft_9_2, fl_X8_259, ft_2_0, fl_X8_69, ft_2_1, jx_k1, tg_68_m52, fw_X8_183, jx_wq, jx_stq, jx_ite, jx_b0, jx_bn0, jx_u_eq, jx_u_na, jx_u_ni, jx_nb0, jx_nb1, jx_ni, jx_E, eq_self, jx_a0, jx_a1, ne_eq, not_false_eq_true, Nat.reduceLeDiff, Nat.reduceEqDiff, Nat.reduceLT, jx_subl, jx_al, jx_la, jx_nm, jx_ml, nI_add, jx_xn, jx_xl, jx_inn, jx_inl, jx_ltnn, jx_lenn, jx_eqnn, jx_ltnl, jx_lenl, jx_ltln, jx_leln, jx_eqnl, Int32.reduceAdd, Int32.reduceSub, Int32.reduceMul, Int32.reduceLT, Int32.reduceLE, jx_eqll, jx_ltll, Nat.reduceMul, Nat.reduceSub, forall_const, implies_true, false_implies, not_true_eq_false, true_implies, jx_tko, jx_ofn, jx_tka, jx_pro, jx_pra, and_self, Nat.not_lt_zero, jx_nbb, fv_2_8, c0, d1, s0]
    refine jx_cV4 dX8_askMissing_53 li_X8_286 (bg_post c1 d4 c2' (by omega) (by omega) (by omega) bg (by omega) (by omega) (by omega)) (congrArg Prod.fst bf.1) (Nat.le_of_ble_eq_true rfl) (Nat.le_of_ble_eq_true rfl) ?_
    rintro _ _ ⟨p, z2, m2, ms2, K2, I2, P2, e3, c3', rfl, rfl, hK2, hz, hcon, h6, hKK, hII, hPP, -, hn, hm⟩ hnn -
    simp only [Option.toList_some, Option.toList_none, List.cons_append, List.nil_append]
    have hnn : n ≤ m2 := hnn
    have hk2 := hK2
    obtain ⟨-, w1, -, -, w2, -, -, w140⟩ := hk2
    obtain ⟨wp, wp1, wp2⟩ := w2 x (by omega)
    rw [ls_up_eq] at wp wp1 wp2
    have hC2 : ob_C K2 P2 (78 + 5 * c) := ob_C_to hC (fun a h1 h2 => hKK a (by omega)) (fun a j h1 h2 h3 => hPP a j (by omega) (by omega) (by omega) (by have := bl.2.2.2.2.2.2.2; omega) (by have := bl2.2.2.2.2.2.2.2; omega))
    have hA5 : K2 (A o') = (5, 9) := by rw [hKK _ hA3, hA1]
    have hAp : A o' < p ∨ p + 5 ≤ A o' := by
      obtain ⟨k0, k1, k2, k3, k4, -⟩ := wp
      have r0 : A o' ≠ p := fun h => by rw [h, k0] at hA5; simp at hA5
      have r1 : A o' ≠ p + 1 := fun h => by rw [h, k1] at hA5; simp at hA5
      have r2 : A o' ≠ p + 2 := fun h => by rw [h, k2] at hA5; simp at hA5
      have r3 : A o' ≠ p + 3 := fun h => by rw [h, k3] at hA5; simp at hA5
      have r4 : A o' ≠ p + 4 := fun h => by rw [h, k4] at hA5; simp at hA5
      omega
    have hIc : ∀ b j, 78 ≤ b → b < 98 → I2 b j = I b j := fun b j h1 h2 => hII b j (by omega) (by omega) (by omega) (by omega) (by omega)
    have hIa : ∀ j, I2 (A o') j = I (A o') j := fun j => hII _ j hA3 (by omega) (by omega) (by omega) hAp
    obtain ⟨t3, t4, t5, t6, t7, t8, tz, tm⟩ := hcon
    have c02 := hC2.1
    refine jx_gq flok_X8 (fwok_X8 rfl) 16 4 _ _ _ _ ?_
    simp (disch := omega) only [↓reduceIte, jx_wp, jx_stp, jx_f0, jx_f1, jx_f2, jx_f3, List.getElem?_cons_zero, List.getElem?_cons_succ, List.set_cons_zero, List.set_cons_succ, Nat.reduceAdd, true_and, and_true, if_true, if_false, Bool.false_eq_true, jx_s, Nat.reduceLT, dX8_askMissing_0, dX8_askMissing_1, dX8_askMissing_2, dX8_askMissing_5, dX8_askMissing_6, dX8_askMissing_9, dX8_askMissing_10, dX8_askMissing_11, dX8_askMissing_12, dX8_askMissing_13, dX8_askMissing_14, dX8_askMissing_16, dX8_askMissing_18, dX8_askMissing_19, dX8_askMissing_22, dX8_askMissing_25, dX8_askMissing_26, dX8_askMissing_28, dX8_askMissing_31, dX8_askMissing_34, dX8_askMissing_35, dX8_askMissing_38, dX8_askMissing_39, dX8_askMissing_40, dX8_askMissing_43, dX8_askMissing_45, dX8_askMissing_46, dX8_askMissing_49, dX8_askMissing_50, dX8_askMissing_53, dX8_askMissing_56, dX8_askMissing_58, dX8_askMissing_59, dX8_askMissing_60, dX8_askMissing_62, dX8_askMissing_65, dX8_askMissing_68, dX8_askMissing_71, dX8_askMissing_72, dX8_askMissing_73, dX8_askMissing_76, dX8_askMissing_77, dX8_askMissing_78, dX8_askMissing_81, fl_X8_183, ft_2_8, jx_km1, jx_k0, fl_X8_65, ft_9_5, tg_22_49, tg_31_34, fl_X8_24, ft_9_2, fl_X8_259, ft_2_0, fl_X8_69, ft_2_1, jx_k1, tg_68_m52, fw_X8_183, jx_wq, jx_stq, jx_ite, jx_b0, jx_bn0, jx_u_eq, jx_u_na, jx_u_ni, jx_nb0, jx_nb1, jx_ni, jx_E, eq_self, jx_a0, jx_a1, ne_eq, not_false_eq_true, Nat.reduceLeDiff, Nat.reduceEqDiff, Nat.reduceLT, jx_subl, jx_al, jx_la, jx_nm, jx_ml, nI_add, jx_xn, jx_xl, jx_inn, jx_inl, jx_ltnn, jx_lenn, jx_eqnn, jx_ltnl, jx_lenl, jx_ltln, jx_leln, jx_eqnl, Int32.reduceAdd, Int32.reduceSub, Int32.reduceMul, Int32.reduceLT, Int32.reduceLE, jx_eqll, jx_ltll, Nat.reduceMul, Nat.reduceSub, forall_const, implies_true, false_implies, not_true_eq_false, true_implies, jx_tko, jx_ofn, jx_tka, jx_pro, jx_pra, and_self, Nat.not_lt_zero, jx_nbb, fv_2_8]
    refine jx_cV2 dX8_askMissing_62 li_X8_340 (cn_fq2 hC2 hA5 wp (by omega) (by omega) (by rw [hIa]; exact hs1) t3) (congrArg Prod.fst c02) (Nat.le_of_ble_eq_true rfl) (Nat.le_of_ble_eq_true rfl) ?_
    rintro _ _ ⟨rfl, rfl⟩ - -
    simp only [Option.toList_some, Option.toList_none, List.cons_append, List.nil_append]
    refine jx_gq flok_X8 (fwok_X8 rfl) 16 3 _ _ _ _ ?_
    simp (disch := omega) only [↓reduceIte, jx_wp, jx_stp, jx_f0, jx_f1, jx_f2, jx_f3, List.getElem?_cons_zero, List.getElem?_cons_succ, List.set_cons_zero, List.set_cons_succ, Nat.reduceAdd, true_and, and_true, if_true, if_false, Bool.false_eq_true, jx_s, Nat.reduceLT, dX8_askMissing_0, dX8_askMissing_1, dX8_askMissing_2, dX8_askMissing_5, dX8_askMissing_6, dX8_askMissing_9, dX8_askMissing_10, dX8_askMissing_11, dX8_askMissing_12, dX8_askMissing_13, dX8_askMissing_14, dX8_askMissing_16, dX8_askMissing_18, dX8_askMissing_19, dX8_askMissing_22, dX8_askMissing_25, dX8_askMissing_26, dX8_askMissing_28, dX8_askMissing_31, dX8_askMissing_34, dX8_askMissing_35, dX8_askMissing_38, dX8_askMissing_39, dX8_askMissing_40, dX8_askMissing_43, dX8_askMissing_45, dX8_askMissing_46, dX8_askMissing_49, dX8_askMissing_50, dX8_askMissing_53, dX8_askMissing_56, dX8_askMissing_58, dX8_askMissing_59, dX8_askMissing_60, dX8_askMissing_62, dX8_askMissing_65, dX8_askMissing_68, dX8_askMissing_71, dX8_askMissing_72, dX8_askMissing_73, dX8_askMissing_76, dX8_askMissing_77, dX8_askMissing_78, dX8_askMissing_81, fl_X8_183, ft_2_8, jx_km1, jx_k0, fl_X8_65, ft_9_5, tg_22_49, tg_31_34, fl_X8_24, ft_9_2, fl_X8_259, ft_2_0, fl_X8_69, ft_2_1, jx_k1, tg_68_m52, fw_X8_183, jx_wq, jx_stq, jx_ite, jx_b0, jx_bn0, jx_u_eq, jx_u_na, jx_u_ni, jx_nb0, jx_nb1, jx_ni, jx_E, eq_self, jx_a0, jx_a1, ne_eq, not_false_eq_true, Nat.reduceLeDiff, Nat.reduceEqDiff, Nat.reduceLT, jx_subl, jx_al, jx_la, jx_nm, jx_ml, nI_add, jx_xn, jx_xl, jx_inn, jx_inl, jx_ltnn, jx_lenn, jx_eqnn, jx_ltnl, jx_lenl, jx_ltln, jx_leln, jx_eqnl, Int32.reduceAdd, Int32.reduceSub, Int32.reduceMul, Int32.reduceLT, Int32.reduceLE, jx_eqll, jx_ltll, Nat.reduceMul, Nat.reduceSub, forall_const, implies_true, false_implies, not_true_eq_false, true_implies, jx_tko, jx_ofn, jx_tka, jx_pro, jx_pra, and_self, Nat.not_lt_zero, jx_nbb, fv_2_8]
    refine kk _ _ _ _ _ _ ?_
    have hsb : I2 (78 + 5 * c) 11 = J 134 c := by rw [hIc _ _ (by omega) (by omega), (q6 hs).2.1]
    have hj : mo_a1 J c o' y s = mo_fi J (mo_ly J x 2 (nI s) (nI c) (J 129 c) (J 134 c) (7 + c)) c o' x := by
      unfold mo_a1
      rw [if_neg hbit, e31]
      congr 2
      · unfold mo_kd
        simp [hs, hp]
      · unfold mo_sb
        simp [hs]
    rw [hj]
    obtain ⟨u1, u2, u3, u4, u5⟩ := @mo_fi_fr J x s c (7 + c) o' 2 (J 129 c) (J 134 c)
    have M0 : mgs (cn_f0 I2 (78 + 5 * c) p (I2 (78 + 5 * c) 11)) p (mo_ly J x 2 (nI s) (nI c) (J 129 c) (J 134 c) (7 + c)) x := by
      refine mgs_ly ?_ ?_ ?_ ?_ ?_ ?_ (fun j hj => ?_) (fun j hj => ?_)
      · unfold cn_f0
        simp (disch := omega) only [jx_u_ni, t3]
      · unfold cn_f0
        simp (disch := omega) only [jx_u_ni, t4]
      · unfold cn_f0
        simp (disch := omega) only [jx_u_ni, t5]
      · unfold cn_f0
        simp (disch := omega) only [jx_u_ni, jx_u_eq]
        rw [hIc _ _ (by omega) (by omega), s2]
      · unfold cn_f0
        simp (disch := omega) only [jx_u_eq, hsb]
      · unfold cn_f0
        simp (disch := omega) only [jx_u_ni, t8]
      · unfold cn_f0
        simp (disch := omega) only [jx_u_na]
        exact tz j hj
      · unfold cn_f0
        simp (disch := omega) only [jx_u_na]
        rw [tm j hj, s3 j hj]
    refine rl_put hN hB hT hX hag (by omega) hK2 hz h6 hKK hII hPP hn hm (fun b j hb => ?_) ?_ u1 u2 u3 u4 u5 (by omega)
    · rw [cn_f1_na hb, cn_f0_na hb]
    · unfold mo_fi
      simp only [hs, hp, show ¬ ((2 : Int32) = 0 ∨ (2 : Int32) = 1) from by decide, show ¬ ((1 : Int32) = 2) from by decide, if_true, if_false]
      rw [hIc (78 + 5 * c) 10 (by omega) (by omega), (q6 hs).1]
      have M1 := mgs_u0 (t := J 133 c) (v := 0) M0
      rw [jx_u_id (by unfold mo_ly; simp (disch := omega) only [jx_u_na, jx_u_ni, jx_u_eq])] at M1
      exact M1
set_option maxHeartbeats 4000000 in
set_option maxRecDepth 100000 in
theorem am_c2 {G : jx_G} {n ms : Nat} {K : Nat → Nat × Nat} {I : Nat → Nat → Int32} {P : Nat → Nat → Option Nat} {J : Nat → Nat → Int32} {B h : Nat} {A : Nat → Nat} {T : Nat → Prop} {X : Nat → Nat → Int32} {Q : Option jx_V → jx_M → Prop} {c o s q : Nat} {y : Int32} (hR : rl n ms K I P J B A h T X) (ha : am_h J B c o q h) (hs : J 119 o = 2) (hp : J 132 c = 2) (hsq : s < q) (hx : ∀ x, J 98 9 = nI x → x ≤ 16000 → x + h + 1 ≤ 15999) (kk : ∀ n2 ms2 K2 I2 P2 x5, rl n2 ms2 K2 I2 P2 (mo_a1 J c o y s) B A h T X → jx_J G yX8_askMissing cX8_askMissing 6 none 8 (Q) 16 [some (.inr (some 3)), some (.inr (some (78 + 5 * c))), some (.inr (some (A o))), some (.inl y), some (.inl (nI (s + 1))), x5] [] (n2, ms2, K2, I2, P2)) : ∀ x5, jx_J G yX8_askMissing cX8_askMissing 6 none 8 (Q) 16 [some (.inr (some 3)), some (.inr (some (78 + 5 * c))), some (.inr (some (A o))), some (.inl y), some (.inl (nI s)), x5] [] (n, ms, K, I, P) := by
  intro x5
  obtain ⟨hN, ⟨L, x, S, z, e, cc, e2, c2, hB, hT⟩, hX, hag⟩ := id hR
  obtain ⟨hc, ho, hd, hq, hq7, -, -, hm3⟩ := ha
  obtain ⟨n0, n1, n2, n3, n4, n5, n6⟩ := id hN
  obtain ⟨g0, g1, g2, g3, g4, g5, g6, g7, g8, g9, g10⟩ := id n0
  have hC := (g9 c hc).2
  obtain ⟨c0, c1, c2', c3, c4, d1, d2, d3, d4⟩ := id hC
  obtain ⟨hcs, hct⟩ := n4 c hc
  obtain ⟨s0, s1, s2, s3⟩ := id hcs
  have hB60 : B ≤ 60 := n5.1
  obtain ⟨o', ho', hd', hP4, hco⟩ := hct.resolve_left (fun q => by have q2 := hd.symm.trans q.1; rw [jx_m1 (by omega)] at q2; exact q2)
  have eo : o' = o := by
    have := hd.symm.trans hd'
    rw [jx_eqnn (by omega) (by omega)] at this
    exact this.symm
  subst eo
  obtain ⟨lo1, lo2⟩ := n5.2.2.2.2.2.2 o' ho
  obtain ⟨hA1, hA2, hA3, hA4⟩ := n5.2.2.2.2.2.1 o' _ (by omega) lo1
  obtain ⟨q0, q1, q2, q3, q4, q5, q6, q7, q8⟩ := id hco
  have hB' := hB
  obtain ⟨bg, bj, -, -, bb, bn, bm⟩ := hB'
  obtain ⟨bf, bl, bl2, bee, bmi, bms, bdj, b140⟩ := id bg
  have hx9 := hx x bj (by omega)
  have cb1 := bl.2.2.2.2.1
  have cb2 := bl2.2.2.2.2.1
  have hqs : ¬ q ≤ s := by omega
  have n65 : I 3 5 = nI q := n6.trans hq
  have hs1 : I (A o') 1 = 2 := by rw [lo2.1]; exact hs
  have hp1 : I (78 + 5 * c) 7 = 2 := q0.trans hp
  have e31 : (jx_x (J 98 9)) = x := by rw [bj]; exact jx_xn (by omega)
  refine jx_gq flok_X8 (fwok_X8 rfl) 16 7 _ _ _ _ ?_
  simp (disch := omega) only [↓reduceIte, jx_wp, jx_stp, jx_f0, jx_f1, jx_f2, jx_f3, List.getElem?_cons_zero, List.getElem?_cons_succ, List.set_cons_zero, List.set_cons_succ, Nat.reduceAdd, true_and, and_true, if_true, if_false, Bool.false_eq_true, jx_s, Nat.reduceLT, dX8_askMissing_0, dX8_askMissing_1, dX8_askMissing_2, dX8_askMissing_5, dX8_askMissing_6, dX8_askMissing_9, dX8_askMissing_10, dX8_askMissing_11, dX8_askMissing_12, dX8_askMissing_13, dX8_askMissing_14, dX8_askMissing_16, dX8_askMissing_18, dX8_askMissing_19, dX8_askMissing_22, dX8_askMissing_25, dX8_askMissing_26, dX8_askMissing_28, dX8_askMissing_31, dX8_askMissing_34, dX8_askMissing_35, dX8_askMissing_38, dX8_askMissing_39, dX8_askMissing_40, dX8_askMissing_43, dX8_askMissing_45, dX8_askMissing_46, dX8_askMissing_49, dX8_askMissing_50, dX8_askMissing_53, dX8_askMissing_56, dX8_askMissing_58, dX8_askMissing_59, dX8_askMissing_60, dX8_askMissing_62, dX8_askMissing_65, dX8_askMissing_68, dX8_askMissing_71, dX8_askMissing_72, dX8_askMissing_73, dX8_askMissing_76, dX8_askMissing_77, dX8_askMissing_78, dX8_askMissing_81, fl_X8_183, ft_2_8, jx_km1, jx_k0, fl_X8_65, ft_9_5, tg_22_49, tg_31_34, fl_X8_24, ft_9_2, fl_X8_259, ft_2_0, fl_X8_69, ft_2_1, jx_k1, tg_68_m52, fw_X8_183, jx_wq, jx_stq, jx_ite, jx_b0, jx_bn0, jx_u_eq, jx_u_na, jx_u_ni, jx_nb0, jx_nb1, jx_ni, jx_E, eq_self, jx_a0, jx_a1, ne_eq, not_false_eq_true, Nat.reduceLeDiff, Nat.reduceEqDiff, Nat.reduceLT, jx_subl, jx_al, jx_la, jx_nm, jx_ml, nI_add, jx_xn, jx_xl, jx_inn, jx_inl, jx_ltnn, jx_lenn, jx_eqnn, jx_ltnl, jx_lenl, jx_ltln, jx_leln, jx_eqnl, Int32.reduceAdd, Int32.reduceSub, Int32.reduceMul, Int32.reduceLT, Int32.reduceLE, jx_eqll, jx_ltll, Nat.reduceMul, Nat.reduceSub, forall_const, implies_true, false_implies, not_true_eq_false, true_implies, jx_tko, jx_ofn, jx_tka, jx_pro, jx_pra, and_self, Nat.not_lt_zero, jx_nbb, fv_2_8, g0, g5, n65, hqs]
  refine jx_cS2 dX8_askMissing_28 li_X8_334 (cl_isIn) (Nat.le_of_ble_eq_true rfl) (Nat.le_of_ble_eq_true rfl) ?_
  rintro _ _ ⟨rfl, rfl⟩ - -
  simp only [Option.toList_some, Option.toList_none, List.cons_append, List.nil_append]
  by_cases hbit : y >>> (nI s &&& 31) &&& 1 = 0
  · refine jx_gq flok_X8 (fwok_X8 rfl) 16 4 _ _ _ _ ?_
    simp (disch := omega) only [↓reduceIte, jx_wp, jx_stp, jx_f0, jx_f1, jx_f2, jx_f3, List.getElem?_cons_zero, List.getElem?_cons_succ, List.set_cons_zero, List.set_cons_succ, Nat.reduceAdd, true_and, and_true, if_true, if_false, Bool.false_eq_true, jx_s, Nat.reduceLT, dX8_askMissing_0, dX8_askMissing_1, dX8_askMissing_2, dX8_askMissing_5, dX8_askMissing_6, dX8_askMissing_9, dX8_askMissing_10, dX8_askMissing_11, dX8_askMissing_12, dX8_askMissing_13, dX8_askMissing_14, dX8_askMissing_16, dX8_askMissing_18, dX8_askMissing_19, dX8_askMissing_22, dX8_askMissing_25, dX8_askMissing_26, dX8_askMissing_28, dX8_askMissing_31, dX8_askMissing_34, dX8_askMissing_35, dX8_askMissing_38, dX8_askMissing_39, dX8_askMissing_40, dX8_askMissing_43, dX8_askMissing_45, dX8_askMissing_46, dX8_askMissing_49, dX8_askMissing_50, dX8_askMissing_53, dX8_askMissing_56, dX8_askMissing_58, dX8_askMissing_59, dX8_askMissing_60, dX8_askMissing_62, dX8_askMissing_65, dX8_askMissing_68, dX8_askMissing_71, dX8_askMissing_72, dX8_askMissing_73, dX8_askMissing_76, dX8_askMissing_77, dX8_askMissing_78, dX8_askMissing_81, fl_X8_183, ft_2_8, jx_km1, jx_k0, fl_X8_65, ft_9_5, tg_22_49, tg_31_34, fl_X8_24, ft_9_2, fl_X8_259, ft_2_0, fl_X8_69, ft_2_1, jx_k1, tg_68_m52, fw_X8_183, jx_wq, jx_stq, jx_ite, jx_b0, jx_bn0, jx_u_eq, jx_u_na, jx_u_ni, jx_nb0, jx_nb1, jx_ni, jx_E, eq_self, jx_a0, jx_a1, ne_eq, not_false_eq_true, Nat.reduceLeDiff, Nat.reduceEqDiff, Nat.reduceLT, jx_subl, jx_al, jx_la, jx_nm, jx_ml, nI_add, jx_xn, jx_xl, jx_inn, jx_inl, jx_ltnn, jx_lenn, jx_eqnn, jx_ltnl, jx_lenl, jx_ltln, jx_leln, jx_eqnl, Int32.reduceAdd, Int32.reduceSub, Int32.reduceMul, Int32.reduceLT, Int32.reduceLE, jx_eqll, jx_ltll, Nat.reduceMul, Nat.reduceSub, forall_const, implies_true, false_implies, not_true_eq_false, true_implies, jx_tko, jx_ofn, jx_tka, jx_pro, jx_pra, and_self, Nat.not_lt_zero, jx_nbb, fv_2_8, hbit]
    refine kk n ms K I P _ ?_
    unfold mo_a1
    rw [if_pos hbit]
    exact hR
  · refine jx_gq flok_X8 (fwok_X8 rfl) 16 5 _ _ _ _ ?_
    simp (disch := omega) only [↓reduceIte, jx_wp, jx_stp, jx_f0, jx_f1, jx_f2, jx_f3, List.getElem?_cons_zero, List.getElem?_cons_succ, List.set_cons_zero, List.set_cons_succ, Nat.reduceAdd, true_and, and_true, if_true, if_false, Bool.false_eq_true, jx_s, Nat.reduceLT, dX8_askMissing_0, dX8_askMissing_1, dX8_askMissing_2, dX8_askMissing_5, dX8_askMissing_6, dX8_askMissing_9, dX8_askMissing_10, dX8_askMissing_11, dX8_askMissing_12, dX8_askMissing_13, dX8_askMissing_14, dX8_askMissing_16, dX8_askMissing_18, dX8_askMissing_19, dX8_askMissing_22, dX8_askMissing_25, dX8_askMissing_26, dX8_askMissing_28, dX8_askMissing_31, dX8_askMissing_34, dX8_askMissing_35, dX8_askMissing_38, dX8_askMissing_39, dX8_askMissing_40, dX8_askMissing_43, dX8_askMissing_45, dX8_askMissing_46, dX8_askMissing_49, dX8_askMissing_50, dX8_askMissing_53, dX8_askMissing_56, dX8_askMissing_58, dX8_askMissing_59, dX8_askMissing_60, dX8_askMissing_62, dX8_askMissing_65, dX8_askMissing_68, dX8_askMissing_71, dX8_askMissing_72, dX8_askMissing_73, dX8_askMissing_76, dX8_askMissing_77, dX8_askMissing_78, dX8_askMissing_81, fl_X8_183, ft_2_8, jx_km1, jx_k0, fl_X8_65, ft_9_5, tg_22_49, tg_31_34, fl_X8_24, ft_9_2, fl_X8_259, ft_2_0, fl_X8_69, ft_2_1, jx_k1, tg_68_m52, fw_X8_183, jx_wq, jx_stq, jx_ite, jx_b0, jx_bn0, jx_u_eq, jx_u_na, jx_u_ni, jx_nb0, jx_nb1, jx_ni, jx_E, eq_self, jx_a0, jx_a1, ne_eq, not_false_eq_true, Nat.reduceLeDiff, Nat.reduceEqDiff, Nat.reduceLT, jx_subl, jx_al, jx_la, jx_nm, jx_ml, nI_add, jx_xn, jx_xl, jx_inn, jx_inl, jx_ltnn, jx_lenn, jx_eqnn, jx_ltnl, jx_lenl, jx_ltln, jx_leln, jx_eqnl, Int32.reduceAdd, Int32.reduceSub, Int32.reduceMul, Int32.reduceLT, Int32.reduceLE, jx_eqll, jx_ltll, Nat.reduceMul, Nat.reduceSub, forall_const, implies_true, false_implies, not_true_eq_false, true_implies, jx_tko, jx_ofn, jx_tka, jx_pro, jx_pra, and_self, Nat.not_lt_zero, jx_nbb, fv_2_8, hbit, g0, g5]
    refine jx_cV1 dX8_askMissing_40 li_X8_337 (cn_qk2 hC hA1 hs1) (congrArg Prod.fst c0) (Nat.le_of_ble_eq_true rfl) (Nat.le_of_ble_eq_true rfl) ?_
    rintro _ _ ⟨rfl, rfl⟩ - -
    simp only [Option.toList_some, Option.toList_none, List.cons_append, List.nil_append]
    rw [show (if I (78 + 5 * c) 7 = 1 then (2 : Int32) else 3) = 3 from by rw [hp1]; rfl]
    refine jx_gq flok_X8 (fwok_X8 rfl) 16 6 _ _ _ _ ?_
    simp (disch := omega) only [↓reduceIte, jx_wp, jx_stp, jx_f0, jx_f1, jx_f2, jx_f3, List.getElem?_cons_zero, List.getElem?_cons_succ, List.set_cons_zero, List.set_cons_succ, Nat.reduceAdd, true_and, and_true, if_true, if_false, Bool.false_eq_true, jx_s, Nat.reduceLT, dX8_askMissing_0, dX8_askMissing_1, dX8_askMissing_2, dX8_askMissing_5, dX8_askMissing_6, dX8_askMissing_9, dX8_askMissing_10, dX8_askMissing_11, dX8_askMissing_12, dX8_askMissing_13, dX8_askMissing_14, dX8_askMissing_16, dX8_askMissing_18, dX8_askMissing_19, dX8_askMissing_22, dX8_askMissing_25, dX8_askMissing_26, dX8_askMissing_28, dX8_askMissing_31, dX8_askMissing_34, dX8_askMissing_35, dX8_askMissing_38, dX8_askMissing_39, dX8_askMissing_40, dX8_askMissing_43, dX8_askMissing_45, dX8_askMissing_46, dX8_askMissing_49, dX8_askMissing_50, dX8_askMissing_53, dX8_askMissing_56, dX8_askMissing_58, dX8_askMissing_59, dX8_askMissing_60, dX8_askMissing_62, dX8_askMissing_65, dX8_askMissing_68, dX8_askMissing_71, dX8_askMissing_72, dX8_askMissing_73, dX8_askMissing_76, dX8_askMissing_77, dX8_askMissing_78, dX8_askMissing_81, fl_X8_183, ft_2_8, jx_km1, jx_k0, fl_X8_65, ft_9_5, tg_22_49, tg_31_34, fl_X8_24, ft_9_2, fl_X8_259, ft_2_0, fl_X8_69, ft_2_1, jx_k1, tg_68_m52, fw_X8_183, jx_wq, jx_stq, jx_ite, jx_b0, jx_bn0, jx_u_eq, jx_u_na, jx_u_ni, jx_nb0, jx_nb1, jx_ni, jx_E, eq_self, jx_a0, jx_a1, ne_eq, not_false_eq_true, Nat.reduceLeDiff, Nat.reduceEqDiff, Nat.reduceLT, jx_subl, jx_al, jx_la, jx_nm, jx_ml, nI_add, jx_xn, jx_xl, jx_inn, jx_inl, jx_ltnn, jx_lenn, jx_eqnn, jx_ltnl, jx_lenl, jx_ltln, jx_leln, jx_eqnl, Int32.reduceAdd, Int32.reduceSub, Int32.reduceMul, Int32.reduceLT, Int32.reduceLE, jx_eqll, jx_ltll, Nat.reduceMul, Nat.reduceSub, forall_const, implies_true, false_implies, not_true_eq_false, true_implies, jx_tko, jx_ofn, jx_tka, jx_pro, jx_pra, and_self, Nat.not_lt_zero, jx_nbb, fv_2_8, c0, d1, s0]
    refine jx_cV4 dX8_askMissing_53 li_X8_286 (bg_post c1 d4 c2' (by omega) (by omega) (by omega) bg (by omega) (by omega) (by omega)) (congrArg Prod.fst bf.1) (Nat.le_of_ble_eq_true rfl) (Nat.le_of_ble_eq_true rfl) ?_
    rintro _ _ ⟨p, z2, m2, ms2, K2, I2, P2, e3, c3', rfl, rfl, hK2, hz, hcon, h6, hKK, hII, hPP, -, hn, hm⟩ hnn -
    simp only [Option.toList_some, Option.toList_none, List.cons_append, List.nil_append]
    have hnn : n ≤ m2 := hnn
    have hk2 := hK2
    obtain ⟨-, w1, -, -, w2, -, -, w140⟩ := hk2
    obtain ⟨wp, wp1, wp2⟩ := w2 x (by omega)
    rw [ls_up_eq] at wp wp1 wp2
    have hC2 : ob_C K2 P2 (78 + 5 * c) := ob_C_to hC (fun a h1 h2 => hKK a (by omega)) (fun a j h1 h2 h3 => hPP a j (by omega) (by omega) (by omega) (by have := bl.2.2.2.2.2.2.2; omega) (by have := bl2.2.2.2.2.2.2.2; omega))
    have hA5 : K2 (A o') = (5, 9) := by rw [hKK _ hA3, hA1]
    have hAp : A o' < p ∨ p + 5 ≤ A o' := by
      obtain ⟨k0, k1, k2, k3, k4, -⟩ := wp
      have r0 : A o' ≠ p := fun h => by rw [h, k0] at hA5; simp at hA5
      have r1 : A o' ≠ p + 1 := fun h => by rw [h, k1] at hA5; simp at hA5
      have r2 : A o' ≠ p + 2 := fun h => by rw [h, k2] at hA5; simp at hA5
      have r3 : A o' ≠ p + 3 := fun h => by rw [h, k3] at hA5; simp at hA5
      have r4 : A o' ≠ p + 4 := fun h => by rw [h, k4] at hA5; simp at hA5
      omega
    have hIc : ∀ b j, 78 ≤ b → b < 98 → I2 b j = I b j := fun b j h1 h2 => hII b j (by omega) (by omega) (by omega) (by omega) (by omega)
    have hIa : ∀ j, I2 (A o') j = I (A o') j := fun j => hII _ j hA3 (by omega) (by omega) (by omega) hAp
    obtain ⟨t3, t4, t5, t6, t7, t8, tz, tm⟩ := hcon
    have c02 := hC2.1
    refine jx_gq flok_X8 (fwok_X8 rfl) 16 4 _ _ _ _ ?_
    simp (disch := omega) only [↓reduceIte, jx_wp, jx_stp, jx_f0, jx_f1, jx_f2, jx_f3, List.getElem?_cons_zero, List.getElem?_cons_succ, List.set_cons_zero, List.set_cons_succ, Nat.reduceAdd, true_and, and_true, if_true, if_false, Bool.false_eq_true, jx_s, Nat.reduceLT, dX8_askMissing_0, dX8_askMissing_1, dX8_askMissing_2, dX8_askMissing_5, dX8_askMissing_6, dX8_askMissing_9, dX8_askMissing_10, dX8_askMissing_11, dX8_askMissing_12, dX8_askMissing_13, dX8_askMissing_14, dX8_askMissing_16, dX8_askMissing_18, dX8_askMissing_19, dX8_askMissing_22, dX8_askMissing_25, dX8_askMissing_26, dX8_askMissing_28, dX8_askMissing_31, dX8_askMissing_34, dX8_askMissing_35, dX8_askMissing_38, dX8_askMissing_39, dX8_askMissing_40, dX8_askMissing_43, dX8_askMissing_45, dX8_askMissing_46, dX8_askMissing_49, dX8_askMissing_50, dX8_askMissing_53, dX8_askMissing_56, dX8_askMissing_58, dX8_askMissing_59, dX8_askMissing_60, dX8_askMissing_62, dX8_askMissing_65, dX8_askMissing_68, dX8_askMissing_71, dX8_askMissing_72, dX8_askMissing_73, dX8_askMissing_76, dX8_askMissing_77, dX8_askMissing_78, dX8_askMissing_81, fl_X8_183, ft_2_8, jx_km1, jx_k0, fl_X8_65, ft_9_5, tg_22_49, tg_31_34, fl_X8_24, ft_9_2, fl_X8_259, ft_2_0, fl_X8_69, ft_2_1, jx_k1, tg_68_m52, fw_X8_183, jx_wq, jx_stq, jx_ite, jx_b0, jx_bn0, jx_u_eq, jx_u_na, jx_u_ni, jx_nb0, jx_nb1, jx_ni, jx_E, eq_self, jx_a0, jx_a1, ne_eq, not_false_eq_true, Nat.reduceLeDiff, Nat.reduceEqDiff, Nat.reduceLT, jx_subl, jx_al, jx_la, jx_nm, jx_ml, nI_add, jx_xn, jx_xl, jx_inn, jx_inl, jx_ltnn, jx_lenn, jx_eqnn, jx_ltnl, jx_lenl, jx_ltln, jx_leln, jx_eqnl, Int32.reduceAdd, Int32.reduceSub, Int32.reduceMul, Int32.reduceLT, Int32.reduceLE, jx_eqll, jx_ltll, Nat.reduceMul, Nat.reduceSub, forall_const, implies_true, false_implies, not_true_eq_false, true_implies, jx_tko, jx_ofn, jx_tka, jx_pro, jx_pra, and_self, Nat.not_lt_zero, jx_nbb, fv_2_8]
    refine jx_cV2 dX8_askMissing_62 li_X8_340 (cn_fq3 hC2 hA5 wp (by omega) (by omega) (by rw [hIa]; exact hs1) t3) (congrArg Prod.fst c02) (Nat.le_of_ble_eq_true rfl) (Nat.le_of_ble_eq_true rfl) ?_
    rintro _ _ ⟨rfl, rfl⟩ - -
    simp only [Option.toList_some, Option.toList_none, List.cons_append, List.nil_append]
    refine jx_gq flok_X8 (fwok_X8 rfl) 16 3 _ _ _ _ ?_
    simp (disch := omega) only [↓reduceIte, jx_wp, jx_stp, jx_f0, jx_f1, jx_f2, jx_f3, List.getElem?_cons_zero, List.getElem?_cons_succ, List.set_cons_zero, List.set_cons_succ, Nat.reduceAdd, true_and, and_true, if_true, if_false, Bool.false_eq_true, jx_s, Nat.reduceLT, dX8_askMissing_0, dX8_askMissing_1, dX8_askMissing_2, dX8_askMissing_5, dX8_askMissing_6, dX8_askMissing_9, dX8_askMissing_10, dX8_askMissing_11, dX8_askMissing_12, dX8_askMissing_13, dX8_askMissing_14, dX8_askMissing_16, dX8_askMissing_18, dX8_askMissing_19, dX8_askMissing_22, dX8_askMissing_25, dX8_askMissing_26, dX8_askMissing_28, dX8_askMissing_31, dX8_askMissing_34, dX8_askMissing_35, dX8_askMissing_38, dX8_askMissing_39, dX8_askMissing_40, dX8_askMissing_43, dX8_askMissing_45, dX8_askMissing_46, dX8_askMissing_49, dX8_askMissing_50, dX8_askMissing_53, dX8_askMissing_56, dX8_askMissing_58, dX8_askMissing_59, dX8_askMissing_60, dX8_askMissing_62, dX8_askMissing_65, dX8_askMissing_68, dX8_askMissing_71, dX8_askMissing_72, dX8_askMissing_73, dX8_askMissing_76, dX8_askMissing_77, dX8_askMissing_78, dX8_askMissing_81, fl_X8_183, ft_2_8, jx_km1, jx_k0, fl_X8_65, ft_9_5, tg_22_49, tg_31_34, fl_X8_24, ft_9_2, fl_X8_259, ft_2_0, fl_X8_69, ft_2_1, jx_k1, tg_68_m52, fw_X8_183, jx_wq, jx_stq, jx_ite, jx_b0, jx_bn0, jx_u_eq, jx_u_na, jx_u_ni, jx_nb0, jx_nb1, jx_ni, jx_E, eq_self, jx_a0, jx_a1, ne_eq, not_false_eq_true, Nat.reduceLeDiff, Nat.reduceEqDiff, Nat.reduceLT, jx_subl, jx_al, jx_la, jx_nm, jx_ml, nI_add, jx_xn, jx_xl, jx_inn, jx_inl, jx_ltnn, jx_lenn, jx_eqnn, jx_ltnl, jx_lenl, jx_ltln, jx_leln, jx_eqnl, Int32.reduceAdd, Int32.reduceSub, Int32.reduceMul, Int32.reduceLT, Int32.reduceLE, jx_eqll, jx_ltll, Nat.reduceMul, Nat.reduceSub, forall_const, implies_true, false_implies, not_true_eq_false, true_implies, jx_tko, jx_ofn, jx_tka, jx_pro, jx_pra, and_self, Nat.not_lt_zero, jx_nbb, fv_2_8]
    refine kk _ _ _ _ _ _ ?_
    have hsb : I2 (78 + 5 * c) 11 = J 134 c := by rw [hIc _ _ (by omega) (by omega), (q6 hs).2.1]
    have hj : mo_a1 J c o' y s = mo_fi J (mo_ly J x 3 (nI s) (nI c) (J 129 c) (J 134 c) (7 + c)) c o' x := by
      unfold mo_a1
      rw [if_neg hbit, e31]
      congr 2
      · unfold mo_kd
        simp [hs, hp]
      · unfold mo_sb
        simp [hs]
    rw [hj]
    obtain ⟨u1, u2, u3, u4, u5⟩ := @mo_fi_fr J x s c (7 + c) o' 3 (J 129 c) (J 134 c)
    have M0 : mgs (cn_f0 I2 (78 + 5 * c) p (I2 (78 + 5 * c) 11)) p (mo_ly J x 3 (nI s) (nI c) (J 129 c) (J 134 c) (7 + c)) x := by
      refine mgs_ly ?_ ?_ ?_ ?_ ?_ ?_ (fun j hj => ?_) (fun j hj => ?_)
      · unfold cn_f0
        simp (disch := omega) only [jx_u_ni, t3]
      · unfold cn_f0
        simp (disch := omega) only [jx_u_ni, t4]
      · unfold cn_f0
        simp (disch := omega) only [jx_u_ni, t5]
      · unfold cn_f0
        simp (disch := omega) only [jx_u_ni, jx_u_eq]
        rw [hIc _ _ (by omega) (by omega), s2]
      · unfold cn_f0
        simp (disch := omega) only [jx_u_eq, hsb]
      · unfold cn_f0
        simp (disch := omega) only [jx_u_ni, t8]
      · unfold cn_f0
        simp (disch := omega) only [jx_u_na]
        exact tz j hj
      · unfold cn_f0
        simp (disch := omega) only [jx_u_na]
        rw [tm j hj, s3 j hj]
    refine rl_put hN hB hT hX hag (by omega) hK2 hz h6 hKK hII hPP hn hm (fun b j hb => ?_) ?_ u1 u2 u3 u4 u5 (by omega)
    · rw [cn_f1_na hb, cn_f0_na hb]
    · unfold mo_fi
      simp only [hs, hp, show ¬ ((2 : Int32) = 0 ∨ (2 : Int32) = 1) from by decide, if_true, if_false]
      rw [hIc (78 + 5 * c) 10 (by omega) (by omega), hIc (78 + 5 * c + 4) 0 (by omega) (by omega), (q6 hs).1, q5 hs hp]
      exact mgs_u0 M0
set_option maxHeartbeats 4000000 in
set_option maxRecDepth 100000 in
theorem am_m1 {G : jx_G} {n ms : Nat} {K : Nat → Nat × Nat} {I : Nat → Nat → Int32} {P : Nat → Nat → Option Nat} {J : Nat → Nat → Int32} {B h : Nat} {A : Nat → Nat} {T : Nat → Prop} {X : Nat → Nat → Int32} {Q : Option jx_V → jx_M → Prop} {c o s q : Nat} {y : Int32} (hR : rl n ms K I P J B A h T X) (ha : am_h J B c o q h) (hs : J 119 o = 3) (hp : J 132 c = 1) (hsq : s < q) (hx : ∀ x, J 98 9 = nI x → x ≤ 16000 → x + h + 1 ≤ 15999) (kk : ∀ n2 ms2 K2 I2 P2 x5, rl n2 ms2 K2 I2 P2 (mo_a1 J c o y s) B A h T X → jx_J G yX8_askMissing cX8_askMissing 6 none 8 (Q) 16 [some (.inr (some 3)), some (.inr (some (78 + 5 * c))), some (.inr (some (A o))), some (.inl y), some (.inl (nI (s + 1))), x5] [] (n2, ms2, K2, I2, P2)) : ∀ x5, jx_J G yX8_askMissing cX8_askMissing 6 none 8 (Q) 16 [some (.inr (some 3)), some (.inr (some (78 + 5 * c))), some (.inr (some (A o))), some (.inl y), some (.inl (nI s)), x5] [] (n, ms, K, I, P) := by
  intro x5
  obtain ⟨hN, ⟨L, x, S, z, e, cc, e2, c2, hB, hT⟩, hX, hag⟩ := id hR
  obtain ⟨hc, ho, hd, hq, hq7, -, -, hm3⟩ := ha
  obtain ⟨n0, n1, n2, n3, n4, n5, n6⟩ := id hN
  obtain ⟨g0, g1, g2, g3, g4, g5, g6, g7, g8, g9, g10⟩ := id n0
  have hC := (g9 c hc).2
  obtain ⟨c0, c1, c2', c3, c4, d1, d2, d3, d4⟩ := id hC
  obtain ⟨hcs, hct⟩ := n4 c hc
  obtain ⟨s0, s1, s2, s3⟩ := id hcs
  have hB60 : B ≤ 60 := n5.1
  obtain ⟨o', ho', hd', hP4, hco⟩ := hct.resolve_left (fun q => by have q2 := hd.symm.trans q.1; rw [jx_m1 (by omega)] at q2; exact q2)
  have eo : o' = o := by
    have := hd.symm.trans hd'
    rw [jx_eqnn (by omega) (by omega)] at this
    exact this.symm
  subst eo
  obtain ⟨lo1, lo2⟩ := n5.2.2.2.2.2.2 o' ho
  obtain ⟨hA1, hA2, hA3, hA4⟩ := n5.2.2.2.2.2.1 o' _ (by omega) lo1
  obtain ⟨q0, q1, q2, q3, q4, q5, q6, q7, q8⟩ := id hco
  have hB' := hB
  obtain ⟨bg, bj, -, -, bb, bn, bm⟩ := hB'
  obtain ⟨bf, bl, bl2, bee, bmi, bms, bdj, b140⟩ := id bg
  have hx9 := hx x bj (by omega)
  have cb1 := bl.2.2.2.2.1
  have cb2 := bl2.2.2.2.2.1
  have hqs : ¬ q ≤ s := by omega
  have n65 : I 3 5 = nI q := n6.trans hq
  have hs1 : I (A o') 1 = 3 := by rw [lo2.1]; exact hs
  have hp1 : I (78 + 5 * c) 7 = 1 := q0.trans hp
  have e31 : (jx_x (J 98 9)) = x := by rw [bj]; exact jx_xn (by omega)
  have n2' : ¬ J 119 o' = 2 := by rw [hs]; decide
  refine jx_gq flok_X8 (fwok_X8 rfl) 16 7 _ _ _ _ ?_
  simp (disch := omega) only [↓reduceIte, jx_wp, jx_stp, jx_f0, jx_f1, jx_f2, jx_f3, List.getElem?_cons_zero, List.getElem?_cons_succ, List.set_cons_zero, List.set_cons_succ, Nat.reduceAdd, true_and, and_true, if_true, if_false, Bool.false_eq_true, jx_s, Nat.reduceLT, dX8_askMissing_0, dX8_askMissing_1, dX8_askMissing_2, dX8_askMissing_5, dX8_askMissing_6, dX8_askMissing_9, dX8_askMissing_10, dX8_askMissing_11, dX8_askMissing_12, dX8_askMissing_13, dX8_askMissing_14, dX8_askMissing_16, dX8_askMissing_18, dX8_askMissing_19, dX8_askMissing_22, dX8_askMissing_25, dX8_askMissing_26, dX8_askMissing_28, dX8_askMissing_31, dX8_askMissing_34, dX8_askMissing_35, dX8_askMissing_38, dX8_askMissing_39, dX8_askMissing_40, dX8_askMissing_43, dX8_askMissing_45, dX8_askMissing_46, dX8_askMissing_49, dX8_askMissing_50, dX8_askMissing_53, dX8_askMissing_56, dX8_askMissing_58, dX8_askMissing_59, dX8_askMissing_60, dX8_askMissing_62, dX8_askMissing_65, dX8_askMissing_68, dX8_askMissing_71, dX8_askMissing_72, dX8_askMissing_73, dX8_askMissing_76, dX8_askMissing_77, dX8_askMissing_78, dX8_askMissing_81, fl_X8_183, ft_2_8, jx_km1, jx_k0, fl_X8_65, ft_9_5, tg_22_49, tg_31_34, fl_X8_24, ft_9_2, fl_X8_259, ft_2_0, fl_X8_69, ft_2_1, jx_k1, tg_68_m52, fw_X8_183, jx_wq, jx_stq, jx_ite, jx_b0, jx_bn0, jx_u_eq, jx_u_na, jx_u_ni, jx_nb0, jx_nb1, jx_ni, jx_E, eq_self, jx_a0, jx_a1, ne_eq, not_false_eq_true, Nat.reduceLeDiff, Nat.reduceEqDiff, Nat.reduceLT, jx_subl, jx_al, jx_la, jx_nm, jx_ml, nI_add, jx_xn, jx_xl, jx_inn, jx_inl, jx_ltnn, jx_lenn, jx_eqnn, jx_ltnl, jx_lenl, jx_ltln, jx_leln, jx_eqnl, Int32.reduceAdd, Int32.reduceSub, Int32.reduceMul, Int32.reduceLT, Int32.reduceLE, jx_eqll, jx_ltll, Nat.reduceMul, Nat.reduceSub, forall_const, implies_true, false_implies, not_true_eq_false, true_implies, jx_tko, jx_ofn, jx_tka, jx_pro, jx_pra, and_self, Nat.not_lt_zero, jx_nbb, fv_2_8, g0, g5, n65, hqs]
  refine jx_cS2 dX8_askMissing_28 li_X8_334 (cl_isIn) (Nat.le_of_ble_eq_true rfl) (Nat.le_of_ble_eq_true rfl) ?_
  rintro _ _ ⟨rfl, rfl⟩ - -
  simp only [Option.toList_some, Option.toList_none, List.cons_append, List.nil_append]
  by_cases hbit : y >>> (nI s &&& 31) &&& 1 = 0
  · refine jx_gq flok_X8 (fwok_X8 rfl) 16 4 _ _ _ _ ?_
    simp (disch := omega) only [↓reduceIte, jx_wp, jx_stp, jx_f0, jx_f1, jx_f2, jx_f3, List.getElem?_cons_zero, List.getElem?_cons_succ, List.set_cons_zero, List.set_cons_succ, Nat.reduceAdd, true_and, and_true, if_true, if_false, Bool.false_eq_true, jx_s, Nat.reduceLT, dX8_askMissing_0, dX8_askMissing_1, dX8_askMissing_2, dX8_askMissing_5, dX8_askMissing_6, dX8_askMissing_9, dX8_askMissing_10, dX8_askMissing_11, dX8_askMissing_12, dX8_askMissing_13, dX8_askMissing_14, dX8_askMissing_16, dX8_askMissing_18, dX8_askMissing_19, dX8_askMissing_22, dX8_askMissing_25, dX8_askMissing_26, dX8_askMissing_28, dX8_askMissing_31, dX8_askMissing_34, dX8_askMissing_35, dX8_askMissing_38, dX8_askMissing_39, dX8_askMissing_40, dX8_askMissing_43, dX8_askMissing_45, dX8_askMissing_46, dX8_askMissing_49, dX8_askMissing_50, dX8_askMissing_53, dX8_askMissing_56, dX8_askMissing_58, dX8_askMissing_59, dX8_askMissing_60, dX8_askMissing_62, dX8_askMissing_65, dX8_askMissing_68, dX8_askMissing_71, dX8_askMissing_72, dX8_askMissing_73, dX8_askMissing_76, dX8_askMissing_77, dX8_askMissing_78, dX8_askMissing_81, fl_X8_183, ft_2_8, jx_km1, jx_k0, fl_X8_65, ft_9_5, tg_22_49, tg_31_34, fl_X8_24, ft_9_2, fl_X8_259, ft_2_0, fl_X8_69, ft_2_1, jx_k1, tg_68_m52, fw_X8_183, jx_wq, jx_stq, jx_ite, jx_b0, jx_bn0, jx_u_eq, jx_u_na, jx_u_ni, jx_nb0, jx_nb1, jx_ni, jx_E, eq_self, jx_a0, jx_a1, ne_eq, not_false_eq_true, Nat.reduceLeDiff, Nat.reduceEqDiff, Nat.reduceLT, jx_subl, jx_al, jx_la, jx_nm, jx_ml, nI_add, jx_xn, jx_xl, jx_inn, jx_inl, jx_ltnn, jx_lenn, jx_eqnn, jx_ltnl, jx_lenl, jx_ltln, jx_leln, jx_eqnl, Int32.reduceAdd, Int32.reduceSub, Int32.reduceMul, Int32.reduceLT, Int32.reduceLE, jx_eqll, jx_ltll, Nat.reduceMul, Nat.reduceSub, forall_const, implies_true, false_implies, not_true_eq_false, true_implies, jx_tko, jx_ofn, jx_tka, jx_pro, jx_pra, and_self, Nat.not_lt_zero, jx_nbb, fv_2_8, hbit]
    refine kk n ms K I P _ ?_
    unfold mo_a1
    rw [if_pos hbit]
    exact hR
  · refine jx_gq flok_X8 (fwok_X8 rfl) 16 5 _ _ _ _ ?_
    simp (disch := omega) only [↓reduceIte, jx_wp, jx_stp, jx_f0, jx_f1, jx_f2, jx_f3, List.getElem?_cons_zero, List.getElem?_cons_succ, List.set_cons_zero, List.set_cons_succ, Nat.reduceAdd, true_and, and_true, if_true, if_false, Bool.false_eq_true, jx_s, Nat.reduceLT, dX8_askMissing_0, dX8_askMissing_1, dX8_askMissing_2, dX8_askMissing_5, dX8_askMissing_6, dX8_askMissing_9, dX8_askMissing_10, dX8_askMissing_11, dX8_askMissing_12, dX8_askMissing_13, dX8_askMissing_14, dX8_askMissing_16, dX8_askMissing_18, dX8_askMissing_19, dX8_askMissing_22, dX8_askMissing_25, dX8_askMissing_26, dX8_askMissing_28, dX8_askMissing_31, dX8_askMissing_34, dX8_askMissing_35, dX8_askMissing_38, dX8_askMissing_39, dX8_askMissing_40, dX8_askMissing_43, dX8_askMissing_45, dX8_askMissing_46, dX8_askMissing_49, dX8_askMissing_50, dX8_askMissing_53, dX8_askMissing_56, dX8_askMissing_58, dX8_askMissing_59, dX8_askMissing_60, dX8_askMissing_62, dX8_askMissing_65, dX8_askMissing_68, dX8_askMissing_71, dX8_askMissing_72, dX8_askMissing_73, dX8_askMissing_76, dX8_askMissing_77, dX8_askMissing_78, dX8_askMissing_81, fl_X8_183, ft_2_8, jx_km1, jx_k0, fl_X8_65, ft_9_5, tg_22_49, tg_31_34, fl_X8_24, ft_9_2, fl_X8_259, ft_2_0, fl_X8_69, ft_2_1, jx_k1, tg_68_m52, fw_X8_183, jx_wq, jx_stq, jx_ite, jx_b0, jx_bn0, jx_u_eq, jx_u_na, jx_u_ni, jx_nb0, jx_nb1, jx_ni, jx_E, eq_self, jx_a0, jx_a1, ne_eq, not_false_eq_true, Nat.reduceLeDiff, Nat.reduceEqDiff, Nat.reduceLT, jx_subl, jx_al, jx_la, jx_nm, jx_ml, nI_add, jx_xn, jx_xl, jx_inn, jx_inl, jx_ltnn, jx_lenn, jx_eqnn, jx_ltnl, jx_lenl, jx_ltln, jx_leln, jx_eqnl, Int32.reduceAdd, Int32.reduceSub, Int32.reduceMul, Int32.reduceLT, Int32.reduceLE, jx_eqll, jx_ltll, Nat.reduceMul, Nat.reduceSub, forall_const, implies_true, false_implies, not_true_eq_false, true_implies, jx_tko, jx_ofn, jx_tka, jx_pro, jx_pra, and_self, Nat.not_lt_zero, jx_nbb, fv_2_8, hbit, g0, g5]
    refine jx_cV1 dX8_askMissing_40 li_X8_337 (cn_qk3 hC hA1 hs1) (congrArg Prod.fst c0) (Nat.le_of_ble_eq_true rfl) (Nat.le_of_ble_eq_true rfl) ?_
    rintro _ _ ⟨rfl, rfl⟩ - -
    simp only [Option.toList_some, Option.toList_none, List.cons_append, List.nil_append]
    rw [show (if I (78 + 5 * c) 7 = 1 then (4 : Int32) else 5) = 4 from by rw [hp1]; rfl]
    refine jx_gq flok_X8 (fwok_X8 rfl) 16 6 _ _ _ _ ?_
    simp (disch := omega) only [↓reduceIte, jx_wp, jx_stp, jx_f0, jx_f1, jx_f2, jx_f3, List.getElem?_cons_zero, List.getElem?_cons_succ, List.set_cons_zero, List.set_cons_succ, Nat.reduceAdd, true_and, and_true, if_true, if_false, Bool.false_eq_true, jx_s, Nat.reduceLT, dX8_askMissing_0, dX8_askMissing_1, dX8_askMissing_2, dX8_askMissing_5, dX8_askMissing_6, dX8_askMissing_9, dX8_askMissing_10, dX8_askMissing_11, dX8_askMissing_12, dX8_askMissing_13, dX8_askMissing_14, dX8_askMissing_16, dX8_askMissing_18, dX8_askMissing_19, dX8_askMissing_22, dX8_askMissing_25, dX8_askMissing_26, dX8_askMissing_28, dX8_askMissing_31, dX8_askMissing_34, dX8_askMissing_35, dX8_askMissing_38, dX8_askMissing_39, dX8_askMissing_40, dX8_askMissing_43, dX8_askMissing_45, dX8_askMissing_46, dX8_askMissing_49, dX8_askMissing_50, dX8_askMissing_53, dX8_askMissing_56, dX8_askMissing_58, dX8_askMissing_59, dX8_askMissing_60, dX8_askMissing_62, dX8_askMissing_65, dX8_askMissing_68, dX8_askMissing_71, dX8_askMissing_72, dX8_askMissing_73, dX8_askMissing_76, dX8_askMissing_77, dX8_askMissing_78, dX8_askMissing_81, fl_X8_183, ft_2_8, jx_km1, jx_k0, fl_X8_65, ft_9_5, tg_22_49, tg_31_34, fl_X8_24, ft_9_2, fl_X8_259, ft_2_0, fl_X8_69, ft_2_1, jx_k1, tg_68_m52, fw_X8_183, jx_wq, jx_stq, jx_ite, jx_b0, jx_bn0, jx_u_eq, jx_u_na, jx_u_ni, jx_nb0, jx_nb1, jx_ni, jx_E, eq_self, jx_a0, jx_a1, ne_eq, not_false_eq_true, Nat.reduceLeDiff, Nat.reduceEqDiff, Nat.reduceLT, jx_subl, jx_al, jx_la, jx_nm, jx_ml, nI_add, jx_xn, jx_xl, jx_inn, jx_inl, jx_ltnn, jx_lenn, jx_eqnn, jx_ltnl, jx_lenl, jx_ltln, jx_leln, jx_eqnl, Int32.reduceAdd, Int32.reduceSub, Int32.reduceMul, Int32.reduceLT, Int32.reduceLE, jx_eqll, jx_ltll, Nat.reduceMul, Nat.reduceSub, forall_const, implies_true, false_implies, not_true_eq_false, true_implies, jx_tko, jx_ofn, jx_tka, jx_pro, jx_pra, and_self, Nat.not_lt_zero, jx_nbb, fv_2_8, c0, d1, s0]
    refine jx_cV4 dX8_askMissing_53 li_X8_286 (bg_post c1 d4 c2' (by omega) (by omega) (by omega) bg (by omega) (by omega) (by omega)) (congrArg Prod.fst bf.1) (Nat.le_of_ble_eq_true rfl) (Nat.le_of_ble_eq_true rfl) ?_
    rintro _ _ ⟨p, z2, m2, ms2, K2, I2, P2, e3, c3', rfl, rfl, hK2, hz, hcon, h6, hKK, hII, hPP, -, hn, hm⟩ hnn -
    simp only [Option.toList_some, Option.toList_none, List.cons_append, List.nil_append]
    have hnn : n ≤ m2 := hnn
    have hk2 := hK2
    obtain ⟨-, w1, -, -, w2, -, -, w140⟩ := hk2
    obtain ⟨wp, wp1, wp2⟩ := w2 x (by omega)
    rw [ls_up_eq] at wp wp1 wp2
    have hC2 : ob_C K2 P2 (78 + 5 * c) := ob_C_to hC (fun a h1 h2 => hKK a (by omega)) (fun a j h1 h2 h3 => hPP a j (by omega) (by omega) (by omega) (by have := bl.2.2.2.2.2.2.2; omega) (by have := bl2.2.2.2.2.2.2.2; omega))
    have hA5 : K2 (A o') = (5, 9) := by rw [hKK _ hA3, hA1]
    have hAp : A o' < p ∨ p + 5 ≤ A o' := by
      obtain ⟨k0, k1, k2, k3, k4, -⟩ := wp
      have r0 : A o' ≠ p := fun h => by rw [h, k0] at hA5; simp at hA5
      have r1 : A o' ≠ p + 1 := fun h => by rw [h, k1] at hA5; simp at hA5
      have r2 : A o' ≠ p + 2 := fun h => by rw [h, k2] at hA5; simp at hA5
      have r3 : A o' ≠ p + 3 := fun h => by rw [h, k3] at hA5; simp at hA5
      have r4 : A o' ≠ p + 4 := fun h => by rw [h, k4] at hA5; simp at hA5
      omega
    have hIc : ∀ b j, 78 ≤ b → b < 98 → I2 b j = I b j := fun b j h1 h2 => hII b j (by omega) (by omega) (by omega) (by omega) (by omega)
    have hIa : ∀ j, I2 (A o') j = I (A o') j := fun j => hII _ j hA3 (by omega) (by omega) (by omega) hAp
    obtain ⟨t3, t4, t5, t6, t7, t8, tz, tm⟩ := hcon
    have c02 := hC2.1
    refine jx_gq flok_X8 (fwok_X8 rfl) 16 4 _ _ _ _ ?_
    simp (disch := omega) only [↓reduceIte, jx_wp, jx_stp, jx_f0, jx_f1, jx_f2, jx_f3, List.getElem?_cons_zero, List.getElem?_cons_succ, List.set_cons_zero, List.set_cons_succ, Nat.reduceAdd, true_and, and_true, if_true, if_false, Bool.false_eq_true, jx_s, Nat.reduceLT, dX8_askMissing_0, dX8_askMissing_1, dX8_askMissing_2, dX8_askMissing_5, dX8_askMissing_6, dX8_askMissing_9, dX8_askMissing_10, dX8_askMissing_11, dX8_askMissing_12, dX8_askMissing_13, dX8_askMissing_14, dX8_askMissing_16, dX8_askMissing_18, dX8_askMissing_19, dX8_askMissing_22, dX8_askMissing_25, dX8_askMissing_26, dX8_askMissing_28, dX8_askMissing_31, dX8_askMissing_34, dX8_askMissing_35, dX8_askMissing_38, dX8_askMissing_39, dX8_askMissing_40, dX8_askMissing_43, dX8_askMissing_45, dX8_askMissing_46, dX8_askMissing_49, dX8_askMissing_50, dX8_askMissing_53, dX8_askMissing_56, dX8_askMissing_58, dX8_askMissing_59, dX8_askMissing_60, dX8_askMissing_62, dX8_askMissing_65, dX8_askMissing_68, dX8_askMissing_71, dX8_askMissing_72, dX8_askMissing_73, dX8_askMissing_76, dX8_askMissing_77, dX8_askMissing_78, dX8_askMissing_81, fl_X8_183, ft_2_8, jx_km1, jx_k0, fl_X8_65, ft_9_5, tg_22_49, tg_31_34, fl_X8_24, ft_9_2, fl_X8_259, ft_2_0, fl_X8_69, ft_2_1, jx_k1, tg_68_m52, fw_X8_183, jx_wq, jx_stq, jx_ite, jx_b0, jx_bn0, jx_u_eq, jx_u_na, jx_u_ni, jx_nb0, jx_nb1, jx_ni, jx_E, eq_self, jx_a0, jx_a1, ne_eq, not_false_eq_true, Nat.reduceLeDiff, Nat.reduceEqDiff, Nat.reduceLT, jx_subl, jx_al, jx_la, jx_nm, jx_ml, nI_add, jx_xn, jx_xl, jx_inn, jx_inl, jx_ltnn, jx_lenn, jx_eqnn, jx_ltnl, jx_lenl, jx_ltln, jx_leln, jx_eqnl, Int32.reduceAdd, Int32.reduceSub, Int32.reduceMul, Int32.reduceLT, Int32.reduceLE, jx_eqll, jx_ltll, Nat.reduceMul, Nat.reduceSub, forall_const, implies_true, false_implies, not_true_eq_false, true_implies, jx_tko, jx_ofn, jx_tka, jx_pro, jx_pra, and_self, Nat.not_lt_zero, jx_nbb, fv_2_8]
    refine jx_cV2 dX8_askMissing_62 li_X8_340 (cn_fq4 hC2 hA5 wp (by omega) (by omega) (by rw [hIa]; exact hs1) t3) (congrArg Prod.fst c02) (Nat.le_of_ble_eq_true rfl) (Nat.le_of_ble_eq_true rfl) ?_
    rintro _ _ ⟨rfl, rfl⟩ - -
    simp only [Option.toList_some, Option.toList_none, List.cons_append, List.nil_append]
    refine jx_gq flok_X8 (fwok_X8 rfl) 16 3 _ _ _ _ ?_
    simp (disch := omega) only [↓reduceIte, jx_wp, jx_stp, jx_f0, jx_f1, jx_f2, jx_f3, List.getElem?_cons_zero, List.getElem?_cons_succ, List.set_cons_zero, List.set_cons_succ, Nat.reduceAdd, true_and, and_true, if_true, if_false, Bool.false_eq_true, jx_s, Nat.reduceLT, dX8_askMissing_0, dX8_askMissing_1, dX8_askMissing_2, dX8_askMissing_5, dX8_askMissing_6, dX8_askMissing_9, dX8_askMissing_10, dX8_askMissing_11, dX8_askMissing_12, dX8_askMissing_13, dX8_askMissing_14, dX8_askMissing_16, dX8_askMissing_18, dX8_askMissing_19, dX8_askMissing_22, dX8_askMissing_25, dX8_askMissing_26, dX8_askMissing_28, dX8_askMissing_31, dX8_askMissing_34, dX8_askMissing_35, dX8_askMissing_38, dX8_askMissing_39, dX8_askMissing_40, dX8_askMissing_43, dX8_askMissing_45, dX8_askMissing_46, dX8_askMissing_49, dX8_askMissing_50, dX8_askMissing_53, dX8_askMissing_56, dX8_askMissing_58, dX8_askMissing_59, dX8_askMissing_60, dX8_askMissing_62, dX8_askMissing_65, dX8_askMissing_68, dX8_askMissing_71, dX8_askMissing_72, dX8_askMissing_73, dX8_askMissing_76, dX8_askMissing_77, dX8_askMissing_78, dX8_askMissing_81, fl_X8_183, ft_2_8, jx_km1, jx_k0, fl_X8_65, ft_9_5, tg_22_49, tg_31_34, fl_X8_24, ft_9_2, fl_X8_259, ft_2_0, fl_X8_69, ft_2_1, jx_k1, tg_68_m52, fw_X8_183, jx_wq, jx_stq, jx_ite, jx_b0, jx_bn0, jx_u_eq, jx_u_na, jx_u_ni, jx_nb0, jx_nb1, jx_ni, jx_E, eq_self, jx_a0, jx_a1, ne_eq, not_false_eq_true, Nat.reduceLeDiff, Nat.reduceEqDiff, Nat.reduceLT, jx_subl, jx_al, jx_la, jx_nm, jx_ml, nI_add, jx_xn, jx_xl, jx_inn, jx_inl, jx_ltnn, jx_lenn, jx_eqnn, jx_ltnl, jx_lenl, jx_ltln, jx_leln, jx_eqnl, Int32.reduceAdd, Int32.reduceSub, Int32.reduceMul, Int32.reduceLT, Int32.reduceLE, jx_eqll, jx_ltll, Nat.reduceMul, Nat.reduceSub, forall_const, implies_true, false_implies, not_true_eq_false, true_implies, jx_tko, jx_ofn, jx_tka, jx_pro, jx_pra, and_self, Nat.not_lt_zero, jx_nbb, fv_2_8]
    refine kk _ _ _ _ _ _ ?_
    have hsb : I2 (A o') 3 = J 134 c := by rw [hIa, lo2.2.2.1, hm3 hs]
    have hj : mo_a1 J c o' y s = mo_fi J (mo_ly J x 4 (nI s) (nI c) (J 129 c) (J 134 c) (7 + c)) c o' x := by
      unfold mo_a1
      rw [if_neg hbit, e31]
      congr 2
      · unfold mo_kd
        simp [hs, hp]
      · unfold mo_sb
        simp [hs]
    rw [hj]
    obtain ⟨u1, u2, u3, u4, u5⟩ := @mo_fi_fr J x s c (7 + c) o' 4 (J 129 c) (J 134 c)
    have M0 : mgs (cn_f0 I2 (78 + 5 * c) p (I2 (A o') 3)) p (mo_ly J x 4 (nI s) (nI c) (J 129 c) (J 134 c) (7 + c)) x := by
      refine mgs_ly ?_ ?_ ?_ ?_ ?_ ?_ (fun j hj => ?_) (fun j hj => ?_)
      · unfold cn_f0
        simp (disch := omega) only [jx_u_ni, t3]
      · unfold cn_f0
        simp (disch := omega) only [jx_u_ni, t4]
      · unfold cn_f0
        simp (disch := omega) only [jx_u_ni, t5]
      · unfold cn_f0
        simp (disch := omega) only [jx_u_ni, jx_u_eq]
        rw [hIc _ _ (by omega) (by omega), s2]
      · unfold cn_f0
        simp (disch := omega) only [jx_u_eq, hsb]
      · unfold cn_f0
        simp (disch := omega) only [jx_u_ni, t8]
      · unfold cn_f0
        simp (disch := omega) only [jx_u_na]
        exact tz j hj
      · unfold cn_f0
        simp (disch := omega) only [jx_u_na]
        rw [tm j hj, s3 j hj]
    refine rl_put hN hB hT hX hag (by omega) hK2 hz h6 hKK hII hPP hn hm (fun b j hb => ?_) ?_ u1 u2 u3 u4 u5 (by omega)
    · rw [cn_f0_na hb]
    · unfold mo_fi
      simp only [hs, hp, show ¬ ((3 : Int32) = 0 ∨ (3 : Int32) = 1) from by decide, show ¬ ((3 : Int32) = 2) from by decide, show ¬ ((1 : Int32) = 2) from by decide, if_true, if_false]
      exact M0
set_option maxHeartbeats 4000000 in
set_option maxRecDepth 100000 in
theorem am_m2 {G : jx_G} {n ms : Nat} {K : Nat → Nat × Nat} {I : Nat → Nat → Int32} {P : Nat → Nat → Option Nat} {J : Nat → Nat → Int32} {B h : Nat} {A : Nat → Nat} {T : Nat → Prop} {X : Nat → Nat → Int32} {Q : Option jx_V → jx_M → Prop} {c o s q : Nat} {y : Int32} (hR : rl n ms K I P J B A h T X) (ha : am_h J B c o q h) (hs : J 119 o = 3) (hp : J 132 c = 2) (hsq : s < q) (hx : ∀ x, J 98 9 = nI x → x ≤ 16000 → x + h + 1 ≤ 15999) (kk : ∀ n2 ms2 K2 I2 P2 x5, rl n2 ms2 K2 I2 P2 (mo_a1 J c o y s) B A h T X → jx_J G yX8_askMissing cX8_askMissing 6 none 8 (Q) 16 [some (.inr (some 3)), some (.inr (some (78 + 5 * c))), some (.inr (some (A o))), some (.inl y), some (.inl (nI (s + 1))), x5] [] (n2, ms2, K2, I2, P2)) : ∀ x5, jx_J G yX8_askMissing cX8_askMissing 6 none 8 (Q) 16 [some (.inr (some 3)), some (.inr (some (78 + 5 * c))), some (.inr (some (A o))), some (.inl y), some (.inl (nI s)), x5] [] (n, ms, K, I, P) := by
  intro x5
  obtain ⟨hN, ⟨L, x, S, z, e, cc, e2, c2, hB, hT⟩, hX, hag⟩ := id hR
  obtain ⟨hc, ho, hd, hq, hq7, -, -, hm3⟩ := ha
  obtain ⟨n0, n1, n2, n3, n4, n5, n6⟩ := id hN
  obtain ⟨g0, g1, g2, g3, g4, g5, g6, g7, g8, g9, g10⟩ := id n0
  have hC := (g9 c hc).2
  obtain ⟨c0, c1, c2', c3, c4, d1, d2, d3, d4⟩ := id hC
  obtain ⟨hcs, hct⟩ := n4 c hc
  obtain ⟨s0, s1, s2, s3⟩ := id hcs
  have hB60 : B ≤ 60 := n5.1
  obtain ⟨o', ho', hd', hP4, hco⟩ := hct.resolve_left (fun q => by have q2 := hd.symm.trans q.1; rw [jx_m1 (by omega)] at q2; exact q2)
  have eo : o' = o := by
    have := hd.symm.trans hd'
    rw [jx_eqnn (by omega) (by omega)] at this
    exact this.symm
  subst eo
  obtain ⟨lo1, lo2⟩ := n5.2.2.2.2.2.2 o' ho
  obtain ⟨hA1, hA2, hA3, hA4⟩ := n5.2.2.2.2.2.1 o' _ (by omega) lo1
  obtain ⟨q0, q1, q2, q3, q4, q5, q6, q7, q8⟩ := id hco
  have hB' := hB
  obtain ⟨bg, bj, -, -, bb, bn, bm⟩ := hB'
  obtain ⟨bf, bl, bl2, bee, bmi, bms, bdj, b140⟩ := id bg
  have hx9 := hx x bj (by omega)
  have cb1 := bl.2.2.2.2.1
  have cb2 := bl2.2.2.2.2.1
  have hqs : ¬ q ≤ s := by omega
  have n65 : I 3 5 = nI q := n6.trans hq
  have hs1 : I (A o') 1 = 3 := by rw [lo2.1]; exact hs
  have hp1 : I (78 + 5 * c) 7 = 2 := q0.trans hp
  have e31 : (jx_x (J 98 9)) = x := by rw [bj]; exact jx_xn (by omega)
  have n2' : ¬ J 119 o' = 2 := by rw [hs]; decide
  refine jx_gq flok_X8 (fwok_X8 rfl) 16 7 _ _ _ _ ?_
  simp (disch := omega) only [↓reduceIte, jx_wp, jx_stp, jx_f0, jx_f1, jx_f2, jx_f3, List.getElem?_cons_zero, List.getElem?_cons_succ, List.set_cons_zero, List.set_cons_succ, Nat.reduceAdd, true_and, and_true, if_true, if_false, Bool.false_eq_true, jx_s, Nat.reduceLT, dX8_askMissing_0, dX8_askMissing_1, dX8_askMissing_2, dX8_askMissing_5, dX8_askMissing_6, dX8_askMissing_9, dX8_askMissing_10, dX8_askMissing_11, dX8_askMissing_12, dX8_askMissing_13, dX8_askMissing_14, dX8_askMissing_16, dX8_askMissing_18, dX8_askMissing_19, dX8_askMissing_22, dX8_askMissing_25, dX8_askMissing_26, dX8_askMissing_28, dX8_askMissing_31, dX8_askMissing_34, dX8_askMissing_35, dX8_askMissing_38, dX8_askMissing_39, dX8_askMissing_40, dX8_askMissing_43, dX8_askMissing_45, dX8_askMissing_46, dX8_askMissing_49, dX8_askMissing_50, dX8_askMissing_53, dX8_askMissing_56, dX8_askMissing_58, dX8_askMissing_59, dX8_askMissing_60, dX8_askMissing_62, dX8_askMissing_65, dX8_askMissing_68, dX8_askMissing_71, dX8_askMissing_72, dX8_askMissing_73, dX8_askMissing_76, dX8_askMissing_77, dX8_askMissing_78, dX8_askMissing_81, fl_X8_183, ft_2_8, jx_km1, jx_k0, fl_X8_65, ft_9_5, tg_22_49, tg_31_34, fl_X8_24, ft_9_2, fl_X8_259, ft_2_0, fl_X8_69, ft_2_1, jx_k1, tg_68_m52, fw_X8_183, jx_wq, jx_stq, jx_ite, jx_b0, jx_bn0, jx_u_eq, jx_u_na, jx_u_ni, jx_nb0, jx_nb1, jx_ni, jx_E, eq_self, jx_a0, jx_a1, ne_eq, not_false_eq_true, Nat.reduceLeDiff, Nat.reduceEqDiff, Nat.reduceLT, jx_subl, jx_al, jx_la, jx_nm, jx_ml, nI_add, jx_xn, jx_xl, jx_inn, jx_inl, jx_ltnn, jx_lenn, jx_eqnn, jx_ltnl, jx_lenl, jx_ltln, jx_leln, jx_eqnl, Int32.reduceAdd, Int32.reduceSub, Int32.reduceMul, Int32.reduceLT, Int32.reduceLE, jx_eqll, jx_ltll, Nat.reduceMul, Nat.reduceSub, forall_const, implies_true, false_implies, not_true_eq_false, true_implies, jx_tko, jx_ofn, jx_tka, jx_pro, jx_pra, and_self, Nat.not_lt_zero, jx_nbb, fv_2_8, g0, g5, n65, hqs]
  refine jx_cS2 dX8_askMissing_28 li_X8_334 (cl_isIn) (Nat.le_of_ble_eq_true rfl) (Nat.le_of_ble_eq_true rfl) ?_
  rintro _ _ ⟨rfl, rfl⟩ - -
  simp only [Option.toList_some, Option.toList_none, List.cons_append, List.nil_append]
  by_cases hbit : y >>> (nI s &&& 31) &&& 1 = 0
  · refine jx_gq flok_X8 (fwok_X8 rfl) 16 4 _ _ _ _ ?_
    simp (disch := omega) only [↓reduceIte, jx_wp, jx_stp, jx_f0, jx_f1, jx_f2, jx_f3, List.getElem?_cons_zero, List.getElem?_cons_succ, List.set_cons_zero, List.set_cons_succ, Nat.reduceAdd, true_and, and_true, if_true, if_false, Bool.false_eq_true, jx_s, Nat.reduceLT, dX8_askMissing_0, dX8_askMissing_1, dX8_askMissing_2, dX8_askMissing_5, dX8_askMissing_6, dX8_askMissing_9, dX8_askMissing_10, dX8_askMissing_11, dX8_askMissing_12, dX8_askMissing_13, dX8_askMissing_14, dX8_askMissing_16, dX8_askMissing_18, dX8_askMissing_19, dX8_askMissing_22, dX8_askMissing_25, dX8_askMissing_26, dX8_askMissing_28, dX8_askMissing_31, dX8_askMissing_34, dX8_askMissing_35, dX8_askMissing_38, dX8_askMissing_39, dX8_askMissing_40, dX8_askMissing_43, dX8_askMissing_45, dX8_askMissing_46, dX8_askMissing_49, dX8_askMissing_50, dX8_askMissing_53, dX8_askMissing_56, dX8_askMissing_58, dX8_askMissing_59, dX8_askMissing_60, dX8_askMissing_62, dX8_askMissing_65, dX8_askMissing_68, dX8_askMissing_71, dX8_askMissing_72, dX8_askMissing_73, dX8_askMissing_76, dX8_askMissing_77, dX8_askMissing_78, dX8_askMissing_81, fl_X8_183, ft_2_8, jx_km1, jx_k0, fl_X8_65, ft_9_5, tg_22_49, tg_31_34, fl_X8_24, ft_9_2, fl_X8_259, ft_2_0, fl_X8_69, ft_2_1, jx_k1, tg_68_m52, fw_X8_183, jx_wq, jx_stq, jx_ite, jx_b0, jx_bn0, jx_u_eq, jx_u_na, jx_u_ni, jx_nb0, jx_nb1, jx_ni, jx_E, eq_self, jx_a0, jx_a1, ne_eq, not_false_eq_true, Nat.reduceLeDiff, Nat.reduceEqDiff, Nat.reduceLT, jx_subl, jx_al, jx_la, jx_nm, jx_ml, nI_add, jx_xn, jx_xl, jx_inn, jx_inl, jx_ltnn, jx_lenn, jx_eqnn, jx_ltnl, jx_lenl, jx_ltln, jx_leln, jx_eqnl, Int32.reduceAdd, Int32.reduceSub, Int32.reduceMul, Int32.reduceLT, Int32.reduceLE, jx_eqll, jx_ltll, Nat.reduceMul, Nat.reduceSub, forall_const, implies_true, false_implies, not_true_eq_false, true_implies, jx_tko, jx_ofn, jx_tka, jx_pro, jx_pra, and_self, Nat.not_lt_zero, jx_nbb, fv_2_8, hbit]
    refine kk n ms K I P _ ?_
    unfold mo_a1
    rw [if_pos hbit]
    exact hR
  · refine jx_gq flok_X8 (fwok_X8 rfl) 16 5 _ _ _ _ ?_
    simp (disch := omega) only [↓reduceIte, jx_wp, jx_stp, jx_f0, jx_f1, jx_f2, jx_f3, List.getElem?_cons_zero, List.getElem?_cons_succ, List.set_cons_zero, List.set_cons_succ, Nat.reduceAdd, true_and, and_true, if_true, if_false, Bool.false_eq_true, jx_s, Nat.reduceLT, dX8_askMissing_0, dX8_askMissing_1, dX8_askMissing_2, dX8_askMissing_5, dX8_askMissing_6, dX8_askMissing_9, dX8_askMissing_10, dX8_askMissing_11, dX8_askMissing_12, dX8_askMissing_13, dX8_askMissing_14, dX8_askMissing_16, dX8_askMissing_18, dX8_askMissing_19, dX8_askMissing_22, dX8_askMissing_25, dX8_askMissing_26, dX8_askMissing_28, dX8_askMissing_31, dX8_askMissing_34, dX8_askMissing_35, dX8_askMissing_38, dX8_askMissing_39, dX8_askMissing_40, dX8_askMissing_43, dX8_askMissing_45, dX8_askMissing_46, dX8_askMissing_49, dX8_askMissing_50, dX8_askMissing_53, dX8_askMissing_56, dX8_askMissing_58, dX8_askMissing_59, dX8_askMissing_60, dX8_askMissing_62, dX8_askMissing_65, dX8_askMissing_68, dX8_askMissing_71, dX8_askMissing_72, dX8_askMissing_73, dX8_askMissing_76, dX8_askMissing_77, dX8_askMissing_78, dX8_askMissing_81, fl_X8_183, ft_2_8, jx_km1, jx_k0, fl_X8_65, ft_9_5, tg_22_49, tg_31_34, fl_X8_24, ft_9_2, fl_X8_259, ft_2_0, fl_X8_69, ft_2_1, jx_k1, tg_68_m52, fw_X8_183, jx_wq, jx_stq, jx_ite, jx_b0, jx_bn0, jx_u_eq, jx_u_na, jx_u_ni, jx_nb0, jx_nb1, jx_ni, jx_E, eq_self, jx_a0, jx_a1, ne_eq, not_false_eq_true, Nat.reduceLeDiff, Nat.reduceEqDiff, Nat.reduceLT, jx_subl, jx_al, jx_la, jx_nm, jx_ml, nI_add, jx_xn, jx_xl, jx_inn, jx_inl, jx_ltnn, jx_lenn, jx_eqnn, jx_ltnl, jx_lenl, jx_ltln, jx_leln, jx_eqnl, Int32.reduceAdd, Int32.reduceSub, Int32.reduceMul, Int32.reduceLT, Int32.reduceLE, jx_eqll, jx_ltll, Nat.reduceMul, Nat.reduceSub, forall_const, implies_true, false_implies, not_true_eq_false, true_implies, jx_tko, jx_ofn, jx_tka, jx_pro, jx_pra, and_self, Nat.not_lt_zero, jx_nbb, fv_2_8, hbit, g0, g5]
    refine jx_cV1 dX8_askMissing_40 li_X8_337 (cn_qk3 hC hA1 hs1) (congrArg Prod.fst c0) (Nat.le_of_ble_eq_true rfl) (Nat.le_of_ble_eq_true rfl) ?_
    rintro _ _ ⟨rfl, rfl⟩ - -
    simp only [Option.toList_some, Option.toList_none, List.cons_append, List.nil_append]
    rw [show (if I (78 + 5 * c) 7 = 1 then (4 : Int32) else 5) = 5 from by rw [hp1]; rfl]
    refine jx_gq flok_X8 (fwok_X8 rfl) 16 6 _ _ _ _ ?_
    simp (disch := omega) only [↓reduceIte, jx_wp, jx_stp, jx_f0, jx_f1, jx_f2, jx_f3, List.getElem?_cons_zero, List.getElem?_cons_succ, List.set_cons_zero, List.set_cons_succ, Nat.reduceAdd, true_and, and_true, if_true, if_false, Bool.false_eq_true, jx_s, Nat.reduceLT, dX8_askMissing_0, dX8_askMissing_1, dX8_askMissing_2, dX8_askMissing_5, dX8_askMissing_6, dX8_askMissing_9, dX8_askMissing_10, dX8_askMissing_11, dX8_askMissing_12, dX8_askMissing_13, dX8_askMissing_14, dX8_askMissing_16, dX8_askMissing_18, dX8_askMissing_19, dX8_askMissing_22, dX8_askMissing_25, dX8_askMissing_26, dX8_askMissing_28, dX8_askMissing_31, dX8_askMissing_34, dX8_askMissing_35, dX8_askMissing_38, dX8_askMissing_39, dX8_askMissing_40, dX8_askMissing_43, dX8_askMissing_45, dX8_askMissing_46, dX8_askMissing_49, dX8_askMissing_50, dX8_askMissing_53, dX8_askMissing_56, dX8_askMissing_58, dX8_askMissing_59, dX8_askMissing_60, dX8_askMissing_62, dX8_askMissing_65, dX8_askMissing_68, dX8_askMissing_71, dX8_askMissing_72, dX8_askMissing_73, dX8_askMissing_76, dX8_askMissing_77, dX8_askMissing_78, dX8_askMissing_81, fl_X8_183, ft_2_8, jx_km1, jx_k0, fl_X8_65, ft_9_5, tg_22_49, tg_31_34, fl_X8_24, ft_9_2, fl_X8_259, ft_2_0, fl_X8_69, ft_2_1, jx_k1, tg_68_m52, fw_X8_183, jx_wq, jx_stq, jx_ite, jx_b0, jx_bn0, jx_u_eq, jx_u_na, jx_u_ni, jx_nb0, jx_nb1, jx_ni, jx_E, eq_self, jx_a0, jx_a1, ne_eq, not_false_eq_true, Nat.reduceLeDiff, Nat.reduceEqDiff, Nat.reduceLT, jx_subl, jx_al, jx_la, jx_nm, jx_ml, nI_add, jx_xn, jx_xl, jx_inn, jx_inl, jx_ltnn, jx_lenn, jx_eqnn, jx_ltnl, jx_lenl, jx_ltln, jx_leln, jx_eqnl, Int32.reduceAdd, Int32.reduceSub, Int32.reduceMul, Int32.reduceLT, Int32.reduceLE, jx_eqll, jx_ltll, Nat.reduceMul, Nat.reduceSub, forall_const, implies_true, false_implies, not_true_eq_false, true_implies, jx_tko, jx_ofn, jx_tka, jx_pro, jx_pra, and_self, Nat.not_lt_zero, jx_nbb, fv_2_8, c0, d1, s0]
    refine jx_cV4 dX8_askMissing_53 li_X8_286 (bg_post c1 d4 c2' (by omega) (by omega) (by omega) bg (by omega) (by omega) (by omega)) (congrArg Prod.fst bf.1) (Nat.le_of_ble_eq_true rfl) (Nat.le_of_ble_eq_true rfl) ?_
    rintro _ _ ⟨p, z2, m2, ms2, K2, I2, P2, e3, c3', rfl, rfl, hK2, hz, hcon, h6, hKK, hII, hPP, -, hn, hm⟩ hnn -
    simp only [Option.toList_some, Option.toList_none, List.cons_append, List.nil_append]
    have hnn : n ≤ m2 := hnn
    have hk2 := hK2
    obtain ⟨-, w1, -, -, w2, -, -, w140⟩ := hk2
    obtain ⟨wp, wp1, wp2⟩ := w2 x (by omega)
    rw [ls_up_eq] at wp wp1 wp2
    have hC2 : ob_C K2 P2 (78 + 5 * c) := ob_C_to hC (fun a h1 h2 => hKK a (by omega)) (fun a j h1 h2 h3 => hPP a j (by omega) (by omega) (by omega) (by have := bl.2.2.2.2.2.2.2; omega) (by have := bl2.2.2.2.2.2.2.2; omega))
    have hA5 : K2 (A o') = (5, 9) := by rw [hKK _ hA3, hA1]
    have hAp : A o' < p ∨ p + 5 ≤ A o' := by
      obtain ⟨k0, k1, k2, k3, k4, -⟩ := wp
      have r0 : A o' ≠ p := fun h => by rw [h, k0] at hA5; simp at hA5
      have r1 : A o' ≠ p + 1 := fun h => by rw [h, k1] at hA5; simp at hA5
      have r2 : A o' ≠ p + 2 := fun h => by rw [h, k2] at hA5; simp at hA5
      have r3 : A o' ≠ p + 3 := fun h => by rw [h, k3] at hA5; simp at hA5
      have r4 : A o' ≠ p + 4 := fun h => by rw [h, k4] at hA5; simp at hA5
      omega
    have hIc : ∀ b j, 78 ≤ b → b < 98 → I2 b j = I b j := fun b j h1 h2 => hII b j (by omega) (by omega) (by omega) (by omega) (by omega)
    have hIa : ∀ j, I2 (A o') j = I (A o') j := fun j => hII _ j hA3 (by omega) (by omega) (by omega) hAp
    obtain ⟨t3, t4, t5, t6, t7, t8, tz, tm⟩ := hcon
    have c02 := hC2.1
    refine jx_gq flok_X8 (fwok_X8 rfl) 16 4 _ _ _ _ ?_
    simp (disch := omega) only [↓reduceIte, jx_wp, jx_stp, jx_f0, jx_f1, jx_f2, jx_f3, List.getElem?_cons_zero, List.getElem?_cons_succ, List.set_cons_zero, List.set_cons_succ, Nat.reduceAdd, true_and, and_true, if_true, if_false, Bool.false_eq_true, jx_s, Nat.reduceLT, dX8_askMissing_0, dX8_askMissing_1, dX8_askMissing_2, dX8_askMissing_5, dX8_askMissing_6, dX8_askMissing_9, dX8_askMissing_10, dX8_askMissing_11, dX8_askMissing_12, dX8_askMissing_13, dX8_askMissing_14, dX8_askMissing_16, dX8_askMissing_18, dX8_askMissing_19, dX8_askMissing_22, dX8_askMissing_25, dX8_askMissing_26, dX8_askMissing_28, dX8_askMissing_31, dX8_askMissing_34, dX8_askMissing_35, dX8_askMissing_38, dX8_askMissing_39, dX8_askMissing_40, dX8_askMissing_43, dX8_askMissing_45, dX8_askMissing_46, dX8_askMissing_49, dX8_askMissing_50, dX8_askMissing_53, dX8_askMissing_56, dX8_askMissing_58, dX8_askMissing_59, dX8_askMissing_60, dX8_askMissing_62, dX8_askMissing_65, dX8_askMissing_68, dX8_askMissing_71, dX8_askMissing_72, dX8_askMissing_73, dX8_askMissing_76, dX8_askMissing_77, dX8_askMissing_78, dX8_askMissing_81, fl_X8_183, ft_2_8, jx_km1, jx_k0, fl_X8_65, ft_9_5, tg_22_49, tg_31_34, fl_X8_24, ft_9_2, fl_X8_259, ft_2_0, fl_X8_69, ft_2_1, jx_k1, tg_68_m52, fw_X8_183, jx_wq, jx_stq, jx_ite, jx_b0, jx_bn0, jx_u_eq, jx_u_na, jx_u_ni, jx_nb0, jx_nb1, jx_ni, jx_E, eq_self, jx_a0, jx_a1, ne_eq, not_false_eq_true, Nat.reduceLeDiff, Nat.reduceEqDiff, Nat.reduceLT, jx_subl, jx_al, jx_la, jx_nm, jx_ml, nI_add, jx_xn, jx_xl, jx_inn, jx_inl, jx_ltnn, jx_lenn, jx_eqnn, jx_ltnl, jx_lenl, jx_ltln, jx_leln, jx_eqnl, Int32.reduceAdd, Int32.reduceSub, Int32.reduceMul, Int32.reduceLT, Int32.reduceLE, jx_eqll, jx_ltll, Nat.reduceMul, Nat.reduceSub, forall_const, implies_true, false_implies, not_true_eq_false, true_implies, jx_tko, jx_ofn, jx_tka, jx_pro, jx_pra, and_self, Nat.not_lt_zero, jx_nbb, fv_2_8]
    refine jx_cV2 dX8_askMissing_62 li_X8_340 (cn_fq5 hC2 hA5 wp (by omega) (by omega) (by rw [hIa]; exact hs1) t3) (congrArg Prod.fst c02) (Nat.le_of_ble_eq_true rfl) (Nat.le_of_ble_eq_true rfl) ?_
    rintro _ _ ⟨rfl, rfl⟩ - -
    simp only [Option.toList_some, Option.toList_none, List.cons_append, List.nil_append]
    refine jx_gq flok_X8 (fwok_X8 rfl) 16 3 _ _ _ _ ?_
    simp (disch := omega) only [↓reduceIte, jx_wp, jx_stp, jx_f0, jx_f1, jx_f2, jx_f3, List.getElem?_cons_zero, List.getElem?_cons_succ, List.set_cons_zero, List.set_cons_succ, Nat.reduceAdd, true_and, and_true, if_true, if_false, Bool.false_eq_true, jx_s, Nat.reduceLT, dX8_askMissing_0, dX8_askMissing_1, dX8_askMissing_2, dX8_askMissing_5, dX8_askMissing_6, dX8_askMissing_9, dX8_askMissing_10, dX8_askMissing_11, dX8_askMissing_12, dX8_askMissing_13, dX8_askMissing_14, dX8_askMissing_16, dX8_askMissing_18, dX8_askMissing_19, dX8_askMissing_22, dX8_askMissing_25, dX8_askMissing_26, dX8_askMissing_28, dX8_askMissing_31, dX8_askMissing_34, dX8_askMissing_35, dX8_askMissing_38, dX8_askMissing_39, dX8_askMissing_40, dX8_askMissing_43, dX8_askMissing_45, dX8_askMissing_46, dX8_askMissing_49, dX8_askMissing_50, dX8_askMissing_53, dX8_askMissing_56, dX8_askMissing_58, dX8_askMissing_59, dX8_askMissing_60, dX8_askMissing_62, dX8_askMissing_65, dX8_askMissing_68, dX8_askMissing_71, dX8_askMissing_72, dX8_askMissing_73, dX8_askMissing_76, dX8_askMissing_77, dX8_askMissing_78, dX8_askMissing_81, fl_X8_183, ft_2_8, jx_km1, jx_k0, fl_X8_65, ft_9_5, tg_22_49, tg_31_34, fl_X8_24, ft_9_2, fl_X8_259, ft_2_0, fl_X8_69, ft_2_1, jx_k1, tg_68_m52, fw_X8_183, jx_wq, jx_stq, jx_ite, jx_b0, jx_bn0, jx_u_eq, jx_u_na, jx_u_ni, jx_nb0, jx_nb1, jx_ni, jx_E, eq_self, jx_a0, jx_a1, ne_eq, not_false_eq_true, Nat.reduceLeDiff, Nat.reduceEqDiff, Nat.reduceLT, jx_subl, jx_al, jx_la, jx_nm, jx_ml, nI_add, jx_xn, jx_xl, jx_inn, jx_inl, jx_ltnn, jx_lenn, jx_eqnn, jx_ltnl, jx_lenl, jx_ltln, jx_leln, jx_eqnl, Int32.reduceAdd, Int32.reduceSub, Int32.reduceMul, Int32.reduceLT, Int32.reduceLE, jx_eqll, jx_ltll, Nat.reduceMul, Nat.reduceSub, forall_const, implies_true, false_implies, not_true_eq_false, true_implies, jx_tko, jx_ofn, jx_tka, jx_pro, jx_pra, and_self, Nat.not_lt_zero, jx_nbb, fv_2_8]
    refine kk _ _ _ _ _ _ ?_
    have hsb : I2 (A o') 3 = J 134 c := by rw [hIa, lo2.2.2.1, hm3 hs]
    have hj : mo_a1 J c o' y s = mo_fi J (mo_ly J x 5 (nI s) (nI c) (J 129 c) (J 134 c) (7 + c)) c o' x := by
      unfold mo_a1
      rw [if_neg hbit, e31]
      congr 2
      · unfold mo_kd
        simp [hs, hp]
      · unfold mo_sb
        simp [hs]
    rw [hj]
    obtain ⟨u1, u2, u3, u4, u5⟩ := @mo_fi_fr J x s c (7 + c) o' 5 (J 129 c) (J 134 c)
    have M0 : mgs (cn_f0 I2 (78 + 5 * c) p (I2 (A o') 3)) p (mo_ly J x 5 (nI s) (nI c) (J 129 c) (J 134 c) (7 + c)) x := by
      refine mgs_ly ?_ ?_ ?_ ?_ ?_ ?_ (fun j hj => ?_) (fun j hj => ?_)
      · unfold cn_f0
        simp (disch := omega) only [jx_u_ni, t3]
      · unfold cn_f0
        simp (disch := omega) only [jx_u_ni, t4]
      · unfold cn_f0
        simp (disch := omega) only [jx_u_ni, t5]
      · unfold cn_f0
        simp (disch := omega) only [jx_u_ni, jx_u_eq]
        rw [hIc _ _ (by omega) (by omega), s2]
      · unfold cn_f0
        simp (disch := omega) only [jx_u_eq, hsb]
      · unfold cn_f0
        simp (disch := omega) only [jx_u_ni, t8]
      · unfold cn_f0
        simp (disch := omega) only [jx_u_na]
        exact tz j hj
      · unfold cn_f0
        simp (disch := omega) only [jx_u_na]
        rw [tm j hj, s3 j hj]
    refine rl_put hN hB hT hX hag (by omega) hK2 hz h6 hKK hII hPP hn hm (fun b j hb => ?_) ?_ u1 u2 u3 u4 u5 (by omega)
    · rw [cn_f1_na hb, cn_f1_na hb, cn_f1_na hb, cn_f0_na hb]
    · unfold mo_fi
      simp only [hs, hp, show ¬ ((3 : Int32) = 0 ∨ (3 : Int32) = 1) from by decide, show ¬ ((3 : Int32) = 2) from by decide, if_true, if_false]
      simp (disch := omega) only [hIc]
      rw [q3 0 (by omega), q3 1 (by omega), q3 2 (by omega), q4 0 (by omega) (fun w => absurd w.1 n2'), q4 1 (by omega) (fun _ => by omega), q4 2 (by omega) (fun _ => by omega)]
      exact mgs_u2 (mgs_u1 (mgs_u0 M0))
