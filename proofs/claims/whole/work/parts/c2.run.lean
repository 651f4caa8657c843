theorem rl_140 {n ms : Nat} {K : Nat → Nat × Nat} {I : Nat → Nat → Int32} {P : Nat → Nat → Option Nat} {J : Nat → Nat → Int32} {B h : Nat} {A : Nat → Nat} {T : Nat → Prop} {X : Nat → Nat → Int32} (hR : rl n ms K I P J B A h T X) : 140 ≤ n := by
  obtain ⟨-, ⟨L, x, S, z, e, c, e2, c2, ⟨⟨-, -, -, -, -, -, -, w⟩, -⟩, -⟩, -⟩ := hR
  exact w
theorem rl_Jh {n ms : Nat} {K : Nat → Nat × Nat} {I : Nat → Nat → Int32} {P : Nat → Nat → Option Nat} {J : Nat → Nat → Int32} {J2 : Nat → Nat → Int32} {B h : Nat} {A : Nat → Nat} {T : Nat → Prop} {X : Nat → Nat → Int32} (hR : rl n ms K I P J B A h T X) (hJ : ∀ a j, 98 ≤ a → a < 140 → ¬ (a = 98 ∧ (j = 11 ∨ 47 ≤ j)) → J2 a j = J a j) : rl n ms K I P J2 B A h T X := by
  exact rl_chg hR (rl_N_W hR.1 bg_F.refl (fun a j h1 h2 h3 h4 => hJ a j h1 h2 (fun q => by have := h4 q.1; omega)) (rl_140 hR)) (fun _ _ _ => rfl) (fun _ _ _ => rfl) (fun a j h1 h2 => hJ a j (by omega) (by omega) (by omega)) (hJ _ _ (by omega) (by omega) (by omega)) (hJ _ _ (by omega) (by omega) (by omega))
/-- the reference has done its call too -/
theorem rl_ref {n ms : Nat} {K : Nat → Nat × Nat} {I : Nat → Nat → Int32} {P : Nat → Nat → Option Nat} {J : Nat → Nat → Int32} {I2 : Nat → Nat → Int32} {B : Nat} {A : Nat → Nat} (hR : rl0 n ms K I P J B A) (hI : ∀ b j, b < 98 ∨ 140 ≤ b → I2 b j = I b j) (hJ : ∀ a j, 98 ≤ a → a < 140 → ¬ (a = 98 ∧ (j = 11 ∨ 47 ≤ j)) → I2 a j = J a j) : rl0 n ms K I2 P I2 B A := by
  have h1 : rl n ms K I P I2 B A 0 (fun _ => False) I := rl_Jh hR hJ
  obtain ⟨⟨a0, a1, a2, a3, a4, a5, a6⟩, ⟨L, x, S, z, e, c, e2, c2, ⟨⟨b0, b1, b2, b3, b4, b5, b6, b7⟩, d1, d2, d3, d4⟩, -⟩, -⟩ := h1
  refine ⟨⟨a0, a1, a2, fun s hs => sv_r_to hs (a3 s hs) (fun b j q1 q2 => hI b j (by omega)) (fun _ _ _ _ => rfl), fun c hc => ?_, ?_, by rw [hI 3 5 (by omega), a6]⟩, ⟨L, x, S, z, e, c, e2, c2, ⟨⟨b0, ls_ok_I b1 (hI 7 2 (by omega)), ls_ok_I b2 (hI 8 2 (by omega)), b3, b4, b5, b6, b7⟩, d1, by rw [hI 6 2 (by omega), d2], fun i hi => ?_, d4⟩, fun _ q => q.elim⟩, fun _ q => q.elim, ag_refl, rfl⟩
  · obtain ⟨e0, e1⟩ := a4 c hc
    refine ⟨cn_s_to hc e0 (fun b j q1 q2 => hI b j (by omega)) (fun _ _ _ _ _ => rfl), ?_⟩
    rcases e1 with e1 | ⟨o, q1, q2, q3, q4⟩
    · exact Or.inl e1
    · exact Or.inr ⟨o, q1, q2, q3, cn_o_to hc q4 (fun b j q1 q2 => hI b j (by omega)) (fun _ _ _ _ _ => rfl)⟩
  · obtain ⟨e0, e1, e2, e3, e4, e5, e6⟩ := a5
    refine ⟨e0, e1, by rw [hI 9 1 (by omega), e2], by rw [hI 9 2 (by omega), e3], by rw [hI 9 3 (by omega), e4], fun o a ho hp => ?_, fun o ho => ?_⟩
    · obtain ⟨q1, q2, q3, q4⟩ := e5 o a ho hp
      exact ⟨q1, q2, q3, by rw [hI a 0 (by omega), q4]⟩
    · obtain ⟨q1, q2⟩ := e6 o ho
      obtain ⟨-, w, -⟩ := e5 o _ (by omega) q1
      exact ⟨q1, op_r_to q2 (fun j => hI _ _ (by omega)) (fun _ _ _ _ => rfl)⟩
  · obtain ⟨-, w, -⟩ := b4 i hi
    exact mgs_to (d3 i hi) (fun b j q1 q2 => hI b j (by omega)) (fun _ _ _ => rfl) (fun _ _ => rfl)
theorem Iv_ag {J J2 : Nat → Nat → Int32} {q x B : Nat} (h : Iv J q x B 4) (hA : ag J2 J) : Iv J2 q x B 4 ∧ iv_p J2 = iv_p J := Iv_98 h (fun a j q1 q2 => hA a j (by omega) q2) (fun j _ => hA 98 j (by omega) (by omega))
/-- what run leaves -/
def rl_U (v : Int32) (J : Nat → Nat → Int32) (B : Nat) (A : Nat → Nat) (I0 : Nat → Nat → Int32) (w : Option jx_V) (M : jx_M) : Prop := w = some (.inl v) ∧ ∃ n ms K I P, M = (n, ms, K, I, P) ∧ rl0 n ms K I P J B A ∧ ag I I0 ∧ I 3 6 = J 98 11
set_option maxHeartbeats 4000000 in
set_option maxRecDepth 100000 in
theorem rl_run_l {G : jx_G} {q B m : Nat} {A : Nat → Nat} {sd : Int32} {I0 : Nat → Nat → Int32} {Q : Option jx_V → jx_M → Prop} : ∀ k (J I : Nat → Nat → Int32) (n ms : Nat) (K : Nat → Nat × Nat) (P : Nat → Nat → Option Nat) s x dn, rl0 n ms K I P J B A → Iv J q x B 4 → x + iv_p J ≤ 133 * B → I 3 6 = J 98 11 → ag I I0 → dn + k = m → m ≤ 1000 → (∀ n2 ms2 K2 I2 P2, rl0 n2 ms2 K2 I2 P2 (mo_R k s J) B A → ag I2 I0 → I2 3 6 = mo_R k s J 98 11 → Q (some (.inl (nI (dn + mo_RC k s J)))) (n2, ms2, K2, I2, P2)) → jx_J G yX8_run cX8_run 5 (some FieldType.int) 12 (Q) 18 [some (.inr (some 3)), some (.inl sd), some (.inl (nI m)), some (.inl s), some (.inl (nI dn))] [] (n, ms, K, I, P) := by
  intro k
  induction k with
  | zero =>
    intro J I n ms K P s x dn hR h hp h36 hag hm hm2 hQ
    have e1 : m ≤ dn := by omega
    refine jx_gq flok_X8 (fwok_X8 rfl) 18 6 _ _ _ _ ?_
    simp (disch := omega) only [↓reduceIte, jx_wp, jx_stp, jx_f0, jx_f1, jx_f2, jx_f3, List.getElem?_cons_zero, List.getElem?_cons_succ, List.set_cons_zero, List.set_cons_succ, Nat.reduceAdd, true_and, and_true, if_true, if_false, Bool.false_eq_true, jx_s, Nat.reduceLT, dX8_run_0, dX8_run_1, dX8_run_4, dX8_run_5, dX8_run_8, dX8_run_11, dX8_run_12, dX8_run_13, dX8_run_14, dX8_run_15, dX8_run_16, dX8_run_18, dX8_run_20, dX8_run_21, dX8_run_24, dX8_run_25, dX8_run_28, dX8_run_31, dX8_run_34, dX8_run_35, dX8_run_37, dX8_run_38, dX8_run_41, dX8_run_42, dX8_run_43, dX8_run_44, dX8_run_45, dX8_run_47, dX8_run_48, dX8_run_49, dX8_run_52, dX8_run_55, dX8_run_56, dX8_run_59, dX8_run_60, dX8_run_63, dX8_run_66, dX8_run_68, tg_1_10, jx_h1000, tg_8_5, jx_km1, jx_k0, tg_21_45, fl_X8_24, ft_9_2, tg_31_35, jx_h12345, jx_b16, jx_k1, tg_63_m45, jx_wq, jx_stq, jx_ite, jx_b0, jx_bn0, jx_u_eq, jx_u_na, jx_u_ni, jx_nb0, jx_nb1, jx_ni, jx_E, eq_self, jx_a0, jx_a1, ne_eq, not_false_eq_true, Nat.reduceLeDiff, Nat.reduceEqDiff, Nat.reduceLT, jx_subl, jx_al, jx_la, jx_nm, jx_ml, nI_add, jx_xn, jx_xl, jx_inn, jx_inl, jx_ltnn, jx_lenn, jx_eqnn, jx_ltnl, jx_lenl, jx_ltln, jx_leln, jx_eqnl, Int32.reduceAdd, Int32.reduceSub, Int32.reduceMul, Int32.reduceLT, Int32.reduceLE, jx_eqll, jx_ltll, Nat.reduceMul, Nat.reduceSub, forall_const, implies_true, false_implies, not_true_eq_false, true_implies, jx_tko, jx_ofn, jx_tka, jx_pro, jx_pra, and_self, Nat.not_lt_zero, jx_nbb, e1]
    exact hQ n ms K I P hR hag h36
  | succ k ih =>
    intro J I n ms K P s x dn hR h hp h36 hag hm hm2 hQ
    have hB := h.1.2.2.2.2.2.2
    have hx : J 98 9 = nI x := h.1.2.2.2.2.1
    have e1 : ¬ m ≤ dn := by omega
    obtain ⟨n0, -⟩ := id hR.1
    have g0 := n0.1
    have g5 := n0.2.2.2.2.2.1
    obtain ⟨-, ⟨L, y, S, z, e', cc, e2', cc2, ⟨bg, bj, -⟩, -⟩, -⟩ := id hR
    have hy16 : y ≤ 24000 := by
      have := bg.2.1.2.2.2.1
      have := bg.2.1.2.2.2.2.1
      omega
    have hyx : y = x := by
      rw [hx] at bj
      rw [jx_eqnn (by omega) (by omega)] at bj
      exact bj.symm
    subst hyx
    unfold mo_RC mo_R at hQ
    rw [hx, jx_xn (by omega)] at hQ
    by_cases e : y = 0
    · subst e
      have e2 : nI 0 ≤ 0 := by decide
      rw [if_pos (show nI 0 = 0 from rfl), if_pos (show nI 0 = 0 from rfl)] at hQ
      refine jx_gq flok_X8 (fwok_X8 rfl) 28 6 _ _ _ _ ?_
      simp (disch := omega) only [↓reduceIte, jx_wp, jx_stp, jx_f0, jx_f1, jx_f2, jx_f3, List.getElem?_cons_zero, List.getElem?_cons_succ, List.set_cons_zero, List.set_cons_succ, Nat.reduceAdd, true_and, and_true, if_true, if_false, Bool.false_eq_true, jx_s, Nat.reduceLT, dX8_run_0, dX8_run_1, dX8_run_4, dX8_run_5, dX8_run_8, dX8_run_11, dX8_run_12, dX8_run_13, dX8_run_14, dX8_run_15, dX8_run_16, dX8_run_18, dX8_run_20, dX8_run_21, dX8_run_24, dX8_run_25, dX8_run_28, dX8_run_31, dX8_run_34, dX8_run_35, dX8_run_37, dX8_run_38, dX8_run_41, dX8_run_42, dX8_run_43, dX8_run_44, dX8_run_45, dX8_run_47, dX8_run_48, dX8_run_49, dX8_run_52, dX8_run_55, dX8_run_56, dX8_run_59, dX8_run_60, dX8_run_63, dX8_run_66, dX8_run_68, tg_1_10, jx_h1000, tg_8_5, jx_km1, jx_k0, tg_21_45, fl_X8_24, ft_9_2, tg_31_35, jx_h12345, jx_b16, jx_k1, tg_63_m45, jx_wq, jx_stq, jx_ite, jx_b0, jx_bn0, jx_u_eq, jx_u_na, jx_u_ni, jx_nb0, jx_nb1, jx_ni, jx_E, eq_self, jx_a0, jx_a1, ne_eq, not_false_eq_true, Nat.reduceLeDiff, Nat.reduceEqDiff, Nat.reduceLT, jx_subl, jx_al, jx_la, jx_nm, jx_ml, nI_add, jx_xn, jx_xl, jx_inn, jx_inl, jx_ltnn, jx_lenn, jx_eqnn, jx_ltnl, jx_lenl, jx_ltln, jx_leln, jx_eqnl, Int32.reduceAdd, Int32.reduceSub, Int32.reduceMul, Int32.reduceLT, Int32.reduceLE, jx_eqll, jx_ltll, Nat.reduceMul, Nat.reduceSub, forall_const, implies_true, false_implies, not_true_eq_false, true_implies, jx_tko, jx_ofn, jx_tka, jx_pro, jx_pra, and_self, Nat.not_lt_zero, jx_nbb, e1, g0, g5]
      refine jx_cV0 dX8_run_28 li_X8_93 (bg_size bg) (congrArg Prod.fst bg.1.1) (Nat.le_of_ble_eq_true rfl) (Nat.le_of_ble_eq_true rfl) ?_
      rintro _ _ ⟨rfl, rfl⟩ - -
      simp only [Option.toList_some, Option.toList_none, List.cons_append, List.nil_append]
      refine jx_gq flok_X8 (fwok_X8 rfl) 99999 4 _ _ _ _ ?_
      simp (disch := omega) only [↓reduceIte, jx_wp, jx_stp, jx_f0, jx_f1, jx_f2, jx_f3, List.getElem?_cons_zero, List.getElem?_cons_succ, List.set_cons_zero, List.set_cons_succ, Nat.reduceAdd, true_and, and_true, if_true, if_false, Bool.false_eq_true, jx_s, Nat.reduceLT, dX8_run_0, dX8_run_1, dX8_run_4, dX8_run_5, dX8_run_8, dX8_run_11, dX8_run_12, dX8_run_13, dX8_run_14, dX8_run_15, dX8_run_16, dX8_run_18, dX8_run_20, dX8_run_21, dX8_run_24, dX8_run_25, dX8_run_28, dX8_run_31, dX8_run_34, dX8_run_35, dX8_run_37, dX8_run_38, dX8_run_41, dX8_run_42, dX8_run_43, dX8_run_44, dX8_run_45, dX8_run_47, dX8_run_48, dX8_run_49, dX8_run_52, dX8_run_55, dX8_run_56, dX8_run_59, dX8_run_60, dX8_run_63, dX8_run_66, dX8_run_68, tg_1_10, jx_h1000, tg_8_5, jx_km1, jx_k0, tg_21_45, fl_X8_24, ft_9_2, tg_31_35, jx_h12345, jx_b16, jx_k1, tg_63_m45, jx_wq, jx_stq, jx_ite, jx_b0, jx_bn0, jx_u_eq, jx_u_na, jx_u_ni, jx_nb0, jx_nb1, jx_ni, jx_E, eq_self, jx_a0, jx_a1, ne_eq, not_false_eq_true, Nat.reduceLeDiff, Nat.reduceEqDiff, Nat.reduceLT, jx_subl, jx_al, jx_la, jx_nm, jx_ml, nI_add, jx_xn, jx_xl, jx_inn, jx_inl, jx_ltnn, jx_lenn, jx_eqnn, jx_ltnl, jx_lenl, jx_ltln, jx_leln, jx_eqnl, Int32.reduceAdd, Int32.reduceSub, Int32.reduceMul, Int32.reduceLT, Int32.reduceLE, jx_eqll, jx_ltll, Nat.reduceMul, Nat.reduceSub, forall_const, implies_true, false_implies, not_true_eq_false, true_implies, jx_tko, jx_ofn, jx_tka, jx_pro, jx_pra, and_self, Nat.not_lt_zero, jx_nbb, e2, Nat.le_refl]
      exact hQ n ms K I P hR hag h36
    · have e2 : ¬ y ≤ 0 := by omega
      have n0' : ¬ nI y = 0 := fun w => by
        rw [show (0 : Int32) = nI 0 from rfl, jx_eqnn (by omega) (by omega)] at w
        exact e w
      rw [if_neg n0', if_neg n0'] at hQ
      refine jx_gq flok_X8 (fwok_X8 rfl) 28 6 _ _ _ _ ?_
      simp (disch := omega) only [↓reduceIte, jx_wp, jx_stp, jx_f0, jx_f1, jx_f2, jx_f3, List.getElem?_cons_zero, List.getElem?_cons_succ, List.set_cons_zero, List.set_cons_succ, Nat.reduceAdd, true_and, and_true, if_true, if_false, Bool.false_eq_true, jx_s, Nat.reduceLT, dX8_run_0, dX8_run_1, dX8_run_4, dX8_run_5, dX8_run_8, dX8_run_11, dX8_run_12, dX8_run_13, dX8_run_14, dX8_run_15, dX8_run_16, dX8_run_18, dX8_run_20, dX8_run_21, dX8_run_24, dX8_run_25, dX8_run_28, dX8_run_31, dX8_run_34, dX8_run_35, dX8_run_37, dX8_run_38, dX8_run_41, dX8_run_42, dX8_run_43, dX8_run_44, dX8_run_45, dX8_run_47, dX8_run_48, dX8_run_49, dX8_run_52, dX8_run_55, dX8_run_56, dX8_run_59, dX8_run_60, dX8_run_63, dX8_run_66, dX8_run_68, tg_1_10, jx_h1000, tg_8_5, jx_km1, jx_k0, tg_21_45, fl_X8_24, ft_9_2, tg_31_35, jx_h12345, jx_b16, jx_k1, tg_63_m45, jx_wq, jx_stq, jx_ite, jx_b0, jx_bn0, jx_u_eq, jx_u_na, jx_u_ni, jx_nb0, jx_nb1, jx_ni, jx_E, eq_self, jx_a0, jx_a1, ne_eq, not_false_eq_true, Nat.reduceLeDiff, Nat.reduceEqDiff, Nat.reduceLT, jx_subl, jx_al, jx_la, jx_nm, jx_ml, nI_add, jx_xn, jx_xl, jx_inn, jx_inl, jx_ltnn, jx_lenn, jx_eqnn, jx_ltnl, jx_lenl, jx_ltln, jx_leln, jx_eqnl, Int32.reduceAdd, Int32.reduceSub, Int32.reduceMul, Int32.reduceLT, Int32.reduceLE, jx_eqll, jx_ltll, Nat.reduceMul, Nat.reduceSub, forall_const, implies_true, false_implies, not_true_eq_false, true_implies, jx_tko, jx_ofn, jx_tka, jx_pro, jx_pra, and_self, Nat.not_lt_zero, jx_nbb, e1, g0, g5]
      refine jx_cV0 dX8_run_28 li_X8_93 (bg_size bg) (congrArg Prod.fst bg.1.1) (Nat.le_of_ble_eq_true rfl) (Nat.le_of_ble_eq_true rfl) ?_
      rintro _ _ ⟨rfl, rfl⟩ - -
      simp only [Option.toList_some, Option.toList_none, List.cons_append, List.nil_append]
      refine jx_gq flok_X8 (fwok_X8 rfl) 35 3 _ _ _ _ ?_
      simp (disch := omega) only [↓reduceIte, jx_wp, jx_stp, jx_f0, jx_f1, jx_f2, jx_f3, List.getElem?_cons_zero, List.getElem?_cons_succ, List.set_cons_zero, List.set_cons_succ, Nat.reduceAdd, true_and, and_true, if_true, if_false, Bool.false_eq_true, jx_s, Nat.reduceLT, dX8_run_0, dX8_run_1, dX8_run_4, dX8_run_5, dX8_run_8, dX8_run_11, dX8_run_12, dX8_run_13, dX8_run_14, dX8_run_15, dX8_run_16, dX8_run_18, dX8_run_20, dX8_run_21, dX8_run_24, dX8_run_25, dX8_run_28, dX8_run_31, dX8_run_34, dX8_run_35, dX8_run_37, dX8_run_38, dX8_run_41, dX8_run_42, dX8_run_43, dX8_run_44, dX8_run_45, dX8_run_47, dX8_run_48, dX8_run_49, dX8_run_52, dX8_run_55, dX8_run_56, dX8_run_59, dX8_run_60, dX8_run_63, dX8_run_66, dX8_run_68, tg_1_10, jx_h1000, tg_8_5, jx_km1, jx_k0, tg_21_45, fl_X8_24, ft_9_2, tg_31_35, jx_h12345, jx_b16, jx_k1, tg_63_m45, jx_wq, jx_stq, jx_ite, jx_b0, jx_bn0, jx_u_eq, jx_u_na, jx_u_ni, jx_nb0, jx_nb1, jx_ni, jx_E, eq_self, jx_a0, jx_a1, ne_eq, not_false_eq_true, Nat.reduceLeDiff, Nat.reduceEqDiff, Nat.reduceLT, jx_subl, jx_al, jx_la, jx_nm, jx_ml, nI_add, jx_xn, jx_xl, jx_inn, jx_inl, jx_ltnn, jx_lenn, jx_eqnn, jx_ltnl, jx_lenl, jx_ltln, jx_leln, jx_eqnl, Int32.reduceAdd, Int32.reduceSub, Int32.reduceMul, Int32.reduceLT, Int32.reduceLE, jx_eqll, jx_ltll, Nat.reduceMul, Nat.reduceSub, forall_const, implies_true, false_implies, not_true_eq_false, true_implies, jx_tko, jx_ofn, jx_tka, jx_pro, jx_pra, and_self, Nat.not_lt_zero, jx_nbb, e2]
      refine jx_ldc dX8_run_35 ck_X8_146 ?_
      refine jx_gq flok_X8 (fwok_X8 rfl) 52 14 _ _ _ _ ?_
      simp (disch := omega) only [↓reduceIte, jx_wp, jx_stp, jx_f0, jx_f1, jx_f2, jx_f3, List.getElem?_cons_zero, List.getElem?_cons_succ, List.set_cons_zero, List.set_cons_succ, Nat.reduceAdd, true_and, and_true, if_true, if_false, Bool.false_eq_true, jx_s, Nat.reduceLT, dX8_run_0, dX8_run_1, dX8_run_4, dX8_run_5, dX8_run_8, dX8_run_11, dX8_run_12, dX8_run_13, dX8_run_14, dX8_run_15, dX8_run_16, dX8_run_18, dX8_run_20, dX8_run_21, dX8_run_24, dX8_run_25, dX8_run_28, dX8_run_31, dX8_run_34, dX8_run_35, dX8_run_37, dX8_run_38, dX8_run_41, dX8_run_42, dX8_run_43, dX8_run_44, dX8_run_45, dX8_run_47, dX8_run_48, dX8_run_49, dX8_run_52, dX8_run_55, dX8_run_56, dX8_run_59, dX8_run_60, dX8_run_63, dX8_run_66, dX8_run_68, tg_1_10, jx_h1000, tg_8_5, jx_km1, jx_k0, tg_21_45, fl_X8_24, ft_9_2, tg_31_35, jx_h12345, jx_b16, jx_k1, tg_63_m45, jx_wq, jx_stq, jx_ite, jx_b0, jx_bn0, jx_u_eq, jx_u_na, jx_u_ni, jx_nb0, jx_nb1, jx_ni, jx_E, eq_self, jx_a0, jx_a1, ne_eq, not_false_eq_true, Nat.reduceLeDiff, Nat.reduceEqDiff, Nat.reduceLT, jx_subl, jx_al, jx_la, jx_nm, jx_ml, nI_add, jx_xn, jx_xl, jx_inn, jx_inl, jx_ltnn, jx_lenn, jx_eqnn, jx_ltnl, jx_lenl, jx_ltln, jx_leln, jx_eqnl, Int32.reduceAdd, Int32.reduceSub, Int32.reduceMul, Int32.reduceLT, Int32.reduceLE, jx_eqll, jx_ltll, Nat.reduceMul, Nat.reduceSub, forall_const, implies_true, false_implies, not_true_eq_false, true_implies, jx_tko, jx_ofn, jx_tka, jx_pro, jx_pra, and_self, Nat.not_lt_zero, jx_nbb, g0, g5]
      refine jx_cV0 dX8_run_52 li_X8_93 (bg_size bg) (congrArg Prod.fst bg.1.1) (Nat.le_of_ble_eq_true rfl) (Nat.le_of_ble_eq_true rfl) ?_
      rintro _ _ ⟨rfl, rfl⟩ - -
      simp only [Option.toList_some, Option.toList_none, List.cons_append, List.nil_append]
      
      refine jx_gq flok_X8 (fwok_X8 rfl) 56 2 _ _ _ _ ?_
      simp (disch := omega) only [↓reduceIte, jx_wp, jx_stp, jx_f0, jx_f1, jx_f2, jx_f3, List.getElem?_cons_zero, List.getElem?_cons_succ, List.set_cons_zero, List.set_cons_succ, Nat.reduceAdd, true_and, and_true, if_true, if_false, Bool.false_eq_true, jx_s, Nat.reduceLT, dX8_run_0, dX8_run_1, dX8_run_4, dX8_run_5, dX8_run_8, dX8_run_11, dX8_run_12, dX8_run_13, dX8_run_14, dX8_run_15, dX8_run_16, dX8_run_18, dX8_run_20, dX8_run_21, dX8_run_24, dX8_run_25, dX8_run_28, dX8_run_31, dX8_run_34, dX8_run_35, dX8_run_37, dX8_run_38, dX8_run_41, dX8_run_42, dX8_run_43, dX8_run_44, dX8_run_45, dX8_run_47, dX8_run_48, dX8_run_49, dX8_run_52, dX8_run_55, dX8_run_56, dX8_run_59, dX8_run_60, dX8_run_63, dX8_run_66, dX8_run_68, tg_1_10, jx_h1000, tg_8_5, jx_km1, jx_k0, tg_21_45, fl_X8_24, ft_9_2, tg_31_35, jx_h12345, jx_b16, jx_k1, tg_63_m45, jx_wq, jx_stq, jx_ite, jx_b0, jx_bn0, jx_u_eq, jx_u_na, jx_u_ni, jx_nb0, jx_nb1, jx_ni, jx_E, eq_self, jx_a0, jx_a1, ne_eq, not_false_eq_true, Nat.reduceLeDiff, Nat.reduceEqDiff, Nat.reduceLT, jx_subl, jx_al, jx_la, jx_nm, jx_ml, nI_add, jx_xn, jx_xl, jx_inn, jx_inl, jx_ltnn, jx_lenn, jx_eqnn, jx_ltnl, jx_lenl, jx_ltln, jx_leln, jx_eqnl, Int32.reduceAdd, Int32.reduceSub, Int32.reduceMul, Int32.reduceLT, Int32.reduceLE, jx_eqll, jx_ltll, Nat.reduceMul, Nat.reduceSub, forall_const, implies_true, false_implies, not_true_eq_false, true_implies, jx_tko, jx_ofn, jx_tka, jx_pro, jx_pra, and_self, Nat.not_lt_zero, jx_nbb, e, n0']
      have er : s * 1103515245 + 12345 = mo_rs s := rfl
      have hlt := dr_lt (mo_rs s)
      rw [er, dr_v, pk_rem (by omega) (by omega) (by omega)]
      refine jx_cV1 dX8_run_56 li_X8_136 (rl_hand hR h (i := mo_dr (mo_rs s) % y) (Nat.mod_lt _ (by omega)) (by omega)) (congrArg Prod.fst g0) (Nat.le_of_ble_eq_true rfl) (Nat.le_of_ble_eq_true rfl) ?_
      rintro _ _ ⟨rfl, n2, ms2, K2, I2, P2, rfl, hR2, hag2, h362⟩ - -
      simp only [Option.toList_some, Option.toList_none, List.cons_append, List.nil_append]
      
      refine jx_gq flok_X8 (fwok_X8 rfl) 18 8 _ _ _ _ ?_
      simp (disch := omega) only [↓reduceIte, jx_wp, jx_stp, jx_f0, jx_f1, jx_f2, jx_f3, List.getElem?_cons_zero, List.getElem?_cons_succ, List.set_cons_zero, List.set_cons_succ, Nat.reduceAdd, true_and, and_true, if_true, if_false, Bool.false_eq_true, jx_s, Nat.reduceLT, dX8_run_0, dX8_run_1, dX8_run_4, dX8_run_5, dX8_run_8, dX8_run_11, dX8_run_12, dX8_run_13, dX8_run_14, dX8_run_15, dX8_run_16, dX8_run_18, dX8_run_20, dX8_run_21, dX8_run_24, dX8_run_25, dX8_run_28, dX8_run_31, dX8_run_34, dX8_run_35, dX8_run_37, dX8_run_38, dX8_run_41, dX8_run_42, dX8_run_43, dX8_run_44, dX8_run_45, dX8_run_47, dX8_run_48, dX8_run_49, dX8_run_52, dX8_run_55, dX8_run_56, dX8_run_59, dX8_run_60, dX8_run_63, dX8_run_66, dX8_run_68, tg_1_10, jx_h1000, tg_8_5, jx_km1, jx_k0, tg_21_45, fl_X8_24, ft_9_2, tg_31_35, jx_h12345, jx_b16, jx_k1, tg_63_m45, jx_wq, jx_stq, jx_ite, jx_b0, jx_bn0, jx_u_eq, jx_u_na, jx_u_ni, jx_nb0, jx_nb1, jx_ni, jx_E, eq_self, jx_a0, jx_a1, ne_eq, not_false_eq_true, Nat.reduceLeDiff, Nat.reduceEqDiff, Nat.reduceLT, jx_subl, jx_al, jx_la, jx_nm, jx_ml, nI_add, jx_xn, jx_xl, jx_inn, jx_inl, jx_ltnn, jx_lenn, jx_eqnn, jx_ltnl, jx_lenl, jx_ltln, jx_leln, jx_eqnl, Int32.reduceAdd, Int32.reduceSub, Int32.reduceMul, Int32.reduceLT, Int32.reduceLE, jx_eqll, jx_ltll, Nat.reduceMul, Nat.reduceSub, forall_const, implies_true, false_implies, not_true_eq_false, true_implies, jx_tko, jx_ofn, jx_tka, jx_pro, jx_pra, and_self, Nat.not_lt_zero, jx_nbb]
      obtain ⟨x2, i1, i2⟩ := Iv_D (i := mo_dr (mo_rs s) % y) h (Nat.mod_lt _ (by omega)) (by omega)
      refine ih _ _ n2 ms2 K2 P2 _ x2 (dn + 1) hR2 i1 (by omega) ?_ (ag_trans hag2 hag) (by omega) hm2 (fun n3 ms3 K3 I3 P3 q1 q2 q3 => ?_)
      · rw [h362, h36, D_11]
      · rw [show dn + 1 + mo_RC k (mo_rs s) (mo_D J (mo_dr (mo_rs s) % y) (y - 1)) = dn + (mo_RC k (mo_rs s) (mo_D J (mo_dr (mo_rs s) % y) (y - 1)) + 1) by omega]
        exact hQ n3 ms3 K3 I3 P3 q1 q2 q3
set_option maxHeartbeats 4000000 in
set_option maxRecDepth 100000 in
theorem rl_run_c {G : jx_G} {n ms : Nat} {K : Nat → Nat × Nat} {I : Nat → Nat → Int32} {P : Nat → Nat → Option Nat} {J : Nat → Nat → Int32} {B : Nat} {A : Nat → Nat} {q x m : Nat} {sd : Int32} (hR : rl0 n ms K I P J B A) (h : Iv J q x B 4) (hp : x + iv_p J ≤ 133 * B) (h36 : I 3 6 = J 98 11) (hm : m ≤ 1000) : jx_C G yX8_run cX8_run 5 (some FieldType.int) 12 [.inr (some 3), .inl sd, .inl (nI m)] (n, ms, K, I, P) (rl_U (nI (mo_RC m sd J)) (mo_R m sd J) B A I) := by
  refine jx_C_of (by decide) (Nat.le_of_ble_eq_true rfl) ?_
  simp only [List.map_cons, List.map_nil, List.length_cons, List.length_nil, Nat.reduceAdd, Nat.reduceSub, List.replicate_zero, List.append_nil, List.replicate_succ, List.cons_append, List.nil_append]
  have hm2 : ¬ 1000 < m := by omega
  refine jx_gq flok_X8 (fwok_X8 rfl) 18 12 _ _ _ _ ?_
  simp (disch := omega) only [↓reduceIte, jx_wp, jx_stp, jx_f0, jx_f1, jx_f2, jx_f3, List.getElem?_cons_zero, List.getElem?_cons_succ, List.set_cons_zero, List.set_cons_succ, Nat.reduceAdd, true_and, and_true, if_true, if_false, Bool.false_eq_true, jx_s, Nat.reduceLT, dX8_run_0, dX8_run_1, dX8_run_4, dX8_run_5, dX8_run_8, dX8_run_11, dX8_run_12, dX8_run_13, dX8_run_14, dX8_run_15, dX8_run_16, dX8_run_18, dX8_run_20, dX8_run_21, dX8_run_24, dX8_run_25, dX8_run_28, dX8_run_31, dX8_run_34, dX8_run_35, dX8_run_37, dX8_run_38, dX8_run_41, dX8_run_42, dX8_run_43, dX8_run_44, dX8_run_45, dX8_run_47, dX8_run_48, dX8_run_49, dX8_run_52, dX8_run_55, dX8_run_56, dX8_run_59, dX8_run_60, dX8_run_63, dX8_run_66, dX8_run_68, tg_1_10, jx_h1000, tg_8_5, jx_km1, jx_k0, tg_21_45, fl_X8_24, ft_9_2, tg_31_35, jx_h12345, jx_b16, jx_k1, tg_63_m45, jx_wq, jx_stq, jx_ite, jx_b0, jx_bn0, jx_u_eq, jx_u_na, jx_u_ni, jx_nb0, jx_nb1, jx_ni, jx_E, eq_self, jx_a0, jx_a1, ne_eq, not_false_eq_true, Nat.reduceLeDiff, Nat.reduceEqDiff, Nat.reduceLT, jx_subl, jx_al, jx_la, jx_nm, jx_ml, nI_add, jx_xn, jx_xl, jx_inn, jx_inl, jx_ltnn, jx_lenn, jx_eqnn, jx_ltnl, jx_lenl, jx_ltln, jx_leln, jx_eqnl, Int32.reduceAdd, Int32.reduceSub, Int32.reduceMul, Int32.reduceLT, Int32.reduceLE, jx_eqll, jx_ltll, Nat.reduceMul, Nat.reduceSub, forall_const, implies_true, false_implies, not_true_eq_false, true_implies, jx_tko, jx_ofn, jx_tka, jx_pro, jx_pra, and_self, Nat.not_lt_zero, jx_nbb, hm, hm2]
  refine rl_run_l m J I n ms K P sd x 0 hR h hp h36 ag_refl (by omega) hm (fun n3 ms3 K3 I3 P3 q1 q2 q3 => ?_)
  rw [Nat.zero_add]
  exact ⟨rfl, n3, ms3, K3, I3, P3, rfl, q1, q2, q3⟩
set_option maxHeartbeats 4000000 in
set_option maxRecDepth 100000 in
theorem rl_run_no {G : jx_G} {n ms : Nat} {K : Nat → Nat × Nat} {I : Nat → Nat → Int32} {P : Nat → Nat → Option Nat} {sd m : Int32} (hm : m < 0 ∨ ¬ m ≤ 1000) : jx_C G yX8_run cX8_run 5 (some FieldType.int) 12 [.inr (some 3), .inl sd, .inl m] (n, ms, K, I, P) (jx_E (some (.inl (-1))) (n, ms, K, I, P)) := by
  refine jx_C_of (by decide) (Nat.le_of_ble_eq_true rfl) ?_
  simp only [List.map_cons, List.map_nil, List.length_cons, List.length_nil, Nat.reduceAdd, Nat.reduceSub, List.replicate_zero, List.append_nil, List.replicate_succ, List.cons_append, List.nil_append]
  by_cases h1 : m < 0
  · refine jx_gq flok_X8 (fwok_X8 rfl) 99999 10 _ _ _ _ ?_
    simp (disch := omega) only [↓reduceIte, jx_wp, jx_stp, jx_f0, jx_f1, jx_f2, jx_f3, List.getElem?_cons_zero, List.getElem?_cons_succ, List.set_cons_zero, List.set_cons_succ, Nat.reduceAdd, true_and, and_true, if_true, if_false, Bool.false_eq_true, jx_s, Nat.reduceLT, dX8_run_0, dX8_run_1, dX8_run_4, dX8_run_5, dX8_run_8, dX8_run_11, dX8_run_12, dX8_run_13, dX8_run_14, dX8_run_15, dX8_run_16, dX8_run_18, dX8_run_20, dX8_run_21, dX8_run_24, dX8_run_25, dX8_run_28, dX8_run_31, dX8_run_34, dX8_run_35, dX8_run_37, dX8_run_38, dX8_run_41, dX8_run_42, dX8_run_43, dX8_run_44, dX8_run_45, dX8_run_47, dX8_run_48, dX8_run_49, dX8_run_52, dX8_run_55, dX8_run_56, dX8_run_59, dX8_run_60, dX8_run_63, dX8_run_66, dX8_run_68, tg_1_10, jx_h1000, tg_8_5, jx_km1, jx_k0, tg_21_45, fl_X8_24, ft_9_2, tg_31_35, jx_h12345, jx_b16, jx_k1, tg_63_m45, jx_wq, jx_stq, jx_ite, jx_b0, jx_bn0, jx_u_eq, jx_u_na, jx_u_ni, jx_nb0, jx_nb1, jx_ni, jx_E, eq_self, jx_a0, jx_a1, ne_eq, not_false_eq_true, Nat.reduceLeDiff, Nat.reduceEqDiff, Nat.reduceLT, jx_subl, jx_al, jx_la, jx_nm, jx_ml, nI_add, jx_xn, jx_xl, jx_inn, jx_inl, jx_ltnn, jx_lenn, jx_eqnn, jx_ltnl, jx_lenl, jx_ltln, jx_leln, jx_eqnl, Int32.reduceAdd, Int32.reduceSub, Int32.reduceMul, Int32.reduceLT, Int32.reduceLE, jx_eqll, jx_ltll, Nat.reduceMul, Nat.reduceSub, forall_const, implies_true, false_implies, not_true_eq_false, true_implies, jx_tko, jx_ofn, jx_tka, jx_pro, jx_pra, and_self, Nat.not_lt_zero, jx_nbb, h1]
  · have h2 := hm.resolve_left h1
    refine jx_gq flok_X8 (fwok_X8 rfl) 99999 10 _ _ _ _ ?_
    simp (disch := omega) only [↓reduceIte, jx_wp, jx_stp, jx_f0, jx_f1, jx_f2, jx_f3, List.getElem?_cons_zero, List.getElem?_cons_succ, List.set_cons_zero, List.set_cons_succ, Nat.reduceAdd, true_and, and_true, if_true, if_false, Bool.false_eq_true, jx_s, Nat.reduceLT, dX8_run_0, dX8_run_1, dX8_run_4, dX8_run_5, dX8_run_8, dX8_run_11, dX8_run_12, dX8_run_13, dX8_run_14, dX8_run_15, dX8_run_16, dX8_run_18, dX8_run_20, dX8_run_21, dX8_run_24, dX8_run_25, dX8_run_28, dX8_run_31, dX8_run_34, dX8_run_35, dX8_run_37, dX8_run_38, dX8_run_41, dX8_run_42, dX8_run_43, dX8_run_44, dX8_run_45, dX8_run_47, dX8_run_48, dX8_run_49, dX8_run_52, dX8_run_55, dX8_run_56, dX8_run_59, dX8_run_60, dX8_run_63, dX8_run_66, dX8_run_68, tg_1_10, jx_h1000, tg_8_5, jx_km1, jx_k0, tg_21_45, fl_X8_24, ft_9_2, tg_31_35, jx_h12345, jx_b16, jx_k1, tg_63_m45, jx_wq, jx_stq, jx_ite, jx_b0, jx_bn0, jx_u_eq, jx_u_na, jx_u_ni, jx_nb0, jx_nb1, jx_ni, jx_E, eq_self, jx_a0, jx_a1, ne_eq, not_false_eq_true, Nat.reduceLeDiff, Nat.reduceEqDiff, Nat.reduceLT, jx_subl, jx_al, jx_la, jx_nm, jx_ml, nI_add, jx_xn, jx_xl, jx_inn, jx_inl, jx_ltnn, jx_lenn, jx_eqnn, jx_ltnl, jx_lenl, jx_ltln, jx_leln, jx_eqnl, Int32.reduceAdd, Int32.reduceSub, Int32.reduceMul, Int32.reduceLT, Int32.reduceLE, jx_eqll, jx_ltll, Nat.reduceMul, Nat.reduceSub, forall_const, implies_true, false_implies, not_true_eq_false, true_implies, jx_tko, jx_ofn, jx_tka, jx_pro, jx_pra, and_self, Nat.not_lt_zero, jx_nbb, h1, h2]
set_option maxHeartbeats 4000000 in
set_option maxRecDepth 100000 in
theorem rl_lose {G : jx_G} {n ms : Nat} {K : Nat → Nat × Nat} {I : Nat → Nat → Int32} {P : Nat → Nat → Option Nat} {J : Nat → Nat → Int32} {B : Nat} {A : Nat → Nat} {q i x : Nat} (hR : rl0 n ms K I P J B A) (hx : J 98 9 = nI x) (hx1 : x ≤ 16000) (hi : i < x) : jx_C G yX8_lose cX8_lose 2 (some FieldType.boolean) 12 [.inr (some 3), .inl (nI i)] (n, ms, K, I, P) (rl_C 1 (mo_sh J i (x - 1)) B A I 0) := by
  refine jx_C_of (by decide) (Nat.le_of_ble_eq_true rfl) ?_
  simp only [List.map_cons, List.map_nil, List.length_cons, List.length_nil, Nat.reduceAdd, Nat.reduceSub, List.replicate_zero, List.append_nil, List.replicate_succ, List.cons_append, List.nil_append]
  obtain ⟨hN, ⟨L, x', S, z, e, cc, e2, c2, hB, hT⟩, hX, hag⟩ := id hR
  obtain ⟨bg, bj, -, bm3, bb, bn, bm⟩ := id hB
  have exx : x' = x := by
    have w := bj.symm.trans hx
    rw [jx_eqnn (by omega) (by omega)] at w
    exact w
  subst exx
  obtain ⟨bf, bl, bl2, bee, bmi, bms, bdj, b140⟩ := id bg
  obtain ⟨hR1, hj1, hm1⟩ := rl_take hN hB hi
  have g0 := hN.1.1
  have g5 := hN.1.2.2.2.2.2.1
  have hyi : ¬ x' ≤ i := by omega
  have hin : (¬ nI i < 0 ∧ ¬ nI x' ≤ nI i) = True := eq_true ⟨by simp (disch := omega) only [jx_ltnl, Nat.not_lt_zero, not_false_eq_true], by rw [jx_lenn (by omega) (by omega)]; omega⟩
  have hag1 : ag (bg_tk I x') I := fun a j h1 h2 => by
    unfold bg_tk
    rw [jx_u_na (by omega), jx_u_na (by omega)]
  have h36 : bg_tk I x' 3 6 = I 3 6 := by
    unfold bg_tk
    rw [jx_u_na (by omega), jx_u_na (by omega)]
  refine jx_gq flok_X8 (fwok_X8 rfl) 99999 3 _ _ _ _ ?_
  simp (disch := omega) only [↓reduceIte, jx_wp, jx_stp, jx_f0, jx_f1, jx_f2, jx_f3, List.getElem?_cons_zero, List.getElem?_cons_succ, List.set_cons_zero, List.set_cons_succ, Nat.reduceAdd, true_and, and_true, if_true, if_false, Bool.false_eq_true, jx_s, Nat.reduceLT, dX8_lose_0, dX8_lose_1, dX8_lose_4, dX8_lose_5, dX8_lose_8, dX8_lose_11, dX8_lose_12, dX8_lose_13, dX8_lose_14, dX8_lose_17, dX8_lose_18, dX8_lose_21, dX8_lose_22, dX8_lose_25, dX8_lose_28, dX8_lose_29, fl_X8_24, ft_9_2, tg_8_5, jx_k0, jx_k1, jx_wq, jx_stq, jx_ite, jx_b0, jx_bn0, jx_u_eq, jx_u_na, jx_u_ni, jx_nb0, jx_nb1, jx_ni, jx_E, eq_self, jx_a0, jx_a1, ne_eq, not_false_eq_true, Nat.reduceLeDiff, Nat.reduceEqDiff, Nat.reduceLT, jx_subl, jx_al, jx_la, jx_nm, jx_ml, nI_add, jx_xn, jx_xl, jx_inn, jx_inl, jx_ltnn, jx_lenn, jx_eqnn, jx_ltnl, jx_lenl, jx_ltln, jx_leln, jx_eqnl, Int32.reduceAdd, Int32.reduceSub, Int32.reduceMul, Int32.reduceLT, Int32.reduceLE, jx_eqll, jx_ltll, Nat.reduceMul, Nat.reduceSub, forall_const, implies_true, false_implies, not_true_eq_false, true_implies, jx_tko, jx_ofn, jx_tka, jx_pro, jx_pra, and_self, Nat.not_lt_zero, jx_nbb, g0, g5]
  refine jx_cV1 dX8_lose_5 li_X8_96 (bg_has bg) (congrArg Prod.fst bf.1) (Nat.le_of_ble_eq_true rfl) (Nat.le_of_ble_eq_true rfl) ?_
  rintro _ _ ⟨rfl, rfl⟩ - -
  simp only [Option.toList_some, Option.toList_none, List.cons_append, List.nil_append]
  refine jx_gq flok_X8 (fwok_X8 rfl) 99999 7 _ _ _ _ ?_
  simp (disch := omega) only [↓reduceIte, jx_wp, jx_stp, jx_f0, jx_f1, jx_f2, jx_f3, List.getElem?_cons_zero, List.getElem?_cons_succ, List.set_cons_zero, List.set_cons_succ, Nat.reduceAdd, true_and, and_true, if_true, if_false, Bool.false_eq_true, jx_s, Nat.reduceLT, dX8_lose_0, dX8_lose_1, dX8_lose_4, dX8_lose_5, dX8_lose_8, dX8_lose_11, dX8_lose_12, dX8_lose_13, dX8_lose_14, dX8_lose_17, dX8_lose_18, dX8_lose_21, dX8_lose_22, dX8_lose_25, dX8_lose_28, dX8_lose_29, fl_X8_24, ft_9_2, tg_8_5, jx_k0, jx_k1, jx_wq, jx_stq, jx_ite, jx_b0, jx_bn0, jx_u_eq, jx_u_na, jx_u_ni, jx_nb0, jx_nb1, jx_ni, jx_E, eq_self, jx_a0, jx_a1, ne_eq, not_false_eq_true, Nat.reduceLeDiff, Nat.reduceEqDiff, Nat.reduceLT, jx_subl, jx_al, jx_la, jx_nm, jx_ml, nI_add, jx_xn, jx_xl, jx_inn, jx_inl, jx_ltnn, jx_lenn, jx_eqnn, jx_ltnl, jx_lenl, jx_ltln, jx_leln, jx_eqnl, Int32.reduceAdd, Int32.reduceSub, Int32.reduceMul, Int32.reduceLT, Int32.reduceLE, jx_eqll, jx_ltll, Nat.reduceMul, Nat.reduceSub, forall_const, implies_true, false_implies, not_true_eq_false, true_implies, jx_tko, jx_ofn, jx_tka, jx_pro, jx_pra, and_self, Nat.not_lt_zero, jx_nbb, hin, hyi, g0, g5]
  refine jx_cV1 dX8_lose_22 li_X8_139 (bg_take bg hi) (congrArg Prod.fst bf.1) (Nat.le_of_ble_eq_true rfl) (Nat.le_of_ble_eq_true rfl) ?_
  rintro _ _ ⟨rfl, rfl⟩ - -
  simp only [Option.toList_some, Option.toList_none, List.cons_append, List.nil_append]
  refine jx_gq flok_X8 (fwok_X8 rfl) 99999 1 _ _ _ _ ?_
  simp (disch := omega) only [↓reduceIte, jx_wp, jx_stp, jx_f0, jx_f1, jx_f2, jx_f3, List.getElem?_cons_zero, List.getElem?_cons_succ, List.set_cons_zero, List.set_cons_succ, Nat.reduceAdd, true_and, and_true, if_true, if_false, Bool.false_eq_true, jx_s, Nat.reduceLT, dX8_lose_0, dX8_lose_1, dX8_lose_4, dX8_lose_5, dX8_lose_8, dX8_lose_11, dX8_lose_12, dX8_lose_13, dX8_lose_14, dX8_lose_17, dX8_lose_18, dX8_lose_21, dX8_lose_22, dX8_lose_25, dX8_lose_28, dX8_lose_29, fl_X8_24, ft_9_2, tg_8_5, jx_k0, jx_k1, jx_wq, jx_stq, jx_ite, jx_b0, jx_bn0, jx_u_eq, jx_u_na, jx_u_ni, jx_nb0, jx_nb1, jx_ni, jx_E, eq_self, jx_a0, jx_a1, ne_eq, not_false_eq_true, Nat.reduceLeDiff, Nat.reduceEqDiff, Nat.reduceLT, jx_subl, jx_al, jx_la, jx_nm, jx_ml, nI_add, jx_xn, jx_xl, jx_inn, jx_inl, jx_ltnn, jx_lenn, jx_eqnn, jx_ltnl, jx_lenl, jx_ltln, jx_leln, jx_eqnl, Int32.reduceAdd, Int32.reduceSub, Int32.reduceMul, Int32.reduceLT, Int32.reduceLE, jx_eqll, jx_ltll, Nat.reduceMul, Nat.reduceSub, forall_const, implies_true, false_implies, not_true_eq_false, true_implies, jx_tko, jx_ofn, jx_tka, jx_pro, jx_pra, and_self, Nat.not_lt_zero, jx_nbb]
  obtain ⟨hN2, ⟨L2, x2, S2, z2, e3, cc3, e4, c4, hB2, hT2⟩, hX2, hag2⟩ := id hR1
  obtain ⟨bg2, bj2, -, -, bb2, bn2, bm2⟩ := id hB2
  obtain ⟨bf2, bl2, bl22, bee2, bmi2, bms2, bdj2, b1402⟩ := id bg2
  have cb1 := bl2.2.2.2.2.1
  have cb2 := bl22.2.2.2.2.1
  have ht := hT2 (L i) rfl
  refine jx_cV1 dX8_lose_25 li_X8_142 (bg_reuse ⟨bg2, ht⟩ (by omega) (by omega) (by omega)) (congrArg Prod.fst bf2.1) (Nat.le_of_ble_eq_true rfl) (Nat.le_of_ble_eq_true rfl) ?_
  rintro _ _ hq hnn -
  obtain ⟨rfl, n2, ms2, K2, I2, P2, rfl, hR2⟩ := rl_re hN2 hB2 hag2 hq hnn
  simp only [Option.toList_none, List.nil_append]
  refine jx_gq flok_X8 (fwok_X8 rfl) 99999 3 _ _ _ _ ?_
  simp (disch := omega) only [↓reduceIte, jx_wp, jx_stp, jx_f0, jx_f1, jx_f2, jx_f3, List.getElem?_cons_zero, List.getElem?_cons_succ, List.set_cons_zero, List.set_cons_succ, Nat.reduceAdd, true_and, and_true, if_true, if_false, Bool.false_eq_true, jx_s, Nat.reduceLT, dX8_lose_0, dX8_lose_1, dX8_lose_4, dX8_lose_5, dX8_lose_8, dX8_lose_11, dX8_lose_12, dX8_lose_13, dX8_lose_14, dX8_lose_17, dX8_lose_18, dX8_lose_21, dX8_lose_22, dX8_lose_25, dX8_lose_28, dX8_lose_29, fl_X8_24, ft_9_2, tg_8_5, jx_k0, jx_k1, jx_wq, jx_stq, jx_ite, jx_b0, jx_bn0, jx_u_eq, jx_u_na, jx_u_ni, jx_nb0, jx_nb1, jx_ni, jx_E, eq_self, jx_a0, jx_a1, ne_eq, not_false_eq_true, Nat.reduceLeDiff, Nat.reduceEqDiff, Nat.reduceLT, jx_subl, jx_al, jx_la, jx_nm, jx_ml, nI_add, jx_xn, jx_xl, jx_inn, jx_inl, jx_ltnn, jx_lenn, jx_eqnn, jx_ltnl, jx_lenl, jx_ltln, jx_leln, jx_eqnl, Int32.reduceAdd, Int32.reduceSub, Int32.reduceMul, Int32.reduceLT, Int32.reduceLE, jx_eqll, jx_ltll, Nat.reduceMul, Nat.reduceSub, forall_const, implies_true, false_implies, not_true_eq_false, true_implies, jx_tko, jx_ofn, jx_tka, jx_pro, jx_pra, and_self, Nat.not_lt_zero, jx_nbb]
  have hR3 : rl0 n2 ms2 K2 I2 P2 (mo_sh (mo_tk J i) i (x' - 1)) B A := ⟨hR2.1, hR2.2.1, fun _ q => q.elim, ag_refl, rfl⟩
  refine ⟨rfl, n2, ms2, K2, I2, P2, rfl, rl_Jh hR3 (fun a j q1 q2 q3 => ?_), ag_trans hR2.2.2.2.1 hag1, by rw [hR2.2.2.2.2, h36, Int32.add_zero]⟩
  by_cases h98 : a = 98
  · subst h98
    by_cases h9 : j = 9
    · subst h9
      rw [mo_sh_9, mo_sh_9]
    · rw [mo_sh_f h9, mo_sh_f h9, mo_tk_lo (by omega)]
  · exact mo_sh_c (fun j => (mo_tk_na h98).symm) j
theorem rl_stop_c {n ms : Nat} {K : Nat → Nat × Nat} {I : Nat → Nat → Int32} {P : Nat → Nat → Option Nat} {J : Nat → Nat → Int32} {B h c : Nat} {A : Nat → Nat} {T : Nat → Prop} {X : Nat → Nat → Int32} (hR : rl n ms K I P J B A h T X) (hc : c < 4) : rl n ms K (jx_u I (78 + 5 * c) 5 1) P (jx_u J 100 (7 + c) 1) B A h T X := by
  have n140 := rl_140 hR
  obtain ⟨⟨s0, s1, s2, s3⟩, ht⟩ := hR.1.2.2.2.2.1 c hc
  refine rl_chg hR (rl_N_c hR.1 hc (fun b j q => jx_u_na (by omega)) (fun _ _ _ => rfl) (fun a j q1 q2 q3 => jx_u_no (fun w => q3 (by unfold jc_own; omega))) ⟨⟨by rw [jx_u_ni (by omega), s0], by rw [jx_u_eq, jx_u_eq], by rw [jx_u_ni (by omega), jx_u_na (by omega), s2], fun k hk => by rw [jx_u_na (by omega), jx_u_na (by omega), s3 k hk]⟩, ?_⟩) (fun b j q => jx_u_na (by omega)) (fun _ _ _ => rfl) (fun a j q1 q2 => jx_u_na (by omega)) (jx_u_na (by omega)) (jx_u_na (by omega))
  rw [jx_u_na (by omega)]
  rcases ht with ht | ⟨o, q1, q2, q3, q4⟩
  · exact Or.inl ht
  · refine Or.inr ⟨o, q1, q2, q3, ?_⟩
    unfold cn_o mo_of at q4 ⊢
    simp (disch := omega) only [jx_u_na, jx_u_ni]
    exact q4
theorem rl_stop_s {n ms : Nat} {K : Nat → Nat × Nat} {I : Nat → Nat → Int32} {P : Nat → Nat → Option Nat} {J : Nat → Nat → Int32} {B h s : Nat} {A : Nat → Nat} {T : Nat → Prop} {X : Nat → Nat → Int32} (hR : rl n ms K I P J B A h T X) (hs : s < 7) : rl n ms K (jx_u I (22 + 8 * s) 6 1) P (jx_u J 100 s 1) B A h T X := by
  have n140 := rl_140 hR
  obtain ⟨a0, a1, a2, a3, a4, a5, a6⟩ := hR.1
  refine rl_chg hR ⟨a0, a1, a2, fun d hd => ?_, fun c hc => ?_, ?_, ?_⟩ (fun b j q => jx_u_na (by omega)) (fun _ _ _ => rfl) (fun a j q1 q2 => jx_u_na (by omega)) (jx_u_na (by omega)) (jx_u_na (by omega))
  · obtain ⟨b0, b1, b2, b3⟩ := a3 d hd
    refine ⟨?_, fun k hk => ?_, fun r hr => ⟨?_, ?_⟩, fun k hk => ⟨?_, ?_, ?_⟩⟩
    · by_cases e : d = s
      · subst e
        rw [jx_u_eq, jx_u_eq]
      · rw [jx_u_na (by omega), jx_u_ni e, b0]
    · rw [jx_u_na (by omega), jx_u_na (by omega), b1 k hk]
    · rw [jx_u_na (by omega), jx_u_na (by omega), (b2 r hr).1]
    · rw [jx_u_na (by omega), jx_u_na (by omega), (b2 r hr).2]
    · rw [jx_u_na (by omega), jx_u_na (by omega), (b3 k hk).1]
    · rw [jx_u_na (by omega), jx_u_na (by omega), (b3 k hk).2.1]
    · rw [jx_u_na (by omega), jx_u_na (by omega), (b3 k hk).2.2]
  · obtain ⟨⟨s0, s1, s2, s3⟩, ht⟩ := a4 c hc
    refine ⟨⟨by rw [jx_u_na (by omega), s0], by rw [jx_u_na (by omega), jx_u_ni (by omega), s1], by rw [jx_u_na (by omega), jx_u_na (by omega), s2], fun k hk => by rw [jx_u_na (by omega), jx_u_na (by omega), s3 k hk]⟩, ?_⟩
    rw [jx_u_na (by omega)]
    rcases ht with ht | ⟨o, q1, q2, q3, q4⟩
    · exact Or.inl ht
    · refine Or.inr ⟨o, q1, q2, q3, ?_⟩
      unfold cn_o mo_of at q4 ⊢
      simp (disch := omega) only [jx_u_na, jx_u_ni]
      exact q4
  · obtain ⟨e0, e1, e2, e3, e4, e5, e6⟩ := a5
    refine ⟨e0, by rw [jx_u_na (by omega), e1], by rw [jx_u_na (by omega), e2], by rw [jx_u_na (by omega), jx_u_na (by omega), e3], by rw [jx_u_na (by omega), jx_u_na (by omega), e4], fun o a ho hp => ?_, fun o ho => ?_⟩
    · obtain ⟨q1, q2, q3, q4⟩ := e5 o a ho hp
      exact ⟨q1, q2, q3, by rw [jx_u_na (by omega), q4]⟩
    · obtain ⟨q1, q2⟩ := e6 o ho
      obtain ⟨-, w, -⟩ := e5 o _ (by omega) q1
      exact ⟨q1, op_r_to q2 (fun j => jx_u_na (by omega)) (fun _ _ _ _ => jx_u_na (by omega))⟩
  · rw [jx_u_na (by omega), jx_u_na (by omega), a6]
set_option maxHeartbeats 4000000 in
set_option maxRecDepth 100000 in
theorem rl_stop_c_no {G : jx_G} {n ms : Nat} {K : Nat → Nat × Nat} {I : Nat → Nat → Int32} {P : Nat → Nat → Option Nat} {J : Nat → Nat → Int32} {B h : Nat} {A : Nat → Nat} {T : Nat → Prop} {X : Nat → Nat → Int32} {s b : Int32} (hb : ¬ b = 0) (hs : ¬ (¬ s < 0 ∧ ¬ 4 ≤ s)) (hR : rl n ms K I P J B A h T X) : jx_C G yX8_stop cX8_stop 3 (some FieldType.boolean) 1 [.inr (some 3), .inl b, .inl s] (n, ms, K, I, P) (jx_E (some (.inl (0))) (n, ms, K, I, P)) := by
  refine jx_C_of (by decide) (Nat.le_of_ble_eq_true rfl) ?_
  simp only [List.map_cons, List.map_nil, List.length_cons, List.length_nil, Nat.reduceAdd, Nat.reduceSub, List.replicate_zero, List.append_nil, List.replicate_succ, List.cons_append, List.nil_append]
  obtain ⟨n0, n1, n2, n3, n4, n5, n6⟩ := id hR.1
  obtain ⟨g0, g1, g2, g3, g4, g5, g6, g7, g8, g9, g10⟩ := id n0
  refine jx_gq flok_X8 (fwok_X8 rfl) 99999 3 _ _ _ _ ?_
  simp (disch := omega) only [↓reduceIte, jx_wp, jx_stp, jx_f0, jx_f1, jx_f2, jx_f3, List.getElem?_cons_zero, List.getElem?_cons_succ, List.set_cons_zero, List.set_cons_succ, Nat.reduceAdd, true_and, and_true, if_true, if_false, Bool.false_eq_true, jx_s, Nat.reduceLT, dX8_stop_0, dX8_stop_1, dX8_stop_4, dX8_stop_5, dX8_stop_8, dX8_stop_11, dX8_stop_12, dX8_stop_15, dX8_stop_16, dX8_stop_17, dX8_stop_20, dX8_stop_23, dX8_stop_24, dX8_stop_25, dX8_stop_26, dX8_stop_29, dX8_stop_30, dX8_stop_31, dX8_stop_32, dX8_stop_35, dX8_stop_36, dX8_stop_37, dX8_stop_38, dX8_stop_39, dX8_stop_42, dX8_stop_45, dX8_stop_46, dX8_stop_49, dX8_stop_50, dX8_stop_51, dX8_stop_54, dX8_stop_57, dX8_stop_58, dX8_stop_59, dX8_stop_60, dX8_stop_63, dX8_stop_64, dX8_stop_65, dX8_stop_66, dX8_stop_69, dX8_stop_70, tg_1_36, tg_8_15, fl_X8_17, ft_9_1, fl_X8_150, ft_2_5, tg_20_5, jx_k0, jx_k1, fw_X8_150, tg_42_15, fl_X8_11, ft_9_0, fl_X8_156, ft_7_6, tg_54_5, fw_X8_156, jx_wq, jx_stq, jx_ite, jx_b0, jx_bn0, jx_u_eq, jx_u_na, jx_u_ni, jx_nb0, jx_nb1, jx_ni, jx_E, eq_self, jx_a0, jx_a1, ne_eq, not_false_eq_true, Nat.reduceLeDiff, Nat.reduceEqDiff, Nat.reduceLT, jx_subl, jx_al, jx_la, jx_nm, jx_ml, nI_add, jx_xn, jx_xl, jx_inn, jx_inl, jx_ltnn, jx_lenn, jx_eqnn, jx_ltnl, jx_lenl, jx_ltln, jx_leln, jx_eqnl, Int32.reduceAdd, Int32.reduceSub, Int32.reduceMul, Int32.reduceLT, Int32.reduceLE, jx_eqll, jx_ltll, Nat.reduceMul, Nat.reduceSub, forall_const, implies_true, false_implies, not_true_eq_false, true_implies, jx_tko, jx_ofn, jx_tka, jx_pro, jx_pra, and_self, Nat.not_lt_zero, jx_nbb, fv_2_5, fv_7_6, hb]
  refine jx_cS1 dX8_stop_5 li_X8_147 (cl_isClient) (Nat.le_of_ble_eq_true rfl) (Nat.le_of_ble_eq_true rfl) ?_
  rintro _ _ ⟨rfl, rfl⟩ - -
  simp only [Option.toList_some, Option.toList_none, List.cons_append, List.nil_append]
  refine jx_gq flok_X8 (fwok_X8 rfl) 99999 4 _ _ _ _ ?_
  simp (disch := omega) only [↓reduceIte, jx_wp, jx_stp, jx_f0, jx_f1, jx_f2, jx_f3, List.getElem?_cons_zero, List.getElem?_cons_succ, List.set_cons_zero, List.set_cons_succ, Nat.reduceAdd, true_and, and_true, if_true, if_false, Bool.false_eq_true, jx_s, Nat.reduceLT, dX8_stop_0, dX8_stop_1, dX8_stop_4, dX8_stop_5, dX8_stop_8, dX8_stop_11, dX8_stop_12, dX8_stop_15, dX8_stop_16, dX8_stop_17, dX8_stop_20, dX8_stop_23, dX8_stop_24, dX8_stop_25, dX8_stop_26, dX8_stop_29, dX8_stop_30, dX8_stop_31, dX8_stop_32, dX8_stop_35, dX8_stop_36, dX8_stop_37, dX8_stop_38, dX8_stop_39, dX8_stop_42, dX8_stop_45, dX8_stop_46, dX8_stop_49, dX8_stop_50, dX8_stop_51, dX8_stop_54, dX8_stop_57, dX8_stop_58, dX8_stop_59, dX8_stop_60, dX8_stop_63, dX8_stop_64, dX8_stop_65, dX8_stop_66, dX8_stop_69, dX8_stop_70, tg_1_36, tg_8_15, fl_X8_17, ft_9_1, fl_X8_150, ft_2_5, tg_20_5, jx_k0, jx_k1, fw_X8_150, tg_42_15, fl_X8_11, ft_9_0, fl_X8_156, ft_7_6, tg_54_5, fw_X8_156, jx_wq, jx_stq, jx_ite, jx_b0, jx_bn0, jx_u_eq, jx_u_na, jx_u_ni, jx_nb0, jx_nb1, jx_ni, jx_E, eq_self, jx_a0, jx_a1, ne_eq, not_false_eq_true, Nat.reduceLeDiff, Nat.reduceEqDiff, Nat.reduceLT, jx_subl, jx_al, jx_la, jx_nm, jx_ml, nI_add, jx_xn, jx_xl, jx_inn, jx_inl, jx_ltnn, jx_lenn, jx_eqnn, jx_ltnl, jx_lenl, jx_ltln, jx_leln, jx_eqnl, Int32.reduceAdd, Int32.reduceSub, Int32.reduceMul, Int32.reduceLT, Int32.reduceLE, jx_eqll, jx_ltll, Nat.reduceMul, Nat.reduceSub, forall_const, implies_true, false_implies, not_true_eq_false, true_implies, jx_tko, jx_ofn, jx_tka, jx_pro, jx_pra, and_self, Nat.not_lt_zero, jx_nbb, fv_2_5, fv_7_6, hs]
set_option maxHeartbeats 4000000 in
set_option maxRecDepth 100000 in
theorem rl_stop_c1 {G : jx_G} {n ms : Nat} {K : Nat → Nat × Nat} {I : Nat → Nat → Int32} {P : Nat → Nat → Option Nat} {J : Nat → Nat → Int32} {B h : Nat} {A : Nat → Nat} {T : Nat → Prop} {X : Nat → Nat → Int32} {c : Nat} {b : Int32} (hb : ¬ b = 0) (hc : c < 4) (hst : ¬ J 100 (7 + c) = 0) (hR : rl n ms K I P J B A h T X) : jx_C G yX8_stop cX8_stop 3 (some FieldType.boolean) 1 [.inr (some 3), .inl b, .inl (nI c)] (n, ms, K, I, P) (jx_E (some (.inl (0))) (n, ms, K, I, P)) := by
  refine jx_C_of (by decide) (Nat.le_of_ble_eq_true rfl) ?_
  simp only [List.map_cons, List.map_nil, List.length_cons, List.length_nil, Nat.reduceAdd, Nat.reduceSub, List.replicate_zero, List.append_nil, List.replicate_succ, List.cons_append, List.nil_append]
  obtain ⟨n0, n1, n2, n3, n4, n5, n6⟩ := id hR.1
  obtain ⟨g0, g1, g2, g3, g4, g5, g6, g7, g8, g9, g10⟩ := id n0
  have hp5 := (g9 c hc).1
  have hC := (g9 c hc).2
  obtain ⟨c0, c1, c2, c3, c4, d1, d2, d3, d4⟩ := id hC
  obtain ⟨⟨s0, s1, s2, s3⟩, ht⟩ := n4 c hc
  have hin : (¬ nI c < 0 ∧ ¬ 4 ≤ nI c) = True := eq_true ⟨by simp (disch := omega) only [jx_ltnl, Nat.not_lt_zero, not_false_eq_true], by simp (disch := omega) only [jx_leln]; omega⟩
  have e4 : ¬ 4 ≤ c := by omega
  refine jx_gq flok_X8 (fwok_X8 rfl) 99999 3 _ _ _ _ ?_
  simp (disch := omega) only [↓reduceIte, jx_wp, jx_stp, jx_f0, jx_f1, jx_f2, jx_f3, List.getElem?_cons_zero, List.getElem?_cons_succ, List.set_cons_zero, List.set_cons_succ, Nat.reduceAdd, true_and, and_true, if_true, if_false, Bool.false_eq_true, jx_s, Nat.reduceLT, dX8_stop_0, dX8_stop_1, dX8_stop_4, dX8_stop_5, dX8_stop_8, dX8_stop_11, dX8_stop_12, dX8_stop_15, dX8_stop_16, dX8_stop_17, dX8_stop_20, dX8_stop_23, dX8_stop_24, dX8_stop_25, dX8_stop_26, dX8_stop_29, dX8_stop_30, dX8_stop_31, dX8_stop_32, dX8_stop_35, dX8_stop_36, dX8_stop_37, dX8_stop_38, dX8_stop_39, dX8_stop_42, dX8_stop_45, dX8_stop_46, dX8_stop_49, dX8_stop_50, dX8_stop_51, dX8_stop_54, dX8_stop_57, dX8_stop_58, dX8_stop_59, dX8_stop_60, dX8_stop_63, dX8_stop_64, dX8_stop_65, dX8_stop_66, dX8_stop_69, dX8_stop_70, tg_1_36, tg_8_15, fl_X8_17, ft_9_1, fl_X8_150, ft_2_5, tg_20_5, jx_k0, jx_k1, fw_X8_150, tg_42_15, fl_X8_11, ft_9_0, fl_X8_156, ft_7_6, tg_54_5, fw_X8_156, jx_wq, jx_stq, jx_ite, jx_b0, jx_bn0, jx_u_eq, jx_u_na, jx_u_ni, jx_nb0, jx_nb1, jx_ni, jx_E, eq_self, jx_a0, jx_a1, ne_eq, not_false_eq_true, Nat.reduceLeDiff, Nat.reduceEqDiff, Nat.reduceLT, jx_subl, jx_al, jx_la, jx_nm, jx_ml, nI_add, jx_xn, jx_xl, jx_inn, jx_inl, jx_ltnn, jx_lenn, jx_eqnn, jx_ltnl, jx_lenl, jx_ltln, jx_leln, jx_eqnl, Int32.reduceAdd, Int32.reduceSub, Int32.reduceMul, Int32.reduceLT, Int32.reduceLE, jx_eqll, jx_ltll, Nat.reduceMul, Nat.reduceSub, forall_const, implies_true, false_implies, not_true_eq_false, true_implies, jx_tko, jx_ofn, jx_tka, jx_pro, jx_pra, and_self, Nat.not_lt_zero, jx_nbb, fv_2_5, fv_7_6, hb]
  refine jx_cS1 dX8_stop_5 li_X8_147 (cl_isClient) (Nat.le_of_ble_eq_true rfl) (Nat.le_of_ble_eq_true rfl) ?_
  rintro _ _ ⟨rfl, rfl⟩ - -
  simp only [Option.toList_some, Option.toList_none, List.cons_append, List.nil_append]
  refine jx_gq flok_X8 (fwok_X8 rfl) 99999 16 _ _ _ _ ?_
  simp (disch := omega) only [↓reduceIte, jx_wp, jx_stp, jx_f0, jx_f1, jx_f2, jx_f3, List.getElem?_cons_zero, List.getElem?_cons_succ, List.set_cons_zero, List.set_cons_succ, Nat.reduceAdd, true_and, and_true, if_true, if_false, Bool.false_eq_true, jx_s, Nat.reduceLT, dX8_stop_0, dX8_stop_1, dX8_stop_4, dX8_stop_5, dX8_stop_8, dX8_stop_11, dX8_stop_12, dX8_stop_15, dX8_stop_16, dX8_stop_17, dX8_stop_20, dX8_stop_23, dX8_stop_24, dX8_stop_25, dX8_stop_26, dX8_stop_29, dX8_stop_30, dX8_stop_31, dX8_stop_32, dX8_stop_35, dX8_stop_36, dX8_stop_37, dX8_stop_38, dX8_stop_39, dX8_stop_42, dX8_stop_45, dX8_stop_46, dX8_stop_49, dX8_stop_50, dX8_stop_51, dX8_stop_54, dX8_stop_57, dX8_stop_58, dX8_stop_59, dX8_stop_60, dX8_stop_63, dX8_stop_64, dX8_stop_65, dX8_stop_66, dX8_stop_69, dX8_stop_70, tg_1_36, tg_8_15, fl_X8_17, ft_9_1, fl_X8_150, ft_2_5, tg_20_5, jx_k0, jx_k1, fw_X8_150, tg_42_15, fl_X8_11, ft_9_0, fl_X8_156, ft_7_6, tg_54_5, fw_X8_156, jx_wq, jx_stq, jx_ite, jx_b0, jx_bn0, jx_u_eq, jx_u_na, jx_u_ni, jx_nb0, jx_nb1, jx_ni, jx_E, eq_self, jx_a0, jx_a1, ne_eq, not_false_eq_true, Nat.reduceLeDiff, Nat.reduceEqDiff, Nat.reduceLT, jx_subl, jx_al, jx_la, jx_nm, jx_ml, nI_add, jx_xn, jx_xl, jx_inn, jx_inl, jx_ltnn, jx_lenn, jx_eqnn, jx_ltnl, jx_lenl, jx_ltln, jx_leln, jx_eqnl, Int32.reduceAdd, Int32.reduceSub, Int32.reduceMul, Int32.reduceLT, Int32.reduceLE, jx_eqll, jx_ltll, Nat.reduceMul, Nat.reduceSub, forall_const, implies_true, false_implies, not_true_eq_false, true_implies, jx_tko, jx_ofn, jx_tka, jx_pro, jx_pra, and_self, Nat.not_lt_zero, jx_nbb, fv_2_5, fv_7_6, hin, e4, g0, g2, g4, hp5, c0, s1, hst]
set_option maxHeartbeats 4000000 in
set_option maxRecDepth 100000 in
theorem rl_stop_c0 {G : jx_G} {n ms : Nat} {K : Nat → Nat × Nat} {I : Nat → Nat → Int32} {P : Nat → Nat → Option Nat} {J : Nat → Nat → Int32} {B h : Nat} {A : Nat → Nat} {T : Nat → Prop} {X : Nat → Nat → Int32} {c : Nat} {b : Int32} (hb : ¬ b = 0) (hc : c < 4) (hst : J 100 (7 + c) = 0) (hR : rl n ms K I P J B A h T X) : jx_C G yX8_stop cX8_stop 3 (some FieldType.boolean) 1 [.inr (some 3), .inl b, .inl (nI c)] (n, ms, K, I, P) (jx_E (some (.inl (1))) (n, ms, K, jx_u I (78 + 5 * c) 5 1, P)) := by
  refine jx_C_of (by decide) (Nat.le_of_ble_eq_true rfl) ?_
  simp only [List.map_cons, List.map_nil, List.length_cons, List.length_nil, Nat.reduceAdd, Nat.reduceSub, List.replicate_zero, List.append_nil, List.replicate_succ, List.cons_append, List.nil_append]
  obtain ⟨n0, n1, n2, n3, n4, n5, n6⟩ := id hR.1
  obtain ⟨g0, g1, g2, g3, g4, g5, g6, g7, g8, g9, g10⟩ := id n0
  have hp5 := (g9 c hc).1
  have hC := (g9 c hc).2
  obtain ⟨c0, c1, c2, c3, c4, d1, d2, d3, d4⟩ := id hC
  obtain ⟨⟨s0, s1, s2, s3⟩, ht⟩ := n4 c hc
  have hin : (¬ nI c < 0 ∧ ¬ 4 ≤ nI c) = True := eq_true ⟨by simp (disch := omega) only [jx_ltnl, Nat.not_lt_zero, not_false_eq_true], by simp (disch := omega) only [jx_leln]; omega⟩
  have e4 : ¬ 4 ≤ c := by omega
  refine jx_gq flok_X8 (fwok_X8 rfl) 99999 3 _ _ _ _ ?_
  simp (disch := omega) only [↓reduceIte, jx_wp, jx_stp, jx_f0, jx_f1, jx_f2, jx_f3, List.getElem?_cons_zero, List.getElem?_cons_succ, List.set_cons_zero, List.set_cons_succ, Nat.reduceAdd, true_and, and_true, if_true, if_false, Bool.false_eq_true, jx_s, Nat.reduceLT, dX8_stop_0, dX8_stop_1, dX8_stop_4, dX8_stop_5, dX8_stop_8, dX8_stop_11, dX8_stop_12, dX8_stop_15, dX8_stop_16, dX8_stop_17, dX8_stop_20, dX8_stop_23, dX8_stop_24, dX8_stop_25, dX8_stop_26, dX8_stop_29, dX8_stop_30, dX8_stop_31, dX8_stop_32, dX8_stop_35, dX8_stop_36, dX8_stop_37, dX8_stop_38, dX8_stop_39, dX8_stop_42, dX8_stop_45, dX8_stop_46, dX8_stop_49, dX8_stop_50, dX8_stop_51, dX8_stop_54, dX8_stop_57, dX8_stop_58, dX8_stop_59, dX8_stop_60, dX8_stop_63, dX8_stop_64, dX8_stop_65, dX8_stop_66, dX8_stop_69, dX8_stop_70, tg_1_36, tg_8_15, fl_X8_17, ft_9_1, fl_X8_150, ft_2_5, tg_20_5, jx_k0, jx_k1, fw_X8_150, tg_42_15, fl_X8_11, ft_9_0, fl_X8_156, ft_7_6, tg_54_5, fw_X8_156, jx_wq, jx_stq, jx_ite, jx_b0, jx_bn0, jx_u_eq, jx_u_na, jx_u_ni, jx_nb0, jx_nb1, jx_ni, jx_E, eq_self, jx_a0, jx_a1, ne_eq, not_false_eq_true, Nat.reduceLeDiff, Nat.reduceEqDiff, Nat.reduceLT, jx_subl, jx_al, jx_la, jx_nm, jx_ml, nI_add, jx_xn, jx_xl, jx_inn, jx_inl, jx_ltnn, jx_lenn, jx_eqnn, jx_ltnl, jx_lenl, jx_ltln, jx_leln, jx_eqnl, Int32.reduceAdd, Int32.reduceSub, Int32.reduceMul, Int32.reduceLT, Int32.reduceLE, jx_eqll, jx_ltll, Nat.reduceMul, Nat.reduceSub, forall_const, implies_true, false_implies, not_true_eq_false, true_implies, jx_tko, jx_ofn, jx_tka, jx_pro, jx_pra, and_self, Nat.not_lt_zero, jx_nbb, fv_2_5, fv_7_6, hb]
  refine jx_cS1 dX8_stop_5 li_X8_147 (cl_isClient) (Nat.le_of_ble_eq_true rfl) (Nat.le_of_ble_eq_true rfl) ?_
  rintro _ _ ⟨rfl, rfl⟩ - -
  simp only [Option.toList_some, Option.toList_none, List.cons_append, List.nil_append]
  refine jx_gq flok_X8 (fwok_X8 rfl) 99999 16 _ _ _ _ ?_
  simp (disch := omega) only [↓reduceIte, jx_wp, jx_stp, jx_f0, jx_f1, jx_f2, jx_f3, List.getElem?_cons_zero, List.getElem?_cons_succ, List.set_cons_zero, List.set_cons_succ, Nat.reduceAdd, true_and, and_true, if_true, if_false, Bool.false_eq_true, jx_s, Nat.reduceLT, dX8_stop_0, dX8_stop_1, dX8_stop_4, dX8_stop_5, dX8_stop_8, dX8_stop_11, dX8_stop_12, dX8_stop_15, dX8_stop_16, dX8_stop_17, dX8_stop_20, dX8_stop_23, dX8_stop_24, dX8_stop_25, dX8_stop_26, dX8_stop_29, dX8_stop_30, dX8_stop_31, dX8_stop_32, dX8_stop_35, dX8_stop_36, dX8_stop_37, dX8_stop_38, dX8_stop_39, dX8_stop_42, dX8_stop_45, dX8_stop_46, dX8_stop_49, dX8_stop_50, dX8_stop_51, dX8_stop_54, dX8_stop_57, dX8_stop_58, dX8_stop_59, dX8_stop_60, dX8_stop_63, dX8_stop_64, dX8_stop_65, dX8_stop_66, dX8_stop_69, dX8_stop_70, tg_1_36, tg_8_15, fl_X8_17, ft_9_1, fl_X8_150, ft_2_5, tg_20_5, jx_k0, jx_k1, fw_X8_150, tg_42_15, fl_X8_11, ft_9_0, fl_X8_156, ft_7_6, tg_54_5, fw_X8_156, jx_wq, jx_stq, jx_ite, jx_b0, jx_bn0, jx_u_eq, jx_u_na, jx_u_ni, jx_nb0, jx_nb1, jx_ni, jx_E, eq_self, jx_a0, jx_a1, ne_eq, not_false_eq_true, Nat.reduceLeDiff, Nat.reduceEqDiff, Nat.reduceLT, jx_subl, jx_al, jx_la, jx_nm, jx_ml, nI_add, jx_xn, jx_xl, jx_inn, jx_inl, jx_ltnn, jx_lenn, jx_eqnn, jx_ltnl, jx_lenl, jx_ltln, jx_leln, jx_eqnl, Int32.reduceAdd, Int32.reduceSub, Int32.reduceMul, Int32.reduceLT, Int32.reduceLE, jx_eqll, jx_ltll, Nat.reduceMul, Nat.reduceSub, forall_const, implies_true, false_implies, not_true_eq_false, true_implies, jx_tko, jx_ofn, jx_tka, jx_pro, jx_pra, and_self, Nat.not_lt_zero, jx_nbb, fv_2_5, fv_7_6, hin, e4, g0, g2, g4, hp5, c0, s1, hst]
set_option maxHeartbeats 4000000 in
set_option maxRecDepth 100000 in
theorem rl_stop_s_no {G : jx_G} {n ms : Nat} {K : Nat → Nat × Nat} {I : Nat → Nat → Int32} {P : Nat → Nat → Option Nat} {J : Nat → Nat → Int32} {B h : Nat} {A : Nat → Nat} {T : Nat → Prop} {X : Nat → Nat → Int32} {s : Int32} (hs : ¬ (¬ s < 0 ∧ ¬ J 98 1 ≤ s)) (hR : rl n ms K I P J B A h T X) : jx_C G yX8_stop cX8_stop 3 (some FieldType.boolean) 1 [.inr (some 3), .inl 0, .inl s] (n, ms, K, I, P) (jx_E (some (.inl (0))) (n, ms, K, I, P)) := by
  refine jx_C_of (by decide) (Nat.le_of_ble_eq_true rfl) ?_
  simp only [List.map_cons, List.map_nil, List.length_cons, List.length_nil, Nat.reduceAdd, Nat.reduceSub, List.replicate_zero, List.append_nil, List.replicate_succ, List.cons_append, List.nil_append]
  obtain ⟨n0, n1, n2, n3, n4, n5, n6⟩ := id hR.1
  obtain ⟨g0, g1, g2, g3, g4, g5, g6, g7, g8, g9, g10⟩ := id n0
  refine jx_gq flok_X8 (fwok_X8 rfl) 99999 4 _ _ _ _ ?_
  simp (disch := omega) only [↓reduceIte, jx_wp, jx_stp, jx_f0, jx_f1, jx_f2, jx_f3, List.getElem?_cons_zero, List.getElem?_cons_succ, List.set_cons_zero, List.set_cons_succ, Nat.reduceAdd, true_and, and_true, if_true, if_false, Bool.false_eq_true, jx_s, Nat.reduceLT, dX8_stop_0, dX8_stop_1, dX8_stop_4, dX8_stop_5, dX8_stop_8, dX8_stop_11, dX8_stop_12, dX8_stop_15, dX8_stop_16, dX8_stop_17, dX8_stop_20, dX8_stop_23, dX8_stop_24, dX8_stop_25, dX8_stop_26, dX8_stop_29, dX8_stop_30, dX8_stop_31, dX8_stop_32, dX8_stop_35, dX8_stop_36, dX8_stop_37, dX8_stop_38, dX8_stop_39, dX8_stop_42, dX8_stop_45, dX8_stop_46, dX8_stop_49, dX8_stop_50, dX8_stop_51, dX8_stop_54, dX8_stop_57, dX8_stop_58, dX8_stop_59, dX8_stop_60, dX8_stop_63, dX8_stop_64, dX8_stop_65, dX8_stop_66, dX8_stop_69, dX8_stop_70, tg_1_36, tg_8_15, fl_X8_17, ft_9_1, fl_X8_150, ft_2_5, tg_20_5, jx_k0, jx_k1, fw_X8_150, tg_42_15, fl_X8_11, ft_9_0, fl_X8_156, ft_7_6, tg_54_5, fw_X8_156, jx_wq, jx_stq, jx_ite, jx_b0, jx_bn0, jx_u_eq, jx_u_na, jx_u_ni, jx_nb0, jx_nb1, jx_ni, jx_E, eq_self, jx_a0, jx_a1, ne_eq, not_false_eq_true, Nat.reduceLeDiff, Nat.reduceEqDiff, Nat.reduceLT, jx_subl, jx_al, jx_la, jx_nm, jx_ml, nI_add, jx_xn, jx_xl, jx_inn, jx_inl, jx_ltnn, jx_lenn, jx_eqnn, jx_ltnl, jx_lenl, jx_ltln, jx_leln, jx_eqnl, Int32.reduceAdd, Int32.reduceSub, Int32.reduceMul, Int32.reduceLT, Int32.reduceLE, jx_eqll, jx_ltll, Nat.reduceMul, Nat.reduceSub, forall_const, implies_true, false_implies, not_true_eq_false, true_implies, jx_tko, jx_ofn, jx_tka, jx_pro, jx_pra, and_self, Nat.not_lt_zero, jx_nbb, fv_2_5, fv_7_6]
  refine jx_cV1 dX8_stop_39 li_X8_153 (cl_isServer hR) (congrArg Prod.fst g0) (Nat.le_of_ble_eq_true rfl) (Nat.le_of_ble_eq_true rfl) ?_
  rintro _ _ ⟨rfl, rfl⟩ - -
  simp only [Option.toList_some, Option.toList_none, List.cons_append, List.nil_append]
  refine jx_gq flok_X8 (fwok_X8 rfl) 99999 4 _ _ _ _ ?_
  simp (disch := omega) only [↓reduceIte, jx_wp, jx_stp, jx_f0, jx_f1, jx_f2, jx_f3, List.getElem?_cons_zero, List.getElem?_cons_succ, List.set_cons_zero, List.set_cons_succ, Nat.reduceAdd, true_and, and_true, if_true, if_false, Bool.false_eq_true, jx_s, Nat.reduceLT, dX8_stop_0, dX8_stop_1, dX8_stop_4, dX8_stop_5, dX8_stop_8, dX8_stop_11, dX8_stop_12, dX8_stop_15, dX8_stop_16, dX8_stop_17, dX8_stop_20, dX8_stop_23, dX8_stop_24, dX8_stop_25, dX8_stop_26, dX8_stop_29, dX8_stop_30, dX8_stop_31, dX8_stop_32, dX8_stop_35, dX8_stop_36, dX8_stop_37, dX8_stop_38, dX8_stop_39, dX8_stop_42, dX8_stop_45, dX8_stop_46, dX8_stop_49, dX8_stop_50, dX8_stop_51, dX8_stop_54, dX8_stop_57, dX8_stop_58, dX8_stop_59, dX8_stop_60, dX8_stop_63, dX8_stop_64, dX8_stop_65, dX8_stop_66, dX8_stop_69, dX8_stop_70, tg_1_36, tg_8_15, fl_X8_17, ft_9_1, fl_X8_150, ft_2_5, tg_20_5, jx_k0, jx_k1, fw_X8_150, tg_42_15, fl_X8_11, ft_9_0, fl_X8_156, ft_7_6, tg_54_5, fw_X8_156, jx_wq, jx_stq, jx_ite, jx_b0, jx_bn0, jx_u_eq, jx_u_na, jx_u_ni, jx_nb0, jx_nb1, jx_ni, jx_E, eq_self, jx_a0, jx_a1, ne_eq, not_false_eq_true, Nat.reduceLeDiff, Nat.reduceEqDiff, Nat.reduceLT, jx_subl, jx_al, jx_la, jx_nm, jx_ml, nI_add, jx_xn, jx_xl, jx_inn, jx_inl, jx_ltnn, jx_lenn, jx_eqnn, jx_ltnl, jx_lenl, jx_ltln, jx_leln, jx_eqnl, Int32.reduceAdd, Int32.reduceSub, Int32.reduceMul, Int32.reduceLT, Int32.reduceLE, jx_eqll, jx_ltll, Nat.reduceMul, Nat.reduceSub, forall_const, implies_true, false_implies, not_true_eq_false, true_implies, jx_tko, jx_ofn, jx_tka, jx_pro, jx_pra, and_self, Nat.not_lt_zero, jx_nbb, fv_2_5, fv_7_6, hs]
set_option maxHeartbeats 4000000 in
set_option maxRecDepth 100000 in
theorem rl_stop_s1 {G : jx_G} {n ms : Nat} {K : Nat → Nat × Nat} {I : Nat → Nat → Int32} {P : Nat → Nat → Option Nat} {J : Nat → Nat → Int32} {B h : Nat} {A : Nat → Nat} {T : Nat → Prop} {X : Nat → Nat → Int32} {s q : Nat} (hs : s < q) (hq : q ≤ 7) (hv : J 98 1 = nI q) (hst : ¬ J 100 s = 0) (hR : rl n ms K I P J B A h T X) : jx_C G yX8_stop cX8_stop 3 (some FieldType.boolean) 1 [.inr (some 3), .inl 0, .inl (nI s)] (n, ms, K, I, P) (jx_E (some (.inl (0))) (n, ms, K, I, P)) := by
  refine jx_C_of (by decide) (Nat.le_of_ble_eq_true rfl) ?_
  simp only [List.map_cons, List.map_nil, List.length_cons, List.length_nil, Nat.reduceAdd, Nat.reduceSub, List.replicate_zero, List.append_nil, List.replicate_succ, List.cons_append, List.nil_append]
  obtain ⟨n0, n1, n2, n3, n4, n5, n6⟩ := id hR.1
  obtain ⟨g0, g1, g2, g3, g4, g5, g6, g7, g8, g9, g10⟩ := id n0
  have hin : (¬ nI s < 0 ∧ ¬ nI q ≤ nI s) = True := eq_true ⟨by simp (disch := omega) only [jx_ltnl, Nat.not_lt_zero, not_false_eq_true], by rw [jx_lenn (by omega) (by omega)]; omega⟩
  have hs7 : s < 7 := by omega
  have hp4 := (g8 s hs7).1
  obtain ⟨a0, a1, a2, a3, a4, a5, a6, a7, q0, q1, q2, q3, q4, q5, q6⟩ := (g8 s hs7).2
  obtain ⟨s0, s1, s2, s3⟩ := n3 s hs7
  have e4 : ¬ q ≤ s := by omega
  refine jx_gq flok_X8 (fwok_X8 rfl) 99999 4 _ _ _ _ ?_
  simp (disch := omega) only [↓reduceIte, jx_wp, jx_stp, jx_f0, jx_f1, jx_f2, jx_f3, List.getElem?_cons_zero, List.getElem?_cons_succ, List.set_cons_zero, List.set_cons_succ, Nat.reduceAdd, true_and, and_true, if_true, if_false, Bool.false_eq_true, jx_s, Nat.reduceLT, dX8_stop_0, dX8_stop_1, dX8_stop_4, dX8_stop_5, dX8_stop_8, dX8_stop_11, dX8_stop_12, dX8_stop_15, dX8_stop_16, dX8_stop_17, dX8_stop_20, dX8_stop_23, dX8_stop_24, dX8_stop_25, dX8_stop_26, dX8_stop_29, dX8_stop_30, dX8_stop_31, dX8_stop_32, dX8_stop_35, dX8_stop_36, dX8_stop_37, dX8_stop_38, dX8_stop_39, dX8_stop_42, dX8_stop_45, dX8_stop_46, dX8_stop_49, dX8_stop_50, dX8_stop_51, dX8_stop_54, dX8_stop_57, dX8_stop_58, dX8_stop_59, dX8_stop_60, dX8_stop_63, dX8_stop_64, dX8_stop_65, dX8_stop_66, dX8_stop_69, dX8_stop_70, tg_1_36, tg_8_15, fl_X8_17, ft_9_1, fl_X8_150, ft_2_5, tg_20_5, jx_k0, jx_k1, fw_X8_150, tg_42_15, fl_X8_11, ft_9_0, fl_X8_156, ft_7_6, tg_54_5, fw_X8_156, jx_wq, jx_stq, jx_ite, jx_b0, jx_bn0, jx_u_eq, jx_u_na, jx_u_ni, jx_nb0, jx_nb1, jx_ni, jx_E, eq_self, jx_a0, jx_a1, ne_eq, not_false_eq_true, Nat.reduceLeDiff, Nat.reduceEqDiff, Nat.reduceLT, jx_subl, jx_al, jx_la, jx_nm, jx_ml, nI_add, jx_xn, jx_xl, jx_inn, jx_inl, jx_ltnn, jx_lenn, jx_eqnn, jx_ltnl, jx_lenl, jx_ltln, jx_leln, jx_eqnl, Int32.reduceAdd, Int32.reduceSub, Int32.reduceMul, Int32.reduceLT, Int32.reduceLE, jx_eqll, jx_ltll, Nat.reduceMul, Nat.reduceSub, forall_const, implies_true, false_implies, not_true_eq_false, true_implies, jx_tko, jx_ofn, jx_tka, jx_pro, jx_pra, and_self, Nat.not_lt_zero, jx_nbb, fv_2_5, fv_7_6]
  refine jx_cV1 dX8_stop_39 li_X8_153 (cl_isServer hR) (congrArg Prod.fst g0) (Nat.le_of_ble_eq_true rfl) (Nat.le_of_ble_eq_true rfl) ?_
  rintro _ _ ⟨rfl, rfl⟩ - -
  simp only [Option.toList_some, Option.toList_none, List.cons_append, List.nil_append]
  rw [hv]
  refine jx_gq flok_X8 (fwok_X8 rfl) 99999 16 _ _ _ _ ?_
  simp (disch := omega) only [↓reduceIte, jx_wp, jx_stp, jx_f0, jx_f1, jx_f2, jx_f3, List.getElem?_cons_zero, List.getElem?_cons_succ, List.set_cons_zero, List.set_cons_succ, Nat.reduceAdd, true_and, and_true, if_true, if_false, Bool.false_eq_true, jx_s, Nat.reduceLT, dX8_stop_0, dX8_stop_1, dX8_stop_4, dX8_stop_5, dX8_stop_8, dX8_stop_11, dX8_stop_12, dX8_stop_15, dX8_stop_16, dX8_stop_17, dX8_stop_20, dX8_stop_23, dX8_stop_24, dX8_stop_25, dX8_stop_26, dX8_stop_29, dX8_stop_30, dX8_stop_31, dX8_stop_32, dX8_stop_35, dX8_stop_36, dX8_stop_37, dX8_stop_38, dX8_stop_39, dX8_stop_42, dX8_stop_45, dX8_stop_46, dX8_stop_49, dX8_stop_50, dX8_stop_51, dX8_stop_54, dX8_stop_57, dX8_stop_58, dX8_stop_59, dX8_stop_60, dX8_stop_63, dX8_stop_64, dX8_stop_65, dX8_stop_66, dX8_stop_69, dX8_stop_70, tg_1_36, tg_8_15, fl_X8_17, ft_9_1, fl_X8_150, ft_2_5, tg_20_5, jx_k0, jx_k1, fw_X8_150, tg_42_15, fl_X8_11, ft_9_0, fl_X8_156, ft_7_6, tg_54_5, fw_X8_156, jx_wq, jx_stq, jx_ite, jx_b0, jx_bn0, jx_u_eq, jx_u_na, jx_u_ni, jx_nb0, jx_nb1, jx_ni, jx_E, eq_self, jx_a0, jx_a1, ne_eq, not_false_eq_true, Nat.reduceLeDiff, Nat.reduceEqDiff, Nat.reduceLT, jx_subl, jx_al, jx_la, jx_nm, jx_ml, nI_add, jx_xn, jx_xl, jx_inn, jx_inl, jx_ltnn, jx_lenn, jx_eqnn, jx_ltnl, jx_lenl, jx_ltln, jx_leln, jx_eqnl, Int32.reduceAdd, Int32.reduceSub, Int32.reduceMul, Int32.reduceLT, Int32.reduceLE, jx_eqll, jx_ltll, Nat.reduceMul, Nat.reduceSub, forall_const, implies_true, false_implies, not_true_eq_false, true_implies, jx_tko, jx_ofn, jx_tka, jx_pro, jx_pra, and_self, Nat.not_lt_zero, jx_nbb, fv_2_5, fv_7_6, hin, e4, g0, g1, g3, hp4, a0, s0, hst]
set_option maxHeartbeats 4000000 in
set_option maxRecDepth 100000 in
theorem rl_stop_s0 {G : jx_G} {n ms : Nat} {K : Nat → Nat × Nat} {I : Nat → Nat → Int32} {P : Nat → Nat → Option Nat} {J : Nat → Nat → Int32} {B h : Nat} {A : Nat → Nat} {T : Nat → Prop} {X : Nat → Nat → Int32} {s q : Nat} (hs : s < q) (hq : q ≤ 7) (hv : J 98 1 = nI q) (hst : J 100 s = 0) (hR : rl n ms K I P J B A h T X) : jx_C G yX8_stop cX8_stop 3 (some FieldType.boolean) 1 [.inr (some 3), .inl 0, .inl (nI s)] (n, ms, K, I, P) (jx_E (some (.inl (1))) (n, ms, K, jx_u I (22 + 8 * s) 6 1, P)) := by
  refine jx_C_of (by decide) (Nat.le_of_ble_eq_true rfl) ?_
  simp only [List.map_cons, List.map_nil, List.length_cons, List.length_nil, Nat.reduceAdd, Nat.reduceSub, List.replicate_zero, List.append_nil, List.replicate_succ, List.cons_append, List.nil_append]
  obtain ⟨n0, n1, n2, n3, n4, n5, n6⟩ := id hR.1
  obtain ⟨g0, g1, g2, g3, g4, g5, g6, g7, g8, g9, g10⟩ := id n0
  have hin : (¬ nI s < 0 ∧ ¬ nI q ≤ nI s) = True := eq_true ⟨by simp (disch := omega) only [jx_ltnl, Nat.not_lt_zero, not_false_eq_true], by rw [jx_lenn (by omega) (by omega)]; omega⟩
  have hs7 : s < 7 := by omega
  have hp4 := (g8 s hs7).1
  obtain ⟨a0, a1, a2, a3, a4, a5, a6, a7, q0, q1, q2, q3, q4, q5, q6⟩ := (g8 s hs7).2
  obtain ⟨s0, s1, s2, s3⟩ := n3 s hs7
  have e4 : ¬ q ≤ s := by omega
  refine jx_gq flok_X8 (fwok_X8 rfl) 99999 4 _ _ _ _ ?_
  simp (disch := omega) only [↓reduceIte, jx_wp, jx_stp, jx_f0, jx_f1, jx_f2, jx_f3, List.getElem?_cons_zero, List.getElem?_cons_succ, List.set_cons_zero, List.set_cons_succ, Nat.reduceAdd, true_and, and_true, if_true, if_false, Bool.false_eq_true, jx_s, Nat.reduceLT, dX8_stop_0, dX8_stop_1, dX8_stop_4, dX8_stop_5, dX8_stop_8, dX8_stop_11, dX8_stop_12, dX8_stop_15, dX8_stop_16, dX8_stop_17, dX8_stop_20, dX8_stop_23, dX8_stop_24, dX8_stop_25, dX8_stop_26, dX8_stop_29, dX8_stop_30, dX8_stop_31, dX8_stop_32, dX8_stop_35, dX8_stop_36, dX8_stop_37, dX8_stop_38, dX8_stop_39, dX8_stop_42, dX8_stop_45, dX8_stop_46, dX8_stop_49, dX8_stop_50, dX8_stop_51, dX8_stop_54, dX8_stop_57, dX8_stop_58, dX8_stop_59, dX8_stop_60, dX8_stop_63, dX8_stop_64, dX8_stop_65, dX8_stop_66, dX8_stop_69, dX8_stop_70, tg_1_36, tg_8_15, fl_X8_17, ft_9_1, fl_X8_150, ft_2_5, tg_20_5, jx_k0, jx_k1, fw_X8_150, tg_42_15, fl_X8_11, ft_9_0, fl_X8_156, ft_7_6, tg_54_5, fw_X8_156, jx_wq, jx_stq, jx_ite, jx_b0, jx_bn0, jx_u_eq, jx_u_na, jx_u_ni, jx_nb0, jx_nb1, jx_ni, jx_E, eq_self, jx_a0, jx_a1, ne_eq, not_false_eq_true, Nat.reduceLeDiff, Nat.reduceEqDiff, Nat.reduceLT, jx_subl, jx_al, jx_la, jx_nm, jx_ml, nI_add, jx_xn, jx_xl, jx_inn, jx_inl, jx_ltnn, jx_lenn, jx_eqnn, jx_ltnl, jx_lenl, jx_ltln, jx_leln, jx_eqnl, Int32.reduceAdd, Int32.reduceSub, Int32.reduceMul, Int32.reduceLT, Int32.reduceLE, jx_eqll, jx_ltll, Nat.reduceMul, Nat.reduceSub, forall_const, implies_true, false_implies, not_true_eq_false, true_implies, jx_tko, jx_ofn, jx_tka, jx_pro, jx_pra, and_self, Nat.not_lt_zero, jx_nbb, fv_2_5, fv_7_6]
  refine jx_cV1 dX8_stop_39 li_X8_153 (cl_isServer hR) (congrArg Prod.fst g0) (Nat.le_of_ble_eq_true rfl) (Nat.le_of_ble_eq_true rfl) ?_
  rintro _ _ ⟨rfl, rfl⟩ - -
  simp only [Option.toList_some, Option.toList_none, List.cons_append, List.nil_append]
  rw [hv]
  refine jx_gq flok_X8 (fwok_X8 rfl) 99999 16 _ _ _ _ ?_
  simp (disch := omega) only [↓reduceIte, jx_wp, jx_stp, jx_f0, jx_f1, jx_f2, jx_f3, List.getElem?_cons_zero, List.getElem?_cons_succ, List.set_cons_zero, List.set_cons_succ, Nat.reduceAdd, true_and, and_true, if_true, if_false, Bool.false_eq_true, jx_s, Nat.reduceLT, dX8_stop_0, dX8_stop_1, dX8_stop_4, dX8_stop_5, dX8_stop_8, dX8_stop_11, dX8_stop_12, dX8_stop_15, dX8_stop_16, dX8_stop_17, dX8_stop_20, dX8_stop_23, dX8_stop_24, dX8_stop_25, dX8_stop_26, dX8_stop_29, dX8_stop_30, dX8_stop_31, dX8_stop_32, dX8_stop_35, dX8_stop_36, dX8_stop_37, dX8_stop_38, dX8_stop_39, dX8_stop_42, dX8_stop_45, dX8_stop_46, dX8_stop_49, dX8_stop_50, dX8_stop_51, dX8_stop_54, dX8_stop_57, dX8_stop_58, dX8_stop_59, dX8_stop_60, dX8_stop_63, dX8_stop_64, dX8_stop_65, dX8_stop_66, dX8_stop_69, dX8_stop_70, tg_1_36, tg_8_15, fl_X8_17, ft_9_1, fl_X8_150, ft_2_5, tg_20_5, jx_k0, jx_k1, fw_X8_150, tg_42_15, fl_X8_11, ft_9_0, fl_X8_156, ft_7_6, tg_54_5, fw_X8_156, jx_wq, jx_stq, jx_ite, jx_b0, jx_bn0, jx_u_eq, jx_u_na, jx_u_ni, jx_nb0, jx_nb1, jx_ni, jx_E, eq_self, jx_a0, jx_a1, ne_eq, not_false_eq_true, Nat.reduceLeDiff, Nat.reduceEqDiff, Nat.reduceLT, jx_subl, jx_al, jx_la, jx_nm, jx_ml, nI_add, jx_xn, jx_xl, jx_inn, jx_inl, jx_ltnn, jx_lenn, jx_eqnn, jx_ltnl, jx_lenl, jx_ltln, jx_leln, jx_eqnl, Int32.reduceAdd, Int32.reduceSub, Int32.reduceMul, Int32.reduceLT, Int32.reduceLE, jx_eqll, jx_ltll, Nat.reduceMul, Nat.reduceSub, forall_const, implies_true, false_implies, not_true_eq_false, true_implies, jx_tko, jx_ofn, jx_tka, jx_pro, jx_pra, and_self, Nat.not_lt_zero, jx_nbb, fv_2_5, fv_7_6, hin, e4, g0, g1, g3, hp4, a0, s0, hst]
