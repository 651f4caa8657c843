/-- what has changed since the bag's restart began -/
def br_fr (n0 ms0 : Nat) (K0 : Nat → Nat × Nat) (I0 : Nat → Nat → Int32) (P0 : Nat → Nat → Option Nat) (e20 c20 n ms : Nat) (K : Nat → Nat × Nat) (I : Nat → Nat → Int32) (P : Nat → Nat → Option Nat) (e2 c2 : Nat) : Prop := n0 ≤ n ∧ (∀ b, b < n0 → K b = K0 b) ∧ (∀ b j, b < n0 → b ≠ 8 → I b j = I0 b j) ∧ (∀ b j, b < n0 → b ≠ 8 → b ≠ e20 → P b j = P0 b j) ∧ n + c20 ≤ n0 + c2 ∧ ms + 4 * c20 ≤ ms0 + 4 * c2 ∧ (e2 = e20 ∨ n0 ≤ e2)
theorem jd_cl_o {P : Nat → Nat → Option Nat} {e x b j : Nat} (h : b ≠ e ∨ x ≤ j) : jd_cl P e x b j = P b j := by
  unfold jd_cl
  rw [if_neg (by omega)]
/-- the bag's restart is through -/
def br_Q (n0 ms0 : Nat) (K0 : Nat → Nat × Nat) (I0 : Nat → Nat → Int32) (P0 : Nat → Nat → Option Nat) (x z e c e20 c20 : Nat) (w : Option jx_V) (M : jx_M) : Prop := w = none ∧ ∃ n ms K I P L S e2 c2, M = (n, ms, K, I, P) ∧ bg_ok n K I P L 0 S (z + x) e c e2 c2 ∧ I 6 2 = 0 ∧ n0 ≤ n ∧ (∀ b, b < n0 → K b = K0 b) ∧ (∀ b j, b < n0 → b ≠ 6 → b ≠ 7 → b ≠ 8 → I b j = I0 b j) ∧ (∀ b j, b < n0 → b ≠ 7 → b ≠ 8 → b ≠ e → b ≠ e20 → P b j = P0 b j) ∧ n + c20 ≤ n0 + c2 ∧ ms + 4 * c20 ≤ ms0 + 4 * c2
set_option maxHeartbeats 4000000 in
set_option maxRecDepth 100000 in
theorem br_l {G : jx_G} {n0 ms0 : Nat} {K0 : Nat → Nat × Nat} {I0 : Nat → Nat → Int32} {P0 : Nat → Nat → Option Nat} {L : Nat → Nat} {x z e c e20 c20 : Nat} (hr1 : n0 + 24001 ≤ 600003) (hr2 : ms0 + 121000 ≤ 7302250) (hxz : x + z ≤ 16000) (he0 : e < n0 ∧ e20 < n0 ∧ 140 ≤ n0) : ∀ g k n ms K I P S e2 c2, k + g = x → br_ok n ms K I P L x k S z e c e2 c2 → br_fr n0 ms0 K0 I0 P0 e20 c20 n ms K I P e2 c2 → jx_J G yX0_restart cX0_restart 2 none 7 (br_Q n0 ms0 K0 I0 P0 x z e c e20 c20) 2 [some (.inr (some 6)), some (.inl (nI k))] [] (n, ms, K, I, P) := by
  intro g
  induction g with
  | zero =>
    intro k n ms K I P S e2 c2 hk hb hf
    have e0 : k = x := by omega
    subst e0
    obtain ⟨⟨f0, f1, f2, f3, f4, f5⟩, hl1, hl2, hee, hm1, hm2, hi1, hi2, hi3, h140⟩ := id hb
    obtain ⟨a1, a2, a3, a4, a5, a6, a7, a8⟩ := id hl1
    obtain ⟨b1, b2, b3, b4, b5, b6, b7, b8⟩ := id hl2
    have hl6 : e ≠ 6 := fun w => by rw [w, f0] at a2; simp at a2
    have hl7 : e ≠ 7 := fun w => by rw [w, f3] at a2; simp at a2
    have hl8 : e ≠ 8 := fun w => by rw [w, f4] at a2; simp at a2
    refine jx_gq flok_X0 (fwok_X0 rfl) 99999 4 _ _ _ _ ?_
    simp (disch := omega) only [↓reduceIte, jx_wp, jx_stp, jx_f0, jx_f1, jx_f2, jx_f3, List.getElem?_cons_zero, List.getElem?_cons_succ, List.set_cons_zero, List.set_cons_succ, Nat.reduceAdd, true_and, and_true, if_true, if_false, Bool.false_eq_true, jx_s, Nat.reduceLT, dX0_restart_0, dX0_restart_1, dX0_restart_2, dX0_restart_3, dX0_restart_4, dX0_restart_7, dX0_restart_10, dX0_restart_13, dX0_restart_14, dX0_restart_17, dX0_restart_18, dX0_restart_21, dX0_restart_22, dX0_restart_25, dX0_restart_28, dX0_restart_31, dX0_restart_32, dX0_restart_35, dX0_restart_38, dX0_restart_39, dX0_restart_42, dX0_restart_45, dX0_restart_46, dX0_restart_47, dX0_restart_50, jx_k0, fl_X0_10, ft_1_0, tg_10_28, fl_X0_16, ft_1_1, jx_k1, tg_35_m33, fw_X0_36, ft_1_2, jx_wq, jx_stq, jx_ite, jx_b0, jx_bn0, jx_u_eq, jx_u_na, jx_u_ni, jx_nb0, jx_nb1, jx_ni, jx_E, eq_self, jx_a0, jx_a1, ne_eq, not_false_eq_true, Nat.reduceLeDiff, Nat.reduceEqDiff, Nat.reduceLT, jx_subl, jx_al, jx_la, jx_nm, jx_ml, nI_add, jx_xn, jx_xl, jx_inn, jx_inl, jx_ltnn, jx_lenn, jx_eqnn, jx_ltnl, jx_lenl, jx_ltln, jx_leln, jx_eqnl, Int32.reduceAdd, Int32.reduceSub, Int32.reduceMul, Int32.reduceLT, Int32.reduceLE, jx_eqll, jx_ltll, Nat.reduceMul, Nat.reduceSub, forall_const, implies_true, false_implies, not_true_eq_false, true_implies, jx_tko, jx_ofn, jx_tka, jx_pro, jx_pra, and_self, Nat.not_lt_zero, jx_nbb, fv_1_2, f0, f1, f2, f3, f4]
    refine jx_cV0 dX0_restart_7 li_X0_19 (jd_size f3) (congrArg Prod.fst f3) (Nat.le_of_ble_eq_true rfl) (Nat.le_of_ble_eq_true rfl) ?_
    rintro _ _ ⟨rfl, rfl⟩ - -
    simp only [Option.toList_some, Option.toList_none, List.cons_append, List.nil_append]
    refine jx_gq flok_X0 (fwok_X0 rfl) 99999 5 _ _ _ _ ?_
    simp (disch := omega) only [↓reduceIte, jx_wp, jx_stp, jx_f0, jx_f1, jx_f2, jx_f3, List.getElem?_cons_zero, List.getElem?_cons_succ, List.set_cons_zero, List.set_cons_succ, Nat.reduceAdd, true_and, and_true, if_true, if_false, Bool.false_eq_true, jx_s, Nat.reduceLT, dX0_restart_0, dX0_restart_1, dX0_restart_2, dX0_restart_3, dX0_restart_4, dX0_restart_7, dX0_restart_10, dX0_restart_13, dX0_restart_14, dX0_restart_17, dX0_restart_18, dX0_restart_21, dX0_restart_22, dX0_restart_25, dX0_restart_28, dX0_restart_31, dX0_restart_32, dX0_restart_35, dX0_restart_38, dX0_restart_39, dX0_restart_42, dX0_restart_45, dX0_restart_46, dX0_restart_47, dX0_restart_50, jx_k0, fl_X0_10, ft_1_0, tg_10_28, fl_X0_16, ft_1_1, jx_k1, tg_35_m33, fw_X0_36, ft_1_2, jx_wq, jx_stq, jx_ite, jx_b0, jx_bn0, jx_u_eq, jx_u_na, jx_u_ni, jx_nb0, jx_nb1, jx_ni, jx_E, eq_self, jx_a0, jx_a1, ne_eq, not_false_eq_true, Nat.reduceLeDiff, Nat.reduceEqDiff, Nat.reduceLT, jx_subl, jx_al, jx_la, jx_nm, jx_ml, nI_add, jx_xn, jx_xl, jx_inn, jx_inl, jx_ltnn, jx_lenn, jx_eqnn, jx_ltnl, jx_lenl, jx_ltln, jx_leln, jx_eqnl, Int32.reduceAdd, Int32.reduceSub, Int32.reduceMul, Int32.reduceLT, Int32.reduceLE, jx_eqll, jx_ltll, Nat.reduceMul, Nat.reduceSub, forall_const, implies_true, false_implies, not_true_eq_false, true_implies, jx_tko, jx_ofn, jx_tka, jx_pro, jx_pra, and_self, Nat.not_lt_zero, jx_nbb, fv_1_2, f0, f1, f2, f3, f4, a3, Nat.le_refl]
    refine jx_cV0 dX0_restart_42 li_X0_33 (jd_clear f3 a1 a2 a3 a4 (by omega)) (congrArg Prod.fst f3) (Nat.le_of_ble_eq_true rfl) (Nat.le_of_ble_eq_true rfl) ?_
    rintro _ _ ⟨rfl, rfl⟩ - -
    simp only [Option.toList_some, Option.toList_none, List.cons_append, List.nil_append]
    refine jx_gq flok_X0 (fwok_X0 rfl) 99999 5 _ _ _ _ ?_
    simp (disch := omega) only [↓reduceIte, jx_wp, jx_stp, jx_f0, jx_f1, jx_f2, jx_f3, List.getElem?_cons_zero, List.getElem?_cons_succ, List.set_cons_zero, List.set_cons_succ, Nat.reduceAdd, true_and, and_true, if_true, if_false, Bool.false_eq_true, jx_s, Nat.reduceLT, dX0_restart_0, dX0_restart_1, dX0_restart_2, dX0_restart_3, dX0_restart_4, dX0_restart_7, dX0_restart_10, dX0_restart_13, dX0_restart_14, dX0_restart_17, dX0_restart_18, dX0_restart_21, dX0_restart_22, dX0_restart_25, dX0_restart_28, dX0_restart_31, dX0_restart_32, dX0_restart_35, dX0_restart_38, dX0_restart_39, dX0_restart_42, dX0_restart_45, dX0_restart_46, dX0_restart_47, dX0_restart_50, jx_k0, fl_X0_10, ft_1_0, tg_10_28, fl_X0_16, ft_1_1, jx_k1, tg_35_m33, fw_X0_36, ft_1_2, jx_wq, jx_stq, jx_ite, jx_b0, jx_bn0, jx_u_eq, jx_u_na, jx_u_ni, jx_nb0, jx_nb1, jx_ni, jx_E, eq_self, jx_a0, jx_a1, ne_eq, not_false_eq_true, Nat.reduceLeDiff, Nat.reduceEqDiff, Nat.reduceLT, jx_subl, jx_al, jx_la, jx_nm, jx_ml, nI_add, jx_xn, jx_xl, jx_inn, jx_inl, jx_ltnn, jx_lenn, jx_eqnn, jx_ltnl, jx_lenl, jx_ltln, jx_leln, jx_eqnl, Int32.reduceAdd, Int32.reduceSub, Int32.reduceMul, Int32.reduceLT, Int32.reduceLE, jx_eqll, jx_ltll, Nat.reduceMul, Nat.reduceSub, forall_const, implies_true, false_implies, not_true_eq_false, true_implies, jx_tko, jx_ofn, jx_tka, jx_pro, jx_pra, and_self, Nat.not_lt_zero, jx_nbb, fv_1_2, f0, f1, f2, f3, f4]
    obtain ⟨r1, r2, r3, r4, r5, r6, r7⟩ := hf
    have hcl : ∀ b j, b ≠ e → jd_cl P e k b j = P b j := fun b j w => jd_cl_o (Or.inl w)
    have hin : ms_in n K (jd_cl P e k) S (z + k) := fun i hi => by
      obtain ⟨v1, v2, v3⟩ := hm2 i hi
      have v4 := ob_M_e v1 a2
      exact ⟨ob_M_fr v1 (fun _ _ _ => rfl) (fun b j h1 h2 => hcl b j (by omega)), v2, v3⟩
    refine ⟨rfl, n, ms, K, _, _, L, S, e2, c2, rfl, ⟨⟨f0, by rw [hcl 6 0 hl6.symm, f1], by rw [hcl 6 1 hl6.symm, f2], f3, f4, f5⟩, ⟨by rw [hcl 7 1 hl7.symm, a1], a2, by rw [jx_u_na (by omega), jx_u_eq], by omega, a5, fun i hi => absurd hi (by omega), a7, a8⟩, ⟨by rw [hcl 8 1 hl8.symm, b1], b2, by rw [jx_u_na (by omega), jx_u_na (by omega), jx_u_na (by omega), b3], b4, b5, fun i hi => ?_, b7, b8⟩, hee, fun i hi => absurd hi (by omega), hin, ⟨fun i j hi => absurd hi (by omega), hi2, fun i j hi => absurd hi (by omega)⟩, h140⟩, jx_u_eq _ _ _ _, r1, r2, fun b j q1 q2 q3 q4 => by rw [jx_u_na q2, jx_u_na q3, jx_u_na q3, r3 b j q1 q4], fun b j q1 q2 q3 q4 q5 => by rw [hcl b j q4, r4 b j q1 q3 q5], r5, r6⟩
    rcases hee with w | w
    · rw [hcl e2 i (fun w2 => w w2.symm), b6 i hi]
    · have k0 : k = 0 := by omega
      rw [jd_cl_o (Or.inr (by omega)), b6 i hi]
  | succ g ih =>
    intro k n ms K I P S e2 c2 hk hb hf
    obtain ⟨⟨f0, f1, f2, f3, f4, f5⟩, hl1, hl2, hee, hm1, hm2, hi1, hi2, hi3, h140⟩ := id hb
    obtain ⟨a1, a2, a3, a4, a5, a6, a7, a8⟩ := id hl1
    have b5 := hl2.2.2.2.2.1
    have he2 := hl2.2.1
    have e1 : ¬ x ≤ k := by omega
    obtain ⟨r1, r2, r3, r4, r5, r6, r7⟩ := id hf
    obtain ⟨ht, ht1, ht2⟩ := hm1 k (by omega)
    refine jx_gq flok_X0 (fwok_X0 rfl) 99999 4 _ _ _ _ ?_
    simp (disch := omega) only [↓reduceIte, jx_wp, jx_stp, jx_f0, jx_f1, jx_f2, jx_f3, List.getElem?_cons_zero, List.getElem?_cons_succ, List.set_cons_zero, List.set_cons_succ, Nat.reduceAdd, true_and, and_true, if_true, if_false, Bool.false_eq_true, jx_s, Nat.reduceLT, dX0_restart_0, dX0_restart_1, dX0_restart_2, dX0_restart_3, dX0_restart_4, dX0_restart_7, dX0_restart_10, dX0_restart_13, dX0_restart_14, dX0_restart_17, dX0_restart_18, dX0_restart_21, dX0_restart_22, dX0_restart_25, dX0_restart_28, dX0_restart_31, dX0_restart_32, dX0_restart_35, dX0_restart_38, dX0_restart_39, dX0_restart_42, dX0_restart_45, dX0_restart_46, dX0_restart_47, dX0_restart_50, jx_k0, fl_X0_10, ft_1_0, tg_10_28, fl_X0_16, ft_1_1, jx_k1, tg_35_m33, fw_X0_36, ft_1_2, jx_wq, jx_stq, jx_ite, jx_b0, jx_bn0, jx_u_eq, jx_u_na, jx_u_ni, jx_nb0, jx_nb1, jx_ni, jx_E, eq_self, jx_a0, jx_a1, ne_eq, not_false_eq_true, Nat.reduceLeDiff, Nat.reduceEqDiff, Nat.reduceLT, jx_subl, jx_al, jx_la, jx_nm, jx_ml, nI_add, jx_xn, jx_xl, jx_inn, jx_inl, jx_ltnn, jx_lenn, jx_eqnn, jx_ltnl, jx_lenl, jx_ltln, jx_leln, jx_eqnl, Int32.reduceAdd, Int32.reduceSub, Int32.reduceMul, Int32.reduceLT, Int32.reduceLE, jx_eqll, jx_ltll, Nat.reduceMul, Nat.reduceSub, forall_const, implies_true, false_implies, not_true_eq_false, true_implies, jx_tko, jx_ofn, jx_tka, jx_pro, jx_pra, and_self, Nat.not_lt_zero, jx_nbb, fv_1_2, f0, f1, f2, f3, f4]
    refine jx_cV0 dX0_restart_7 li_X0_19 (jd_size f3) (congrArg Prod.fst f3) (Nat.le_of_ble_eq_true rfl) (Nat.le_of_ble_eq_true rfl) ?_
    rintro _ _ ⟨rfl, rfl⟩ - -
    simp only [Option.toList_some, Option.toList_none, List.cons_append, List.nil_append]
    refine jx_gq flok_X0 (fwok_X0 rfl) 99999 8 _ _ _ _ ?_
    simp (disch := omega) only [↓reduceIte, jx_wp, jx_stp, jx_f0, jx_f1, jx_f2, jx_f3, List.getElem?_cons_zero, List.getElem?_cons_succ, List.set_cons_zero, List.set_cons_succ, Nat.reduceAdd, true_and, and_true, if_true, if_false, Bool.false_eq_true, jx_s, Nat.reduceLT, dX0_restart_0, dX0_restart_1, dX0_restart_2, dX0_restart_3, dX0_restart_4, dX0_restart_7, dX0_restart_10, dX0_restart_13, dX0_restart_14, dX0_restart_17, dX0_restart_18, dX0_restart_21, dX0_restart_22, dX0_restart_25, dX0_restart_28, dX0_restart_31, dX0_restart_32, dX0_restart_35, dX0_restart_38, dX0_restart_39, dX0_restart_42, dX0_restart_45, dX0_restart_46, dX0_restart_47, dX0_restart_50, jx_k0, fl_X0_10, ft_1_0, tg_10_28, fl_X0_16, ft_1_1, jx_k1, tg_35_m33, fw_X0_36, ft_1_2, jx_wq, jx_stq, jx_ite, jx_b0, jx_bn0, jx_u_eq, jx_u_na, jx_u_ni, jx_nb0, jx_nb1, jx_ni, jx_E, eq_self, jx_a0, jx_a1, ne_eq, not_false_eq_true, Nat.reduceLeDiff, Nat.reduceEqDiff, Nat.reduceLT, jx_subl, jx_al, jx_la, jx_nm, jx_ml, nI_add, jx_xn, jx_xl, jx_inn, jx_inl, jx_ltnn, jx_lenn, jx_eqnn, jx_ltnl, jx_lenl, jx_ltln, jx_leln, jx_eqnl, Int32.reduceAdd, Int32.reduceSub, Int32.reduceMul, Int32.reduceLT, Int32.reduceLE, jx_eqll, jx_ltll, Nat.reduceMul, Nat.reduceSub, forall_const, implies_true, false_implies, not_true_eq_false, true_implies, jx_tko, jx_ofn, jx_tka, jx_pro, jx_pra, and_self, Nat.not_lt_zero, jx_nbb, fv_1_2, f0, f1, f2, f3, f4, a3, e1]
    refine jx_cV1 dX0_restart_22 li_X0_23 (jd_get f3 a1 a2 a3 a4 (by omega) (i := k) (by omega)) (congrArg Prod.fst f3) (Nat.le_of_ble_eq_true rfl) (Nat.le_of_ble_eq_true rfl) ?_
    rintro _ _ ⟨rfl, rfl⟩ - -
    simp only [Option.toList_some, Option.toList_none, List.cons_append, List.nil_append]
    rw [a6 k (by omega)]
    refine jx_cast (c := 4) dX0_restart_25 (congrArg Prod.fst ht.1) rfl lc_X0_27 ?_
    refine jx_cV1 dX0_restart_28 li_X0_29 (ls_add f4 f5 hl2 (by omega) (fun i hi => ⟨by rw [(hm2 i hi).1.1], by have := (hm2 i hi).2.2; omega⟩) (by rw [ht.1]) (by omega) (by omega) h140 (by omega) (by omega)) (congrArg Prod.fst f4) (Nat.le_of_ble_eq_true rfl) (Nat.le_of_ble_eq_true rfl) ?_
    rintro _ _ ⟨rfl, n2, ms2, K2, I2, P2, e3, c3, rfl, hl3, hf1, hf2, hf3, hf4, hf5⟩ - -
    simp only [Option.toList_some, Option.toList_none, List.cons_append, List.nil_append]
    refine jx_gq flok_X0 (fwok_X0 rfl) 2 4 _ _ _ _ ?_
    simp (disch := omega) only [↓reduceIte, jx_wp, jx_stp, jx_f0, jx_f1, jx_f2, jx_f3, List.getElem?_cons_zero, List.getElem?_cons_succ, List.set_cons_zero, List.set_cons_succ, Nat.reduceAdd, true_and, and_true, if_true, if_false, Bool.false_eq_true, jx_s, Nat.reduceLT, dX0_restart_0, dX0_restart_1, dX0_restart_2, dX0_restart_3, dX0_restart_4, dX0_restart_7, dX0_restart_10, dX0_restart_13, dX0_restart_14, dX0_restart_17, dX0_restart_18, dX0_restart_21, dX0_restart_22, dX0_restart_25, dX0_restart_28, dX0_restart_31, dX0_restart_32, dX0_restart_35, dX0_restart_38, dX0_restart_39, dX0_restart_42, dX0_restart_45, dX0_restart_46, dX0_restart_47, dX0_restart_50, jx_k0, fl_X0_10, ft_1_0, tg_10_28, fl_X0_16, ft_1_1, jx_k1, tg_35_m33, fw_X0_36, ft_1_2, jx_wq, jx_stq, jx_ite, jx_b0, jx_bn0, jx_u_eq, jx_u_na, jx_u_ni, jx_nb0, jx_nb1, jx_ni, jx_E, eq_self, jx_a0, jx_a1, ne_eq, not_false_eq_true, Nat.reduceLeDiff, Nat.reduceEqDiff, Nat.reduceLT, jx_subl, jx_al, jx_la, jx_nm, jx_ml, nI_add, jx_xn, jx_xl, jx_inn, jx_inl, jx_ltnn, jx_lenn, jx_eqnn, jx_ltnl, jx_lenl, jx_ltln, jx_leln, jx_eqnl, Int32.reduceAdd, Int32.reduceSub, Int32.reduceMul, Int32.reduceLT, Int32.reduceLE, jx_eqll, jx_ltll, Nat.reduceMul, Nat.reduceSub, forall_const, implies_true, false_implies, not_true_eq_false, true_implies, jx_tko, jx_ofn, jx_tka, jx_pro, jx_pra, and_self, Nat.not_lt_zero, jx_nbb, fv_1_2]
    have n6 : (6 : Nat) ≠ e2 := fun h => by rw [← h, f0] at he2; simp at he2
    have n7 : (7 : Nat) ≠ e2 := fun h => by rw [← h, f3] at he2; simp at he2
    have hin : ∀ (N : Nat → Nat) (k : Nat), ms_in n K P N k → ms_in n2 K2 P2 N k := fun N k h i hi => by
      obtain ⟨v1, v2, v3⟩ := h i hi
      have v4 := ob_M_e v1 he2
      exact ⟨ob_M_fr v1 (fun b h1 h2 => hf1 b (by omega)) (fun b j h1 h2 => hf3 b j (by omega) (by omega) (by omega)), v2, by omega⟩
    have hn8 : e ≠ 8 := fun h => by rw [h, f4] at a2; simp at a2
    have hcap := @bg_cap c2
    refine ih (k + 1) n2 ms2 K2 I2 P2 (ls_up S (z + k) (L k)) e3 c3 (by omega) ⟨⟨by rw [hf1 6 (by omega), f0], by rw [hf3 6 0 (by omega) (by decide) n6, f1], by rw [hf3 6 1 (by omega) (by decide) n6, f2], by rw [hf1 7 (by omega), f3], by rw [hf1 8 (by omega), f4], by rw [hf1 1 (by omega), f5]⟩, ⟨by rw [hf3 7 1 (by omega) (by decide) n7, a1], by rw [hf1 e a7, a2], by rw [hf2 7 2 (by omega) (by decide), a3], a4, a5, fun i hi => ?_, by omega, a8⟩, hl3, ?_, hin L x hm1, ?_, hi1, fun i j hi hj h => ?_, fun i j hki hi hj => ?_, by omega⟩ ⟨by omega, fun b hb2 => by rw [hf1 b (by omega), r2 b hb2], fun b j q1 q2 => by rw [hf2 b j (by omega) q2, r3 b j q1 q2], fun b j q1 q2 q3 => ?_, by omega, by omega, by omega⟩
    · rw [hf3 e i a7 hn8 (fun h => by rcases hee with h2 | h2 <;> omega), a6 i hi]
    · rcases hf5 with h | h
      · rw [h.2.2.1]
        exact hee
      · left
        omega
    · intro i hi
      by_cases h : i = z + k
      · subst h
        rw [ls_up_eq]
        exact hin L x hm1 k (by omega)
      · rw [ls_up_lt (by omega)]
        exact hin S (z + k) hm2 i (by omega)
    · by_cases h1 : i = z + k
      · by_cases h2 : j = z + k
        · omega
        · subst h1
          rw [ls_up_eq, ls_up_lt (by omega)] at h
          exact absurd h (hi3 k j (by omega) (by omega) (by omega))
      · by_cases h2 : j = z + k
        · subst h2
          rw [ls_up_eq, ls_up_lt (by omega)] at h
          exact absurd h.symm (hi3 k i (by omega) (by omega) (by omega))
        · rw [ls_up_lt (by omega), ls_up_lt (by omega)] at h
          exact hi2 i j (by omega) (by omega) h
    · by_cases h1 : j = z + k
      · subst h1
        rw [ls_up_eq]
        intro h
        have := hi1 i k hi (by omega) h
        omega
      · rw [ls_up_lt (by omega)]
        exact hi3 i j (by omega) hi (by omega)
    · rw [hf3 b j (by omega) q2 (by omega), r4 b j q1 q2 q3]
set_option maxHeartbeats 4000000 in
set_option maxRecDepth 100000 in
theorem bg_restart {G : jx_G} {n ms : Nat} {K : Nat → Nat × Nat} {I : Nat → Nat → Int32} {P : Nat → Nat → Option Nat} {L S : Nat → Nat} {x z e c e2 c2 : Nat} (hB : bg_ok n K I P L x S z e c e2 c2) (hr1 : n + 24001 ≤ 600003) (hr2 : ms + 121000 ≤ 7302250) (hxz : x + z ≤ 16000) : jx_C G yX0_restart cX0_restart 2 none 7 [.inr (some 6)] (n, ms, K, I, P) (br_Q n ms K I P x z e c e2 c2) := by
  refine jx_C_of (by decide) (Nat.le_of_ble_eq_true rfl) ?_
  simp only [List.map_cons, List.map_nil, List.length_cons, List.length_nil, Nat.reduceAdd, Nat.reduceSub, List.replicate_zero, List.append_nil, List.replicate_succ, List.cons_append, List.nil_append]
  obtain ⟨hfx, hl1, hl2, hee, hm1, hm2, hdj, h140⟩ := id hB
  refine jx_gq flok_X0 (fwok_X0 rfl) 2 3 _ _ _ _ ?_
  simp (disch := omega) only [↓reduceIte, jx_wp, jx_stp, jx_f0, jx_f1, jx_f2, jx_f3, List.getElem?_cons_zero, List.getElem?_cons_succ, List.set_cons_zero, List.set_cons_succ, Nat.reduceAdd, true_and, and_true, if_true, if_false, Bool.false_eq_true, jx_s, Nat.reduceLT, dX0_restart_0, dX0_restart_1, dX0_restart_2, dX0_restart_3, dX0_restart_4, dX0_restart_7, dX0_restart_10, dX0_restart_13, dX0_restart_14, dX0_restart_17, dX0_restart_18, dX0_restart_21, dX0_restart_22, dX0_restart_25, dX0_restart_28, dX0_restart_31, dX0_restart_32, dX0_restart_35, dX0_restart_38, dX0_restart_39, dX0_restart_42, dX0_restart_45, dX0_restart_46, dX0_restart_47, dX0_restart_50, jx_k0, fl_X0_10, ft_1_0, tg_10_28, fl_X0_16, ft_1_1, jx_k1, tg_35_m33, fw_X0_36, ft_1_2, jx_wq, jx_stq, jx_ite, jx_b0, jx_bn0, jx_u_eq, jx_u_na, jx_u_ni, jx_nb0, jx_nb1, jx_ni, jx_E, eq_self, jx_a0, jx_a1, ne_eq, not_false_eq_true, Nat.reduceLeDiff, Nat.reduceEqDiff, Nat.reduceLT, jx_subl, jx_al, jx_la, jx_nm, jx_ml, nI_add, jx_xn, jx_xl, jx_inn, jx_inl, jx_ltnn, jx_lenn, jx_eqnn, jx_ltnl, jx_lenl, jx_ltln, jx_leln, jx_eqnl, Int32.reduceAdd, Int32.reduceSub, Int32.reduceMul, Int32.reduceLT, Int32.reduceLE, jx_eqll, jx_ltll, Nat.reduceMul, Nat.reduceSub, forall_const, implies_true, false_implies, not_true_eq_false, true_implies, jx_tko, jx_ofn, jx_tka, jx_pro, jx_pra, and_self, Nat.not_lt_zero, jx_nbb, fv_1_2]
  exact br_l hr1 hr2 hxz ⟨hl1.2.2.2.2.2.2.1, hl2.2.2.2.2.2.2.1, h140⟩ x 0 n ms K I P S e2 c2 (by omega) ⟨hfx, hl1, hl2, hee, hm1, hm2, hdj.1, hdj.2.1, fun i j _ hi hj => hdj.2.2 i j hi hj, h140⟩ ⟨Nat.le_refl _, fun _ _ => rfl, fun _ _ _ _ => rfl, fun _ _ _ _ _ => rfl, Nat.le_refl _, Nat.le_refl _, Or.inl rfl⟩
set_option maxHeartbeats 4000000 in
set_option maxRecDepth 100000 in
theorem bg_restart0 {G : jx_G} {n ms : Nat} {K : Nat → Nat × Nat} {I : Nat → Nat → Int32} {P : Nat → Nat → Option Nat} (f0 : K 6 = (1, 3)) (f1 : P 6 0 = some 7) (f3 : K 7 = (0, 3)) (a1 : P 7 1 = some 1) (a2 : K 1 = (16, 0)) (a3 : I 7 2 = nI 0) : jx_C G yX0_restart cX0_restart 2 none 7 [.inr (some 6)] (n, ms, K, I, P) (jx_E none (n, ms, K, jx_u (jx_u (jx_u I 7 0 (I 7 0 + 1)) 7 2 (nI 0)) 6 2 0, P)) := by
  refine jx_C_of (by decide) (Nat.le_of_ble_eq_true rfl) ?_
  simp only [List.map_cons, List.map_nil, List.length_cons, List.length_nil, Nat.reduceAdd, Nat.reduceSub, List.replicate_zero, List.append_nil, List.replicate_succ, List.cons_append, List.nil_append]
  have hc := @jd_clear G n ms K I P 7 1 0 0 f3 a1 a2 a3 (by omega) (by omega)
  rw [jd_cl_0] at hc
  refine jx_gq flok_X0 (fwok_X0 rfl) 99999 7 _ _ _ _ ?_
  simp (disch := omega) only [↓reduceIte, jx_wp, jx_stp, jx_f0, jx_f1, jx_f2, jx_f3, List.getElem?_cons_zero, List.getElem?_cons_succ, List.set_cons_zero, List.set_cons_succ, Nat.reduceAdd, true_and, and_true, if_true, if_false, Bool.false_eq_true, jx_s, Nat.reduceLT, dX0_restart_0, dX0_restart_1, dX0_restart_2, dX0_restart_3, dX0_restart_4, dX0_restart_7, dX0_restart_10, dX0_restart_13, dX0_restart_14, dX0_restart_17, dX0_restart_18, dX0_restart_21, dX0_restart_22, dX0_restart_25, dX0_restart_28, dX0_restart_31, dX0_restart_32, dX0_restart_35, dX0_restart_38, dX0_restart_39, dX0_restart_42, dX0_restart_45, dX0_restart_46, dX0_restart_47, dX0_restart_50, jx_k0, fl_X0_10, ft_1_0, tg_10_28, fl_X0_16, ft_1_1, jx_k1, tg_35_m33, fw_X0_36, ft_1_2, jx_wq, jx_stq, jx_ite, jx_b0, jx_bn0, jx_u_eq, jx_u_na, jx_u_ni, jx_nb0, jx_nb1, jx_ni, jx_E, eq_self, jx_a0, jx_a1, ne_eq, not_false_eq_true, Nat.reduceLeDiff, Nat.reduceEqDiff, Nat.reduceLT, jx_subl, jx_al, jx_la, jx_nm, jx_ml, nI_add, jx_xn, jx_xl, jx_inn, jx_inl, jx_ltnn, jx_lenn, jx_eqnn, jx_ltnl, jx_lenl, jx_ltln, jx_leln, jx_eqnl, Int32.reduceAdd, Int32.reduceSub, Int32.reduceMul, Int32.reduceLT, Int32.reduceLE, jx_eqll, jx_ltll, Nat.reduceMul, Nat.reduceSub, forall_const, implies_true, false_implies, not_true_eq_false, true_implies, jx_tko, jx_ofn, jx_tka, jx_pro, jx_pra, and_self, Nat.not_lt_zero, jx_nbb, fv_1_2, f0, f1, f3]
  refine jx_cV0 dX0_restart_7 li_X0_19 (jd_size f3) (congrArg Prod.fst f3) (Nat.le_of_ble_eq_true rfl) (Nat.le_of_ble_eq_true rfl) ?_
  rintro _ _ ⟨rfl, rfl⟩ - -
  simp only [Option.toList_some, Option.toList_none, List.cons_append, List.nil_append]
  refine jx_gq flok_X0 (fwok_X0 rfl) 99999 6 _ _ _ _ ?_
  simp (disch := omega) only [↓reduceIte, jx_wp, jx_stp, jx_f0, jx_f1, jx_f2, jx_f3, List.getElem?_cons_zero, List.getElem?_cons_succ, List.set_cons_zero, List.set_cons_succ, Nat.reduceAdd, true_and, and_true, if_true, if_false, Bool.false_eq_true, jx_s, Nat.reduceLT, dX0_restart_0, dX0_restart_1, dX0_restart_2, dX0_restart_3, dX0_restart_4, dX0_restart_7, dX0_restart_10, dX0_restart_13, dX0_restart_14, dX0_restart_17, dX0_restart_18, dX0_restart_21, dX0_restart_22, dX0_restart_25, dX0_restart_28, dX0_restart_31, dX0_restart_32, dX0_restart_35, dX0_restart_38, dX0_restart_39, dX0_restart_42, dX0_restart_45, dX0_restart_46, dX0_restart_47, dX0_restart_50, jx_k0, fl_X0_10, ft_1_0, tg_10_28, fl_X0_16, ft_1_1, jx_k1, tg_35_m33, fw_X0_36, ft_1_2, jx_wq, jx_stq, jx_ite, jx_b0, jx_bn0, jx_u_eq, jx_u_na, jx_u_ni, jx_nb0, jx_nb1, jx_ni, jx_E, eq_self, jx_a0, jx_a1, ne_eq, not_false_eq_true, Nat.reduceLeDiff, Nat.reduceEqDiff, Nat.reduceLT, jx_subl, jx_al, jx_la, jx_nm, jx_ml, nI_add, jx_xn, jx_xl, jx_inn, jx_inl, jx_ltnn, jx_lenn, jx_eqnn, jx_ltnl, jx_lenl, jx_ltln, jx_leln, jx_eqnl, Int32.reduceAdd, Int32.reduceSub, Int32.reduceMul, Int32.reduceLT, Int32.reduceLE, jx_eqll, jx_ltll, Nat.reduceMul, Nat.reduceSub, forall_const, implies_true, false_implies, not_true_eq_false, true_implies, jx_tko, jx_ofn, jx_tka, jx_pro, jx_pra, and_self, Nat.not_lt_zero, jx_nbb, fv_1_2, f0, f1, f3, a3, Nat.le_refl]
  refine jx_cV0 dX0_restart_42 li_X0_33 (hc) (congrArg Prod.fst f3) (Nat.le_of_ble_eq_true rfl) (Nat.le_of_ble_eq_true rfl) ?_
  rintro _ _ ⟨rfl, rfl⟩ - -
  simp only [Option.toList_some, Option.toList_none, List.cons_append, List.nil_append]
  refine jx_gq flok_X0 (fwok_X0 rfl) 99999 5 _ _ _ _ ?_
  simp (disch := omega) only [↓reduceIte, jx_wp, jx_stp, jx_f0, jx_f1, jx_f2, jx_f3, List.getElem?_cons_zero, List.getElem?_cons_succ, List.set_cons_zero, List.set_cons_succ, Nat.reduceAdd, true_and, and_true, if_true, if_false, Bool.false_eq_true, jx_s, Nat.reduceLT, dX0_restart_0, dX0_restart_1, dX0_restart_2, dX0_restart_3, dX0_restart_4, dX0_restart_7, dX0_restart_10, dX0_restart_13, dX0_restart_14, dX0_restart_17, dX0_restart_18, dX0_restart_21, dX0_restart_22, dX0_restart_25, dX0_restart_28, dX0_restart_31, dX0_restart_32, dX0_restart_35, dX0_restart_38, dX0_restart_39, dX0_restart_42, dX0_restart_45, dX0_restart_46, dX0_restart_47, dX0_restart_50, jx_k0, fl_X0_10, ft_1_0, tg_10_28, fl_X0_16, ft_1_1, jx_k1, tg_35_m33, fw_X0_36, ft_1_2, jx_wq, jx_stq, jx_ite, jx_b0, jx_bn0, jx_u_eq, jx_u_na, jx_u_ni, jx_nb0, jx_nb1, jx_ni, jx_E, eq_self, jx_a0, jx_a1, ne_eq, not_false_eq_true, Nat.reduceLeDiff, Nat.reduceEqDiff, Nat.reduceLT, jx_subl, jx_al, jx_la, jx_nm, jx_ml, nI_add, jx_xn, jx_xl, jx_inn, jx_inl, jx_ltnn, jx_lenn, jx_eqnn, jx_ltnl, jx_lenl, jx_ltln, jx_leln, jx_eqnl, Int32.reduceAdd, Int32.reduceSub, Int32.reduceMul, Int32.reduceLT, Int32.reduceLE, jx_eqll, jx_ltll, Nat.reduceMul, Nat.reduceSub, forall_const, implies_true, false_implies, not_true_eq_false, true_implies, jx_tko, jx_ofn, jx_tka, jx_pro, jx_pra, and_self, Nat.not_lt_zero, jx_nbb, fv_1_2, f0, f1, f3]
