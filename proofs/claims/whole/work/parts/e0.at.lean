/-- the search's own cells don't matter -/
theorem rl_srch {n ms : Nat} {K : Nat → Nat × Nat} {I I2 : Nat → Nat → Int32} {P P2 : Nat → Nat → Option Nat} {J : Nat → Nat → Int32} {B : Nat} {A : Nat → Nat} (hR : rl0 n ms K I P J B A) (hI : ∀ b j, ¬ (11 ≤ b ∧ b ≤ 21) → I2 b j = I b j) (hP : ∀ b j, b ≠ 12 → P2 b j = P b j) : rl0 n ms K I2 P2 J B A ∧ ag I2 I ∧ I2 3 6 = I 3 6 := by
  obtain ⟨n0, n1, n2, n3, n4, n5, n6⟩ := id hR.1
  have hN : rl_N n K I2 P2 J B A := by
    refine ⟨cl_ok_to n0 (fun _ _ _ => rfl) (fun b j q1 q2 q3 q4 q5 q6 q7 => hP b j q6), rs_ok_to n1 (fun _ _ _ => rfl) (fun b j w => hP b j (by omega)), mo_ok_to n2 (fun _ _ _ => rfl) (fun j => hP 98 j (by omega)), fun s hs => sv_r_to hs (n3 s hs) (fun b j q1 q2 => hI b j (by omega)) (fun _ _ _ _ => rfl), fun c hc => ?_, ?_, by rw [hI 3 5 (by omega), n6]⟩
    · obtain ⟨e0, e1⟩ := n4 c hc
      refine ⟨cn_s_to hc e0 (fun b j q1 q2 => hI b j (by omega)) (fun _ _ _ _ _ => rfl), ?_⟩
      rw [hP (78 + 5 * c) 4 (by omega)]
      rcases e1 with e1 | ⟨o, q1, q2, q3, q4⟩
      · exact Or.inl e1
      · exact Or.inr ⟨o, q1, q2, q3, cn_o_to hc q4 (fun b j q1 q2 => hI b j (by omega)) (fun _ _ _ _ _ => rfl)⟩
    · obtain ⟨e0, e1, e2, e3, e4, e5, e6⟩ := n5
      refine ⟨e0, e1, by rw [hI 9 1 (by omega), e2], by rw [hI 9 2 (by omega), e3], by rw [hI 9 3 (by omega), e4], fun o a ho hp => ?_, fun o ho => ?_⟩
      · rw [hP 10 o (by omega)] at hp
        obtain ⟨q1, q2, q3, q4⟩ := e5 o a ho hp
        exact ⟨q1, q2, q3, by rw [hI a 0 (by omega), q4]⟩
      · obtain ⟨q1, q2⟩ := e6 o ho
        obtain ⟨-, w, -⟩ := e5 o _ (by omega) q1
        exact ⟨by rw [hP 10 o (by omega), q1], op_r_to q2 (fun j => hI _ _ (by omega)) (fun _ _ _ _ => rfl)⟩
  have h1 : rl n ms K I2 P2 J B A 0 (fun _ => False) I := rl_chg hR hN (fun b j q => hI b j (by omega)) (fun b j q => hP b j (by omega)) (fun _ _ _ _ => rfl) rfl rfl
  exact ⟨⟨h1.1, h1.2.1, fun _ q => q.elim, ag_refl, rfl⟩, fun a j q1 q2 => hI a j (by omega), hI 3 6 (by omega)⟩
/-- what atomic leaves -/
def ca_Q (J : Nat → Nat → Int32) (B : Nat) (A : Nat → Nat) (Y : Int32 → Prop) (I0 : Nat → Nat → Int32) (w : Option jx_V) (M : jx_M) : Prop := ∃ v n ms K I P, w = some (.inl v) ∧ M = (n, ms, K, I, P) ∧ rl0 n ms K I P J B A ∧ ag I I0 ∧ I 3 6 = I0 3 6 ∧ Y v
def at_V (J : Nat → Nat → Int32) (r : Int32) (B : Nat) (v : Int32) : Prop := v = 1 ∧ at_Y J (ctf (at_p J r) B) (ctn (at_p J r) B) ∨ v = 0 ∧ ¬ at_Y J (ctf (at_p J r) B) (ctn (at_p J r) B)
def at_W (J : Nat → Nat → Int32) (r : Int32) (B : Nat) (v : Int32) : Prop := (ctn (at_a J r) B ≤ 14 → at_V J r B v) ∧ (¬ ctn (at_a J r) B ≤ 14 → v = -1)
def ga_Q (J : Nat → Nat → Int32) (A : Nat → Nat) (r : Int32) (B n ms : Nat) (K : Nat → Nat × Nat) (I0 : Nat → Nat → Int32) (P0 : Nat → Nat → Option Nat) (w : Option jx_V) (M : jx_M) : Prop := ∃ I P, M = (n, ms, K, I, P) ∧ ((w = some (.inl 0) ∧ (∀ b j, ¬ (11 ≤ b ∧ b ≤ 18) → I b j = I0 b j) ∧ (∀ b j, b ≠ 12 → P b j = P0 b j) ∧ ¬ ctn (at_a J r) B ≤ 14) ∨ (w = some (.inl 1) ∧ (∀ b j, ¬ (11 ≤ b ∧ b ≤ 18) → I b j = I0 b j) ∧ (∃ I1, cg_g J A r B I1 P0 I P B) ∧ ctn (at_a J r) B ≤ 14))
set_option maxHeartbeats 4000000 in
set_option maxRecDepth 100000 in
theorem rs_gather {G : jx_G} {n ms : Nat} {K : Nat → Nat × Nat} {I : Nat → Nat → Int32} {P : Nat → Nat → Option Nat} {J : Nat → Nat → Int32} {B : Nat} {A : Nat → Nat} {q x : Nat} {r : Int32} (hR : rl0 n ms K I P J B A) (hv : Iv J q x B 4) : jx_C G yX5_gather cX5_gather 6 (some FieldType.boolean) 1 [.inr (some 11), .inr (some 9), .inl r] (n, ms, K, I, P) (ga_Q J A r B n ms K I P) := by
  refine jx_C_of (by decide) (Nat.le_of_ble_eq_true rfl) ?_
  simp only [List.map_cons, List.map_nil, List.length_cons, List.length_nil, Nat.reduceAdd, Nat.reduceSub, List.replicate_zero, List.append_nil, List.replicate_succ, List.cons_append, List.nil_append]
  obtain ⟨n0, n1, n2, n3, n4, n5, n6⟩ := id hR.1
  obtain ⟨r0, r1, r2, r3, r4, r5, r6, r7, r8, r9, r10, r11, r12, r13⟩ := id n1
  refine jx_gq flok_X5 (fwok_X5 rfl) 12 10 _ _ _ _ ?_
  simp (disch := omega) only [↓reduceIte, jx_wp, jx_stp, jx_f0, jx_f1, jx_f2, jx_f3, List.getElem?_cons_zero, List.getElem?_cons_succ, List.set_cons_zero, List.set_cons_succ, Nat.reduceAdd, true_and, and_true, if_true, if_false, Bool.false_eq_true, jx_s, Nat.reduceLT, dX5_gather_0, dX5_gather_1, dX5_gather_2, dX5_gather_3, dX5_gather_4, dX5_gather_7, dX5_gather_8, dX5_gather_11, dX5_gather_12, dX5_gather_15, dX5_gather_16, dX5_gather_18, dX5_gather_20, dX5_gather_21, dX5_gather_24, dX5_gather_27, dX5_gather_28, dX5_gather_31, dX5_gather_33, dX5_gather_34, dX5_gather_36, dX5_gather_38, dX5_gather_41, dX5_gather_44, dX5_gather_46, dX5_gather_49, dX5_gather_50, dX5_gather_53, dX5_gather_55, dX5_gather_58, dX5_gather_59, dX5_gather_62, dX5_gather_65, dX5_gather_66, dX5_gather_68, dX5_gather_71, dX5_gather_72, dX5_gather_73, dX5_gather_75, dX5_gather_78, dX5_gather_79, dX5_gather_82, dX5_gather_84, dX5_gather_87, dX5_gather_90, dX5_gather_91, dX5_gather_93, dX5_gather_96, dX5_gather_99, dX5_gather_102, dX5_gather_103, jx_k0, fw_X5_35, ft_6_6, fl_X5_22, ft_6_2, fl_X5_45, ft_3_1, tg_24_78, fl_X5_50, ft_3_0, fl_X5_53, ft_5_1, tg_41_12, jx_k1, tg_50_46, fl_X5_56, ft_5_3, tg_59_37, jx_b14, tg_68_5, tg_79_11, tg_87_9, tg_99_m81, jx_wq, jx_stq, jx_ite, jx_b0, jx_bn0, jx_u_eq, jx_u_na, jx_u_ni, jx_nb0, jx_nb1, jx_ni, jx_E, eq_self, jx_a0, jx_a1, ne_eq, not_false_eq_true, Nat.reduceLeDiff, Nat.reduceEqDiff, Nat.reduceLT, jx_subl, jx_al, jx_la, jx_nm, jx_ml, nI_add, jx_xn, jx_xl, jx_inn, jx_inl, jx_ltnn, jx_lenn, jx_eqnn, jx_ltnl, jx_lenl, jx_ltln, jx_leln, jx_eqnl, Int32.reduceAdd, Int32.reduceSub, Int32.reduceMul, Int32.reduceLT, Int32.reduceLE, jx_eqll, jx_ltll, Nat.reduceMul, Nat.reduceSub, forall_const, implies_true, false_implies, not_true_eq_false, true_implies, jx_tko, jx_ofn, jx_tka, jx_pro, jx_pra, and_self, Nat.not_lt_zero, jx_nbb, fv_6_6, r0, r10]
  refine jx_cS2 dX5_gather_12 li_X5_39 (jd_fill r4 (by omega) (by decide)) (Nat.le_of_ble_eq_true rfl) (Nat.le_of_ble_eq_true rfl) ?_
  rintro _ _ ⟨rfl, rfl⟩ - -
  simp only [Option.toList_some, Option.toList_none, List.cons_append, List.nil_append]
  refine jx_gq flok_X5 (fwok_X5 rfl) 18 4 _ _ _ _ ?_
  simp (disch := omega) only [↓reduceIte, jx_wp, jx_stp, jx_f0, jx_f1, jx_f2, jx_f3, List.getElem?_cons_zero, List.getElem?_cons_succ, List.set_cons_zero, List.set_cons_succ, Nat.reduceAdd, true_and, and_true, if_true, if_false, Bool.false_eq_true, jx_s, Nat.reduceLT, dX5_gather_0, dX5_gather_1, dX5_gather_2, dX5_gather_3, dX5_gather_4, dX5_gather_7, dX5_gather_8, dX5_gather_11, dX5_gather_12, dX5_gather_15, dX5_gather_16, dX5_gather_18, dX5_gather_20, dX5_gather_21, dX5_gather_24, dX5_gather_27, dX5_gather_28, dX5_gather_31, dX5_gather_33, dX5_gather_34, dX5_gather_36, dX5_gather_38, dX5_gather_41, dX5_gather_44, dX5_gather_46, dX5_gather_49, dX5_gather_50, dX5_gather_53, dX5_gather_55, dX5_gather_58, dX5_gather_59, dX5_gather_62, dX5_gather_65, dX5_gather_66, dX5_gather_68, dX5_gather_71, dX5_gather_72, dX5_gather_73, dX5_gather_75, dX5_gather_78, dX5_gather_79, dX5_gather_82, dX5_gather_84, dX5_gather_87, dX5_gather_90, dX5_gather_91, dX5_gather_93, dX5_gather_96, dX5_gather_99, dX5_gather_102, dX5_gather_103, jx_k0, fw_X5_35, ft_6_6, fl_X5_22, ft_6_2, fl_X5_45, ft_3_1, tg_24_78, fl_X5_50, ft_3_0, fl_X5_53, ft_5_1, tg_41_12, jx_k1, tg_50_46, fl_X5_56, ft_5_3, tg_59_37, jx_b14, tg_68_5, tg_79_11, tg_87_9, tg_99_m81, jx_wq, jx_stq, jx_ite, jx_b0, jx_bn0, jx_u_eq, jx_u_na, jx_u_ni, jx_nb0, jx_nb1, jx_ni, jx_E, eq_self, jx_a0, jx_a1, ne_eq, not_false_eq_true, Nat.reduceLeDiff, Nat.reduceEqDiff, Nat.reduceLT, jx_subl, jx_al, jx_la, jx_nm, jx_ml, nI_add, jx_xn, jx_xl, jx_inn, jx_inl, jx_ltnn, jx_lenn, jx_eqnn, jx_ltnl, jx_lenl, jx_ltln, jx_leln, jx_eqnl, Int32.reduceAdd, Int32.reduceSub, Int32.reduceMul, Int32.reduceLT, Int32.reduceLE, jx_eqll, jx_ltll, Nat.reduceMul, Nat.reduceSub, forall_const, implies_true, false_implies, not_true_eq_false, true_implies, jx_tko, jx_ofn, jx_tka, jx_pro, jx_pra, and_self, Nat.not_lt_zero, jx_nbb, fv_6_6]
  have hI1 : ∀ b j, ¬ (11 ≤ b ∧ b ≤ 18) → jd_fi (jx_u I 11 6 0) 18 0 4 b j = I b j := fun b j w => by rw [jd_fi_o (by omega), jx_u_na (by omega)]
  obtain ⟨hR1, -, -⟩ := rl_srch (I2 := jd_fi (jx_u I 11 6 0) 18 0 4) (P2 := P) hR (fun b j w => hI1 b j (by omega)) (fun _ _ _ => rfl)
  refine rs_gl (I0 := jd_fi (jx_u I 11 6 0) 18 0 4) hR1 hv (fun I2 P2 q1 q2 q3 => ⟨I2, P2, rfl, Or.inl ⟨rfl, fun b j w => by rw [q1 b j (by omega) (by omega), hI1 b j w], q2, q3⟩⟩) (fun I2 P2 q1 q2 => ⟨I2, P2, rfl, Or.inr ⟨rfl, fun b j w => by rw [q1.1 b j (by omega) (by omega), hI1 b j w], ⟨_, q1⟩, q2⟩⟩) B 0 _ P _ (by omega) (Nat.zero_le _) ⟨fun _ _ _ _ => rfl, fun _ _ _ => rfl, ?_, fun o ho => absurd ho (by omega), fun c hc => ?_, fun i hi => absurd hi (Nat.not_lt_zero _)⟩
  · rw [jd_fi_o (by omega), jx_u_eq]
    rfl
  · rw [jd_fi_i hc]
    rfl
set_option maxHeartbeats 4000000 in
set_option maxRecDepth 100000 in
theorem rl_atomic_no {G : jx_G} {n ms : Nat} {K : Nat → Nat × Nat} {I : Nat → Nat → Int32} {P : Nat → Nat → Option Nat} {r : Int32} (hr : ¬ (¬ r < 0 ∧ ¬ 3 ≤ r)) : jx_C G yX8_atomic cX8_atomic 2 (some FieldType.int) 4 [.inr (some 3), .inl r] (n, ms, K, I, P) (jx_E (some (.inl (-1))) (n, ms, K, I, P)) := by
  refine jx_C_of (by decide) (Nat.le_of_ble_eq_true rfl) ?_
  simp only [List.map_cons, List.map_nil, List.length_cons, List.length_nil, Nat.reduceAdd, Nat.reduceSub, List.replicate_zero, List.append_nil, List.replicate_succ, List.cons_append, List.nil_append]
  refine jx_gq flok_X8 (fwok_X8 rfl) 99999 2 _ _ _ _ ?_
  simp (disch := omega) only [↓reduceIte, jx_wp, jx_stp, jx_f0, jx_f1, jx_f2, jx_f3, List.getElem?_cons_zero, List.getElem?_cons_succ, List.set_cons_zero, List.set_cons_succ, Nat.reduceAdd, true_and, and_true, if_true, if_false, Bool.false_eq_true, jx_s, Nat.reduceLT, dX8_atomic_0, dX8_atomic_1, dX8_atomic_4, dX8_atomic_7, dX8_atomic_8, dX8_atomic_11, dX8_atomic_12, dX8_atomic_15, dX8_atomic_16, dX8_atomic_19, dX8_atomic_22, dX8_atomic_23, dX8_atomic_24, dX8_atomic_25, dX8_atomic_28, dX8_atomic_31, dX8_atomic_34, dX8_atomic_35, dX8_atomic_38, dX8_atomic_39, tg_4_18, fl_X8_38, ft_9_4, fl_X8_31, ft_9_3, tg_19_5, jx_km1, tg_31_7, jx_k1, tg_35_4, jx_k0, jx_wq, jx_stq, jx_ite, jx_b0, jx_bn0, jx_u_eq, jx_u_na, jx_u_ni, jx_nb0, jx_nb1, jx_ni, jx_E, eq_self, jx_a0, jx_a1, ne_eq, not_false_eq_true, Nat.reduceLeDiff, Nat.reduceEqDiff, Nat.reduceLT, jx_subl, jx_al, jx_la, jx_nm, jx_ml, nI_add, jx_xn, jx_xl, jx_inn, jx_inl, jx_ltnn, jx_lenn, jx_eqnn, jx_ltnl, jx_lenl, jx_ltln, jx_leln, jx_eqnl, Int32.reduceAdd, Int32.reduceSub, Int32.reduceMul, Int32.reduceLT, Int32.reduceLE, jx_eqll, jx_ltll, Nat.reduceMul, Nat.reduceSub, forall_const, implies_true, false_implies, not_true_eq_false, true_implies, jx_tko, jx_ofn, jx_tka, jx_pro, jx_pra, and_self, Nat.not_lt_zero, jx_nbb]
  refine jx_cS1 dX8_atomic_1 li_X8_58 (cl_isRegister) (Nat.le_of_ble_eq_true rfl) (Nat.le_of_ble_eq_true rfl) ?_
  rintro _ _ ⟨rfl, rfl⟩ - -
  simp only [Option.toList_some, Option.toList_none, List.cons_append, List.nil_append]
  refine jx_gq flok_X8 (fwok_X8 rfl) 99999 5 _ _ _ _ ?_
  simp (disch := omega) only [↓reduceIte, jx_wp, jx_stp, jx_f0, jx_f1, jx_f2, jx_f3, List.getElem?_cons_zero, List.getElem?_cons_succ, List.set_cons_zero, List.set_cons_succ, Nat.reduceAdd, true_and, and_true, if_true, if_false, Bool.false_eq_true, jx_s, Nat.reduceLT, dX8_atomic_0, dX8_atomic_1, dX8_atomic_4, dX8_atomic_7, dX8_atomic_8, dX8_atomic_11, dX8_atomic_12, dX8_atomic_15, dX8_atomic_16, dX8_atomic_19, dX8_atomic_22, dX8_atomic_23, dX8_atomic_24, dX8_atomic_25, dX8_atomic_28, dX8_atomic_31, dX8_atomic_34, dX8_atomic_35, dX8_atomic_38, dX8_atomic_39, tg_4_18, fl_X8_38, ft_9_4, fl_X8_31, ft_9_3, tg_19_5, jx_km1, tg_31_7, jx_k1, tg_35_4, jx_k0, jx_wq, jx_stq, jx_ite, jx_b0, jx_bn0, jx_u_eq, jx_u_na, jx_u_ni, jx_nb0, jx_nb1, jx_ni, jx_E, eq_self, jx_a0, jx_a1, ne_eq, not_false_eq_true, Nat.reduceLeDiff, Nat.reduceEqDiff, Nat.reduceLT, jx_subl, jx_al, jx_la, jx_nm, jx_ml, nI_add, jx_xn, jx_xl, jx_inn, jx_inl, jx_ltnn, jx_lenn, jx_eqnn, jx_ltnl, jx_lenl, jx_ltln, jx_leln, jx_eqnl, Int32.reduceAdd, Int32.reduceSub, Int32.reduceMul, Int32.reduceLT, Int32.reduceLE, jx_eqll, jx_ltll, Nat.reduceMul, Nat.reduceSub, forall_const, implies_true, false_implies, not_true_eq_false, true_implies, jx_tko, jx_ofn, jx_tka, jx_pro, jx_pra, and_self, Nat.not_lt_zero, jx_nbb, hr]
set_option maxHeartbeats 4000000 in
set_option maxRecDepth 100000 in
theorem rl_atomic {G : jx_G} {n ms : Nat} {K : Nat → Nat × Nat} {I : Nat → Nat → Int32} {P : Nat → Nat → Option Nat} {J : Nat → Nat → Int32} {B : Nat} {A : Nat → Nat} {q x p : Nat} (hR : rl0 n ms K I P J B A) (hv : Iv J q x B 4) (hp : p < 3) : jx_C G yX8_atomic cX8_atomic 2 (some FieldType.int) 4 [.inr (some 3), .inl (nI p)] (n, ms, K, I, P) (ca_Q J B A (at_W J (nI p) B) I) := by
  refine jx_C_of (by decide) (Nat.le_of_ble_eq_true rfl) ?_
  simp only [List.map_cons, List.map_nil, List.length_cons, List.length_nil, Nat.reduceAdd, Nat.reduceSub, List.replicate_zero, List.append_nil, List.replicate_succ, List.cons_append, List.nil_append]
  obtain ⟨n0, n1, n2, n3, n4, n5, n6⟩ := id hR.1
  obtain ⟨g0, g1, g2, g3, g4, g5, g6, g7, g8, g9, g10⟩ := id n0
  have e3 : ¬ 3 ≤ p := by omega
  refine jx_gq flok_X8 (fwok_X8 rfl) 99999 2 _ _ _ _ ?_
  simp (disch := omega) only [↓reduceIte, jx_wp, jx_stp, jx_f0, jx_f1, jx_f2, jx_f3, List.getElem?_cons_zero, List.getElem?_cons_succ, List.set_cons_zero, List.set_cons_succ, Nat.reduceAdd, true_and, and_true, if_true, if_false, Bool.false_eq_true, jx_s, Nat.reduceLT, dX8_atomic_0, dX8_atomic_1, dX8_atomic_4, dX8_atomic_7, dX8_atomic_8, dX8_atomic_11, dX8_atomic_12, dX8_atomic_15, dX8_atomic_16, dX8_atomic_19, dX8_atomic_22, dX8_atomic_23, dX8_atomic_24, dX8_atomic_25, dX8_atomic_28, dX8_atomic_31, dX8_atomic_34, dX8_atomic_35, dX8_atomic_38, dX8_atomic_39, tg_4_18, fl_X8_38, ft_9_4, fl_X8_31, ft_9_3, tg_19_5, jx_km1, tg_31_7, jx_k1, tg_35_4, jx_k0, jx_wq, jx_stq, jx_ite, jx_b0, jx_bn0, jx_u_eq, jx_u_na, jx_u_ni, jx_nb0, jx_nb1, jx_ni, jx_E, eq_self, jx_a0, jx_a1, ne_eq, not_false_eq_true, Nat.reduceLeDiff, Nat.reduceEqDiff, Nat.reduceLT, jx_subl, jx_al, jx_la, jx_nm, jx_ml, nI_add, jx_xn, jx_xl, jx_inn, jx_inl, jx_ltnn, jx_lenn, jx_eqnn, jx_ltnl, jx_lenl, jx_ltln, jx_leln, jx_eqnl, Int32.reduceAdd, Int32.reduceSub, Int32.reduceMul, Int32.reduceLT, Int32.reduceLE, jx_eqll, jx_ltll, Nat.reduceMul, Nat.reduceSub, forall_const, implies_true, false_implies, not_true_eq_false, true_implies, jx_tko, jx_ofn, jx_tka, jx_pro, jx_pra, and_self, Nat.not_lt_zero, jx_nbb]
  refine jx_cS1 dX8_atomic_1 li_X8_58 (cl_isRegister) (Nat.le_of_ble_eq_true rfl) (Nat.le_of_ble_eq_true rfl) ?_
  rintro _ _ ⟨rfl, rfl⟩ - -
  simp only [Option.toList_some, Option.toList_none, List.cons_append, List.nil_append]
  refine jx_gq flok_X8 (fwok_X8 rfl) 16 8 _ _ _ _ ?_
  simp (disch := omega) only [↓reduceIte, jx_wp, jx_stp, jx_f0, jx_f1, jx_f2, jx_f3, List.getElem?_cons_zero, List.getElem?_cons_succ, List.set_cons_zero, List.set_cons_succ, Nat.reduceAdd, true_and, and_true, if_true, if_false, Bool.false_eq_true, jx_s, Nat.reduceLT, dX8_atomic_0, dX8_atomic_1, dX8_atomic_4, dX8_atomic_7, dX8_atomic_8, dX8_atomic_11, dX8_atomic_12, dX8_atomic_15, dX8_atomic_16, dX8_atomic_19, dX8_atomic_22, dX8_atomic_23, dX8_atomic_24, dX8_atomic_25, dX8_atomic_28, dX8_atomic_31, dX8_atomic_34, dX8_atomic_35, dX8_atomic_38, dX8_atomic_39, tg_4_18, fl_X8_38, ft_9_4, fl_X8_31, ft_9_3, tg_19_5, jx_km1, tg_31_7, jx_k1, tg_35_4, jx_k0, jx_wq, jx_stq, jx_ite, jx_b0, jx_bn0, jx_u_eq, jx_u_na, jx_u_ni, jx_nb0, jx_nb1, jx_ni, jx_E, eq_self, jx_a0, jx_a1, ne_eq, not_false_eq_true, Nat.reduceLeDiff, Nat.reduceEqDiff, Nat.reduceLT, jx_subl, jx_al, jx_la, jx_nm, jx_ml, nI_add, jx_xn, jx_xl, jx_inn, jx_inl, jx_ltnn, jx_lenn, jx_eqnn, jx_ltnl, jx_lenl, jx_ltln, jx_leln, jx_eqnl, Int32.reduceAdd, Int32.reduceSub, Int32.reduceMul, Int32.reduceLT, Int32.reduceLE, jx_eqll, jx_ltll, Nat.reduceMul, Nat.reduceSub, forall_const, implies_true, false_implies, not_true_eq_false, true_implies, jx_tko, jx_ofn, jx_tka, jx_pro, jx_pra, and_self, Nat.not_lt_zero, jx_nbb, e3, g0, g7, g6]
  refine jx_cV2 dX8_atomic_16 li_X8_238 (rs_gather (r := nI p) hR hv) (congrArg Prod.fst n1.1) (Nat.le_of_ble_eq_true rfl) (Nat.le_of_ble_eq_true rfl) ?_
  rintro w M ⟨I2, P2, rfl, hq⟩ - -
  rcases hq with ⟨rfl, q1, q2, q3⟩ | ⟨rfl, q1, ⟨I1, q2⟩, q3⟩
  · simp only [Option.toList_some, List.cons_append, List.nil_append]
    refine jx_gq flok_X8 (fwok_X8 rfl) 99999 4 _ _ _ _ ?_
    simp (disch := omega) only [↓reduceIte, jx_wp, jx_stp, jx_f0, jx_f1, jx_f2, jx_f3, List.getElem?_cons_zero, List.getElem?_cons_succ, List.set_cons_zero, List.set_cons_succ, Nat.reduceAdd, true_and, and_true, if_true, if_false, Bool.false_eq_true, jx_s, Nat.reduceLT, dX8_atomic_0, dX8_atomic_1, dX8_atomic_4, dX8_atomic_7, dX8_atomic_8, dX8_atomic_11, dX8_atomic_12, dX8_atomic_15, dX8_atomic_16, dX8_atomic_19, dX8_atomic_22, dX8_atomic_23, dX8_atomic_24, dX8_atomic_25, dX8_atomic_28, dX8_atomic_31, dX8_atomic_34, dX8_atomic_35, dX8_atomic_38, dX8_atomic_39, tg_4_18, fl_X8_38, ft_9_4, fl_X8_31, ft_9_3, tg_19_5, jx_km1, tg_31_7, jx_k1, tg_35_4, jx_k0, jx_wq, jx_stq, jx_ite, jx_b0, jx_bn0, jx_u_eq, jx_u_na, jx_u_ni, jx_nb0, jx_nb1, jx_ni, jx_E, eq_self, jx_a0, jx_a1, ne_eq, not_false_eq_true, Nat.reduceLeDiff, Nat.reduceEqDiff, Nat.reduceLT, jx_subl, jx_al, jx_la, jx_nm, jx_ml, nI_add, jx_xn, jx_xl, jx_inn, jx_inl, jx_ltnn, jx_lenn, jx_eqnn, jx_ltnl, jx_lenl, jx_ltln, jx_leln, jx_eqnl, Int32.reduceAdd, Int32.reduceSub, Int32.reduceMul, Int32.reduceLT, Int32.reduceLE, jx_eqll, jx_ltll, Nat.reduceMul, Nat.reduceSub, forall_const, implies_true, false_implies, not_true_eq_false, true_implies, jx_tko, jx_ofn, jx_tka, jx_pro, jx_pra, and_self, Nat.not_lt_zero, jx_nbb]
    obtain ⟨a, b, c⟩ := rl_srch hR (fun b j w => q1 b j (by omega)) q2
    exact ⟨-1, n, ms, K, I2, P2, rfl, rfl, a, b, c, ⟨fun w => absurd w q3, fun _ => rfl⟩⟩
  · simp only [Option.toList_some, List.cons_append, List.nil_append]
    obtain ⟨a, b, c⟩ := rl_srch hR (fun b j w => q1 b j (by omega)) q2.2.1
    have g7b := a.1.1.2.2.2.2.2.2.2.1
    have hcb := ctn_b (f := at_p J (nI p)) B
    have hNA := at_pa (J := J) (r := nI p) B
    have hl := at_log (r := nI p) hv
    obtain ⟨MM, mm1, mm2, mm3⟩ := hv.2.2.2.2.1
    have hlg := a.1.2.2.2.2.2.1
    have hb : fs_b K I2 P2 J A (ctf (at_p J (nI p)) B) (ctn (at_p J (nI p)) B) (at_c J (nI p) B) (fun c => cn (at_c J (nI p) B) c (ctn (at_p J (nI p)) B)) := by
      refine ⟨a.1.2.1, by omega, q2.2.2.1, fun i hi => ?_, fun c hc => ⟨q2.2.2.2.2.1 c hc, rfl⟩, fun i hi => ⟨(hl i hi).2.1, q2.2.2.2.2.2 i hi⟩⟩
      obtain ⟨v1, v2, v3⟩ := ctf_v (f := at_p J (nI p)) B i hi
      obtain ⟨l1, l2, l3, l4, l5, l6, l7⟩ := hl i hi
      have w1 := q2.2.2.2.1 _ v3 v1
      rw [v2] at w1
      obtain ⟨u1, u2⟩ := hlg.2.2.2.2.2.2 _ v3
      obtain ⟨k1, k2, k3, k4⟩ := hlg.2.2.2.2.2.1 _ _ (by have := hlg.1; omega) u1
      obtain ⟨o1, o2, o3, o4, o5, o6, o7, o8⟩ := u2
      refine ⟨w1, k1, k2, o1, o4, o5, by rw [o6, l3], by rw [o7, l5], l4, l6, ?_⟩
      obtain ⟨c', fr, tl, b0, b1, b2, b3, b4, b5, b6, b7, b8, b9⟩ := mm3 _ l7
      have e4 : at_tl J (ctf (at_p J (nI p)) B) i = tl := by
        rw [l5, jx_eqnn (by omega) (by have := hlg.1; omega)] at b4
        exact b4
      rw [e4]
      rcases b8 with ⟨q1, q2⟩ | ⟨q1, q2, q3⟩
      · refine ⟨fun w => by omega, fun w => ?_⟩
        exact absurd (show ¬ J 123 (ctf (at_p J (nI p)) B i) = 0 by rw [q1]; decide) w
      · exact ⟨fun _ w => w q1, fun _ => q2⟩
    refine jx_gq flok_X8 (fwok_X8 rfl) 28 5 _ _ _ _ ?_
    simp (disch := omega) only [↓reduceIte, jx_wp, jx_stp, jx_f0, jx_f1, jx_f2, jx_f3, List.getElem?_cons_zero, List.getElem?_cons_succ, List.set_cons_zero, List.set_cons_succ, Nat.reduceAdd, true_and, and_true, if_true, if_false, Bool.false_eq_true, jx_s, Nat.reduceLT, dX8_atomic_0, dX8_atomic_1, dX8_atomic_4, dX8_atomic_7, dX8_atomic_8, dX8_atomic_11, dX8_atomic_12, dX8_atomic_15, dX8_atomic_16, dX8_atomic_19, dX8_atomic_22, dX8_atomic_23, dX8_atomic_24, dX8_atomic_25, dX8_atomic_28, dX8_atomic_31, dX8_atomic_34, dX8_atomic_35, dX8_atomic_38, dX8_atomic_39, tg_4_18, fl_X8_38, ft_9_4, fl_X8_31, ft_9_3, tg_19_5, jx_km1, tg_31_7, jx_k1, tg_35_4, jx_k0, jx_wq, jx_stq, jx_ite, jx_b0, jx_bn0, jx_u_eq, jx_u_na, jx_u_ni, jx_nb0, jx_nb1, jx_ni, jx_E, eq_self, jx_a0, jx_a1, ne_eq, not_false_eq_true, Nat.reduceLeDiff, Nat.reduceEqDiff, Nat.reduceLT, jx_subl, jx_al, jx_la, jx_nm, jx_ml, nI_add, jx_xn, jx_xl, jx_inn, jx_inl, jx_ltnn, jx_lenn, jx_eqnn, jx_ltnl, jx_lenl, jx_ltln, jx_leln, jx_eqnl, Int32.reduceAdd, Int32.reduceSub, Int32.reduceMul, Int32.reduceLT, Int32.reduceLE, jx_eqll, jx_ltll, Nat.reduceMul, Nat.reduceSub, forall_const, implies_true, false_implies, not_true_eq_false, true_implies, jx_tko, jx_ofn, jx_tka, jx_pro, jx_pra, and_self, Nat.not_lt_zero, jx_nbb, g0, g7b]
    refine jx_cV0 dX8_atomic_28 li_X8_242 (rs_find hb (at_rwh hv)) (congrArg Prod.fst a.1.2.1.1) (Nat.le_of_ble_eq_true rfl) (Nat.le_of_ble_eq_true rfl) ?_
    rintro w M ⟨I3, v, rfl, rfl, hY, hI3⟩ - -
    simp only [Option.toList_some, Option.toList_none, List.cons_append, List.nil_append]
    obtain ⟨a2, b2, c2⟩ := rl_srch (I2 := I3) (P2 := P2) a (fun b j w => hI3 b j (by omega)) (fun _ _ _ => rfl)
    have hV : at_V J (nI p) B v := hY
    rcases hY with ⟨hv1, -⟩ | ⟨hv0, -⟩
    · subst hv1
      refine jx_gq flok_X8 (fwok_X8 rfl) 99999 5 _ _ _ _ ?_
      simp (disch := omega) only [↓reduceIte, jx_wp, jx_stp, jx_f0, jx_f1, jx_f2, jx_f3, List.getElem?_cons_zero, List.getElem?_cons_succ, List.set_cons_zero, List.set_cons_succ, Nat.reduceAdd, true_and, and_true, if_true, if_false, Bool.false_eq_true, jx_s, Nat.reduceLT, dX8_atomic_0, dX8_atomic_1, dX8_atomic_4, dX8_atomic_7, dX8_atomic_8, dX8_atomic_11, dX8_atomic_12, dX8_atomic_15, dX8_atomic_16, dX8_atomic_19, dX8_atomic_22, dX8_atomic_23, dX8_atomic_24, dX8_atomic_25, dX8_atomic_28, dX8_atomic_31, dX8_atomic_34, dX8_atomic_35, dX8_atomic_38, dX8_atomic_39, tg_4_18, fl_X8_38, ft_9_4, fl_X8_31, ft_9_3, tg_19_5, jx_km1, tg_31_7, jx_k1, tg_35_4, jx_k0, jx_wq, jx_stq, jx_ite, jx_b0, jx_bn0, jx_u_eq, jx_u_na, jx_u_ni, jx_nb0, jx_nb1, jx_ni, jx_E, eq_self, jx_a0, jx_a1, ne_eq, not_false_eq_true, Nat.reduceLeDiff, Nat.reduceEqDiff, Nat.reduceLT, jx_subl, jx_al, jx_la, jx_nm, jx_ml, nI_add, jx_xn, jx_xl, jx_inn, jx_inl, jx_ltnn, jx_lenn, jx_eqnn, jx_ltnl, jx_lenl, jx_ltln, jx_leln, jx_eqnl, Int32.reduceAdd, Int32.reduceSub, Int32.reduceMul, Int32.reduceLT, Int32.reduceLE, jx_eqll, jx_ltll, Nat.reduceMul, Nat.reduceSub, forall_const, implies_true, false_implies, not_true_eq_false, true_implies, jx_tko, jx_ofn, jx_tka, jx_pro, jx_pra, and_self, Nat.not_lt_zero, jx_nbb]
      exact ⟨1, n, ms, K, I3, P2, rfl, rfl, a2, ag_trans b2 b, c2.trans c, ⟨fun _ => hV, fun w => absurd q3 w⟩⟩
    · subst hv0
      refine jx_gq flok_X8 (fwok_X8 rfl) 99999 5 _ _ _ _ ?_
      simp (disch := omega) only [↓reduceIte, jx_wp, jx_stp, jx_f0, jx_f1, jx_f2, jx_f3, List.getElem?_cons_zero, List.getElem?_cons_succ, List.set_cons_zero, List.set_cons_succ, Nat.reduceAdd, true_and, and_true, if_true, if_false, Bool.false_eq_true, jx_s, Nat.reduceLT, dX8_atomic_0, dX8_atomic_1, dX8_atomic_4, dX8_atomic_7, dX8_atomic_8, dX8_atomic_11, dX8_atomic_12, dX8_atomic_15, dX8_atomic_16, dX8_atomic_19, dX8_atomic_22, dX8_atomic_23, dX8_atomic_24, dX8_atomic_25, dX8_atomic_28, dX8_atomic_31, dX8_atomic_34, dX8_atomic_35, dX8_atomic_38, dX8_atomic_39, tg_4_18, fl_X8_38, ft_9_4, fl_X8_31, ft_9_3, tg_19_5, jx_km1, tg_31_7, jx_k1, tg_35_4, jx_k0, jx_wq, jx_stq, jx_ite, jx_b0, jx_bn0, jx_u_eq, jx_u_na, jx_u_ni, jx_nb0, jx_nb1, jx_ni, jx_E, eq_self, jx_a0, jx_a1, ne_eq, not_false_eq_true, Nat.reduceLeDiff, Nat.reduceEqDiff, Nat.reduceLT, jx_subl, jx_al, jx_la, jx_nm, jx_ml, nI_add, jx_xn, jx_xl, jx_inn, jx_inl, jx_ltnn, jx_lenn, jx_eqnn, jx_ltnl, jx_lenl, jx_ltln, jx_leln, jx_eqnl, Int32.reduceAdd, Int32.reduceSub, Int32.reduceMul, Int32.reduceLT, Int32.reduceLE, jx_eqll, jx_ltll, Nat.reduceMul, Nat.reduceSub, forall_const, implies_true, false_implies, not_true_eq_false, true_implies, jx_tko, jx_ofn, jx_tka, jx_pro, jx_pra, and_self, Nat.not_lt_zero, jx_nbb]
      exact ⟨0, n, ms, K, I3, P2, rfl, rfl, a2, ag_trans b2 b, c2.trans c, ⟨fun _ => hV, fun w => absurd q3 w⟩⟩
