set_option maxHeartbeats 4000000 in
set_option maxRecDepth 100000 in
theorem rl_handC1 {G : jx_G} {n ms : Nat} {K : Nat → Nat × Nat} {I : Nat → Nat → Int32} {P : Nat → Nat → Option Nat} {J : Nat → Nat → Int32} {B : Nat} {A : Nat → Nat} {i x : Nat} (hR : rl0 n ms K I P J B A) (hx : J 98 9 = nI x) (hx1 : x ≤ 16000) (hi : i < x) {k c : Nat} (hk : J 106 i = nI k) (hk10 : 10 ≤ k) (hk99 : k < 100) (hs : J 108 i = nI c) (hc : c < 4) (hst : J 100 (7 + c) = 0) (hnz : ∀ o, o < B → J 128 c = nI o → J 119 o = 2 ∨ J 119 o = 3 → ∀ j, J 134 c = nI j → j < 5 → J 99 (6 * (7 + c) + j) ≠ 0) (hd : J 128 c = -1) : jx_C G yX8_handOver cX8_handOver 5 (some FieldType.boolean) 11 [.inr (some 3), .inl (nI i)] (n, ms, K, I, P) (rl_C 1 (mo_dl J (7 + c) i (x - 1)) B A I 1) := by
  refine jx_C_of (by decide) (Nat.le_of_ble_eq_true rfl) ?_
  simp only [List.map_cons, List.map_nil, List.length_cons, List.length_nil, Nat.reduceAdd, Nat.reduceSub, List.replicate_zero, List.append_nil, List.replicate_succ, List.cons_append, List.nil_append]
  obtain ⟨hN, ⟨L, x', S, z, e, cc, e2, c2, hB, hT⟩, hX, hag⟩ := id hR
  obtain ⟨bg, bj, -, bm3, bb, bn, bm⟩ := id hB
  have exx : x' = x := by
    have w := bj.symm.trans hx
    rw [jx_eqnn (by omega) (by omega)] at w
    exact w
  subst exx
  obtain ⟨bf, bl, bl2, bee, bmi, bms, bdj, b140⟩ := id bg
  obtain ⟨hR1, hj1, hm1⟩ := rl_take hN hB hi
  have g0 := hN.1.1
  have g5 := hN.1.2.2.2.2.2.1
  obtain ⟨t0, t1, t2⟩ := bmi i hi
  have hag1 : ag (bg_tk I x') I := fun a j h1 h2 => by
    unfold bg_tk
    rw [jx_u_na (by omega), jx_u_na (by omega)]
  have h36 : bg_tk I x' 3 6 = I 3 6 := by
    unfold bg_tk
    rw [jx_u_na (by omega), jx_u_na (by omega)]
  obtain ⟨v0, v1, v2, v3, v4, v5, v6, v7, v8, v9, v10, v11, v12⟩ := bm3 i hi
  have hI1 : ∀ b j, b ≠ 7 → bg_tk I x' b j = I b j := fun b j q => by
    unfold bg_tk
    rw [jx_u_na q, jx_u_na q]
  have k0 := t0.1
  refine jx_gq flok_X8 (fwok_X8 rfl) 99999 3 _ _ _ _ ?_
  simp (disch := omega) only [↓reduceIte, jx_wp, jx_stp, jx_f0, jx_f1, jx_f2, jx_f3, List.getElem?_cons_zero, List.getElem?_cons_succ, List.set_cons_zero, List.set_cons_succ, Nat.reduceAdd, true_and, and_true, if_true, if_false, Bool.false_eq_true, jx_s, Nat.reduceLT, dX8_handOver_0, dX8_handOver_1, dX8_handOver_4, dX8_handOver_5, dX8_handOver_8, dX8_handOver_9, dX8_handOver_10, dX8_handOver_13, dX8_handOver_15, dX8_handOver_18, dX8_handOver_19, dX8_handOver_22, dX8_handOver_23, dX8_handOver_26, dX8_handOver_27, dX8_handOver_29, dX8_handOver_31, dX8_handOver_34, dX8_handOver_37, dX8_handOver_38, dX8_handOver_41, dX8_handOver_42, dX8_handOver_43, dX8_handOver_44, dX8_handOver_47, dX8_handOver_48, dX8_handOver_50, dX8_handOver_51, dX8_handOver_54, dX8_handOver_57, dX8_handOver_58, dX8_handOver_61, dX8_handOver_62, dX8_handOver_65, dX8_handOver_66, dX8_handOver_68, dX8_handOver_70, dX8_handOver_73, dX8_handOver_76, dX8_handOver_77, dX8_handOver_80, dX8_handOver_81, dX8_handOver_82, dX8_handOver_83, dX8_handOver_86, dX8_handOver_87, dX8_handOver_89, dX8_handOver_90, dX8_handOver_93, dX8_handOver_94, dX8_handOver_97, dX8_handOver_98, dX8_handOver_99, dX8_handOver_102, dX8_handOver_103, dX8_handOver_104, dX8_handOver_107, dX8_handOver_108, dX8_handOver_111, dX8_handOver_112, dX8_handOver_115, dX8_handOver_116, fl_X8_24, ft_9_2, fl_X8_103, ft_4_3, jx_b10, tg_15_42, fl_X8_17, ft_9_1, fl_X8_111, ft_4_5, fl_X8_150, ft_2_5, tg_34_7, jx_k1, tg_38_4, jx_k0, tg_44_10, tg_54_39, fl_X8_11, ft_9_0, fl_X8_108, ft_4_4, fl_X8_156, ft_7_6, tg_73_7, tg_77_4, tg_83_10, tg_94_13, fl_X8_235, ft_9_6, fw_X8_235, jx_wq, jx_stq, jx_ite, jx_b0, jx_bn0, jx_u_eq, jx_u_na, jx_u_ni, jx_nb0, jx_nb1, jx_ni, jx_E, eq_self, jx_a0, jx_a1, ne_eq, not_false_eq_true, Nat.reduceLeDiff, Nat.reduceEqDiff, Nat.reduceLT, jx_subl, jx_al, jx_la, jx_nm, jx_ml, nI_add, jx_xn, jx_xl, jx_inn, jx_inl, jx_ltnn, jx_lenn, jx_eqnn, jx_ltnl, jx_lenl, jx_ltln, jx_leln, jx_eqnl, Int32.reduceAdd, Int32.reduceSub, Int32.reduceMul, Int32.reduceLT, Int32.reduceLE, jx_eqll, jx_ltll, Nat.reduceMul, Nat.reduceSub, forall_const, implies_true, false_implies, not_true_eq_false, true_implies, jx_tko, jx_ofn, jx_tka, jx_pro, jx_pra, and_self, Nat.not_lt_zero, jx_nbb, fv_9_6, g0, g5]
  refine jx_cV1 dX8_handOver_5 li_X8_139 (bg_take bg hi) (congrArg Prod.fst bf.1) (Nat.le_of_ble_eq_true rfl) (Nat.le_of_ble_eq_true rfl) ?_
  rintro _ _ ⟨rfl, rfl⟩ - -
  simp only [Option.toList_some, Option.toList_none, List.cons_append, List.nil_append]
  generalize ht : L i = t at hR1 hj1 hm1 t0 t1 t2 k0 v0 v1 v2 v3 v4 v5 v6 v7 v8 v9 v10 v11 v12 ⊢
  have e3 : bg_tk I x' t 3 = nI k := by rw [hI1 _ _ (by omega), v0, hk]
  obtain ⟨n0, -⟩ := id hR1.1
  obtain ⟨u0, u1, u2, u3, u4, u5, u6, u7, u8, u9, -⟩ := id n0
  have e4 : bg_tk I x' t 5 = nI c := by rw [hI1 _ _ (by omega), v2, hs]
  have ks := (u9 c hc).2.1
  have ps := (u9 c hc).1
  have est : bg_tk I x' (78 + 5 * c) 5 = J 100 (7 + c) := by rw [hI1 _ _ (by omega)]; exact (hN.2.2.2.2.1 c hc).1.2.1
  have hlt : ¬ (k < 10) := by omega
  refine jx_gq flok_X8 (fwok_X8 rfl) 99999 30 _ _ _ _ ?_
  simp (disch := omega) only [↓reduceIte, jx_wp, jx_stp, jx_f0, jx_f1, jx_f2, jx_f3, List.getElem?_cons_zero, List.getElem?_cons_succ, List.set_cons_zero, List.set_cons_succ, Nat.reduceAdd, true_and, and_true, if_true, if_false, Bool.false_eq_true, jx_s, Nat.reduceLT, dX8_handOver_0, dX8_handOver_1, dX8_handOver_4, dX8_handOver_5, dX8_handOver_8, dX8_handOver_9, dX8_handOver_10, dX8_handOver_13, dX8_handOver_15, dX8_handOver_18, dX8_handOver_19, dX8_handOver_22, dX8_handOver_23, dX8_handOver_26, dX8_handOver_27, dX8_handOver_29, dX8_handOver_31, dX8_handOver_34, dX8_handOver_37, dX8_handOver_38, dX8_handOver_41, dX8_handOver_42, dX8_handOver_43, dX8_handOver_44, dX8_handOver_47, dX8_handOver_48, dX8_handOver_50, dX8_handOver_51, dX8_handOver_54, dX8_handOver_57, dX8_handOver_58, dX8_handOver_61, dX8_handOver_62, dX8_handOver_65, dX8_handOver_66, dX8_handOver_68, dX8_handOver_70, dX8_handOver_73, dX8_handOver_76, dX8_handOver_77, dX8_handOver_80, dX8_handOver_81, dX8_handOver_82, dX8_handOver_83, dX8_handOver_86, dX8_handOver_87, dX8_handOver_89, dX8_handOver_90, dX8_handOver_93, dX8_handOver_94, dX8_handOver_97, dX8_handOver_98, dX8_handOver_99, dX8_handOver_102, dX8_handOver_103, dX8_handOver_104, dX8_handOver_107, dX8_handOver_108, dX8_handOver_111, dX8_handOver_112, dX8_handOver_115, dX8_handOver_116, fl_X8_24, ft_9_2, fl_X8_103, ft_4_3, jx_b10, tg_15_42, fl_X8_17, ft_9_1, fl_X8_111, ft_4_5, fl_X8_150, ft_2_5, tg_34_7, jx_k1, tg_38_4, jx_k0, tg_44_10, tg_54_39, fl_X8_11, ft_9_0, fl_X8_108, ft_4_4, fl_X8_156, ft_7_6, tg_73_7, tg_77_4, tg_83_10, tg_94_13, fl_X8_235, ft_9_6, fw_X8_235, jx_wq, jx_stq, jx_ite, jx_b0, jx_bn0, jx_u_eq, jx_u_na, jx_u_ni, jx_nb0, jx_nb1, jx_ni, jx_E, eq_self, jx_a0, jx_a1, ne_eq, not_false_eq_true, Nat.reduceLeDiff, Nat.reduceEqDiff, Nat.reduceLT, jx_subl, jx_al, jx_la, jx_nm, jx_ml, nI_add, jx_xn, jx_xl, jx_inn, jx_inl, jx_ltnn, jx_lenn, jx_eqnn, jx_ltnl, jx_lenl, jx_ltln, jx_leln, jx_eqnl, Int32.reduceAdd, Int32.reduceSub, Int32.reduceMul, Int32.reduceLT, Int32.reduceLE, jx_eqll, jx_ltll, Nat.reduceMul, Nat.reduceSub, forall_const, implies_true, false_implies, not_true_eq_false, true_implies, jx_tko, jx_ofn, jx_tka, jx_pro, jx_pra, and_self, Nat.not_lt_zero, jx_nbb, fv_9_6, g0, k0, e3, hlt, u0, u2, u4, e4, ps, ks, est, hst]
  have hR2 := rl_J (J2 := jx_u (mo_sh (mo_tk J i) i (x' - 1)) 98 11 (J 98 11 + 1)) hR1 (fun a j _ _ q => jx_u_no q)
  have h98 : ∀ j, j ≠ 11 → j ≠ 9 → mo_dl J (7 + c) i (x' - 1) 98 j = mo_tk J i 98 j := fun j q1 q2 => by rw [mo_dl_o (by omega), jx_u_ni q1, mo_sh_f q2]
  have hj2 : hd_j (bg_tk I x') t (mo_dl J (7 + c) i (x' - 1)) := hd_j_to hj1 (fun j q1 q2 => by rw [h98 j (by omega) (by omega), mo_sh_f (by omega)])
  have hJo : ∀ a j, 98 ≤ a → a < 140 → ¬ (a = 99 ∧ 42 + 6 * c ≤ j ∧ j < 48 + 6 * c) → mo_dl J (7 + c) i (x' - 1) a j = jx_u (mo_sh (mo_tk J i) i (x' - 1)) 98 11 (J 98 11 + 1) a j := fun a j _ _ q => mo_dl_o (by omega)
  have hJm : ∀ r, r < 6 → mo_dl J (7 + c) i (x' - 1) 99 (6 * (7 + c) + r) = if bg_tk I x' (t + 2) r = -1 ∨ jx_u (mo_sh (mo_tk J i) i (x' - 1)) 98 11 (J 98 11 + 1) 99 (6 * (7 + c) + r) = 0 then bg_tk I x' (t + 2) r else jx_u (mo_sh (mo_tk J i) i (x' - 1)) 98 11 (J 98 11 + 1) 99 (6 * (7 + c) + r) := fun r hr => by rw [mo_dl_e hr, hm1 r hr, rl0_tk (by omega)]
  have hnz2 : ∀ o, o < B → jx_u (mo_sh (mo_tk J i) i (x' - 1)) 98 11 (J 98 11 + 1) 128 c = nI o → jx_u (mo_sh (mo_tk J i) i (x' - 1)) 98 11 (J 98 11 + 1) 119 o = 2 ∨ jx_u (mo_sh (mo_tk J i) i (x' - 1)) 98 11 (J 98 11 + 1) 119 o = 3 → ∀ j, jx_u (mo_sh (mo_tk J i) i (x' - 1)) 98 11 (J 98 11 + 1) 134 c = nI j → j < 5 → jx_u (mo_sh (mo_tk J i) i (x' - 1)) 98 11 (J 98 11 + 1) 99 (6 * (7 + c) + j) ≠ 0 := fun o h1 => by
    rw [rl0_tk (by omega), rl0_tk (by omega), rl0_tk (by omega)]
    intro h2 h3 j h4 h5
    rw [rl0_tk (by omega)]
    exact hnz o h1 h2 h3 j h4 h5
  refine jx_cV2 dX8_handOver_51 li_X8_274 (rl_hear0 hR2 hc rfl hj2 hJo hJm hnz2 (by rw [mo_dl_o (by omega), rl0_tk (by omega), hd])) (congrArg Prod.fst g0) (Nat.le_of_ble_eq_true rfl) (Nat.le_of_ble_eq_true rfl) ?_
  rintro _ _ ⟨rfl, m2, ms2, K2, I2, P2, rfl, hR3⟩ - -
  simp only [Option.toList_some, Option.toList_none, List.cons_append, List.nil_append]
  refine jx_gq flok_X8 (fwok_X8 rfl) 93 1 _ _ _ _ ?_
  simp (disch := omega) only [↓reduceIte, jx_wp, jx_stp, jx_f0, jx_f1, jx_f2, jx_f3, List.getElem?_cons_zero, List.getElem?_cons_succ, List.set_cons_zero, List.set_cons_succ, Nat.reduceAdd, true_and, and_true, if_true, if_false, Bool.false_eq_true, jx_s, Nat.reduceLT, dX8_handOver_0, dX8_handOver_1, dX8_handOver_4, dX8_handOver_5, dX8_handOver_8, dX8_handOver_9, dX8_handOver_10, dX8_handOver_13, dX8_handOver_15, dX8_handOver_18, dX8_handOver_19, dX8_handOver_22, dX8_handOver_23, dX8_handOver_26, dX8_handOver_27, dX8_handOver_29, dX8_handOver_31, dX8_handOver_34, dX8_handOver_37, dX8_handOver_38, dX8_handOver_41, dX8_handOver_42, dX8_handOver_43, dX8_handOver_44, dX8_handOver_47, dX8_handOver_48, dX8_handOver_50, dX8_handOver_51, dX8_handOver_54, dX8_handOver_57, dX8_handOver_58, dX8_handOver_61, dX8_handOver_62, dX8_handOver_65, dX8_handOver_66, dX8_handOver_68, dX8_handOver_70, dX8_handOver_73, dX8_handOver_76, dX8_handOver_77, dX8_handOver_80, dX8_handOver_81, dX8_handOver_82, dX8_handOver_83, dX8_handOver_86, dX8_handOver_87, dX8_handOver_89, dX8_handOver_90, dX8_handOver_93, dX8_handOver_94, dX8_handOver_97, dX8_handOver_98, dX8_handOver_99, dX8_handOver_102, dX8_handOver_103, dX8_handOver_104, dX8_handOver_107, dX8_handOver_108, dX8_handOver_111, dX8_handOver_112, dX8_handOver_115, dX8_handOver_116, fl_X8_24, ft_9_2, fl_X8_103, ft_4_3, jx_b10, tg_15_42, fl_X8_17, ft_9_1, fl_X8_111, ft_4_5, fl_X8_150, ft_2_5, tg_34_7, jx_k1, tg_38_4, jx_k0, tg_44_10, tg_54_39, fl_X8_11, ft_9_0, fl_X8_108, ft_4_4, fl_X8_156, ft_7_6, tg_73_7, tg_77_4, tg_83_10, tg_94_13, fl_X8_235, ft_9_6, fw_X8_235, jx_wq, jx_stq, jx_ite, jx_b0, jx_bn0, jx_u_eq, jx_u_na, jx_u_ni, jx_nb0, jx_nb1, jx_ni, jx_E, eq_self, jx_a0, jx_a1, ne_eq, not_false_eq_true, Nat.reduceLeDiff, Nat.reduceEqDiff, Nat.reduceLT, jx_subl, jx_al, jx_la, jx_nm, jx_ml, nI_add, jx_xn, jx_xl, jx_inn, jx_inl, jx_ltnn, jx_lenn, jx_eqnn, jx_ltnl, jx_lenl, jx_ltln, jx_leln, jx_eqnl, Int32.reduceAdd, Int32.reduceSub, Int32.reduceMul, Int32.reduceLT, Int32.reduceLE, jx_eqll, jx_ltll, Nat.reduceMul, Nat.reduceSub, forall_const, implies_true, false_implies, not_true_eq_false, true_implies, jx_tko, jx_ofn, jx_tka, jx_pro, jx_pra, and_self, Nat.not_lt_zero, jx_nbb, fv_9_6]
  refine ho_93 hR3 (fun n2 ms2 K2 I2 P2 h1 h2 h3 => ?_)
  refine ⟨rfl, n2, ms2, K2, I2, P2, rfl, h1, fun a j w1 w2 => (h2 a j w1 w2).trans (hag1 a j w1 w2), ?_⟩
  rw [h3, h36]
set_option maxHeartbeats 4000000 in
set_option maxRecDepth 100000 in
theorem rl_handC2 {G : jx_G} {n ms : Nat} {K : Nat → Nat × Nat} {I : Nat → Nat → Int32} {P : Nat → Nat → Option Nat} {J : Nat → Nat → Int32} {B : Nat} {A : Nat → Nat} {i x : Nat} (hR : rl0 n ms K I P J B A) (hx : J 98 9 = nI x) (hx1 : x ≤ 16000) (hi : i < x) {k c : Nat} (hk : J 106 i = nI k) (hk10 : 10 ≤ k) (hk99 : k < 100) (hs : J 108 i = nI c) (hc : c < 4) (hst : J 100 (7 + c) = 0) (hnz : ∀ o, o < B → J 128 c = nI o → J 119 o = 2 ∨ J 119 o = 3 → ∀ j, J 134 c = nI j → j < 5 → J 99 (6 * (7 + c) + j) ≠ 0) {o q s : Nat} (hkd : ck_h (mo_dl J (7 + c) i (x - 1)) B c o q) (hsv : J 107 i = nI s) (hs7 : s < 7) (hv : J 119 o = 2 → J 109 i = J 129 c → bs (J 112 i) q) (hbad : J 109 i = J 129 c → ¬ J 117 i = 0 → J 119 o = 2) (h9 : J 119 o = 2 → ∃ b, b ≤ 8 ∧ J 127 o = nI b) (hx2 : x + 30 ≤ 15999) : jx_C G yX8_handOver cX8_handOver 5 (some FieldType.boolean) 11 [.inr (some 3), .inl (nI i)] (n, ms, K, I, P) (rl_C 1 (mo_CX (mo_dl J (7 + c) i (x - 1)) c o) B A I 1) := by
  refine jx_C_of (by decide) (Nat.le_of_ble_eq_true rfl) ?_
  simp only [List.map_cons, List.map_nil, List.length_cons, List.length_nil, Nat.reduceAdd, Nat.reduceSub, List.replicate_zero, List.append_nil, List.replicate_succ, List.cons_append, List.nil_append]
  obtain ⟨hN, ⟨L, x', S, z, e, cc, e2, c2, hB, hT⟩, hX, hag⟩ := id hR
  obtain ⟨bg, bj, -, bm3, bb, bn, bm⟩ := id hB
  have exx : x' = x := by
    have w := bj.symm.trans hx
    rw [jx_eqnn (by omega) (by omega)] at w
    exact w
  subst exx
  obtain ⟨bf, bl, bl2, bee, bmi, bms, bdj, b140⟩ := id bg
  obtain ⟨hR1, hj1, hm1⟩ := rl_take hN hB hi
  have g0 := hN.1.1
  have g5 := hN.1.2.2.2.2.2.1
  obtain ⟨t0, t1, t2⟩ := bmi i hi
  have hag1 : ag (bg_tk I x') I := fun a j h1 h2 => by
    unfold bg_tk
    rw [jx_u_na (by omega), jx_u_na (by omega)]
  have h36 : bg_tk I x' 3 6 = I 3 6 := by
    unfold bg_tk
    rw [jx_u_na (by omega), jx_u_na (by omega)]
  obtain ⟨v0, v1, v2, v3, v4, v5, v6, v7, v8, v9, v10, v11, v12⟩ := bm3 i hi
  have hI1 : ∀ b j, b ≠ 7 → bg_tk I x' b j = I b j := fun b j q => by
    unfold bg_tk
    rw [jx_u_na q, jx_u_na q]
  have k0 := t0.1
  refine jx_gq flok_X8 (fwok_X8 rfl) 99999 3 _ _ _ _ ?_
  simp (disch := omega) only [↓reduceIte, jx_wp, jx_stp, jx_f0, jx_f1, jx_f2, jx_f3, List.getElem?_cons_zero, List.getElem?_cons_succ, List.set_cons_zero, List.set_cons_succ, Nat.reduceAdd, true_and, and_true, if_true, if_false, Bool.false_eq_true, jx_s, Nat.reduceLT, dX8_handOver_0, dX8_handOver_1, dX8_handOver_4, dX8_handOver_5, dX8_handOver_8, dX8_handOver_9, dX8_handOver_10, dX8_handOver_13, dX8_handOver_15, dX8_handOver_18, dX8_handOver_19, dX8_handOver_22, dX8_handOver_23, dX8_handOver_26, dX8_handOver_27, dX8_handOver_29, dX8_handOver_31, dX8_handOver_34, dX8_handOver_37, dX8_handOver_38, dX8_handOver_41, dX8_handOver_42, dX8_handOver_43, dX8_handOver_44, dX8_handOver_47, dX8_handOver_48, dX8_handOver_50, dX8_handOver_51, dX8_handOver_54, dX8_handOver_57, dX8_handOver_58, dX8_handOver_61, dX8_handOver_62, dX8_handOver_65, dX8_handOver_66, dX8_handOver_68, dX8_handOver_70, dX8_handOver_73, dX8_handOver_76, dX8_handOver_77, dX8_handOver_80, dX8_handOver_81, dX8_handOver_82, dX8_handOver_83, dX8_handOver_86, dX8_handOver_87, dX8_handOver_89, dX8_handOver_90, dX8_handOver_93, dX8_handOver_94, dX8_handOver_97, dX8_handOver_98, dX8_handOver_99, dX8_handOver_102, dX8_handOver_103, dX8_handOver_104, dX8_handOver_107, dX8_handOver_108, dX8_handOver_111, dX8_handOver_112, dX8_handOver_115, dX8_handOver_116, fl_X8_24, ft_9_2, fl_X8_103, ft_4_3, jx_b10, tg_15_42, fl_X8_17, ft_9_1, fl_X8_111, ft_4_5, fl_X8_150, ft_2_5, tg_34_7, jx_k1, tg_38_4, jx_k0, tg_44_10, tg_54_39, fl_X8_11, ft_9_0, fl_X8_108, ft_4_4, fl_X8_156, ft_7_6, tg_73_7, tg_77_4, tg_83_10, tg_94_13, fl_X8_235, ft_9_6, fw_X8_235, jx_wq, jx_stq, jx_ite, jx_b0, jx_bn0, jx_u_eq, jx_u_na, jx_u_ni, jx_nb0, jx_nb1, jx_ni, jx_E, eq_self, jx_a0, jx_a1, ne_eq, not_false_eq_true, Nat.reduceLeDiff, Nat.reduceEqDiff, Nat.reduceLT, jx_subl, jx_al, jx_la, jx_nm, jx_ml, nI_add, jx_xn, jx_xl, jx_inn, jx_inl, jx_ltnn, jx_lenn, jx_eqnn, jx_ltnl, jx_lenl, jx_ltln, jx_leln, jx_eqnl, Int32.reduceAdd, Int32.reduceSub, Int32.reduceMul, Int32.reduceLT, Int32.reduceLE, jx_eqll, jx_ltll, Nat.reduceMul, Nat.reduceSub, forall_const, implies_true, false_implies, not_true_eq_false, true_implies, jx_tko, jx_ofn, jx_tka, jx_pro, jx_pra, and_self, Nat.not_lt_zero, jx_nbb, fv_9_6, g0, g5]
  refine jx_cV1 dX8_handOver_5 li_X8_139 (bg_take bg hi) (congrArg Prod.fst bf.1) (Nat.le_of_ble_eq_true rfl) (Nat.le_of_ble_eq_true rfl) ?_
  rintro _ _ ⟨rfl, rfl⟩ - -
  simp only [Option.toList_some, Option.toList_none, List.cons_append, List.nil_append]
  generalize ht : L i = t at hR1 hj1 hm1 t0 t1 t2 k0 v0 v1 v2 v3 v4 v5 v6 v7 v8 v9 v10 v11 v12 ⊢
  have e3 : bg_tk I x' t 3 = nI k := by rw [hI1 _ _ (by omega), v0, hk]
  obtain ⟨n0, -⟩ := id hR1.1
  obtain ⟨u0, u1, u2, u3, u4, u5, u6, u7, u8, u9, -⟩ := id n0
  have e4 : bg_tk I x' t 5 = nI c := by rw [hI1 _ _ (by omega), v2, hs]
  have ks := (u9 c hc).2.1
  have ps := (u9 c hc).1
  have est : bg_tk I x' (78 + 5 * c) 5 = J 100 (7 + c) := by rw [hI1 _ _ (by omega)]; exact (hN.2.2.2.2.1 c hc).1.2.1
  have hlt : ¬ (k < 10) := by omega
  refine jx_gq flok_X8 (fwok_X8 rfl) 99999 30 _ _ _ _ ?_
  simp (disch := omega) only [↓reduceIte, jx_wp, jx_stp, jx_f0, jx_f1, jx_f2, jx_f3, List.getElem?_cons_zero, List.getElem?_cons_succ, List.set_cons_zero, List.set_cons_succ, Nat.reduceAdd, true_and, and_true, if_true, if_false, Bool.false_eq_true, jx_s, Nat.reduceLT, dX8_handOver_0, dX8_handOver_1, dX8_handOver_4, dX8_handOver_5, dX8_handOver_8, dX8_handOver_9, dX8_handOver_10, dX8_handOver_13, dX8_handOver_15, dX8_handOver_18, dX8_handOver_19, dX8_handOver_22, dX8_handOver_23, dX8_handOver_26, dX8_handOver_27, dX8_handOver_29, dX8_handOver_31, dX8_handOver_34, dX8_handOver_37, dX8_handOver_38, dX8_handOver_41, dX8_handOver_42, dX8_handOver_43, dX8_handOver_44, dX8_handOver_47, dX8_handOver_48, dX8_handOver_50, dX8_handOver_51, dX8_handOver_54, dX8_handOver_57, dX8_handOver_58, dX8_handOver_61, dX8_handOver_62, dX8_handOver_65, dX8_handOver_66, dX8_handOver_68, dX8_handOver_70, dX8_handOver_73, dX8_handOver_76, dX8_handOver_77, dX8_handOver_80, dX8_handOver_81, dX8_handOver_82, dX8_handOver_83, dX8_handOver_86, dX8_handOver_87, dX8_handOver_89, dX8_handOver_90, dX8_handOver_93, dX8_handOver_94, dX8_handOver_97, dX8_handOver_98, dX8_handOver_99, dX8_handOver_102, dX8_handOver_103, dX8_handOver_104, dX8_handOver_107, dX8_handOver_108, dX8_handOver_111, dX8_handOver_112, dX8_handOver_115, dX8_handOver_116, fl_X8_24, ft_9_2, fl_X8_103, ft_4_3, jx_b10, tg_15_42, fl_X8_17, ft_9_1, fl_X8_111, ft_4_5, fl_X8_150, ft_2_5, tg_34_7, jx_k1, tg_38_4, jx_k0, tg_44_10, tg_54_39, fl_X8_11, ft_9_0, fl_X8_108, ft_4_4, fl_X8_156, ft_7_6, tg_73_7, tg_77_4, tg_83_10, tg_94_13, fl_X8_235, ft_9_6, fw_X8_235, jx_wq, jx_stq, jx_ite, jx_b0, jx_bn0, jx_u_eq, jx_u_na, jx_u_ni, jx_nb0, jx_nb1, jx_ni, jx_E, eq_self, jx_a0, jx_a1, ne_eq, not_false_eq_true, Nat.reduceLeDiff, Nat.reduceEqDiff, Nat.reduceLT, jx_subl, jx_al, jx_la, jx_nm, jx_ml, nI_add, jx_xn, jx_xl, jx_inn, jx_inl, jx_ltnn, jx_lenn, jx_eqnn, jx_ltnl, jx_lenl, jx_ltln, jx_leln, jx_eqnl, Int32.reduceAdd, Int32.reduceSub, Int32.reduceMul, Int32.reduceLT, Int32.reduceLE, jx_eqll, jx_ltll, Nat.reduceMul, Nat.reduceSub, forall_const, implies_true, false_implies, not_true_eq_false, true_implies, jx_tko, jx_ofn, jx_tka, jx_pro, jx_pra, and_self, Nat.not_lt_zero, jx_nbb, fv_9_6, g0, k0, e3, hlt, u0, u2, u4, e4, ps, ks, est, hst]
  have hR2 := rl_J (J2 := jx_u (mo_sh (mo_tk J i) i (x' - 1)) 98 11 (J 98 11 + 1)) hR1 (fun a j _ _ q => jx_u_no q)
  have h98 : ∀ j, j ≠ 11 → j ≠ 9 → mo_dl J (7 + c) i (x' - 1) 98 j = mo_tk J i 98 j := fun j q1 q2 => by rw [mo_dl_o (by omega), jx_u_ni q1, mo_sh_f q2]
  have hj2 : hd_j (bg_tk I x') t (mo_dl J (7 + c) i (x' - 1)) := hd_j_to hj1 (fun j q1 q2 => by rw [h98 j (by omega) (by omega), mo_sh_f (by omega)])
  have hJo : ∀ a j, 98 ≤ a → a < 140 → ¬ (a = 99 ∧ 42 + 6 * c ≤ j ∧ j < 48 + 6 * c) → mo_dl J (7 + c) i (x' - 1) a j = jx_u (mo_sh (mo_tk J i) i (x' - 1)) 98 11 (J 98 11 + 1) a j := fun a j _ _ q => mo_dl_o (by omega)
  have hJm : ∀ r, r < 6 → mo_dl J (7 + c) i (x' - 1) 99 (6 * (7 + c) + r) = if bg_tk I x' (t + 2) r = -1 ∨ jx_u (mo_sh (mo_tk J i) i (x' - 1)) 98 11 (J 98 11 + 1) 99 (6 * (7 + c) + r) = 0 then bg_tk I x' (t + 2) r else jx_u (mo_sh (mo_tk J i) i (x' - 1)) 98 11 (J 98 11 + 1) 99 (6 * (7 + c) + r) := fun r hr => by rw [mo_dl_e hr, hm1 r hr, rl0_tk (by omega)]
  have hnz2 : ∀ o, o < B → jx_u (mo_sh (mo_tk J i) i (x' - 1)) 98 11 (J 98 11 + 1) 128 c = nI o → jx_u (mo_sh (mo_tk J i) i (x' - 1)) 98 11 (J 98 11 + 1) 119 o = 2 ∨ jx_u (mo_sh (mo_tk J i) i (x' - 1)) 98 11 (J 98 11 + 1) 119 o = 3 → ∀ j, jx_u (mo_sh (mo_tk J i) i (x' - 1)) 98 11 (J 98 11 + 1) 134 c = nI j → j < 5 → jx_u (mo_sh (mo_tk J i) i (x' - 1)) 98 11 (J 98 11 + 1) 99 (6 * (7 + c) + j) ≠ 0 := fun o h1 => by
    rw [rl0_tk (by omega), rl0_tk (by omega), rl0_tk (by omega)]
    intro h2 h3 j h4 h5
    rw [rl0_tk (by omega)]
    exact hnz o h1 h2 h3 j h4 h5
  obtain ⟨z0, z1, z2, z3, z4, z5, z6, z7, z8, z9, z10, z11⟩ := id hj2
  have f48 : mo_dl J (7 + c) i (x' - 1) 98 48 = nI s := by rw [← z1, hI1 _ _ (by omega), v1, hsv]
  have f50 : mo_dl J (7 + c) i (x' - 1) 98 50 = J 109 i := by rw [← z3, hI1 _ _ (by omega), v3]
  have f53 : mo_dl J (7 + c) i (x' - 1) 98 53 = J 112 i := by rw [← z6, hI1 _ _ (by omega), v6]
  have f58 : mo_dl J (7 + c) i (x' - 1) 98 58 = J 117 i := by rw [← z11, hI1 _ _ (by omega), v11]
  have f119 : mo_dl J (7 + c) i (x' - 1) 119 o = J 119 o := by rw [mo_dl_o (by omega), rl0_tk (by omega)]
  have f127 : mo_dl J (7 + c) i (x' - 1) 127 o = J 127 o := by rw [mo_dl_o (by omega), rl0_tk (by omega)]
  have f129 : mo_dl J (7 + c) i (x' - 1) 129 c = J 129 c := by rw [mo_dl_o (by omega), rl0_tk (by omega)]
  refine jx_cV2 dX8_handOver_51 li_X8_274 (rl_hear1 hR2 hc rfl hj2 hJo hJm hnz2 hkd f48 hs7 (by rw [f119, f50, f129, f53]; exact hv) (by rw [f50, f129, f58, f119]; exact hbad) (by rw [f119, f127]; exact h9) (x := x' - 1) (by rw [mo_dl_o (by omega), jx_u_ni (by omega), mo_sh_9]) (by omega)) (congrArg Prod.fst g0) (Nat.le_of_ble_eq_true rfl) (Nat.le_of_ble_eq_true rfl) ?_
  rintro _ _ ⟨rfl, m2, ms2, K2, I2, P2, rfl, hR3⟩ - -
  simp only [Option.toList_some, Option.toList_none, List.cons_append, List.nil_append]
  refine jx_gq flok_X8 (fwok_X8 rfl) 93 1 _ _ _ _ ?_
  simp (disch := omega) only [↓reduceIte, jx_wp, jx_stp, jx_f0, jx_f1, jx_f2, jx_f3, List.getElem?_cons_zero, List.getElem?_cons_succ, List.set_cons_zero, List.set_cons_succ, Nat.reduceAdd, true_and, and_true, if_true, if_false, Bool.false_eq_true, jx_s, Nat.reduceLT, dX8_handOver_0, dX8_handOver_1, dX8_handOver_4, dX8_handOver_5, dX8_handOver_8, dX8_handOver_9, dX8_handOver_10, dX8_handOver_13, dX8_handOver_15, dX8_handOver_18, dX8_handOver_19, dX8_handOver_22, dX8_handOver_23, dX8_handOver_26, dX8_handOver_27, dX8_handOver_29, dX8_handOver_31, dX8_handOver_34, dX8_handOver_37, dX8_handOver_38, dX8_handOver_41, dX8_handOver_42, dX8_handOver_43, dX8_handOver_44, dX8_handOver_47, dX8_handOver_48, dX8_handOver_50, dX8_handOver_51, dX8_handOver_54, dX8_handOver_57, dX8_handOver_58, dX8_handOver_61, dX8_handOver_62, dX8_handOver_65, dX8_handOver_66, dX8_handOver_68, dX8_handOver_70, dX8_handOver_73, dX8_handOver_76, dX8_handOver_77, dX8_handOver_80, dX8_handOver_81, dX8_handOver_82, dX8_handOver_83, dX8_handOver_86, dX8_handOver_87, dX8_handOver_89, dX8_handOver_90, dX8_handOver_93, dX8_handOver_94, dX8_handOver_97, dX8_handOver_98, dX8_handOver_99, dX8_handOver_102, dX8_handOver_103, dX8_handOver_104, dX8_handOver_107, dX8_handOver_108, dX8_handOver_111, dX8_handOver_112, dX8_handOver_115, dX8_handOver_116, fl_X8_24, ft_9_2, fl_X8_103, ft_4_3, jx_b10, tg_15_42, fl_X8_17, ft_9_1, fl_X8_111, ft_4_5, fl_X8_150, ft_2_5, tg_34_7, jx_k1, tg_38_4, jx_k0, tg_44_10, tg_54_39, fl_X8_11, ft_9_0, fl_X8_108, ft_4_4, fl_X8_156, ft_7_6, tg_73_7, tg_77_4, tg_83_10, tg_94_13, fl_X8_235, ft_9_6, fw_X8_235, jx_wq, jx_stq, jx_ite, jx_b0, jx_bn0, jx_u_eq, jx_u_na, jx_u_ni, jx_nb0, jx_nb1, jx_ni, jx_E, eq_self, jx_a0, jx_a1, ne_eq, not_false_eq_true, Nat.reduceLeDiff, Nat.reduceEqDiff, Nat.reduceLT, jx_subl, jx_al, jx_la, jx_nm, jx_ml, nI_add, jx_xn, jx_xl, jx_inn, jx_inl, jx_ltnn, jx_lenn, jx_eqnn, jx_ltnl, jx_lenl, jx_ltln, jx_leln, jx_eqnl, Int32.reduceAdd, Int32.reduceSub, Int32.reduceMul, Int32.reduceLT, Int32.reduceLE, jx_eqll, jx_ltll, Nat.reduceMul, Nat.reduceSub, forall_const, implies_true, false_implies, not_true_eq_false, true_implies, jx_tko, jx_ofn, jx_tka, jx_pro, jx_pra, and_self, Nat.not_lt_zero, jx_nbb, fv_9_6]
  refine ho_93 hR3 (fun n2 ms2 K2 I2 P2 h1 h2 h3 => ?_)
  refine ⟨rfl, n2, ms2, K2, I2, P2, rfl, h1, fun a j w1 w2 => (h2 a j w1 w2).trans (hag1 a j w1 w2), ?_⟩
  rw [h3, h36]
