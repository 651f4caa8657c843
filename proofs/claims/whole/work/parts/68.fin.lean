theorem sh_one (x : Int32) : x &&& 1 = 0 ∨ x &&& 1 = 1 := by
  have h : (x &&& 1).toBitVec.toNat = x.toBitVec.toNat % 2 := by
    show (x.toBitVec &&& 1#32).toNat = _
    rw [BitVec.toNat_and]
    exact Nat.and_one_is_mod _
  rcases Nat.mod_two_eq_zero_or_one x.toBitVec.toNat with e | e
  · left
    apply Int32.toBitVec_inj.1
    apply BitVec.eq_of_toNat_eq
    rw [h, e]
    rfl
  · right
    apply Int32.toBitVec_inj.1
    apply BitVec.eq_of_toNat_eq
    rw [h, e]
    rfl
theorem jb_n1 {J : Nat → Nat → Int32} {c s : Nat} {y : Int32} : jb_F J (mo_n1 J c y s) := by
  unfold mo_n1
  split
  · exact mo_ly_F
  · exact jb_F.refl
theorem jb_nk {J : Nat → Nat → Int32} {c : Nat} {y : Int32} : ∀ k, jb_F J (mo_nk J c y k)
  | 0 => jb_F.refl
  | k + 1 => (jb_nk k).trans jb_n1
theorem rl_nk_hi {J : Nat → Nat → Int32} {c q : Nat} {y : Int32} (hz : ∀ s, q ≤ s → s < 7 → y >>> (nI s &&& 31) &&& 1 = 0) : ∀ k, q + k ≤ 7 → mo_nk J c y (q + k) = mo_nk J c y q
  | 0, _ => rfl
  | k + 1, h => by
    show mo_n1 (mo_nk J c y (q + k)) c y (q + k) = _
    unfold mo_n1
    rw [if_neg (by rw [hz (q + k) (by omega) (by omega)]; decide)]
    exact rl_nk_hi hz k (by omega)
theorem rl_nk_many {J : Nat → Nat → Int32} {c x : Nat} {y : Int32} (hx : J 98 9 = nI x) (hb : x < 20000) : ∀ k, k ≤ 7 → ∃ x2, x ≤ x2 ∧ x2 ≤ x + k ∧ mo_nk J c y k 98 9 = nI x2
  | 0, _ => ⟨x, by omega, by omega, hx⟩
  | k + 1, h => by
    obtain ⟨x2, h1, h2, h3⟩ := rl_nk_many (c := c) (y := y) hx hb k (by omega)
    show ∃ x2, _ ∧ _ ∧ mo_n1 (mo_nk J c y k) c y k 98 9 = _
    unfold mo_n1
    split
    · refine ⟨x2 + 1, by omega, by omega, ?_⟩
      rw [mo_ly_many, h3, jx_xn (by omega)]
    · exact ⟨x2, by omega, by omega, h3⟩
set_option maxHeartbeats 4000000 in
set_option maxRecDepth 100000 in
theorem nw_st {G : jx_G} {n ms : Nat} {K : Nat → Nat × Nat} {I : Nat → Nat → Int32} {P : Nat → Nat → Option Nat} {J : Nat → Nat → Int32} {B h : Nat} {A : Nat → Nat} {T : Nat → Prop} {X : Nat → Nat → Int32} {Q : Option jx_V → jx_M → Prop} {c s q : Nat} {y : Int32} (hR : rl n ms K I P J B A h T X) (hc : c < 4) (hq : J 98 1 = nI q) (hq7 : q ≤ 7) (hsq : s < q) (hx : ∀ x, J 98 9 = nI x → x ≤ 16000 → x + h + 1 ≤ 15999) (kk : ∀ n2 ms2 K2 I2 P2, rl n2 ms2 K2 I2 P2 (mo_n1 J c y s) B A h T X → jx_J G yX8_sendNews cX8_sendNews 4 none 8 (Q) 2 [some (.inr (some 3)), some (.inr (some (78 + 5 * c))), some (.inl y), some (.inl (nI (s + 1)))] [] (n2, ms2, K2, I2, P2)) : jx_J G yX8_sendNews cX8_sendNews 4 none 8 (Q) 2 [some (.inr (some 3)), some (.inr (some (78 + 5 * c))), some (.inl y), some (.inl (nI s))] [] (n, ms, K, I, P) := by
  obtain ⟨hN, ⟨L, x, S, z, e, cc, e2, c2, hB, hT⟩, hX, hag⟩ := id hR
  obtain ⟨n0, n1, n2, n3, n4, n5, n6⟩ := id hN
  obtain ⟨g0, g1, g2, g3, g4, g5, g6, g7, g8, g9, g10⟩ := id n0
  have hC := (g9 c hc).2
  obtain ⟨c0, c1, c2', c3, c4, d1, d2, d3, d4⟩ := id hC
  obtain ⟨hcs, hct⟩ := n4 c hc
  obtain ⟨s0, s1, s2, s3⟩ := id hcs
  have hB' := hB
  obtain ⟨bg, bj, -, -, bb, bn, bm⟩ := hB'
  obtain ⟨bf, bl, bl2, bee, bmi, bms, bdj, b140⟩ := id bg
  have hx9 := hx x bj (by omega)
  have cb1 := bl.2.2.2.2.1
  have cb2 := bl2.2.2.2.2.1
  have hqs : ¬ q ≤ s := by omega
  have n65 : I 3 5 = nI q := n6.trans hq
  have e31 : (jx_x (J 98 9)) = x := by rw [bj]; exact jx_xn (by omega)
  refine jx_gq flok_X8 (fwok_X8 rfl) 2 7 _ _ _ _ ?_
  simp (disch := omega) only [↓reduceIte, jx_wp, jx_stp, jx_f0, jx_f1, jx_f2, jx_f3, List.getElem?_cons_zero, List.getElem?_cons_succ, List.set_cons_zero, List.set_cons_succ, Nat.reduceAdd, true_and, and_true, if_true, if_false, Bool.false_eq_true, jx_s, Nat.reduceLT, dX8_sendNews_0, dX8_sendNews_1, dX8_sendNews_2, dX8_sendNews_3, dX8_sendNews_4, dX8_sendNews_7, dX8_sendNews_10, dX8_sendNews_11, dX8_sendNews_12, dX8_sendNews_15, dX8_sendNews_18, dX8_sendNews_19, dX8_sendNews_22, dX8_sendNews_24, dX8_sendNews_25, dX8_sendNews_26, dX8_sendNews_29, dX8_sendNews_30, dX8_sendNews_33, dX8_sendNews_36, dX8_sendNews_37, dX8_sendNews_40, dX8_sendNews_43, jx_k0, fl_X8_65, ft_9_5, tg_7_36, tg_15_22, fl_X8_24, ft_9_2, jx_b6, fl_X8_259, ft_2_0, fl_X8_69, ft_2_1, jx_k1, tg_40_m38, jx_wq, jx_stq, jx_ite, jx_b0, jx_bn0, jx_u_eq, jx_u_na, jx_u_ni, jx_nb0, jx_nb1, jx_ni, jx_E, eq_self, jx_a0, jx_a1, ne_eq, not_false_eq_true, Nat.reduceLeDiff, Nat.reduceEqDiff, Nat.reduceLT, jx_subl, jx_al, jx_la, jx_nm, jx_ml, nI_add, jx_xn, jx_xl, jx_inn, jx_inl, jx_ltnn, jx_lenn, jx_eqnn, jx_ltnl, jx_lenl, jx_ltln, jx_leln, jx_eqnl, Int32.reduceAdd, Int32.reduceSub, Int32.reduceMul, Int32.reduceLT, Int32.reduceLE, jx_eqll, jx_ltll, Nat.reduceMul, Nat.reduceSub, forall_const, implies_true, false_implies, not_true_eq_false, true_implies, jx_tko, jx_ofn, jx_tka, jx_pro, jx_pra, and_self, Nat.not_lt_zero, jx_nbb, g0, n65, hqs]
  refine jx_cS2 dX8_sendNews_12 li_X8_334 (cl_isIn) (Nat.le_of_ble_eq_true rfl) (Nat.le_of_ble_eq_true rfl) ?_
  rintro _ _ ⟨rfl, rfl⟩ - -
  simp only [Option.toList_some, Option.toList_none, List.cons_append, List.nil_append]
  by_cases hbit : y >>> (nI s &&& 31) &&& 1 = 0
  · refine jx_gq flok_X8 (fwok_X8 rfl) 2 4 _ _ _ _ ?_
    simp (disch := omega) only [↓reduceIte, jx_wp, jx_stp, jx_f0, jx_f1, jx_f2, jx_f3, List.getElem?_cons_zero, List.getElem?_cons_succ, List.set_cons_zero, List.set_cons_succ, Nat.reduceAdd, true_and, and_true, if_true, if_false, Bool.false_eq_true, jx_s, Nat.reduceLT, dX8_sendNews_0, dX8_sendNews_1, dX8_sendNews_2, dX8_sendNews_3, dX8_sendNews_4, dX8_sendNews_7, dX8_sendNews_10, dX8_sendNews_11, dX8_sendNews_12, dX8_sendNews_15, dX8_sendNews_18, dX8_sendNews_19, dX8_sendNews_22, dX8_sendNews_24, dX8_sendNews_25, dX8_sendNews_26, dX8_sendNews_29, dX8_sendNews_30, dX8_sendNews_33, dX8_sendNews_36, dX8_sendNews_37, dX8_sendNews_40, dX8_sendNews_43, jx_k0, fl_X8_65, ft_9_5, tg_7_36, tg_15_22, fl_X8_24, ft_9_2, jx_b6, fl_X8_259, ft_2_0, fl_X8_69, ft_2_1, jx_k1, tg_40_m38, jx_wq, jx_stq, jx_ite, jx_b0, jx_bn0, jx_u_eq, jx_u_na, jx_u_ni, jx_nb0, jx_nb1, jx_ni, jx_E, eq_self, jx_a0, jx_a1, ne_eq, not_false_eq_true, Nat.reduceLeDiff, Nat.reduceEqDiff, Nat.reduceLT, jx_subl, jx_al, jx_la, jx_nm, jx_ml, nI_add, jx_xn, jx_xl, jx_inn, jx_inl, jx_ltnn, jx_lenn, jx_eqnn, jx_ltnl, jx_lenl, jx_ltln, jx_leln, jx_eqnl, Int32.reduceAdd, Int32.reduceSub, Int32.reduceMul, Int32.reduceLT, Int32.reduceLE, jx_eqll, jx_ltll, Nat.reduceMul, Nat.reduceSub, forall_const, implies_true, false_implies, not_true_eq_false, true_implies, jx_tko, jx_ofn, jx_tka, jx_pro, jx_pra, and_self, Nat.not_lt_zero, jx_nbb, hbit]
    refine kk n ms K I P ?_
    unfold mo_n1
    rw [if_neg (by rw [hbit]; decide)]
    exact hR
  · have hb1 := (sh_one _).resolve_left hbit
    refine jx_gq flok_X8 (fwok_X8 rfl) 2 10 _ _ _ _ ?_
    simp (disch := omega) only [↓reduceIte, jx_wp, jx_stp, jx_f0, jx_f1, jx_f2, jx_f3, List.getElem?_cons_zero, List.getElem?_cons_succ, List.set_cons_zero, List.set_cons_succ, Nat.reduceAdd, true_and, and_true, if_true, if_false, Bool.false_eq_true, jx_s, Nat.reduceLT, dX8_sendNews_0, dX8_sendNews_1, dX8_sendNews_2, dX8_sendNews_3, dX8_sendNews_4, dX8_sendNews_7, dX8_sendNews_10, dX8_sendNews_11, dX8_sendNews_12, dX8_sendNews_15, dX8_sendNews_18, dX8_sendNews_19, dX8_sendNews_22, dX8_sendNews_24, dX8_sendNews_25, dX8_sendNews_26, dX8_sendNews_29, dX8_sendNews_30, dX8_sendNews_33, dX8_sendNews_36, dX8_sendNews_37, dX8_sendNews_40, dX8_sendNews_43, jx_k0, fl_X8_65, ft_9_5, tg_7_36, tg_15_22, fl_X8_24, ft_9_2, jx_b6, fl_X8_259, ft_2_0, fl_X8_69, ft_2_1, jx_k1, tg_40_m38, jx_wq, jx_stq, jx_ite, jx_b0, jx_bn0, jx_u_eq, jx_u_na, jx_u_ni, jx_nb0, jx_nb1, jx_ni, jx_E, eq_self, jx_a0, jx_a1, ne_eq, not_false_eq_true, Nat.reduceLeDiff, Nat.reduceEqDiff, Nat.reduceLT, jx_subl, jx_al, jx_la, jx_nm, jx_ml, nI_add, jx_xn, jx_xl, jx_inn, jx_inl, jx_ltnn, jx_lenn, jx_eqnn, jx_ltnl, jx_lenl, jx_ltln, jx_leln, jx_eqnl, Int32.reduceAdd, Int32.reduceSub, Int32.reduceMul, Int32.reduceLT, Int32.reduceLE, jx_eqll, jx_ltll, Nat.reduceMul, Nat.reduceSub, forall_const, implies_true, false_implies, not_true_eq_false, true_implies, jx_tko, jx_ofn, jx_tka, jx_pro, jx_pra, and_self, Nat.not_lt_zero, jx_nbb, hbit, g0, g5, c0, d1, s0]
    refine jx_cV4 dX8_sendNews_33 li_X8_286 (bg_post c1 d4 c2' (by omega) (by omega) (by omega) bg (by omega) (by omega) (by omega)) (congrArg Prod.fst bf.1) (Nat.le_of_ble_eq_true rfl) (Nat.le_of_ble_eq_true rfl) ?_
    rintro _ _ ⟨p, z2, m2, ms2, K2, I2, P2, e3, c3', rfl, rfl, hK2, hz, hcon, h6, hKK, hII, hPP, -, hn, hm⟩ hnn -
    simp only [Option.toList_some, Option.toList_none, List.cons_append, List.nil_append]
    have hnn : n ≤ m2 := hnn
    obtain ⟨t3, t4, t5, t6, t7, t8, tz, tm⟩ := hcon
    refine jx_gq flok_X8 (fwok_X8 rfl) 2 4 _ _ _ _ ?_
    simp (disch := omega) only [↓reduceIte, jx_wp, jx_stp, jx_f0, jx_f1, jx_f2, jx_f3, List.getElem?_cons_zero, List.getElem?_cons_succ, List.set_cons_zero, List.set_cons_succ, Nat.reduceAdd, true_and, and_true, if_true, if_false, Bool.false_eq_true, jx_s, Nat.reduceLT, dX8_sendNews_0, dX8_sendNews_1, dX8_sendNews_2, dX8_sendNews_3, dX8_sendNews_4, dX8_sendNews_7, dX8_sendNews_10, dX8_sendNews_11, dX8_sendNews_12, dX8_sendNews_15, dX8_sendNews_18, dX8_sendNews_19, dX8_sendNews_22, dX8_sendNews_24, dX8_sendNews_25, dX8_sendNews_26, dX8_sendNews_29, dX8_sendNews_30, dX8_sendNews_33, dX8_sendNews_36, dX8_sendNews_37, dX8_sendNews_40, dX8_sendNews_43, jx_k0, fl_X8_65, ft_9_5, tg_7_36, tg_15_22, fl_X8_24, ft_9_2, jx_b6, fl_X8_259, ft_2_0, fl_X8_69, ft_2_1, jx_k1, tg_40_m38, jx_wq, jx_stq, jx_ite, jx_b0, jx_bn0, jx_u_eq, jx_u_na, jx_u_ni, jx_nb0, jx_nb1, jx_ni, jx_E, eq_self, jx_a0, jx_a1, ne_eq, not_false_eq_true, Nat.reduceLeDiff, Nat.reduceEqDiff, Nat.reduceLT, jx_subl, jx_al, jx_la, jx_nm, jx_ml, nI_add, jx_xn, jx_xl, jx_inn, jx_inl, jx_ltnn, jx_lenn, jx_eqnn, jx_ltnl, jx_lenl, jx_ltln, jx_leln, jx_eqnl, Int32.reduceAdd, Int32.reduceSub, Int32.reduceMul, Int32.reduceLT, Int32.reduceLE, jx_eqll, jx_ltll, Nat.reduceMul, Nat.reduceSub, forall_const, implies_true, false_implies, not_true_eq_false, true_implies, jx_tko, jx_ofn, jx_tka, jx_pro, jx_pra, and_self, Nat.not_lt_zero, jx_nbb]
    refine kk _ _ _ _ _ ?_
    have hj : mo_n1 J c y s = mo_ly J x 6 (nI s) (nI c) 0 0 (7 + c) := by
      unfold mo_n1
      rw [if_pos hb1, e31]
    rw [hj]
    exact rl_put hN hB hT hX hag (by omega) hK2 hz h6 hKK hII hPP hn hm (fun b j hb => rfl) (mgs_ly t3 t4 t5 t6 t7 t8 tz (fun j hj => by rw [tm j hj, s3 j hj])) mo_ly_many mo_ly_ev (fun a i h1 h2 h3 => mo_ly_lt h1 h2 h3) (fun i hi => mo_ly_m hi) mo_ly_F hnn
set_option maxHeartbeats 4000000 in
set_option maxRecDepth 100000 in
theorem nw_loop {G : jx_G} {J : Nat → Nat → Int32} {B h : Nat} {A : Nat → Nat} {T : Nat → Prop} {X : Nat → Nat → Int32} {Q : Option jx_V → jx_M → Prop} {c q x : Nat} {y : Int32} (hc : c < 4) (hq : J 98 1 = nI q) (hq7 : q ≤ 7) (hz : ∀ s, q ≤ s → s < 7 → y >>> (nI s &&& 31) &&& 1 = 0) (hx : J 98 9 = nI x) (hx2 : x + h + 9 ≤ 15999) (kk : ∀ n ms K I P, rl n ms K I P (mo_nk J c y 7) B A h T X → Q none (n, ms, K, I, P)) : ∀ f s, s + f = q → ∀ n ms K I P, rl n ms K I P (mo_nk J c y s) B A h T X → jx_J G yX8_sendNews cX8_sendNews 4 none 8 (Q) 2 [some (.inr (some 3)), some (.inr (some (78 + 5 * c))), some (.inl y), some (.inl (nI s))] [] (n, ms, K, I, P) := by
  intro f
  induction f with
  | zero =>
    intro s hs n ms K I P hR
    have e0 : s = q := by omega
    subst e0
    have g0 := hR.1.1.1
    have n65 : I 3 5 = nI s := by rw [hR.1.2.2.2.2.2.2, jb_nk s 98 1 (by omega) (by omega) (by omega) (by omega), hq]
    have e7 : mo_nk J c y 7 = mo_nk J c y s := by
      have := rl_nk_hi (J := J) (c := c) (y := y) hz (7 - s) (by omega)
      rw [show s + (7 - s) = 7 by omega] at this
      exact this
    refine jx_gq flok_X8 (fwok_X8 rfl) 99999 6 _ _ _ _ ?_
    simp (disch := omega) only [↓reduceIte, jx_wp, jx_stp, jx_f0, jx_f1, jx_f2, jx_f3, List.getElem?_cons_zero, List.getElem?_cons_succ, List.set_cons_zero, List.set_cons_succ, Nat.reduceAdd, true_and, and_true, if_true, if_false, Bool.false_eq_true, jx_s, Nat.reduceLT, dX8_sendNews_0, dX8_sendNews_1, dX8_sendNews_2, dX8_sendNews_3, dX8_sendNews_4, dX8_sendNews_7, dX8_sendNews_10, dX8_sendNews_11, dX8_sendNews_12, dX8_sendNews_15, dX8_sendNews_18, dX8_sendNews_19, dX8_sendNews_22, dX8_sendNews_24, dX8_sendNews_25, dX8_sendNews_26, dX8_sendNews_29, dX8_sendNews_30, dX8_sendNews_33, dX8_sendNews_36, dX8_sendNews_37, dX8_sendNews_40, dX8_sendNews_43, jx_k0, fl_X8_65, ft_9_5, tg_7_36, tg_15_22, fl_X8_24, ft_9_2, jx_b6, fl_X8_259, ft_2_0, fl_X8_69, ft_2_1, jx_k1, tg_40_m38, jx_wq, jx_stq, jx_ite, jx_b0, jx_bn0, jx_u_eq, jx_u_na, jx_u_ni, jx_nb0, jx_nb1, jx_ni, jx_E, eq_self, jx_a0, jx_a1, ne_eq, not_false_eq_true, Nat.reduceLeDiff, Nat.reduceEqDiff, Nat.reduceLT, jx_subl, jx_al, jx_la, jx_nm, jx_ml, nI_add, jx_xn, jx_xl, jx_inn, jx_inl, jx_ltnn, jx_lenn, jx_eqnn, jx_ltnl, jx_lenl, jx_ltln, jx_leln, jx_eqnl, Int32.reduceAdd, Int32.reduceSub, Int32.reduceMul, Int32.reduceLT, Int32.reduceLE, jx_eqll, jx_ltll, Nat.reduceMul, Nat.reduceSub, forall_const, implies_true, false_implies, not_true_eq_false, true_implies, jx_tko, jx_ofn, jx_tka, jx_pro, jx_pra, and_self, Nat.not_lt_zero, jx_nbb, g0, n65, Nat.le_refl]
    refine kk _ _ _ _ _ ?_
    rw [e7]
    exact hR
  | succ f ih =>
    intro s hs n ms K I P hR
    obtain ⟨x2, x3, x4, x5⟩ := rl_nk_many (c := c) (y := y) hx (by omega) s (by omega)
    have hx3 : ∀ z, mo_nk J c y s 98 9 = nI z → z ≤ 16000 → z + h + 1 ≤ 15999 := fun z h1 h2 => by
      have q := x5.symm.trans h1
      rw [jx_eqnn (by omega) (by omega)] at q
      omega
    exact nw_st hR hc (by rw [jb_nk s 98 1 (by omega) (by omega) (by omega) (by omega), hq]) hq7 (by omega) hx3 (fun n2 ms2 K2 I2 P2 hr => ih (s + 1) (by omega) n2 ms2 K2 I2 P2 hr)
set_option maxHeartbeats 4000000 in
set_option maxRecDepth 100000 in
theorem rl_news {G : jx_G} {n ms : Nat} {K : Nat → Nat × Nat} {I : Nat → Nat → Int32} {P : Nat → Nat → Option Nat} {J : Nat → Nat → Int32} {B h : Nat} {A : Nat → Nat} {T : Nat → Prop} {X : Nat → Nat → Int32} {c q x : Nat} {y : Int32} (hR : rl n ms K I P J B A h T X) (hc : c < 4) (hq : J 98 1 = nI q) (hq7 : q ≤ 7) (hx : J 98 9 = nI x) (hx2 : x + h + 9 ≤ 15999) (hz : ∀ s, q ≤ s → s < 7 → y >>> (nI s &&& 31) &&& 1 = 0) : jx_C G yX8_sendNews cX8_sendNews 4 none 8 [.inr (some 3), .inr (some (78 + 5 * c)), .inl y] (n, ms, K, I, P) (rl_Q none (mo_nk J c y 7) B A h T X) := by
  refine jx_C_of (by decide) (Nat.le_of_ble_eq_true rfl) ?_
  simp only [List.map_cons, List.map_nil, List.length_cons, List.length_nil, Nat.reduceAdd, Nat.reduceSub, List.replicate_zero, List.append_nil, List.replicate_succ, List.cons_append, List.nil_append]
  refine jx_gq flok_X8 (fwok_X8 rfl) 2 2 _ _ _ _ ?_
  simp (disch := omega) only [↓reduceIte, jx_wp, jx_stp, jx_f0, jx_f1, jx_f2, jx_f3, List.getElem?_cons_zero, List.getElem?_cons_succ, List.set_cons_zero, List.set_cons_succ, Nat.reduceAdd, true_and, and_true, if_true, if_false, Bool.false_eq_true, jx_s, Nat.reduceLT, dX8_sendNews_0, dX8_sendNews_1, dX8_sendNews_2, dX8_sendNews_3, dX8_sendNews_4, dX8_sendNews_7, dX8_sendNews_10, dX8_sendNews_11, dX8_sendNews_12, dX8_sendNews_15, dX8_sendNews_18, dX8_sendNews_19, dX8_sendNews_22, dX8_sendNews_24, dX8_sendNews_25, dX8_sendNews_26, dX8_sendNews_29, dX8_sendNews_30, dX8_sendNews_33, dX8_sendNews_36, dX8_sendNews_37, dX8_sendNews_40, dX8_sendNews_43, jx_k0, fl_X8_65, ft_9_5, tg_7_36, tg_15_22, fl_X8_24, ft_9_2, jx_b6, fl_X8_259, ft_2_0, fl_X8_69, ft_2_1, jx_k1, tg_40_m38, jx_wq, jx_stq, jx_ite, jx_b0, jx_bn0, jx_u_eq, jx_u_na, jx_u_ni, jx_nb0, jx_nb1, jx_ni, jx_E, eq_self, jx_a0, jx_a1, ne_eq, not_false_eq_true, Nat.reduceLeDiff, Nat.reduceEqDiff, Nat.reduceLT, jx_subl, jx_al, jx_la, jx_nm, jx_ml, nI_add, jx_xn, jx_xl, jx_inn, jx_inl, jx_ltnn, jx_lenn, jx_eqnn, jx_ltnl, jx_lenl, jx_ltln, jx_leln, jx_eqnl, Int32.reduceAdd, Int32.reduceSub, Int32.reduceMul, Int32.reduceLT, Int32.reduceLE, jx_eqll, jx_ltll, Nat.reduceMul, Nat.reduceSub, forall_const, implies_true, false_implies, not_true_eq_false, true_implies, jx_tko, jx_ofn, jx_tka, jx_pro, jx_pra, and_self, Nat.not_lt_zero, jx_nbb]
  exact nw_loop hc hq hq7 hz hx hx2 (fun n ms K I P hr => ⟨rfl, n, ms, K, I, P, rfl, hr⟩) q 0 (by omega) n ms K I P hR
theorem rl_over {n ms : Nat} {K : Nat → Nat × Nat} {I : Nat → Nat → Int32} {P : Nat → Nat → Option Nat} {J : Nat → Nat → Int32} {B h c o : Nat} {A : Nat → Nat} {T : Nat → Prop} {X : Nat → Nat → Int32} (hR : rl n ms K I P J B A h T X) (hc : c < 4) (ho : o < B) {v : Int32} : rl n ms K (lg_cl I (A o) v) (jx_u P (78 + 5 * c) 4 none) (mo_ov J c o v) B A h T X := by
  obtain ⟨a0, a1, a2, a3, a4, a5, a6⟩ := hR.1
  obtain ⟨b0, b1, b2, b3, b4, b5, b6⟩ := id a5
  obtain ⟨d1, d2, d3, d4⟩ := b5 o _ (by omega) (b6 o ho).1
  have hI : ∀ b j, b ≠ 9 → b ≠ A o → lg_cl I (A o) v b j = I b j := fun b j h1 h2 => by
    unfold lg_cl
    simp (disch := omega) only [jx_u_na]
  have hJ : ∀ a j, (99 ≤ a ∧ a < 123) ∨ a = 125 ∨ a = 127 ∨ (128 < a ∧ a ≠ 132) → mo_ov J c o v a j = J a j := fun a j h1 => by
    unfold mo_ov
    simp (disch := omega) only [jx_u_na]
  have h98 : ∀ j, j ≠ 26 → j ≠ 27 → mo_ov J c o v 98 j = J 98 j := fun j h1 h2 => by
    unfold mo_ov
    simp (disch := omega) only [jx_u_na, jx_u_ni]
  have hinj : ∀ p, p < B → A p = A o → p = o := fun p hp e => by
    have q := (b5 p _ (by omega) (b6 p hp).1).2.2.2
    rw [e, d4, jx_eqnn (by omega) (by omega)] at q
    omega
  refine rl_chg hR ⟨cl_ok_to a0 (fun _ _ _ => rfl) (fun b j h1 h2 h3 h4 h5 h6 h7 => ?_), rs_ok_to a1 (fun _ _ _ => rfl) (fun b j h1 => jx_u_na (by omega)), mo_ok_to a2 (fun _ _ _ => rfl) (fun j => jx_u_na (by omega)), fun s hs => sv_r_to hs (a3 s hs) (fun b j h1 h2 => hI b j (by omega) (by omega)) (fun a j h1 h2 => hJ a j (by omega)), fun d hd => ?_, ⟨b0, ?_, ?_, ?_, ?_, fun p a hp hq => ?_, fun p hp => ⟨?_, ?_⟩⟩, ?_⟩ (fun b j hb => hI b j (by omega) (fun q => ?_)) (fun b j hb => jx_u_na (by omega)) (fun a j h1 h2 => hJ a j (by omega)) (h98 9 (by omega) (by omega)) (h98 10 (by omega) (by omega))
  · by_cases q : b = 78 + 5 * c
    · exact jx_u_ni (by omega)
    · exact jx_u_na q
  · by_cases hdc : d = c
    · subst hdc
      obtain ⟨⟨s0, s1, s2, s3⟩, -⟩ := a4 d hd
      refine ⟨⟨by rw [hI _ _ (by omega) (by omega), s0], by rw [hI _ _ (by omega) (by omega), hJ _ _ (by omega), s1], by rw [hI _ _ (by omega) (by omega), hJ _ _ (by omega), s2], fun k hk => by rw [hI _ _ (by omega) (by omega), hJ _ _ (by omega), s3 k hk]⟩, Or.inl ⟨?_, jx_u_eq _ _ _ _⟩⟩
      unfold mo_ov
      simp (disch := omega) only [jx_u_na, jx_u_eq]
    · refine cn_r_to (a4 d hd) (fun b j h1 h2 => hI b j (by omega) (by omega)) (jx_u_na (by omega)) ⟨fun k hk => hJ _ _ (by omega), hJ _ _ (by omega), fun a h1 h2 => ?_, fun r hr => ⟨hJ _ _ (by omega), hJ _ _ (by omega)⟩, fun o _ => ⟨hJ _ _ (by omega), hJ _ _ (by omega)⟩⟩ (Nat.le_refl _) (fun _ _ => rfl)
      unfold mo_ov
      by_cases q : a = 128
      · subst q
        simp (disch := omega) only [jx_u_na, jx_u_ni]
      · by_cases q2 : a = 132
        · subst q2
          simp (disch := omega) only [jx_u_na, jx_u_ni]
        · simp (disch := omega) only [jx_u_na]
  · rw [h98 25 (by omega) (by omega), b1]
  · rw [show lg_cl I (A o) v 9 1 = I 9 1 by unfold lg_cl; simp (disch := omega) only [jx_u_na, jx_u_ni], b2]
  · unfold lg_cl mo_ov
    simp (disch := omega) only [jx_u_na, jx_u_ni, jx_u_eq]
    rw [b3]
  · unfold lg_cl mo_ov
    simp (disch := omega) only [jx_u_na, jx_u_ni, jx_u_eq]
    rw [b4]
  · rw [jx_u_na (by omega)] at hq
    obtain ⟨e1, e2, e3, e4⟩ := b5 p a hp hq
    refine ⟨e1, e2, e3, ?_⟩
    unfold lg_cl
    rw [jx_u_ni (by omega), jx_u_ni (by omega), jx_u_na (by omega), jx_u_na (by omega), e4]
  · rw [jx_u_na (by omega)]
    exact (b6 p hp).1
  · obtain ⟨c1, c2, c3, c4⟩ := b5 p _ (by omega) (b6 p hp).1
    by_cases hpo : p = o
    · subst hpo
      obtain ⟨r1, r2, r3, r4, r5, r6, r7, r8⟩ := (b6 p hp).2
      unfold op_r
      refine ⟨?_, ?_, ?_, ?_, ?_, ?_, ?_, ?_⟩
      · rw [hJ 119 p (by omega)]
        unfold lg_cl
        simp (disch := omega) only [jx_u_na, jx_u_ni, r1]
      · rw [hJ 120 p (by omega)]
        unfold lg_cl
        simp (disch := omega) only [jx_u_na, jx_u_ni, r2]
      · rw [hJ 121 p (by omega)]
        unfold lg_cl
        simp (disch := omega) only [jx_u_na, jx_u_ni, r3]
      · rw [hJ 122 p (by omega)]
        unfold lg_cl
        simp (disch := omega) only [jx_u_na, jx_u_ni, r4]
      · unfold lg_cl mo_ov
        simp (disch := omega) only [jx_u_na, jx_u_ni, jx_u_eq]
      · rw [hJ 125 p (by omega)]
        unfold lg_cl
        simp (disch := omega) only [jx_u_na, jx_u_ni, r6]
      · unfold lg_cl mo_ov
        simp (disch := omega) only [jx_u_na, jx_u_ni, jx_u_eq, b4]
      · rw [hJ 127 p (by omega)]
        unfold lg_cl
        simp (disch := omega) only [jx_u_na, jx_u_ni, r8]
    · have hne : A p ≠ A o := fun e => hpo (hinj p hp e)
      obtain ⟨r1, r2, r3, r4, r5, r6, r7, r8⟩ := (b6 p hp).2
      have hA : ∀ j, lg_cl I (A o) v (A p) j = I (A p) j := fun j => hI _ j (by omega) hne
      have h124 : mo_ov J c o v 124 p = J 124 p := by
        unfold mo_ov
        simp (disch := omega) only [jx_u_na, jx_u_ni]
      have h126 : mo_ov J c o v 126 p = J 126 p := by
        unfold mo_ov
        simp (disch := omega) only [jx_u_na, jx_u_ni]
      exact ⟨by rw [hA, hJ 119 p (by omega), r1], by rw [hA, hJ 120 p (by omega), r2], by rw [hA, hJ 121 p (by omega), r3], by rw [hA, hJ 122 p (by omega), r4], by rw [hA, h124, r5], by rw [hA, hJ 125 p (by omega), r6], by rw [hA, h126, r7], by rw [hA, hJ 127 p (by omega), r8]⟩
  · rw [hI 3 5 (by omega) (by omega), h98 1 (by omega) (by omega), a6]
  · subst q
    rcases hb with h | h | h | h | ⟨_, _, h⟩
    · omega
    · omega
    · omega
    · omega
    · exact h d1
set_option maxHeartbeats 4000000 in
set_option maxRecDepth 100000 in
theorem rl_finish {G : jx_G} {n ms : Nat} {K : Nat → Nat × Nat} {I : Nat → Nat → Int32} {P : Nat → Nat → Option Nat} {J : Nat → Nat → Int32} {B h : Nat} {A : Nat → Nat} {T : Nat → Prop} {X : Nat → Nat → Int32} {c o : Nat} {v : Int32} (hR : rl n ms K I P J B A h T X) (hc : c < 4) (ho : o < B) : jx_C G yX8_finish cX8_finish 4 none 1 [.inr (some 3), .inr (some (78 + 5 * c)), .inr (some (A o)), .inl v] (n, ms, K, I, P) (rl_Q none (mo_ov J c o v) B A h T X) := by
  refine jx_C_of (by decide) (Nat.le_of_ble_eq_true rfl) ?_
  simp only [List.map_cons, List.map_nil, List.length_cons, List.length_nil, Nat.reduceAdd, Nat.reduceSub, List.replicate_zero, List.append_nil, List.replicate_succ, List.cons_append, List.nil_append]
  have hRo := rl_over (v := v) hR hc ho
  obtain ⟨n0, n1, n2, n3, n4, n5, n6⟩ := hR.1
  obtain ⟨g0, g1, g2, g3, g4, g5, g6, g7, g8, g9, g10⟩ := n0
  have hB60 := n5.1
  obtain ⟨d1, d2, d3, d4⟩ := n5.2.2.2.2.2.1 o _ (by omega) (n5.2.2.2.2.2.2 o ho).1
  have c0 := (g9 c hc).2.1
  refine jx_gq flok_X8 (fwok_X8 rfl) 99999 5 _ _ _ _ ?_
  simp (disch := omega) only [↓reduceIte, jx_wp, jx_stp, jx_f0, jx_f1, jx_f2, jx_f3, List.getElem?_cons_zero, List.getElem?_cons_succ, List.set_cons_zero, List.set_cons_succ, Nat.reduceAdd, true_and, and_true, if_true, if_false, Bool.false_eq_true, jx_s, Nat.reduceLT, dX8_finish_0, dX8_finish_1, dX8_finish_4, dX8_finish_5, dX8_finish_6, dX8_finish_9, dX8_finish_10, dX8_finish_11, dX8_finish_14, fl_X8_31, ft_9_3, fw_X8_173, ft_2_4, jx_wq, jx_stq, jx_ite, jx_b0, jx_bn0, jx_u_eq, jx_u_na, jx_u_ni, jx_nb0, jx_nb1, jx_ni, jx_E, eq_self, jx_a0, jx_a1, ne_eq, not_false_eq_true, Nat.reduceLeDiff, Nat.reduceEqDiff, Nat.reduceLT, jx_subl, jx_al, jx_la, jx_nm, jx_ml, nI_add, jx_xn, jx_xl, jx_inn, jx_inl, jx_ltnn, jx_lenn, jx_eqnn, jx_ltnl, jx_lenl, jx_ltln, jx_leln, jx_eqnl, Int32.reduceAdd, Int32.reduceSub, Int32.reduceMul, Int32.reduceLT, Int32.reduceLE, jx_eqll, jx_ltll, Nat.reduceMul, Nat.reduceSub, forall_const, implies_true, false_implies, not_true_eq_false, true_implies, jx_tko, jx_ofn, jx_tka, jx_pro, jx_pra, and_self, Nat.not_lt_zero, jx_nbb, fv_2_4, g0, g6]
  refine jx_cV2 dX8_finish_6 li_X8_359 (lg_close g10 d1 (by omega)) (congrArg Prod.fst g10.1) (Nat.le_of_ble_eq_true rfl) (Nat.le_of_ble_eq_true rfl) ?_
  rintro _ _ ⟨rfl, rfl⟩ - -
  simp only [Option.toList_some, Option.toList_none, List.cons_append, List.nil_append]
  refine jx_gq flok_X8 (fwok_X8 rfl) 99999 5 _ _ _ _ ?_
  simp (disch := omega) only [↓reduceIte, jx_wp, jx_stp, jx_f0, jx_f1, jx_f2, jx_f3, List.getElem?_cons_zero, List.getElem?_cons_succ, List.set_cons_zero, List.set_cons_succ, Nat.reduceAdd, true_and, and_true, if_true, if_false, Bool.false_eq_true, jx_s, Nat.reduceLT, dX8_finish_0, dX8_finish_1, dX8_finish_4, dX8_finish_5, dX8_finish_6, dX8_finish_9, dX8_finish_10, dX8_finish_11, dX8_finish_14, fl_X8_31, ft_9_3, fw_X8_173, ft_2_4, jx_wq, jx_stq, jx_ite, jx_b0, jx_bn0, jx_u_eq, jx_u_na, jx_u_ni, jx_nb0, jx_nb1, jx_ni, jx_E, eq_self, jx_a0, jx_a1, ne_eq, not_false_eq_true, Nat.reduceLeDiff, Nat.reduceEqDiff, Nat.reduceLT, jx_subl, jx_al, jx_la, jx_nm, jx_ml, nI_add, jx_xn, jx_xl, jx_inn, jx_inl, jx_ltnn, jx_lenn, jx_eqnn, jx_ltnl, jx_lenl, jx_ltln, jx_leln, jx_eqnl, Int32.reduceAdd, Int32.reduceSub, Int32.reduceMul, Int32.reduceLT, Int32.reduceLE, jx_eqll, jx_ltll, Nat.reduceMul, Nat.reduceSub, forall_const, implies_true, false_implies, not_true_eq_false, true_implies, jx_tko, jx_ofn, jx_tka, jx_pro, jx_pra, and_self, Nat.not_lt_zero, jx_nbb, fv_2_4, c0]
  exact ⟨rfl, _, _, _, _, _, rfl, hRo⟩
