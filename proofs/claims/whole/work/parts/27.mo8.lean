def mo_n1 (I : Nat → Nat → Int32) (c : Nat) (x : Int32) (s : Nat) : Nat → Nat → Int32 := if x >>> (nI s &&& 31) &&& 1 = 1 then mo_ly I (jx_x (I 98 9)) 6 (nI s) (nI c) 0 0 (7 + c) else I
theorem mo_ly_many {I : Nat → Nat → Int32} {q w : Nat} {what s c wh k : Int32} : mo_ly I q what s c wh k w 98 9 = nI (q + 1) := by
  unfold mo_ly
  rw [jx_u_ni (by omega), jx_u_eq]
set_option maxHeartbeats 8000000 in
set_option maxRecDepth 100000 in
theorem mo_news_st {G : jx_G} {n ms : Nat} {K : Nat → Nat × Nat} {I : Nat → Nat → Int32} {P : Nat → Nat → Option Nat} (hM : mo_ok K P) {Q : Option jx_V → jx_M → Prop} {c s q : Nat} {a b : Int32} (hc : c < 4) (hs : s < 7) (hq : I 98 9 = nI q) (hq2 : q < 16000) (kk : jx_J G yX9_news cX9_news 5 none 1 (Q) 3 [some (.inr (some 98)), some (.inl (nI c)), some (.inl a), some (.inl b), some (.inl (nI (s + 1)))] [] (n, ms, K, mo_n1 I c (a ||| b) s, P)) : jx_J G yX9_news cX9_news 5 none 1 (Q) 3 [some (.inr (some 98)), some (.inl (nI c)), some (.inl a), some (.inl b), some (.inl (nI s))] [] (n, ms, K, I, P) := by
  have e7 : ¬ 7 ≤ s := by omega
  refine jx_gh flok_X9 (fwok_X9 rfl) 3 22 _ _ _ _ ?_
  simp (disch := omega) only [↓reduceIte, jx_wp, jx_stp, jx_f0, jx_f1, jx_f2, jx_f3, List.getElem?_cons_zero, List.getElem?_cons_succ, List.set_cons_zero, List.set_cons_succ, Nat.reduceAdd, true_and, and_true, if_true, if_false, Bool.false_eq_true, jx_s, Nat.reduceLT, dX9_news_0, dX9_news_1, dX9_news_3, dX9_news_5, dX9_news_7, dX9_news_10, dX9_news_11, dX9_news_12, dX9_news_13, dX9_news_15, dX9_news_16, dX9_news_17, dX9_news_18, dX9_news_19, dX9_news_22, dX9_news_23, dX9_news_25, dX9_news_27, dX9_news_28, dX9_news_29, dX9_news_30, dX9_news_32, dX9_news_33, dX9_news_34, dX9_news_37, dX9_news_38, dX9_news_41, dX9_news_44, jx_k0, jx_b7, tg_7_37, jx_k1, tg_19_19, jx_b6, tg_41_m38, jx_wh, mo_k98 hM, jx_b0, jx_bn0, jx_u_eq, jx_u_na, jx_u_ni, jx_nb0, jx_nb1, jx_ni, jx_E, eq_self, jx_a0, jx_a1, ne_eq, not_false_eq_true, Nat.reduceLeDiff, Nat.reduceEqDiff, Nat.reduceLT, jx_subl, jx_al, jx_la, jx_nm, jx_ml, nI_add, jx_xn, jx_xl, jx_inn, jx_inl, jx_ltnn, jx_lenn, jx_eqnn, jx_ltnl, jx_lenl, jx_ltln, jx_leln, jx_eqnl, Int32.reduceAdd, Int32.reduceSub, Int32.reduceMul, Int32.reduceLT, Int32.reduceLE, jx_eqll, jx_ltll, Nat.reduceMul, Nat.reduceSub, forall_const, implies_true, false_implies, not_true_eq_false, true_implies, mo_b_na, mo_h_na, mo_fb_na, mo_ct_na, mo_ly_na, mo_jn_na, or_self, or_false, false_or, or_true, true_or, and_false, false_and, e7]
  refine ⟨fun h => ?_, fun h => ?_⟩
  · exact jx_J.at kk rfl rfl rfl (by simp [mo_n1, h])
  · refine jx_cV6 dX9_news_34 li_X9_183 (mo_lay hM (q := q) hq2 hq (w := 7 + c) (by omega)) (congrArg Prod.fst (mo_k98 hM)) (Nat.le_of_ble_eq_true rfl) (Nat.le_of_ble_eq_true rfl) ?_
    rintro _ _ ⟨rfl, rfl⟩ - -
    simp only [Option.toList_some, Option.toList_none, List.cons_append, List.nil_append]
    refine jx_gh flok_X9 (fwok_X9 rfl) 3 4 _ _ _ _ ?_
    simp (disch := omega) only [↓reduceIte, jx_wp, jx_stp, jx_f0, jx_f1, jx_f2, jx_f3, List.getElem?_cons_zero, List.getElem?_cons_succ, List.set_cons_zero, List.set_cons_succ, Nat.reduceAdd, true_and, and_true, if_true, if_false, Bool.false_eq_true, jx_s, Nat.reduceLT, dX9_news_0, dX9_news_1, dX9_news_3, dX9_news_5, dX9_news_7, dX9_news_10, dX9_news_11, dX9_news_12, dX9_news_13, dX9_news_15, dX9_news_16, dX9_news_17, dX9_news_18, dX9_news_19, dX9_news_22, dX9_news_23, dX9_news_25, dX9_news_27, dX9_news_28, dX9_news_29, dX9_news_30, dX9_news_32, dX9_news_33, dX9_news_34, dX9_news_37, dX9_news_38, dX9_news_41, dX9_news_44, jx_k0, jx_b7, tg_7_37, jx_k1, tg_19_19, jx_b6, tg_41_m38, jx_wh, mo_k98 hM, jx_b0, jx_bn0, jx_u_eq, jx_u_na, jx_u_ni, jx_nb0, jx_nb1, jx_ni, jx_E, eq_self, jx_a0, jx_a1, ne_eq, not_false_eq_true, Nat.reduceLeDiff, Nat.reduceEqDiff, Nat.reduceLT, jx_subl, jx_al, jx_la, jx_nm, jx_ml, nI_add, jx_xn, jx_xl, jx_inn, jx_inl, jx_ltnn, jx_lenn, jx_eqnn, jx_ltnl, jx_lenl, jx_ltln, jx_leln, jx_eqnl, Int32.reduceAdd, Int32.reduceSub, Int32.reduceMul, Int32.reduceLT, Int32.reduceLE, jx_eqll, jx_ltll, Nat.reduceMul, Nat.reduceSub, forall_const, implies_true, false_implies, not_true_eq_false, true_implies, mo_b_na, mo_h_na, mo_fb_na, mo_ct_na, mo_ly_na, mo_jn_na, or_self, or_false, false_or, or_true, true_or, and_false, false_and]
    exact jx_J.at kk rfl rfl rfl (by simp [mo_n1, h, hq, jx_xn (show q < 2147483648 by omega)])
def mo_nk (I : Nat → Nat → Int32) (c : Nat) (x : Int32) : Nat → Nat → Nat → Int32
  | 0 => I
  | k + 1 => mo_n1 (mo_nk I c x k) c x k
theorem mo_nk_many {I : Nat → Nat → Int32} {c : Nat} {x : Int32} {q : Nat} (hq : I 98 9 = nI q) (hq2 : q + 7 ≤ 16000) : ∀ k, k ≤ 7 → ∃ p, p ≤ q + k ∧ mo_nk I c x k 98 9 = nI p
  | 0, _ => ⟨q, by omega, hq⟩
  | k + 1, h => by
    obtain ⟨p, h1, h2⟩ := mo_nk_many (c := c) (x := x) hq hq2 k (by omega)
    unfold mo_nk mo_n1
    split
    · rw [mo_ly_many, h2, jx_xn (by omega)]
      exact ⟨p + 1, by omega, rfl⟩
    · exact ⟨p, by omega, h2⟩
set_option maxHeartbeats 4000000 in
set_option maxRecDepth 100000 in
theorem mo_news {G : jx_G} {n ms : Nat} {K : Nat → Nat × Nat} {I : Nat → Nat → Int32} {P : Nat → Nat → Option Nat} (hM : mo_ok K P) {c q : Nat} {a b : Int32} (hc : c < 4) (hq : I 98 9 = nI q) (hq2 : q + 7 ≤ 16000) : jx_C G yX9_news cX9_news 5 none 1 [.inr (some 98), .inl (nI c), .inl a, .inl b] (n, ms, K, I, P) (jx_E none (n, ms, K, mo_nk I c (a ||| b) 7, P)) := by
  refine jx_C_of (by decide) (Nat.le_of_ble_eq_true rfl) ?_
  simp only [List.map_cons, List.map_nil, List.length_cons, List.length_nil, Nat.reduceAdd, Nat.reduceSub, List.replicate_zero, List.append_nil, List.replicate_succ, List.cons_append, List.nil_append]
  refine jx_go flok_X9 (fwok_X9 rfl) 2 _ _ _ _ ?_
  simp (disch := omega) only [↓reduceIte, jx_wp, jx_stp, jx_f0, jx_f1, jx_f2, jx_f3, List.getElem?_cons_zero, List.getElem?_cons_succ, List.set_cons_zero, List.set_cons_succ, Nat.reduceAdd, true_and, and_true, if_true, if_false, Bool.false_eq_true, jx_s, Nat.reduceLT, dX9_news_0, dX9_news_1, dX9_news_3, dX9_news_5, dX9_news_7, dX9_news_10, dX9_news_11, dX9_news_12, dX9_news_13, dX9_news_15, dX9_news_16, dX9_news_17, dX9_news_18, dX9_news_19, dX9_news_22, dX9_news_23, dX9_news_25, dX9_news_27, dX9_news_28, dX9_news_29, dX9_news_30, dX9_news_32, dX9_news_33, dX9_news_34, dX9_news_37, dX9_news_38, dX9_news_41, dX9_news_44, jx_k0, jx_b7, tg_7_37, jx_k1, tg_19_19, jx_b6, tg_41_m38, mo_k98 hM, jx_b0, jx_bn0, jx_u_eq, jx_u_na, jx_u_ni, jx_nb0, jx_nb1, jx_ni, jx_E, eq_self, jx_a0, jx_a1, ne_eq, not_false_eq_true, Nat.reduceLeDiff, Nat.reduceEqDiff, Nat.reduceLT, jx_subl, jx_al, jx_la, jx_nm, jx_ml, nI_add, jx_xn, jx_xl, jx_inn, jx_inl, jx_ltnn, jx_lenn, jx_eqnn, jx_ltnl, jx_lenl, jx_ltln, jx_leln, jx_eqnl, Int32.reduceAdd, Int32.reduceSub, Int32.reduceMul, Int32.reduceLT, Int32.reduceLE, jx_eqll, jx_ltll, Nat.reduceMul, Nat.reduceSub, forall_const, implies_true, false_implies, not_true_eq_false, true_implies, mo_b_na, mo_h_na, mo_fb_na, mo_ct_na, mo_ly_na, mo_jn_na, or_self, or_false, false_or, or_true, true_or, and_false, false_and]
  refine jx_J.at (M2 := (n, ms, K, mo_nk I c (a ||| b) 0, P)) ?_ rfl rfl rfl rfl
  obtain ⟨p0, hp0, hr0⟩ := mo_nk_many (c := c) (x := a ||| b) hq hq2 0 (by omega)
  refine jx_J.at (mo_news_st hM (s := 0) (q := p0) hc (by omega) hr0 (by omega) ?_) rfl rfl rfl rfl
  obtain ⟨p1, hp1, hr1⟩ := mo_nk_many (c := c) (x := a ||| b) hq hq2 1 (by omega)
  refine jx_J.at (mo_news_st hM (s := 1) (q := p1) hc (by omega) hr1 (by omega) ?_) rfl rfl rfl rfl
  obtain ⟨p2, hp2, hr2⟩ := mo_nk_many (c := c) (x := a ||| b) hq hq2 2 (by omega)
  refine jx_J.at (mo_news_st hM (s := 2) (q := p2) hc (by omega) hr2 (by omega) ?_) rfl rfl rfl rfl
  obtain ⟨p3, hp3, hr3⟩ := mo_nk_many (c := c) (x := a ||| b) hq hq2 3 (by omega)
  refine jx_J.at (mo_news_st hM (s := 3) (q := p3) hc (by omega) hr3 (by omega) ?_) rfl rfl rfl rfl
  obtain ⟨p4, hp4, hr4⟩ := mo_nk_many (c := c) (x := a ||| b) hq hq2 4 (by omega)
  refine jx_J.at (mo_news_st hM (s := 4) (q := p4) hc (by omega) hr4 (by omega) ?_) rfl rfl rfl rfl
  obtain ⟨p5, hp5, hr5⟩ := mo_nk_many (c := c) (x := a ||| b) hq hq2 5 (by omega)
  refine jx_J.at (mo_news_st hM (s := 5) (q := p5) hc (by omega) hr5 (by omega) ?_) rfl rfl rfl rfl
  obtain ⟨p6, hp6, hr6⟩ := mo_nk_many (c := c) (x := a ||| b) hq hq2 6 (by omega)
  refine jx_J.at (mo_news_st hM (s := 6) (q := p6) hc (by omega) hr6 (by omega) ?_) rfl rfl rfl rfl
  refine jx_go flok_X9 (fwok_X9 rfl) 5 _ _ _ _ ?_
  simp (disch := omega) only [↓reduceIte, jx_wp, jx_stp, jx_f0, jx_f1, jx_f2, jx_f3, List.getElem?_cons_zero, List.getElem?_cons_succ, List.set_cons_zero, List.set_cons_succ, Nat.reduceAdd, true_and, and_true, if_true, if_false, Bool.false_eq_true, jx_s, Nat.reduceLT, dX9_news_0, dX9_news_1, dX9_news_3, dX9_news_5, dX9_news_7, dX9_news_10, dX9_news_11, dX9_news_12, dX9_news_13, dX9_news_15, dX9_news_16, dX9_news_17, dX9_news_18, dX9_news_19, dX9_news_22, dX9_news_23, dX9_news_25, dX9_news_27, dX9_news_28, dX9_news_29, dX9_news_30, dX9_news_32, dX9_news_33, dX9_news_34, dX9_news_37, dX9_news_38, dX9_news_41, dX9_news_44, jx_k0, jx_b7, tg_7_37, jx_k1, tg_19_19, jx_b6, tg_41_m38, mo_k98 hM, jx_b0, jx_bn0, jx_u_eq, jx_u_na, jx_u_ni, jx_nb0, jx_nb1, jx_ni, jx_E, eq_self, jx_a0, jx_a1, ne_eq, not_false_eq_true, Nat.reduceLeDiff, Nat.reduceEqDiff, Nat.reduceLT, jx_subl, jx_al, jx_la, jx_nm, jx_ml, nI_add, jx_xn, jx_xl, jx_inn, jx_inl, jx_ltnn, jx_lenn, jx_eqnn, jx_ltnl, jx_lenl, jx_ltln, jx_leln, jx_eqnl, Int32.reduceAdd, Int32.reduceSub, Int32.reduceMul, Int32.reduceLT, Int32.reduceLE, jx_eqll, jx_ltll, Nat.reduceMul, Nat.reduceSub, forall_const, implies_true, false_implies, not_true_eq_false, true_implies, mo_b_na, mo_h_na, mo_fb_na, mo_ct_na, mo_ly_na, mo_jn_na, or_self, or_false, false_or, or_true, true_or, and_false, false_and]
  rfl
