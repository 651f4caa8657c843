theorem jx_sc1 {G : jx_G} {y : MethodName} {cc : ByteArray} {nL : Nat} {ret : Option FieldType} {d : Nat} {Q : Option jx_V → jx_M → Prop} {pc : Nat} {ls : List (Option jx_V)} {st : List jx_V} {M : jx_M} (k : M.2.2.1 1 = (16, 0) → jx_J G y cc nL ret d Q pc ls st M) : jx_J G y cc nL ret d Q pc ls st M := by
  intro p e s m args below meth c R Z n0 m0 C H lsA locs hR hL hq hn hm
  exact k hR.2.2.2.2.2.2.1.2.2.1 p e s m args below meth c R Z n0 m0 C H lsA locs hR hL hq hn hm
theorem la_gt {L i : Nat} (hL : L ≤ 2048) (hi : i ≤ 2052) : (nI L - 4 < nI i) = (L < i + 4) := by
  by_cases h : 4 ≤ L
  · rw [show (4 : Int32) = nI 4 from rfl, jx_ns _ _ h, jx_ltnn (by omega) (by omega)]
    exact propext ⟨fun _ => by omega, fun _ => by omega⟩
  · refine propext ⟨fun _ => by omega, fun _ => ?_⟩
    have hn : nI L - 4 < 0 := by
      rcases (show L = 0 ∨ L = 1 ∨ L = 2 ∨ L = 3 by omega) with rfl | rfl | rfl | rfl <;> decide
    have h0 : nI 0 ≤ nI i := by
      rw [jx_lenn (by omega) (by omega)]
      omega
    have h0 : (0 : Int32) ≤ nI i := h0
    rw [Int32.lt_iff_toInt_lt] at hn ⊢
    rw [Int32.le_iff_toInt_le] at h0
    omega
set_option maxHeartbeats 4000000 in
set_option maxRecDepth 100000 in
theorem la_sw {G : jx_G} {i : Nat} (hi : i + 4 ≤ jx_gL G) (hL : jx_gL G ≤ 2048) (kk : ∀ n ms K I P, la_I n ms K I P → jx_J G yL_law cL_law 4 (some FieldType.boolean) 13 (la_Q) 716 [some (.inr (some 0)), some (.inr (some 3)), some (.inr (some 98)), some (.inl (nI i))] [] (n, ms, K, I, P)) {n ms : Nat} {K : Nat → Nat × Nat} {I : Nat → Nat → Int32} {P : Nat → Nat → Option Nat} (h : la_I n ms K I P) : jx_J G yL_law cL_law 4 (some FieldType.boolean) 13 (la_Q) 26 [some (.inr (some 0)), some (.inr (some 3)), some (.inr (some 98)), some (.inl (nI i))] [] (n, ms, K, I, P) := by
  refine jx_sc (fun k0 v0 => ?_)
  have k0 : K 0 = (11, jx_gL G) := k0
  have v0 : ∀ j, j < jx_gL G → I 0 j = jx_gX G j := v0
  refine jx_gq flok_0 fwok_0 32 7 _ _ _ _ ?_
  simp (disch := omega) only [↓reduceIte, jx_wp, jx_stp, jx_f0, jx_f1, jx_f2, jx_f3, List.getElem?_cons_zero, List.getElem?_cons_succ, List.set_cons_zero, List.set_cons_succ, Nat.reduceAdd, true_and, and_true, if_true, if_false, Bool.false_eq_true, jx_s, Nat.reduceLT, dL_law_26, dL_law_27, dL_law_28, dL_law_29, dL_law_31, jx_b31, jx_wq, jx_stq, jx_ite, jx_b0, jx_bn0, jx_u_eq, jx_u_na, jx_u_ni, jx_nb0, jx_nb1, jx_ni, jx_E, eq_self, jx_a0, jx_a1, ne_eq, not_false_eq_true, Nat.reduceLeDiff, Nat.reduceEqDiff, Nat.reduceLT, jx_subl, jx_al, jx_la, jx_nm, jx_ml, nI_add, jx_xn, jx_xl, jx_inn, jx_inl, jx_ltnn, jx_lenn, jx_eqnn, jx_ltnl, jx_lenl, jx_ltln, jx_leln, jx_eqnl, Int32.reduceAdd, Int32.reduceSub, Int32.reduceMul, Int32.reduceLT, Int32.reduceLE, jx_eqll, jx_ltll, Nat.reduceMul, Nat.reduceSub, forall_const, implies_true, false_implies, not_true_eq_false, true_implies, jx_tko, jx_ofn, jx_tka, jx_pro, jx_pra, and_self, Nat.not_lt_zero, k0, v0]
  generalize jx_gX G i &&& 31 = v
  by_cases e1 : v < 0
  · refine jx_tabD dL_law_32 (tgd := 716) (tb_D (m := 17) (by decide) (Or.inl e1)) (by decide) ?_
    exact kk _ _ _ _ _ h
  by_cases e2 : v ≤ 17
  rotate_left
  · refine jx_tabD dL_law_32 (tgd := 716) (tb_D (m := 17) (by decide) (Or.inr e2)) (by decide) ?_
    exact kk _ _ _ _ _ h
  obtain ⟨j, hj, rfl⟩ := la_le (m := 17) (by omega) e1 e2
  rcases (show j = 0 ∨ j = 1 ∨ j = 2 ∨ j = 3 ∨ j = 4 ∨ j = 5 ∨ j = 6 ∨ j = 7 ∨ j = 8 ∨ j = 9 ∨ j = 10 ∨ j = 11 ∨ j = 12 ∨ j = 13 ∨ j = 14 ∨ j = 15 ∨ j = 16 ∨ j = 17 by omega) with rfl | rfl | rfl | rfl | rfl | rfl | rfl | rfl | rfl | rfl | rfl | rfl | rfl | rfl | rfl | rfl | rfl | rfl
  · refine jx_tabI dL_law_32 (tgt := 120) (tgd := 716) (by decide) (by decide) (off := 88) (by decide) (by decide) (by decide) ?_
    exact lc_begin hi hL kk h
  · refine jx_tabI dL_law_32 (tgt := 153) (tgd := 716) (by decide) (by decide) (off := 121) (by decide) (by decide) (by decide) ?_
    exact lc_read hi hL kk h
  · refine jx_tabI dL_law_32 (tgt := 186) (tgd := 716) (by decide) (by decide) (off := 154) (by decide) (by decide) (by decide) ?_
    exact lc_write hi hL kk h
  · refine jx_tabI dL_law_32 (tgt := 229) (tgd := 716) (by decide) (by decide) (off := 197) (by decide) (by decide) (by decide) ?_
    exact lc_change hi hL kk h
  · refine jx_tabI dL_law_32 (tgt := 262) (tgd := 716) (by decide) (by decide) (off := 230) (by decide) (by decide) (by decide) ?_
    exact lc_move hi hL kk h
  · refine jx_tabI dL_law_32 (tgt := 285) (tgd := 716) (by decide) (by decide) (off := 253) (by decide) (by decide) (by decide) ?_
    exact lc_bag hi hL kk h
  · refine jx_tabI dL_law_32 (tgt := 298) (tgd := 716) (by decide) (by decide) (off := 266) (by decide) (by decide) (by decide) ?_
    exact lc_message hi hL kk h
  · refine jx_tabI dL_law_32 (tgt := 331) (tgd := 716) (by decide) (by decide) (off := 299) (by decide) (by decide) (by decide) ?_
    exact lc_deliver hi hL kk h
  · refine jx_tabI dL_law_32 (tgt := 354) (tgd := 716) (by decide) (by decide) (off := 322) (by decide) (by decide) (by decide) ?_
    exact lc_lose hi hL kk h
  · refine jx_tabI dL_law_32 (tgt := 377) (tgd := 716) (by decide) (by decide) (off := 345) (by decide) (by decide) (by decide) ?_
    exact lc_run hi hL kk h
  · refine jx_tabI dL_law_32 (tgt := 410) (tgd := 716) (by decide) (by decide) (off := 378) (by decide) (by decide) (by decide) ?_
    exact lc_stop hi hL kk h
  · refine jx_tabI dL_law_32 (tgt := 459) (tgd := 716) (by decide) (by decide) (off := 427) (by decide) (by decide) (by decide) ?_
    exact lc_map hi hL kk h
  · refine jx_tabI dL_law_32 (tgt := 518) (tgd := 716) (by decide) (by decide) (off := 486) (by decide) (by decide) (by decide) ?_
    exact lc_cell hi hL kk h
  · refine jx_tabI dL_law_32 (tgt := 561) (tgd := 716) (by decide) (by decide) (off := 529) (by decide) (by decide) (by decide) ?_
    exact lc_vote hi hL kk h
  · refine jx_tabI dL_law_32 (tgt := 604) (tgd := 716) (by decide) (by decide) (off := 572) (by decide) (by decide) (by decide) ?_
    exact lc_client hi hL kk h
  · refine jx_tabI dL_law_32 (tgt := 637) (tgd := 716) (by decide) (by decide) (off := 605) (by decide) (by decide) (by decide) ?_
    exact lc_operation hi hL kk h
  · refine jx_tabI dL_law_32 (tgt := 670) (tgd := 716) (by decide) (by decide) (off := 638) (by decide) (by decide) (by decide) ?_
    exact lc_count hi hL kk h
  · refine jx_tabI dL_law_32 (tgt := 693) (tgd := 716) (by decide) (by decide) (off := 661) (by decide) (by decide) (by decide) ?_
    exact lc_atomic hi hL kk h
set_option maxHeartbeats 4000000 in
set_option maxRecDepth 100000 in
theorem la_out {G : jx_G} {i : Nat} (hL : jx_gL G ≤ 2048) (hi : i ≤ 2052) (hx : jx_gL G < i + 4) {n ms : Nat} {K : Nat → Nat × Nat} {I : Nat → Nat → Int32} {P : Nat → Nat → Option Nat} : jx_J G yL_law cL_law 4 (some FieldType.boolean) 13 (la_Q) 18 [some (.inr (some 0)), some (.inr (some 3)), some (.inr (some 98)), some (.inl (nI i))] [] (n, ms, K, I, P) := by
  refine jx_sc (fun k0 v0 => ?_)
  have k0 : K 0 = (11, jx_gL G) := k0
  have e2 : jx_gL G - 4 < i ∨ True := Or.inr trivial
  refine jx_gq flok_0 fwok_0 722 10 _ _ _ _ ?_
  simp (disch := omega) only [↓reduceIte, jx_wp, jx_stp, jx_f0, jx_f1, jx_f2, jx_f3, List.getElem?_cons_zero, List.getElem?_cons_succ, List.set_cons_zero, List.set_cons_succ, Nat.reduceAdd, true_and, and_true, if_true, if_false, Bool.false_eq_true, jx_s, Nat.reduceLT, dL_law_18, dL_law_19, dL_law_20, dL_law_21, dL_law_22, dL_law_23, jx_k4, tg_23_699, jx_wq, jx_stq, jx_ite, jx_b0, jx_bn0, jx_u_eq, jx_u_na, jx_u_ni, jx_nb0, jx_nb1, jx_ni, jx_E, eq_self, jx_a0, jx_a1, ne_eq, not_false_eq_true, Nat.reduceLeDiff, Nat.reduceEqDiff, Nat.reduceLT, jx_subl, jx_al, jx_la, jx_nm, jx_ml, nI_add, jx_xn, jx_xl, jx_inn, jx_inl, jx_ltnn, jx_lenn, jx_eqnn, jx_ltnl, jx_lenl, jx_ltln, jx_leln, jx_eqnl, Int32.reduceAdd, Int32.reduceSub, Int32.reduceMul, Int32.reduceLT, Int32.reduceLE, jx_eqll, jx_ltll, Nat.reduceMul, Nat.reduceSub, forall_const, implies_true, false_implies, not_true_eq_false, true_implies, jx_tko, jx_ofn, jx_tka, jx_pro, jx_pra, and_self, Nat.not_lt_zero, k0, la_gt, hx]
  refine jx_gq flok_0 fwok_0 99999 3 _ _ _ _ ?_
  simp (disch := omega) only [↓reduceIte, jx_wp, jx_stp, jx_f0, jx_f1, jx_f2, jx_f3, List.getElem?_cons_zero, List.getElem?_cons_succ, List.set_cons_zero, List.set_cons_succ, Nat.reduceAdd, true_and, and_true, if_true, if_false, Bool.false_eq_true, jx_s, Nat.reduceLT, dL_law_722, dL_law_723, jx_k1, jx_wq, jx_stq, jx_ite, jx_b0, jx_bn0, jx_u_eq, jx_u_na, jx_u_ni, jx_nb0, jx_nb1, jx_ni, jx_E, eq_self, jx_a0, jx_a1, ne_eq, not_false_eq_true, Nat.reduceLeDiff, Nat.reduceEqDiff, Nat.reduceLT, jx_subl, jx_al, jx_la, jx_nm, jx_ml, nI_add, jx_xn, jx_xl, jx_inn, jx_inl, jx_ltnn, jx_lenn, jx_eqnn, jx_ltnl, jx_lenl, jx_ltln, jx_leln, jx_eqnl, Int32.reduceAdd, Int32.reduceSub, Int32.reduceMul, Int32.reduceLT, Int32.reduceLE, jx_eqll, jx_ltll, Nat.reduceMul, Nat.reduceSub, forall_const, implies_true, false_implies, not_true_eq_false, true_implies, jx_tko, jx_ofn, jx_tka, jx_pro, jx_pra, and_self, Nat.not_lt_zero]
  exact rfl
set_option maxHeartbeats 4000000 in
set_option maxRecDepth 100000 in
theorem la_loop {G : jx_G} (hL : jx_gL G ≤ 2048) : ∀ f i n ms K I P, jx_gL G ≤ i + f → i ≤ 2052 → la_I n ms K I P → jx_J G yL_law cL_law 4 (some FieldType.boolean) 13 (la_Q) 18 [some (.inr (some 0)), some (.inr (some 3)), some (.inr (some 98)), some (.inl (nI i))] [] (n, ms, K, I, P) := by
  intro f
  induction f with
  | zero =>
    intro i n ms K I P h1 h2 h
    exact la_out hL h2 (by omega)
  | succ f ih =>
    intro i n ms K I P h1 h2 h
    by_cases hi : i + 4 ≤ jx_gL G
    rotate_left
    · exact la_out hL h2 (by omega)
    refine jx_sc (fun k0 v0 => ?_)
    have k0 : K 0 = (11, jx_gL G) := k0
    have e2 : ¬ (jx_gL G - 4 < i) := by omega
    have e3 : ¬ (jx_gL G < i + 4) := by omega
    have e4 : i ≤ jx_gL G - 4 := by omega
    refine jx_gq flok_0 fwok_0 26 8 _ _ _ _ ?_
    simp (disch := omega) only [↓reduceIte, jx_wp, jx_stp, jx_f0, jx_f1, jx_f2, jx_f3, List.getElem?_cons_zero, List.getElem?_cons_succ, List.set_cons_zero, List.set_cons_succ, Nat.reduceAdd, true_and, and_true, if_true, if_false, Bool.false_eq_true, jx_s, Nat.reduceLT, dL_law_18, dL_law_19, dL_law_20, dL_law_21, dL_law_22, dL_law_23, jx_k4, tg_23_699, jx_wq, jx_stq, jx_ite, jx_b0, jx_bn0, jx_u_eq, jx_u_na, jx_u_ni, jx_nb0, jx_nb1, jx_ni, jx_E, eq_self, jx_a0, jx_a1, ne_eq, not_false_eq_true, Nat.reduceLeDiff, Nat.reduceEqDiff, Nat.reduceLT, jx_subl, jx_al, jx_la, jx_nm, jx_ml, nI_add, jx_xn, jx_xl, jx_inn, jx_inl, jx_ltnn, jx_lenn, jx_eqnn, jx_ltnl, jx_lenl, jx_ltln, jx_leln, jx_eqnl, Int32.reduceAdd, Int32.reduceSub, Int32.reduceMul, Int32.reduceLT, Int32.reduceLE, jx_eqll, jx_ltll, Nat.reduceMul, Nat.reduceSub, forall_const, implies_true, false_implies, not_true_eq_false, true_implies, jx_tko, jx_ofn, jx_tka, jx_pro, jx_pra, and_self, Nat.not_lt_zero, k0, la_gt, e2, e3, e4]
    refine la_sw hi hL (fun n ms K I P h => ?_) h
    refine jx_gq flok_0 fwok_0 18 2 _ _ _ _ ?_
    simp (disch := omega) only [↓reduceIte, jx_wp, jx_stp, jx_f0, jx_f1, jx_f2, jx_f3, List.getElem?_cons_zero, List.getElem?_cons_succ, List.set_cons_zero, List.set_cons_succ, Nat.reduceAdd, true_and, and_true, if_true, if_false, Bool.false_eq_true, jx_s, Nat.reduceLT, dL_law_716, dL_law_719, jx_k4, tg_719_m701, jx_wq, jx_stq, jx_ite, jx_b0, jx_bn0, jx_u_eq, jx_u_na, jx_u_ni, jx_nb0, jx_nb1, jx_ni, jx_E, eq_self, jx_a0, jx_a1, ne_eq, not_false_eq_true, Nat.reduceLeDiff, Nat.reduceEqDiff, Nat.reduceLT, jx_subl, jx_al, jx_la, jx_nm, jx_ml, nI_add, jx_xn, jx_xl, jx_inn, jx_inl, jx_ltnn, jx_lenn, jx_eqnn, jx_ltnl, jx_lenl, jx_ltln, jx_leln, jx_eqnl, Int32.reduceAdd, Int32.reduceSub, Int32.reduceMul, Int32.reduceLT, Int32.reduceLE, jx_eqll, jx_ltll, Nat.reduceMul, Nat.reduceSub, forall_const, implies_true, false_implies, not_true_eq_false, true_implies, jx_tko, jx_ofn, jx_tka, jx_pro, jx_pra, and_self, Nat.not_lt_zero]
    exact ih (i + 4) _ _ _ _ _ (by omega) (by omega) h
theorem mv_0 {a j : Nat} (h1 : a ≠ 99) (h2 : a ≠ 128) : mi_v a j = 0 := by
  unfold mi_v
  rw [if_neg (by omega), if_neg (by omega)]
theorem la_new {ms : Nat} {K2 K3 : Nat → Nat × Nat} {I2 I3 : Nat → Nat → Int32} {P2 P3 : Nat → Nat → Option Nat} (hms : ms ≤ 600000) (hQ : rf_Q none (98, 0, K2, I2, P2)) (hM : mo_ok K3 P3) (hK : ∀ b, b < 98 → K3 b = K2 b) (hI : ∀ b j, b < 98 → I3 b j = I2 b j) (hP : ∀ b j, b < 98 → P3 b j = P2 b j) (h98 : ∀ j, I3 98 j = if j = 1 then 3 else 0) (hv : ∀ a j, 99 ≤ a → a < 140 → I3 a j = mi_v a j) : la_I 140 ms K3 I3 P3 := by
  obtain ⟨-, ms', K, I, P, e, a1, a2, a3, a4, a5, a6, a7, a8, a9, b1, b2, b3, b4, b5, b6, b7, b8⟩ := hQ
  simp only [Prod.mk.injEq, true_and] at e
  obtain ⟨-, rfl, rfl, rfl⟩ := e
  have f0 : mo_f0 I3 3 7 := by
    refine ⟨by rw [h98]; rfl, by rw [h98]; rfl, by rw [h98]; rfl, by rw [h98]; rfl, by rw [h98]; rfl, by rw [h98]; rfl, fun j hj => ?_, fun j hj => by rw [hv _ _ (by omega) (by omega), mv_0 (by omega) (by omega)], fun j hj => ⟨by rw [hv _ _ (by omega) (by omega), mv_0 (by omega) (by omega)], by rw [hv _ _ (by omega) (by omega), mv_0 (by omega) (by omega)]⟩, fun j hj => ⟨by rw [hv _ _ (by omega) (by omega), mv_0 (by omega) (by omega)], by rw [hv _ _ (by omega) (by omega), mv_0 (by omega) (by omega)], by rw [hv _ _ (by omega) (by omega), mv_0 (by omega) (by omega)]⟩, fun c hc => ⟨?_, by rw [hv _ _ (by omega) (by omega), mv_0 (by omega) (by omega)]⟩⟩
    · rw [hv _ _ (by omega) (by omega)]
      unfold mi_v
      by_cases w : j % 6 = 0
      · rw [if_pos ⟨rfl, hj, w⟩, if_pos w]
      · rw [if_neg (by omega), if_neg (by omega), if_neg w]
    · rw [hv _ _ (by omega) (by omega)]
      unfold mi_v
      rw [if_neg (by omega), if_pos ⟨rfl, hc⟩]
  obtain ⟨v1, v2⟩ := Iv_fresh (J := I3) (q := 3) (f := 7) (by omega) (by omega) ⟨7, by decide, rfl⟩ (by decide) (by rw [h98]; rfl) (fun j => by rw [hv _ _ (by omega) (by omega), mv_0 (by omega) (by omega)]; decide) f0
  refine ⟨3, 0, 0, fun _ => 0, rl_fresh (f := 7) (q := 3) (z := 0) (e := 1) (c := 0) (e2 := 1) (c2 := 0) (L := fun _ => 0) (S := fun _ => 0) (cl_ok_to a2 (fun b _ w => hK b w) (fun b j _ w _ _ _ _ _ => hP b j w)) (rs_ok_to a3 (fun b _ w => hK b (by omega)) (fun b j w => hP b j (by omega))) hM (fun s hs => ?_) (fun c hc => ?_) ⟨by rw [hI _ _ (by omega), b6], by rw [hI _ _ (by omega), b7], by rw [hI _ _ (by omega), b8]⟩ (fun o a ho w => ?_) (by rw [hI _ _ (by omega), b4]) ?_ (by rw [hI _ _ (by omega), a9]) (by omega) (by omega) (by omega) f0, v1, by rw [v2]; omega, by rw [hI _ _ (by omega), b5, h98]; rfl⟩
  · obtain ⟨w1, w2, w3, w4⟩ := b2 s hs
    exact ⟨by rw [hI _ _ (by omega), w1], fun k hk => by rw [hI _ _ (by omega), w2 k hk], fun r hr => ⟨by rw [hI _ _ (by omega), (w3 r hr).1], by rw [hI _ _ (by omega), (w3 r hr).2]⟩, fun k hk => ⟨by rw [hI _ _ (by omega), (w4 k hk).1], by rw [hI _ _ (by omega), (w4 k hk).2.1], by rw [hI _ _ (by omega), (w4 k hk).2.2]⟩⟩
  · obtain ⟨w1, w2, w3, w4, w5⟩ := b3 c hc
    exact ⟨by rw [hI _ _ (by omega), w1], by rw [hI _ _ (by omega), w2], by rw [hI _ _ (by omega), w3], fun k hk => by rw [hI _ _ (by omega), w4 k hk], by rw [hP _ _ (by omega), w5]⟩
  · rw [hP _ _ (by omega), b1 o] at w
    cases w
  · obtain ⟨g1, g2, g3, g4, g5, g6⟩ := a4
    exact ⟨⟨by rw [hK _ (by omega), g1], by rw [hP _ _ (by omega), g2], by rw [hP _ _ (by omega), g3], by rw [hK _ (by omega), g4], by rw [hK _ (by omega), g5], by rw [hK _ (by omega), g6]⟩, ⟨by rw [hP _ _ (by omega), a5], by rw [hK _ (by omega), g6], by rw [hI _ _ (by omega), a7], by omega, by omega, fun i w => absurd w (by omega), by omega, Or.inr ⟨rfl, rfl⟩⟩, ⟨by rw [hP _ _ (by omega), a6], by rw [hK _ (by omega), g6], by rw [hI _ _ (by omega), a8], by omega, by omega, fun i w => absurd w (by omega), by omega, Or.inr ⟨rfl, rfl⟩⟩, Or.inr rfl, fun i w => absurd w (by omega), fun i w => absurd w (by omega), ⟨fun i j w => absurd w (by omega), fun i j w => absurd w (by omega), fun i j w => absurd w (by omega)⟩, by omega⟩
set_option maxHeartbeats 4000000 in
set_option maxRecDepth 100000 in
theorem la_start {G : jx_G} (hri : ri_H G) (hL : jx_gL G ≤ 2048) {K : Nat → Nat × Nat} {I : Nat → Nat → Int32} {P : Nat → Nat → Option Nat} : jx_J G yL_law cL_law 4 (some FieldType.boolean) 13 (la_Q) 0 [some (.inr (some 0)), none, none, none] [] (3, 0, K, I, P) := by
  refine jx_sc1 (fun k1 => ?_)
  have k1 : K 1 = (16, 0) := k1
  refine jx_new (c := 9) dL_law_0 rfl lc_L_7 is_X8 in_X8 (by show 3 + 1 ≤ 600003; omega) (by simp only; omega) ?_
  rw [nw_eq]
  refine jx_gq flok_0 fwok_0 4 1 _ _ _ _ ?_
  simp (disch := omega) only [↓reduceIte, jx_wp, jx_stp, jx_f0, jx_f1, jx_f2, jx_f3, List.getElem?_cons_zero, List.getElem?_cons_succ, List.set_cons_zero, List.set_cons_succ, Nat.reduceAdd, true_and, and_true, if_true, if_false, Bool.false_eq_true, jx_s, Nat.reduceLT, dL_law_3, jx_wq, jx_stq, jx_ite, jx_b0, jx_bn0, jx_u_eq, jx_u_na, jx_u_ni, jx_nb0, jx_nb1, jx_ni, jx_E, eq_self, jx_a0, jx_a1, ne_eq, not_false_eq_true, Nat.reduceLeDiff, Nat.reduceEqDiff, Nat.reduceLT, jx_subl, jx_al, jx_la, jx_nm, jx_ml, nI_add, jx_xn, jx_xl, jx_inn, jx_inl, jx_ltnn, jx_lenn, jx_eqnn, jx_ltnl, jx_lenl, jx_ltln, jx_leln, jx_eqnl, Int32.reduceAdd, Int32.reduceSub, Int32.reduceMul, Int32.reduceLT, Int32.reduceLE, jx_eqll, jx_ltll, Nat.reduceMul, Nat.reduceSub, forall_const, implies_true, false_implies, not_true_eq_false, true_implies, jx_tko, jx_ofn, jx_tka, jx_pro, jx_pra, and_self, Nat.not_lt_zero]
  refine jx_cI0 dL_law_4 li_L_9 (rf_init hri nw_K_n (by rw [nw_K_o (by omega), k1]) (by omega)) (Nat.le_of_ble_eq_true rfl) (Nat.le_of_ble_eq_true rfl) ?_
  rintro _ _ hQ - -
  obtain ⟨rfl, ms, K2, I2, P2, rfl, hms, hq⟩ := id hQ
  simp only [Option.toList_none, List.nil_append]
  refine jx_gq flok_0 fwok_0 8 1 _ _ _ _ ?_
  simp (disch := omega) only [↓reduceIte, jx_wp, jx_stp, jx_f0, jx_f1, jx_f2, jx_f3, List.getElem?_cons_zero, List.getElem?_cons_succ, List.set_cons_zero, List.set_cons_succ, Nat.reduceAdd, true_and, and_true, if_true, if_false, Bool.false_eq_true, jx_s, Nat.reduceLT, dL_law_7, jx_wq, jx_stq, jx_ite, jx_b0, jx_bn0, jx_u_eq, jx_u_na, jx_u_ni, jx_nb0, jx_nb1, jx_ni, jx_E, eq_self, jx_a0, jx_a1, ne_eq, not_false_eq_true, Nat.reduceLeDiff, Nat.reduceEqDiff, Nat.reduceLT, jx_subl, jx_al, jx_la, jx_nm, jx_ml, nI_add, jx_xn, jx_xl, jx_inn, jx_inl, jx_ltnn, jx_lenn, jx_eqnn, jx_ltnl, jx_lenl, jx_ltln, jx_leln, jx_eqnl, Int32.reduceAdd, Int32.reduceSub, Int32.reduceMul, Int32.reduceLT, Int32.reduceLE, jx_eqll, jx_ltll, Nat.reduceMul, Nat.reduceSub, forall_const, implies_true, false_implies, not_true_eq_false, true_implies, jx_tko, jx_ofn, jx_tka, jx_pro, jx_pra, and_self, Nat.not_lt_zero]
  refine jx_new (c := 10) dL_law_8 rfl lc_L_10 is_X9 in_X9 (by show 98 + 1 ≤ 600003; omega) (by simp only; omega) ?_
  rw [nw_eq]
  refine jx_gq flok_0 fwok_0 12 1 _ _ _ _ ?_
  simp (disch := omega) only [↓reduceIte, jx_wp, jx_stp, jx_f0, jx_f1, jx_f2, jx_f3, List.getElem?_cons_zero, List.getElem?_cons_succ, List.set_cons_zero, List.set_cons_succ, Nat.reduceAdd, true_and, and_true, if_true, if_false, Bool.false_eq_true, jx_s, Nat.reduceLT, dL_law_11, jx_wq, jx_stq, jx_ite, jx_b0, jx_bn0, jx_u_eq, jx_u_na, jx_u_ni, jx_nb0, jx_nb1, jx_ni, jx_E, eq_self, jx_a0, jx_a1, ne_eq, not_false_eq_true, Nat.reduceLeDiff, Nat.reduceEqDiff, Nat.reduceLT, jx_subl, jx_al, jx_la, jx_nm, jx_ml, nI_add, jx_xn, jx_xl, jx_inn, jx_inl, jx_ltnn, jx_lenn, jx_eqnn, jx_ltnl, jx_lenl, jx_ltln, jx_leln, jx_eqnl, Int32.reduceAdd, Int32.reduceSub, Int32.reduceMul, Int32.reduceLT, Int32.reduceLE, jx_eqll, jx_ltll, Nat.reduceMul, Nat.reduceSub, forall_const, implies_true, false_implies, not_true_eq_false, true_implies, jx_tko, jx_ofn, jx_tka, jx_pro, jx_pra, and_self, Nat.not_lt_zero]
  refine jx_cI0 dL_law_12 li_L_12 (mo_init nw_K_n (fun j => nw_I_n) (fun j => nw_P_n) (by omega)) (Nat.le_of_ble_eq_true rfl) (Nat.le_of_ble_eq_true rfl) ?_
  rintro _ _ ⟨rfl, ms2, K3, I3, P3, rfl, m1, m2, m3, m4, m5, m6⟩ - -
  simp only [Option.toList_none, List.nil_append]
  refine jx_gq flok_0 fwok_0 18 3 _ _ _ _ ?_
  simp (disch := omega) only [↓reduceIte, jx_wp, jx_stp, jx_f0, jx_f1, jx_f2, jx_f3, List.getElem?_cons_zero, List.getElem?_cons_succ, List.set_cons_zero, List.set_cons_succ, Nat.reduceAdd, true_and, and_true, if_true, if_false, Bool.false_eq_true, jx_s, Nat.reduceLT, dL_law_15, dL_law_16, dL_law_17, jx_k0, jx_wq, jx_stq, jx_ite, jx_b0, jx_bn0, jx_u_eq, jx_u_na, jx_u_ni, jx_nb0, jx_nb1, jx_ni, jx_E, eq_self, jx_a0, jx_a1, ne_eq, not_false_eq_true, Nat.reduceLeDiff, Nat.reduceEqDiff, Nat.reduceLT, jx_subl, jx_al, jx_la, jx_nm, jx_ml, nI_add, jx_xn, jx_xl, jx_inn, jx_inl, jx_ltnn, jx_lenn, jx_eqnn, jx_ltnl, jx_lenl, jx_ltln, jx_leln, jx_eqnl, Int32.reduceAdd, Int32.reduceSub, Int32.reduceMul, Int32.reduceLT, Int32.reduceLE, jx_eqll, jx_ltll, Nat.reduceMul, Nat.reduceSub, forall_const, implies_true, false_implies, not_true_eq_false, true_implies, jx_tko, jx_ofn, jx_tka, jx_pro, jx_pra, and_self, Nat.not_lt_zero]
  rw [show (0 : Int32) = nI 0 from rfl]
  exact la_loop hL 2048 0 _ _ _ _ _ (by omega) (by omega) (la_new (by omega) ⟨rfl, 0, K2, I2, P2, rfl, by omega, hq⟩ m2 (fun b w => by rw [m3 b w, nw_K_o (by omega)]) (fun b j w => by rw [(m4 b j w).1, nw_I_o (by omega)]) (fun b j w => by rw [(m4 b j w).2, nw_P_o (by omega)]) m5 m6)
