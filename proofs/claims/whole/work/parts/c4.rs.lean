/-- server s as at the start -/
def sv_0 (I : Nat → Nat → Int32) (s : Nat) (f : Int32) : Prop := I (22 + 8 * s) 6 = 0 ∧ (∀ k, k < 6 → I (22 + 8 * s + 2) k = if k = 0 then f else 0) ∧ (∀ r, r < 3 → I (22 + 8 * s + 3) r = 0 ∧ I (22 + 8 * s + 4) r = 0) ∧ ∀ k, k < 5 → I (22 + 8 * s + 5) k = 0 ∧ I (22 + 8 * s + 6) k = 0 ∧ I (22 + 8 * s + 7) k = 0
def cn_0 (I0 I : Nat → Nat → Int32) (c : Nat) (f : Int32) : Prop := I (78 + 5 * c) 0 = I0 (78 + 5 * c) 0 ∧ I (78 + 5 * c) 5 = 0 ∧ I (78 + 5 * c) 6 = 0 ∧ ∀ k, k < 6 → I (78 + 5 * c + 2) k = if k = 0 then f else 0
theorem jd_fi_i {I : Nat → Nat → Int32} {a k j : Nat} {v : Int32} (h : j < k) : jd_fi I a v k a j = v := if_pos ⟨rfl, h⟩
theorem jd_fi_o {I : Nat → Nat → Int32} {a k b j : Nat} {v : Int32} (h : b ≠ a) : jd_fi I a v k b j = I b j := if_neg (fun w => h w.1)
theorem sv_rs_o {I : Nat → Nat → Int32} {b a j : Nat} {f : Int32} (h : a < b ∨ b + 8 ≤ a) : sv_rs I b f a j = I a j := by
  unfold sv_rs
  simp (disch := omega) only [jx_u_na, jd_fi_o]
theorem sv_rs_v {I : Nat → Nat → Int32} {s : Nat} {f : Int32} : sv_0 (sv_rs I (22 + 8 * s) f) s f := by
  unfold sv_rs
  refine ⟨by rw [jx_u_eq], fun k hk => ?_, fun r hr => ⟨?_, ?_⟩, fun k hk => ⟨?_, ?_, ?_⟩⟩
  · simp (disch := omega) only [jx_u_na, jd_fi_o]
    by_cases e : k = 0
    · subst e
      rw [if_pos rfl, jx_u_eq]
    · rw [if_neg e, jx_u_ni e, jd_fi_i hk]
  · simp (disch := omega) only [jx_u_na, jd_fi_o]
    rw [jd_fi_i hr]
  · simp (disch := omega) only [jx_u_na, jd_fi_o]
    rw [jd_fi_i hr]
  · simp (disch := omega) only [jx_u_na, jd_fi_o]
    rw [jd_fi_i hk]
  · simp (disch := omega) only [jx_u_na, jd_fi_o]
    rw [jd_fi_i hk]
  · simp (disch := omega) only [jx_u_na, jd_fi_o]
    rw [jd_fi_i hk]
theorem cn_rs_o {I : Nat → Nat → Int32} {b a j : Nat} {f : Int32} (h : a < b ∨ b + 5 ≤ a) : cn_rs I b f a j = I a j := by
  unfold cn_rs
  simp (disch := omega) only [jx_u_na, jd_fi_o]
theorem cn_rs_v {I : Nat → Nat → Int32} {c : Nat} {f : Int32} : cn_0 I (cn_rs I (78 + 5 * c) f) c f := by
  unfold cn_rs
  refine ⟨?_, ?_, ?_, fun k hk => ?_⟩
  · simp (disch := omega) only [jx_u_na, jx_u_ni, jd_fi_o]
  · rw [jx_u_ni (by omega), jx_u_eq]
  · rw [jx_u_eq]
  · simp (disch := omega) only [jx_u_na]
    by_cases e : k = 0
    · subst e
      rw [if_pos rfl, jx_u_eq]
    · rw [if_neg e, jx_u_ni e, jd_fi_i hk]
theorem sv_0_to {I I2 : Nat → Nat → Int32} {s : Nat} {f : Int32} (h : sv_0 I s f) (hI : ∀ b j, 22 + 8 * s ≤ b → b < 22 + 8 * s + 8 → I2 b j = I b j) : sv_0 I2 s f := by
  obtain ⟨a, b, c, d⟩ := h
  exact ⟨by rw [hI _ _ (by omega) (by omega), a], fun k hk => by rw [hI _ _ (by omega) (by omega), b k hk], fun r hr => ⟨by rw [hI _ _ (by omega) (by omega), (c r hr).1], by rw [hI _ _ (by omega) (by omega), (c r hr).2]⟩, fun k hk => ⟨by rw [hI _ _ (by omega) (by omega), (d k hk).1], by rw [hI _ _ (by omega) (by omega), (d k hk).2.1], by rw [hI _ _ (by omega) (by omega), (d k hk).2.2]⟩⟩
theorem cn_0_to {I0 I I2 : Nat → Nat → Int32} {c : Nat} {f : Int32} (h : cn_0 I0 I c f) (hI : ∀ b j, 78 + 5 * c ≤ b → b < 78 + 5 * c + 5 → I2 b j = I b j) : cn_0 I0 I2 c f := by
  obtain ⟨a, b, d, e⟩ := h
  exact ⟨by rw [hI _ _ (by omega) (by omega), a], by rw [hI _ _ (by omega) (by omega), b], by rw [hI _ _ (by omega) (by omega), d], fun k hk => by rw [hI _ _ (by omega) (by omega), e k hk]⟩
/-- after the loops of restart -/
def rs_I (I I3 : Nat → Nat → Int32) (q : Nat) (f : Int32) : Prop := I3 3 5 = nI q ∧ I3 3 6 = 0 ∧ (∀ s, s < 7 → sv_0 I3 s f) ∧ (∀ c, c < 4 → cn_0 I I3 c f) ∧ ∀ b j, ¬ (b = 3 ∧ (j = 5 ∨ j = 6)) → b < 22 ∨ 98 ≤ b → I3 b j = I b j
def rs_P (P P3 : Nat → Nat → Option Nat) : Prop := (∀ b j, ¬ (78 ≤ b ∧ b < 98 ∧ j = 4) → P3 b j = P b j) ∧ ∀ c, c < 4 → P3 (78 + 5 * c) 4 = none
set_option maxHeartbeats 4000000 in
set_option maxRecDepth 100000 in
theorem rs_l1 {G : jx_G} {n ms : Nat} {K : Nat → Nat × Nat} {I0 : Nat → Nat → Int32} {P : Nat → Nat → Option Nat} {Q : Option jx_V → jx_M → Prop} {q : Nat} {f : Int32} (hcl : cl_ok K P) (kk : ∀ I x6, (∀ s, s < 7 → sv_0 I s f) → (∀ b j, b < 22 ∨ 78 ≤ b → I b j = I0 b j) → jx_J G yX8_restart cX8_restart 7 none 8 (Q) 47 [some (.inr (some 3)), some (.inl (nI q)), some (.inl f), some (.inr (some 4)), some (.inl (nI 7)), some (.inl (nI 7)), x6] [] (n, ms, K, I, P)) : ∀ g k I x6, k + g = 7 → (∀ s, s < k → sv_0 I s f) → (∀ b j, b < 22 ∨ 22 + 8 * k ≤ b → I b j = I0 b j) → jx_J G yX8_restart cX8_restart 7 none 8 (Q) 22 [some (.inr (some 3)), some (.inl (nI q)), some (.inl f), some (.inr (some 4)), some (.inl (nI 7)), some (.inl (nI k)), x6] [] (n, ms, K, I, P) := by
  obtain ⟨g0, g1, g2, g3, g4, g5, g6, g7, g8, g9, g10⟩ := id hcl
  intro g
  induction g with
  | zero =>
    intro k I x6 hk h1 h2
    have e0 : k = 7 := by omega
    subst e0
    refine jx_gq flok_X8 (fwok_X8 rfl) 47 4 _ _ _ _ ?_
    simp (disch := omega) only [↓reduceIte, jx_wp, jx_stp, jx_f0, jx_f1, jx_f2, jx_f3, List.getElem?_cons_zero, List.getElem?_cons_succ, List.set_cons_zero, List.set_cons_succ, Nat.reduceAdd, true_and, and_true, if_true, if_false, Bool.false_eq_true, jx_s, Nat.reduceLT, dX8_restart_0, dX8_restart_1, dX8_restart_2, dX8_restart_5, dX8_restart_6, dX8_restart_7, dX8_restart_10, dX8_restart_11, dX8_restart_14, dX8_restart_15, dX8_restart_16, dX8_restart_17, dX8_restart_19, dX8_restart_20, dX8_restart_22, dX8_restart_24, dX8_restart_26, dX8_restart_29, dX8_restart_30, dX8_restart_32, dX8_restart_33, dX8_restart_35, dX8_restart_37, dX8_restart_38, dX8_restart_41, dX8_restart_44, dX8_restart_47, dX8_restart_48, dX8_restart_51, dX8_restart_52, dX8_restart_53, dX8_restart_54, dX8_restart_56, dX8_restart_57, dX8_restart_59, dX8_restart_61, dX8_restart_63, dX8_restart_66, dX8_restart_67, dX8_restart_69, dX8_restart_70, dX8_restart_72, dX8_restart_74, dX8_restart_75, dX8_restart_78, dX8_restart_81, dX8_restart_84, dX8_restart_85, dX8_restart_88, dX8_restart_91, dX8_restart_92, dX8_restart_95, dX8_restart_98, fw_X8_65, ft_9_5, jx_k0, fw_X8_235, ft_9_6, fl_X8_11, ft_9_0, tg_26_21, jx_k1, tg_44_m22, fl_X8_17, ft_9_1, tg_63_21, tg_81_m22, fl_X8_24, ft_9_2, fl_X8_31, ft_9_3, jx_wq, jx_stq, jx_ite, jx_b0, jx_bn0, jx_u_eq, jx_u_na, jx_u_ni, jx_nb0, jx_nb1, jx_ni, jx_E, eq_self, jx_a0, jx_a1, ne_eq, not_false_eq_true, Nat.reduceLeDiff, Nat.reduceEqDiff, Nat.reduceLT, jx_subl, jx_al, jx_la, jx_nm, jx_ml, nI_add, jx_xn, jx_xl, jx_inn, jx_inl, jx_ltnn, jx_lenn, jx_eqnn, jx_ltnl, jx_lenl, jx_ltln, jx_leln, jx_eqnl, Int32.reduceAdd, Int32.reduceSub, Int32.reduceMul, Int32.reduceLT, Int32.reduceLE, jx_eqll, jx_ltll, Nat.reduceMul, Nat.reduceSub, forall_const, implies_true, false_implies, not_true_eq_false, true_implies, jx_tko, jx_ofn, jx_tka, jx_pro, jx_pra, and_self, Nat.not_lt_zero, jx_nbb, fv_9_5, fv_9_6, Nat.le_refl]
    exact kk I x6 h1 (fun b j w => h2 b j (by omega))
  | succ g ih =>
    intro k I x6 hk h1 h2
    have e1 : ¬ 7 ≤ k := by omega
    have hp4 := (g8 k (by omega)).1
    have hS := (g8 k (by omega)).2
    refine jx_gq flok_X8 (fwok_X8 rfl) 38 10 _ _ _ _ ?_
    simp (disch := omega) only [↓reduceIte, jx_wp, jx_stp, jx_f0, jx_f1, jx_f2, jx_f3, List.getElem?_cons_zero, List.getElem?_cons_succ, List.set_cons_zero, List.set_cons_succ, Nat.reduceAdd, true_and, and_true, if_true, if_false, Bool.false_eq_true, jx_s, Nat.reduceLT, dX8_restart_0, dX8_restart_1, dX8_restart_2, dX8_restart_5, dX8_restart_6, dX8_restart_7, dX8_restart_10, dX8_restart_11, dX8_restart_14, dX8_restart_15, dX8_restart_16, dX8_restart_17, dX8_restart_19, dX8_restart_20, dX8_restart_22, dX8_restart_24, dX8_restart_26, dX8_restart_29, dX8_restart_30, dX8_restart_32, dX8_restart_33, dX8_restart_35, dX8_restart_37, dX8_restart_38, dX8_restart_41, dX8_restart_44, dX8_restart_47, dX8_restart_48, dX8_restart_51, dX8_restart_52, dX8_restart_53, dX8_restart_54, dX8_restart_56, dX8_restart_57, dX8_restart_59, dX8_restart_61, dX8_restart_63, dX8_restart_66, dX8_restart_67, dX8_restart_69, dX8_restart_70, dX8_restart_72, dX8_restart_74, dX8_restart_75, dX8_restart_78, dX8_restart_81, dX8_restart_84, dX8_restart_85, dX8_restart_88, dX8_restart_91, dX8_restart_92, dX8_restart_95, dX8_restart_98, fw_X8_65, ft_9_5, jx_k0, fw_X8_235, ft_9_6, fl_X8_11, ft_9_0, tg_26_21, jx_k1, tg_44_m22, fl_X8_17, ft_9_1, tg_63_21, tg_81_m22, fl_X8_24, ft_9_2, fl_X8_31, ft_9_3, jx_wq, jx_stq, jx_ite, jx_b0, jx_bn0, jx_u_eq, jx_u_na, jx_u_ni, jx_nb0, jx_nb1, jx_ni, jx_E, eq_self, jx_a0, jx_a1, ne_eq, not_false_eq_true, Nat.reduceLeDiff, Nat.reduceEqDiff, Nat.reduceLT, jx_subl, jx_al, jx_la, jx_nm, jx_ml, nI_add, jx_xn, jx_xl, jx_inn, jx_inl, jx_ltnn, jx_lenn, jx_eqnn, jx_ltnl, jx_lenl, jx_ltln, jx_leln, jx_eqnl, Int32.reduceAdd, Int32.reduceSub, Int32.reduceMul, Int32.reduceLT, Int32.reduceLE, jx_eqll, jx_ltll, Nat.reduceMul, Nat.reduceSub, forall_const, implies_true, false_implies, not_true_eq_false, true_implies, jx_tko, jx_ofn, jx_tka, jx_pro, jx_pra, and_self, Nat.not_lt_zero, jx_nbb, fv_9_5, fv_9_6, e1, g1, hp4]
    refine jx_cV1 dX8_restart_38 li_X8_250 (sv_restart hS) (congrArg Prod.fst hS.1) (Nat.le_of_ble_eq_true rfl) (Nat.le_of_ble_eq_true rfl) ?_
    rintro _ _ ⟨rfl, rfl⟩ - -
    simp only [Option.toList_some, Option.toList_none, List.cons_append, List.nil_append]
    refine jx_gq flok_X8 (fwok_X8 rfl) 22 3 _ _ _ _ ?_
    simp (disch := omega) only [↓reduceIte, jx_wp, jx_stp, jx_f0, jx_f1, jx_f2, jx_f3, List.getElem?_cons_zero, List.getElem?_cons_succ, List.set_cons_zero, List.set_cons_succ, Nat.reduceAdd, true_and, and_true, if_true, if_false, Bool.false_eq_true, jx_s, Nat.reduceLT, dX8_restart_0, dX8_restart_1, dX8_restart_2, dX8_restart_5, dX8_restart_6, dX8_restart_7, dX8_restart_10, dX8_restart_11, dX8_restart_14, dX8_restart_15, dX8_restart_16, dX8_restart_17, dX8_restart_19, dX8_restart_20, dX8_restart_22, dX8_restart_24, dX8_restart_26, dX8_restart_29, dX8_restart_30, dX8_restart_32, dX8_restart_33, dX8_restart_35, dX8_restart_37, dX8_restart_38, dX8_restart_41, dX8_restart_44, dX8_restart_47, dX8_restart_48, dX8_restart_51, dX8_restart_52, dX8_restart_53, dX8_restart_54, dX8_restart_56, dX8_restart_57, dX8_restart_59, dX8_restart_61, dX8_restart_63, dX8_restart_66, dX8_restart_67, dX8_restart_69, dX8_restart_70, dX8_restart_72, dX8_restart_74, dX8_restart_75, dX8_restart_78, dX8_restart_81, dX8_restart_84, dX8_restart_85, dX8_restart_88, dX8_restart_91, dX8_restart_92, dX8_restart_95, dX8_restart_98, fw_X8_65, ft_9_5, jx_k0, fw_X8_235, ft_9_6, fl_X8_11, ft_9_0, tg_26_21, jx_k1, tg_44_m22, fl_X8_17, ft_9_1, tg_63_21, tg_81_m22, fl_X8_24, ft_9_2, fl_X8_31, ft_9_3, jx_wq, jx_stq, jx_ite, jx_b0, jx_bn0, jx_u_eq, jx_u_na, jx_u_ni, jx_nb0, jx_nb1, jx_ni, jx_E, eq_self, jx_a0, jx_a1, ne_eq, not_false_eq_true, Nat.reduceLeDiff, Nat.reduceEqDiff, Nat.reduceLT, jx_subl, jx_al, jx_la, jx_nm, jx_ml, nI_add, jx_xn, jx_xl, jx_inn, jx_inl, jx_ltnn, jx_lenn, jx_eqnn, jx_ltnl, jx_lenl, jx_ltln, jx_leln, jx_eqnl, Int32.reduceAdd, Int32.reduceSub, Int32.reduceMul, Int32.reduceLT, Int32.reduceLE, jx_eqll, jx_ltll, Nat.reduceMul, Nat.reduceSub, forall_const, implies_true, false_implies, not_true_eq_false, true_implies, jx_tko, jx_ofn, jx_tka, jx_pro, jx_pra, and_self, Nat.not_lt_zero, jx_nbb, fv_9_5, fv_9_6]
    refine ih (k + 1) _ _ (by omega) (fun s hs => ?_) (fun b j w => ?_)
    · by_cases e : s = k
      · subst e
        exact sv_rs_v
      · exact sv_0_to (h1 s (by omega)) (fun b j q1 q2 => sv_rs_o (by omega))
    · rw [sv_rs_o (by omega), h2 b j (by omega)]
set_option maxHeartbeats 4000000 in
set_option maxRecDepth 100000 in
theorem rs_l2 {G : jx_G} {n ms : Nat} {K : Nat → Nat × Nat} {I0 : Nat → Nat → Int32} {P0 : Nat → Nat → Option Nat} {Q : Option jx_V → jx_M → Prop} {q : Nat} {f : Int32} (hcl : cl_ok K P0) (kk : ∀ I P x6, (∀ c, c < 4 → cn_0 I0 I c f) → (∀ b j, b < 78 ∨ 98 ≤ b → I b j = I0 b j) → rs_P P0 P → jx_J G yX8_restart cX8_restart 7 none 8 (Q) 84 [some (.inr (some 3)), some (.inl (nI q)), some (.inl f), some (.inr (some 5)), some (.inl (nI 4)), some (.inl (nI 4)), x6] [] (n, ms, K, I, P)) : ∀ g k I P x6, k + g = 4 → (∀ c, c < k → cn_0 I0 I c f) → (∀ b j, b < 78 ∨ 78 + 5 * k ≤ b → I b j = I0 b j) → (∀ b j, ¬ (78 ≤ b ∧ b < 98 ∧ j = 4) → P b j = P0 b j) → (∀ c, c < k → P (78 + 5 * c) 4 = none) → jx_J G yX8_restart cX8_restart 7 none 8 (Q) 59 [some (.inr (some 3)), some (.inl (nI q)), some (.inl f), some (.inr (some 5)), some (.inl (nI 4)), some (.inl (nI k)), x6] [] (n, ms, K, I, P) := by
  intro g
  induction g with
  | zero =>
    intro k I P x6 hk h1 h2 h3 h4
    have e0 : k = 4 := by omega
    subst e0
    refine jx_gq flok_X8 (fwok_X8 rfl) 84 4 _ _ _ _ ?_
    simp (disch := omega) only [↓reduceIte, jx_wp, jx_stp, jx_f0, jx_f1, jx_f2, jx_f3, List.getElem?_cons_zero, List.getElem?_cons_succ, List.set_cons_zero, List.set_cons_succ, Nat.reduceAdd, true_and, and_true, if_true, if_false, Bool.false_eq_true, jx_s, Nat.reduceLT, dX8_restart_0, dX8_restart_1, dX8_restart_2, dX8_restart_5, dX8_restart_6, dX8_restart_7, dX8_restart_10, dX8_restart_11, dX8_restart_14, dX8_restart_15, dX8_restart_16, dX8_restart_17, dX8_restart_19, dX8_restart_20, dX8_restart_22, dX8_restart_24, dX8_restart_26, dX8_restart_29, dX8_restart_30, dX8_restart_32, dX8_restart_33, dX8_restart_35, dX8_restart_37, dX8_restart_38, dX8_restart_41, dX8_restart_44, dX8_restart_47, dX8_restart_48, dX8_restart_51, dX8_restart_52, dX8_restart_53, dX8_restart_54, dX8_restart_56, dX8_restart_57, dX8_restart_59, dX8_restart_61, dX8_restart_63, dX8_restart_66, dX8_restart_67, dX8_restart_69, dX8_restart_70, dX8_restart_72, dX8_restart_74, dX8_restart_75, dX8_restart_78, dX8_restart_81, dX8_restart_84, dX8_restart_85, dX8_restart_88, dX8_restart_91, dX8_restart_92, dX8_restart_95, dX8_restart_98, fw_X8_65, ft_9_5, jx_k0, fw_X8_235, ft_9_6, fl_X8_11, ft_9_0, tg_26_21, jx_k1, tg_44_m22, fl_X8_17, ft_9_1, tg_63_21, tg_81_m22, fl_X8_24, ft_9_2, fl_X8_31, ft_9_3, jx_wq, jx_stq, jx_ite, jx_b0, jx_bn0, jx_u_eq, jx_u_na, jx_u_ni, jx_nb0, jx_nb1, jx_ni, jx_E, eq_self, jx_a0, jx_a1, ne_eq, not_false_eq_true, Nat.reduceLeDiff, Nat.reduceEqDiff, Nat.reduceLT, jx_subl, jx_al, jx_la, jx_nm, jx_ml, nI_add, jx_xn, jx_xl, jx_inn, jx_inl, jx_ltnn, jx_lenn, jx_eqnn, jx_ltnl, jx_lenl, jx_ltln, jx_leln, jx_eqnl, Int32.reduceAdd, Int32.reduceSub, Int32.reduceMul, Int32.reduceLT, Int32.reduceLE, jx_eqll, jx_ltll, Nat.reduceMul, Nat.reduceSub, forall_const, implies_true, false_implies, not_true_eq_false, true_implies, jx_tko, jx_ofn, jx_tka, jx_pro, jx_pra, and_self, Nat.not_lt_zero, jx_nbb, fv_9_5, fv_9_6, Nat.le_refl]
    exact kk I P x6 h1 (fun b j w => h2 b j (by omega)) ⟨h3, h4⟩
  | succ g ih =>
    intro k I P x6 hk h1 h2 h3 h4
    have hcl2 : cl_ok K P := cl_ok_to hcl (fun _ _ _ => rfl) (fun b j q1 q2 q3 q4 q5 q6 q7 => h3 b j (by omega))
    obtain ⟨g0, g1, g2, g3, g4, g5, g6, g7, g8, g9, g10⟩ := id hcl2
    have e1 : ¬ 4 ≤ k := by omega
    have hp4 := (g9 k (by omega)).1
    have hS := (g9 k (by omega)).2
    refine jx_gq flok_X8 (fwok_X8 rfl) 75 10 _ _ _ _ ?_
    simp (disch := omega) only [↓reduceIte, jx_wp, jx_stp, jx_f0, jx_f1, jx_f2, jx_f3, List.getElem?_cons_zero, List.getElem?_cons_succ, List.set_cons_zero, List.set_cons_succ, Nat.reduceAdd, true_and, and_true, if_true, if_false, Bool.false_eq_true, jx_s, Nat.reduceLT, dX8_restart_0, dX8_restart_1, dX8_restart_2, dX8_restart_5, dX8_restart_6, dX8_restart_7, dX8_restart_10, dX8_restart_11, dX8_restart_14, dX8_restart_15, dX8_restart_16, dX8_restart_17, dX8_restart_19, dX8_restart_20, dX8_restart_22, dX8_restart_24, dX8_restart_26, dX8_restart_29, dX8_restart_30, dX8_restart_32, dX8_restart_33, dX8_restart_35, dX8_restart_37, dX8_restart_38, dX8_restart_41, dX8_restart_44, dX8_restart_47, dX8_restart_48, dX8_restart_51, dX8_restart_52, dX8_restart_53, dX8_restart_54, dX8_restart_56, dX8_restart_57, dX8_restart_59, dX8_restart_61, dX8_restart_63, dX8_restart_66, dX8_restart_67, dX8_restart_69, dX8_restart_70, dX8_restart_72, dX8_restart_74, dX8_restart_75, dX8_restart_78, dX8_restart_81, dX8_restart_84, dX8_restart_85, dX8_restart_88, dX8_restart_91, dX8_restart_92, dX8_restart_95, dX8_restart_98, fw_X8_65, ft_9_5, jx_k0, fw_X8_235, ft_9_6, fl_X8_11, ft_9_0, tg_26_21, jx_k1, tg_44_m22, fl_X8_17, ft_9_1, tg_63_21, tg_81_m22, fl_X8_24, ft_9_2, fl_X8_31, ft_9_3, jx_wq, jx_stq, jx_ite, jx_b0, jx_bn0, jx_u_eq, jx_u_na, jx_u_ni, jx_nb0, jx_nb1, jx_ni, jx_E, eq_self, jx_a0, jx_a1, ne_eq, not_false_eq_true, Nat.reduceLeDiff, Nat.reduceEqDiff, Nat.reduceLT, jx_subl, jx_al, jx_la, jx_nm, jx_ml, nI_add, jx_xn, jx_xl, jx_inn, jx_inl, jx_ltnn, jx_lenn, jx_eqnn, jx_ltnl, jx_lenl, jx_ltln, jx_leln, jx_eqnl, Int32.reduceAdd, Int32.reduceSub, Int32.reduceMul, Int32.reduceLT, Int32.reduceLE, jx_eqll, jx_ltll, Nat.reduceMul, Nat.reduceSub, forall_const, implies_true, false_implies, not_true_eq_false, true_implies, jx_tko, jx_ofn, jx_tka, jx_pro, jx_pra, and_self, Nat.not_lt_zero, jx_nbb, fv_9_5, fv_9_6, e1, g2, hp4]
    refine jx_cV1 dX8_restart_75 li_X8_252 (cn_restart hS) (congrArg Prod.fst hS.1) (Nat.le_of_ble_eq_true rfl) (Nat.le_of_ble_eq_true rfl) ?_
    rintro _ _ ⟨rfl, rfl⟩ - -
    simp only [Option.toList_some, Option.toList_none, List.cons_append, List.nil_append]
    refine jx_gq flok_X8 (fwok_X8 rfl) 59 3 _ _ _ _ ?_
    simp (disch := omega) only [↓reduceIte, jx_wp, jx_stp, jx_f0, jx_f1, jx_f2, jx_f3, List.getElem?_cons_zero, List.getElem?_cons_succ, List.set_cons_zero, List.set_cons_succ, Nat.reduceAdd, true_and, and_true, if_true, if_false, Bool.false_eq_true, jx_s, Nat.reduceLT, dX8_restart_0, dX8_restart_1, dX8_restart_2, dX8_restart_5, dX8_restart_6, dX8_restart_7, dX8_restart_10, dX8_restart_11, dX8_restart_14, dX8_restart_15, dX8_restart_16, dX8_restart_17, dX8_restart_19, dX8_restart_20, dX8_restart_22, dX8_restart_24, dX8_restart_26, dX8_restart_29, dX8_restart_30, dX8_restart_32, dX8_restart_33, dX8_restart_35, dX8_restart_37, dX8_restart_38, dX8_restart_41, dX8_restart_44, dX8_restart_47, dX8_restart_48, dX8_restart_51, dX8_restart_52, dX8_restart_53, dX8_restart_54, dX8_restart_56, dX8_restart_57, dX8_restart_59, dX8_restart_61, dX8_restart_63, dX8_restart_66, dX8_restart_67, dX8_restart_69, dX8_restart_70, dX8_restart_72, dX8_restart_74, dX8_restart_75, dX8_restart_78, dX8_restart_81, dX8_restart_84, dX8_restart_85, dX8_restart_88, dX8_restart_91, dX8_restart_92, dX8_restart_95, dX8_restart_98, fw_X8_65, ft_9_5, jx_k0, fw_X8_235, ft_9_6, fl_X8_11, ft_9_0, tg_26_21, jx_k1, tg_44_m22, fl_X8_17, ft_9_1, tg_63_21, tg_81_m22, fl_X8_24, ft_9_2, fl_X8_31, ft_9_3, jx_wq, jx_stq, jx_ite, jx_b0, jx_bn0, jx_u_eq, jx_u_na, jx_u_ni, jx_nb0, jx_nb1, jx_ni, jx_E, eq_self, jx_a0, jx_a1, ne_eq, not_false_eq_true, Nat.reduceLeDiff, Nat.reduceEqDiff, Nat.reduceLT, jx_subl, jx_al, jx_la, jx_nm, jx_ml, nI_add, jx_xn, jx_xl, jx_inn, jx_inl, jx_ltnn, jx_lenn, jx_eqnn, jx_ltnl, jx_lenl, jx_ltln, jx_leln, jx_eqnl, Int32.reduceAdd, Int32.reduceSub, Int32.reduceMul, Int32.reduceLT, Int32.reduceLE, jx_eqll, jx_ltll, Nat.reduceMul, Nat.reduceSub, forall_const, implies_true, false_implies, not_true_eq_false, true_implies, jx_tko, jx_ofn, jx_tka, jx_pro, jx_pra, and_self, Nat.not_lt_zero, jx_nbb, fv_9_5, fv_9_6]
    refine ih (k + 1) _ _ _ (by omega) (fun c hc => ?_) (fun b j w => ?_) (fun b j w => ?_) (fun c hc => ?_)
    · by_cases e : c = k
      · subst e
        obtain ⟨a, b, d, e⟩ := @cn_rs_v I c f
        exact ⟨by rw [a, h2 _ _ (by omega)], b, d, e⟩
      · exact cn_0_to (h1 c (by omega)) (fun b j q1 q2 => cn_rs_o (by omega))
    · rw [cn_rs_o (by omega), h2 b j (by omega)]
    · unfold jx_u
      rw [if_neg (by omega), h3 b j w]
    · by_cases e : c = k
      · subst e
        rw [jx_u_eq]
      · rw [jx_u_na (by omega), h4 c (by omega)]
set_option maxHeartbeats 4000000 in
set_option maxRecDepth 100000 in
theorem rs_main {G : jx_G} {n ms : Nat} {K : Nat → Nat × Nat} {I : Nat → Nat → Int32} {P : Nat → Nat → Option Nat} {Q : Option jx_V → jx_M → Prop} {q : Nat} {f : Int32} (hcl : cl_ok K P) (kk : ∀ I3 P3 x6, rs_I I I3 q f → rs_P P P3 → jx_J G yX8_restart cX8_restart 7 none 8 (Q) 84 [some (.inr (some 3)), some (.inl (nI q)), some (.inl f), some (.inr (some 5)), some (.inl (nI 4)), some (.inl (nI 4)), x6] [] (n, ms, K, I3, P3)) : jx_J G yX8_restart cX8_restart 7 none 8 (Q) 0 [some (.inr (some 3)), some (.inl (nI q)), some (.inl f), none, none, none, none] [] (n, ms, K, I, P) := by
  obtain ⟨g0, g1, g2, g3, g4, g5, g6, g7, g8, g9, g10⟩ := id hcl
  have i7 : Int32.ofNat 7 = nI 7 := rfl
  have i4 : Int32.ofNat 4 = nI 4 := rfl
  refine jx_gq flok_X8 (fwok_X8 rfl) 22 16 _ _ _ _ ?_
  simp (disch := omega) only [↓reduceIte, jx_wp, jx_stp, jx_f0, jx_f1, jx_f2, jx_f3, List.getElem?_cons_zero, List.getElem?_cons_succ, List.set_cons_zero, List.set_cons_succ, Nat.reduceAdd, true_and, and_true, if_true, if_false, Bool.false_eq_true, jx_s, Nat.reduceLT, dX8_restart_0, dX8_restart_1, dX8_restart_2, dX8_restart_5, dX8_restart_6, dX8_restart_7, dX8_restart_10, dX8_restart_11, dX8_restart_14, dX8_restart_15, dX8_restart_16, dX8_restart_17, dX8_restart_19, dX8_restart_20, dX8_restart_22, dX8_restart_24, dX8_restart_26, dX8_restart_29, dX8_restart_30, dX8_restart_32, dX8_restart_33, dX8_restart_35, dX8_restart_37, dX8_restart_38, dX8_restart_41, dX8_restart_44, dX8_restart_47, dX8_restart_48, dX8_restart_51, dX8_restart_52, dX8_restart_53, dX8_restart_54, dX8_restart_56, dX8_restart_57, dX8_restart_59, dX8_restart_61, dX8_restart_63, dX8_restart_66, dX8_restart_67, dX8_restart_69, dX8_restart_70, dX8_restart_72, dX8_restart_74, dX8_restart_75, dX8_restart_78, dX8_restart_81, dX8_restart_84, dX8_restart_85, dX8_restart_88, dX8_restart_91, dX8_restart_92, dX8_restart_95, dX8_restart_98, fw_X8_65, ft_9_5, jx_k0, fw_X8_235, ft_9_6, fl_X8_11, ft_9_0, tg_26_21, jx_k1, tg_44_m22, fl_X8_17, ft_9_1, tg_63_21, tg_81_m22, fl_X8_24, ft_9_2, fl_X8_31, ft_9_3, jx_wq, jx_stq, jx_ite, jx_b0, jx_bn0, jx_u_eq, jx_u_na, jx_u_ni, jx_nb0, jx_nb1, jx_ni, jx_E, eq_self, jx_a0, jx_a1, ne_eq, not_false_eq_true, Nat.reduceLeDiff, Nat.reduceEqDiff, Nat.reduceLT, jx_subl, jx_al, jx_la, jx_nm, jx_ml, nI_add, jx_xn, jx_xl, jx_inn, jx_inl, jx_ltnn, jx_lenn, jx_eqnn, jx_ltnl, jx_lenl, jx_ltln, jx_leln, jx_eqnl, Int32.reduceAdd, Int32.reduceSub, Int32.reduceMul, Int32.reduceLT, Int32.reduceLE, jx_eqll, jx_ltll, Nat.reduceMul, Nat.reduceSub, forall_const, implies_true, false_implies, not_true_eq_false, true_implies, jx_tko, jx_ofn, jx_tka, jx_pro, jx_pra, and_self, Nat.not_lt_zero, jx_nbb, fv_9_5, fv_9_6, g0, g1, g3]
  refine rs_l1 (I0 := jx_u (jx_u I 3 5 (nI q)) 3 6 0) hcl (fun I1 x6 q1 q2 => ?_) 7 0 _ _ (by omega) (fun s hs => absurd hs (by omega)) (fun _ _ _ => rfl)
  refine jx_gq flok_X8 (fwok_X8 rfl) 59 10 _ _ _ _ ?_
  simp (disch := omega) only [↓reduceIte, jx_wp, jx_stp, jx_f0, jx_f1, jx_f2, jx_f3, List.getElem?_cons_zero, List.getElem?_cons_succ, List.set_cons_zero, List.set_cons_succ, Nat.reduceAdd, true_and, and_true, if_true, if_false, Bool.false_eq_true, jx_s, Nat.reduceLT, dX8_restart_0, dX8_restart_1, dX8_restart_2, dX8_restart_5, dX8_restart_6, dX8_restart_7, dX8_restart_10, dX8_restart_11, dX8_restart_14, dX8_restart_15, dX8_restart_16, dX8_restart_17, dX8_restart_19, dX8_restart_20, dX8_restart_22, dX8_restart_24, dX8_restart_26, dX8_restart_29, dX8_restart_30, dX8_restart_32, dX8_restart_33, dX8_restart_35, dX8_restart_37, dX8_restart_38, dX8_restart_41, dX8_restart_44, dX8_restart_47, dX8_restart_48, dX8_restart_51, dX8_restart_52, dX8_restart_53, dX8_restart_54, dX8_restart_56, dX8_restart_57, dX8_restart_59, dX8_restart_61, dX8_restart_63, dX8_restart_66, dX8_restart_67, dX8_restart_69, dX8_restart_70, dX8_restart_72, dX8_restart_74, dX8_restart_75, dX8_restart_78, dX8_restart_81, dX8_restart_84, dX8_restart_85, dX8_restart_88, dX8_restart_91, dX8_restart_92, dX8_restart_95, dX8_restart_98, fw_X8_65, ft_9_5, jx_k0, fw_X8_235, ft_9_6, fl_X8_11, ft_9_0, tg_26_21, jx_k1, tg_44_m22, fl_X8_17, ft_9_1, tg_63_21, tg_81_m22, fl_X8_24, ft_9_2, fl_X8_31, ft_9_3, jx_wq, jx_stq, jx_ite, jx_b0, jx_bn0, jx_u_eq, jx_u_na, jx_u_ni, jx_nb0, jx_nb1, jx_ni, jx_E, eq_self, jx_a0, jx_a1, ne_eq, not_false_eq_true, Nat.reduceLeDiff, Nat.reduceEqDiff, Nat.reduceLT, jx_subl, jx_al, jx_la, jx_nm, jx_ml, nI_add, jx_xn, jx_xl, jx_inn, jx_inl, jx_ltnn, jx_lenn, jx_eqnn, jx_ltnl, jx_lenl, jx_ltln, jx_leln, jx_eqnl, Int32.reduceAdd, Int32.reduceSub, Int32.reduceMul, Int32.reduceLT, Int32.reduceLE, jx_eqll, jx_ltll, Nat.reduceMul, Nat.reduceSub, forall_const, implies_true, false_implies, not_true_eq_false, true_implies, jx_tko, jx_ofn, jx_tka, jx_pro, jx_pra, and_self, Nat.not_lt_zero, jx_nbb, fv_9_5, fv_9_6, g0, g2, g4]
  refine rs_l2 (I0 := I1) hcl (fun I2 P2 x6' q3 q4 q5 => kk I2 P2 _ ⟨?_, ?_, fun s hs => sv_0_to (q1 s hs) (fun b j w1 w2 => q4 b j (by omega)), fun c hc => ?_, fun b j w1 w2 => ?_⟩ q5) 4 0 _ _ _ (by omega) (fun s hs => absurd hs (by omega)) (fun _ _ _ => rfl) (fun _ _ _ => rfl) (fun s hs => absurd hs (by omega))
  · rw [q4 _ _ (by omega), q2 _ _ (by omega), jx_u_ni (by omega), jx_u_eq]
  · rw [q4 _ _ (by omega), q2 _ _ (by omega), jx_u_eq]
  · obtain ⟨a, b, d, e⟩ := q3 c hc
    exact ⟨by rw [a, q2 _ _ (by omega), jx_u_na (by omega), jx_u_na (by omega)], b, d, e⟩
  · rw [q4 _ _ (by omega), q2 _ _ (by omega), jx_u_no (by omega), jx_u_no (by omega)]
/-- the bag while restart moves what lies: the first k have gone to the spare ones -/
def br_ok (n ms : Nat) (K : Nat → Nat × Nat) (I : Nat → Nat → Int32) (P : Nat → Nat → Option Nat) (L : Nat → Nat) (x k : Nat) (S : Nat → Nat) (z e c e2 c2 : Nat) : Prop := bg_fx K P ∧ ls_ok n K I P 7 e c x L ∧ ls_ok n K I P 8 e2 c2 (z + k) S ∧ (e ≠ e2 ∨ e = 1) ∧ ms_in n K P L x ∧ ms_in n K P S (z + k) ∧ (∀ i j, i < x → j < x → L i = L j → i = j) ∧ (∀ i j, i < z + k → j < z + k → S i = S j → i = j) ∧ (∀ i j, k ≤ i → i < x → j < z + k → L i ≠ S j) ∧ 140 ≤ n
theorem br_c5 {n : Nat} {K : Nat → Nat × Nat} {P : Nat → Nat → Option Nat} {L : Nat → Nat} {x i : Nat} (h : ms_in n K P L x) (hi : i < x) : (K (L i)).1 = 4 ∧ L i < n := by
  obtain ⟨a, b, c⟩ := h i hi
  exact ⟨by rw [a.1], by omega⟩
