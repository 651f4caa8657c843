theorem ob_M_far {K : Nat → Nat × Nat} {P : Nat → Nat → Option Nat} {q r : Nat} (hq : ob_M K P q) (hr : ob_M K P r) (h : q ≠ r) : q + 5 ≤ r ∨ r + 5 ≤ q := by
  obtain ⟨k0, k1, k2, k3, k4, -⟩ := hq
  obtain ⟨m0, m1, m2, m3, m4, -⟩ := hr
  have e1 : r ≠ q + 1 := fun e => by rw [e, k1] at m0; simp at m0
  have e2 : r ≠ q + 2 := fun e => by rw [e, k2] at m0; simp at m0
  have e3 : r ≠ q + 3 := fun e => by rw [e, k3] at m0; simp at m0
  have e4 : r ≠ q + 4 := fun e => by rw [e, k4] at m0; simp at m0
  have f1 : q ≠ r + 1 := fun e => by rw [e, m1] at k0; simp at k0
  have f2 : q ≠ r + 2 := fun e => by rw [e, m2] at k0; simp at k0
  have f3 : q ≠ r + 3 := fun e => by rw [e, m3] at k0; simp at k0
  have f4 : q ≠ r + 4 := fun e => by rw [e, m4] at k0; simp at k0
  omega
theorem ob_M_e {K : Nat → Nat × Nat} {P : Nat → Nat → Option Nat} {q e c : Nat} (hq : ob_M K P q) (he : K e = (16, c)) : e < q ∨ q + 5 ≤ e := by
  obtain ⟨k0, k1, k2, k3, k4, -⟩ := hq
  have e0 : e ≠ q := fun h => by rw [h, k0] at he; simp at he
  have e1 : e ≠ q + 1 := fun h => by rw [h, k1] at he; simp at he
  have e2 : e ≠ q + 2 := fun h => by rw [h, k2] at he; simp at he
  have e3 : e ≠ q + 3 := fun h => by rw [h, k3] at he; simp at he
  have e4 : e ≠ q + 4 := fun h => by rw [h, k4] at he; simp at he
  omega
theorem ob_M_fr {K K2 : Nat → Nat × Nat} {P P2 : Nat → Nat → Option Nat} {q : Nat} (hq : ob_M K P q) (hK : ∀ b, q ≤ b → b < q + 5 → K2 b = K b) (hP : ∀ b j, q ≤ b → b < q + 2 → P2 b j = P b j) : ob_M K2 P2 q := by
  obtain ⟨k0, k1, k2, k3, k4, p0, p1, p2, p3⟩ := hq
  exact ⟨by rw [hK q (by omega) (by omega), k0], by rw [hK _ (by omega) (by omega), k1], by rw [hK _ (by omega) (by omega), k2], by rw [hK _ (by omega) (by omega), k3], by rw [hK _ (by omega) (by omega), k4], by rw [hP _ _ (by omega) (by omega), p0], by rw [hP _ _ (by omega) (by omega), p1], by rw [hP _ _ (by omega) (by omega), p2], by rw [hP _ _ (by omega) (by omega), p3]⟩
/-- x messages L, z messages S, all different -/
def ms_dj (L : Nat → Nat) (x : Nat) (S : Nat → Nat) (z : Nat) : Prop := (∀ i j, i < x → j < x → L i = L j → i = j) ∧ (∀ i j, i < z → j < z → S i = S j → i = j) ∧ ∀ i j, i < x → j < z → L i ≠ S j
def ms_in (n : Nat) (K : Nat → Nat × Nat) (P : Nat → Nat → Option Nat) (L : Nat → Nat) (x : Nat) : Prop := ∀ i, i < x → ob_M K P (L i) ∧ 140 ≤ L i ∧ L i + 5 ≤ n
def bg_fx (K : Nat → Nat × Nat) (P : Nat → Nat → Option Nat) : Prop := K 6 = (1, 3) ∧ P 6 0 = some 7 ∧ P 6 1 = some 8 ∧ K 7 = (0, 3) ∧ K 8 = (0, 3) ∧ K 1 = (16, 0)
/-- the bag: x messages L lie in it, z messages S are spare -/
def bg_ok (n : Nat) (K : Nat → Nat × Nat) (I : Nat → Nat → Int32) (P : Nat → Nat → Option Nat) (L : Nat → Nat) (x : Nat) (S : Nat → Nat) (z e c e2 c2 : Nat) : Prop := bg_fx K P ∧ ls_ok n K I P 7 e c x L ∧ ls_ok n K I P 8 e2 c2 z S ∧ (e ≠ e2 ∨ e = 1) ∧ ms_in n K P L x ∧ ms_in n K P S z ∧ ms_dj L x S z ∧ 140 ≤ n
/-- what post leaves -/
def bg_pq (n ms : Nat) (K : Nat → Nat × Nat) (I : Nat → Nat → Int32) (P : Nat → Nat → Option Nat) (L : Nat → Nat) (x : Nat) (S : Nat → Nat) (z e c e2 c2 : Nat) (kd s cl : Int32) (g : Nat) (w : Option jx_V) (M2 : jx_M) : Prop := ∃ q z2 n2 ms2 K2 I2 P2 e3 c3, w = some (.inr (some q)) ∧ M2 = (n2, ms2, K2, I2, P2) ∧ bg_ok n2 K2 I2 P2 (ls_up L x q) (x + 1) S z2 e3 c3 e2 c2
  ∧ ((z = z2 + 1 ∧ q = S z2) ∨ (z = 0 ∧ z2 = 0 ∧ q = n))
  ∧ (I2 q 3 = kd ∧ I2 q 4 = s ∧ I2 q 5 = cl ∧ I2 q 6 = 0 ∧ I2 q 7 = 0 ∧ I2 q 8 = 0 ∧ (∀ j, j < 3 → I2 (q + 3) j = 0 ∧ I2 (q + 4) j = 0) ∧ ∀ j, j < 6 → I2 (q + 2) j = I g j)
  ∧ I2 6 2 = I 6 2 + 1
  ∧ (∀ b, b < n → K2 b = K b) ∧ (∀ b j, b < n → b ≠ 6 → b ≠ 7 → b ≠ 8 → (b < q ∨ q + 5 ≤ b) → I2 b j = I b j) ∧ (∀ b j, b < n → b ≠ 7 → b ≠ 8 → b ≠ e → b ≠ e2 → P2 b j = P b j) ∧ (∀ j, j ≠ 2 → I2 6 j = I 6 j)
  ∧ n2 + 5 * (x + z) + c ≤ n + 5 * (x + 1 + z2) + c3 ∧ ms2 + 22 * (x + z) + 4 * c ≤ ms + 22 * (x + 1 + z2) + 4 * c3
theorem sm_cp_na {I : Nat → Nat → Int32} {e g b j : Nat} (h : b ≠ e) : sm_cp I e g b j = I b j := if_neg (fun q => h q.1)
theorem sm_cp_lt {I : Nat → Nat → Int32} {e g j : Nat} (h : j < 6) : sm_cp I e g e j = I g j := if_pos ⟨rfl, h⟩
theorem bg_cap {c : Nat} : c + 1 ≤ jd_cap c ∧ jd_cap c + 4 * c ≤ 4 * jd_cap c := by
  unfold jd_cap
  split <;> omega
theorem ls_ok_I {n : Nat} {K : Nat → Nat × Nat} {I I2 : Nat → Nat → Int32} {P : Nat → Nat → Option Nat} {a e c x : Nat} {L : Nat → Nat} (h : ls_ok n K I P a e c x L) (q : I2 a 2 = I a 2) : ls_ok n K I2 P a e c x L := by
  obtain ⟨a1, a2, a3, a4⟩ := h
  exact ⟨a1, a2, q.trans a3, a4⟩
def bg_pt (I : Nat → Nat → Int32) (q g : Nat) (kd s cl : Int32) : Nat → Nat → Int32 := sm_cp (jx_u (jx_u (jx_u (jx_u (jx_u (jx_u (jd_fi (jd_fi I (q + 3) 0 3) (q + 4) 0 3) q 6 0) q 7 0) q 8 0) q 3 kd) q 4 s) q 5 cl) (q + 2) g
theorem bg_pt_na {I : Nat → Nat → Int32} {q g a j : Nat} {kd s cl : Int32} (h : a < q ∨ q + 5 ≤ a) : bg_pt I q g kd s cl a j = I a j := by
  unfold bg_pt
  simp (disch := omega) only [sm_cp_na, jx_u_na, jd_fi_na]
theorem bg_pt_q {I : Nat → Nat → Int32} {q g : Nat} {kd s cl : Int32} (h : g < q) : bg_pt I q g kd s cl q 3 = kd ∧ bg_pt I q g kd s cl q 4 = s ∧ bg_pt I q g kd s cl q 5 = cl ∧ bg_pt I q g kd s cl q 6 = 0 ∧ bg_pt I q g kd s cl q 7 = 0 ∧ bg_pt I q g kd s cl q 8 = 0 ∧ (∀ j, j < 3 → bg_pt I q g kd s cl (q + 3) j = 0 ∧ bg_pt I q g kd s cl (q + 4) j = 0) ∧ ∀ j, j < 6 → bg_pt I q g kd s cl (q + 2) j = I g j := by
  unfold bg_pt
  refine ⟨?_, ?_, ?_, ?_, ?_, ?_, fun j hj => ⟨?_, ?_⟩, fun j hj => ?_⟩
  · simp (disch := omega) only [sm_cp_na, jx_u_na, jx_u_ni, jx_u_eq]
  · simp (disch := omega) only [sm_cp_na, jx_u_na, jx_u_ni, jx_u_eq]
  · simp (disch := omega) only [sm_cp_na, jx_u_na, jx_u_ni, jx_u_eq]
  · simp (disch := omega) only [sm_cp_na, jx_u_na, jx_u_ni, jx_u_eq]
  · simp (disch := omega) only [sm_cp_na, jx_u_na, jx_u_ni, jx_u_eq]
  · simp (disch := omega) only [sm_cp_na, jx_u_na, jx_u_ni, jx_u_eq]
  · simp (disch := omega) only [sm_cp_na, jx_u_na, jd_fi_na, jd_fi_lt]
  · simp (disch := omega) only [sm_cp_na, jx_u_na, jd_fi_na, jd_fi_lt]
  · simp (disch := omega) only [sm_cp_lt, jx_u_na, jd_fi_na]
set_option maxHeartbeats 4000000 in
set_option maxRecDepth 100000 in
theorem bg_post_t {G : jx_G} {n ms : Nat} {K : Nat → Nat × Nat} {I : Nat → Nat → Int32} {P : Nat → Nat → Option Nat} {Q : Option jx_V → jx_M → Prop} {L S : Nat → Nat} {x z e c e2 c2 q : Nat} {x5 : Option jx_V} {b g : Nat} (hb : K b = (8, 1)) (hg : P b 0 = some g) (hg6 : K g = (11, 6)) (hgb : g < 140) (hg3 : 3 ≤ g) {kd s cl : Int32} (hB : bg_ok n K I P L x S z e c e2 c2) (hx : x ≤ 16000) (hq : ob_M K P q) (hq1 : 140 ≤ q) (hqn : q + 5 ≤ n) (hqL : ∀ i, i < x → L i ≠ q) (hqS : ∀ i, i < z → S i ≠ q) (hn : n + 1 ≤ 600003) (hms : ms + 24010 ≤ 7302250)
    (kk : ∀ n2 ms2 K2 I2 P2 e3 c3, bg_ok n2 K2 I2 P2 (ls_up L x q) (x + 1) S z e3 c3 e2 c2 → (I2 q 3 = kd ∧ I2 q 4 = s ∧ I2 q 5 = cl ∧ I2 q 6 = 0 ∧ I2 q 7 = 0 ∧ I2 q 8 = 0 ∧ (∀ j, j < 3 → I2 (q + 3) j = 0 ∧ I2 (q + 4) j = 0) ∧ ∀ j, j < 6 → I2 (q + 2) j = I g j) → I2 6 2 = I 6 2 + 1 → (∀ b, b < n → K2 b = K b) → (∀ b j, b < n → b ≠ 6 → b ≠ 7 → b ≠ 8 → (b < q ∨ q + 5 ≤ b) → I2 b j = I b j) → (∀ b j, b < n → b ≠ 7 → b ≠ 8 → b ≠ e → b ≠ e2 → P2 b j = P b j) → (∀ j, j ≠ 2 → I2 6 j = I 6 j) → n2 + c ≤ n + c3 → ms2 + 4 * c ≤ ms + 4 * c3 → Q (some (.inr (some q))) (n2, ms2, K2, I2, P2)) : jx_J G yX0_post cX0_post 6 (some (FieldType.object "RegisterFleet$Message")) 7 (Q) 46 [some (.inr (some 6)), some (.inl kd), some (.inl s), some (.inl cl), some (.inr (some b)), x5] [.inr (some q)] (n, ms, K, I, P) := by
  obtain ⟨⟨f0, f1, f2, f3, f4, f5⟩, hl1, hl2, hee, hm1, hm2, hdj, h140⟩ := hB
  obtain ⟨k0, k1, k2, k3, k4, p0, p1, p2, p3⟩ := id hq
  refine jx_gq flok_X0 (fwok_X0 rfl) 99999 3 _ _ _ _ ?_
  simp (disch := omega) only [↓reduceIte, jx_wp, jx_stp, jx_f0, jx_f1, jx_f2, jx_f3, List.getElem?_cons_zero, List.getElem?_cons_succ, List.set_cons_zero, List.set_cons_succ, Nat.reduceAdd, true_and, and_true, if_true, if_false, Bool.false_eq_true, jx_s, Nat.reduceLT, dX0_post_0, dX0_post_1, dX0_post_4, dX0_post_7, dX0_post_10, dX0_post_13, dX0_post_14, dX0_post_17, dX0_post_18, dX0_post_21, dX0_post_24, dX0_post_27, dX0_post_28, dX0_post_31, dX0_post_32, dX0_post_35, dX0_post_38, dX0_post_39, dX0_post_40, dX0_post_43, dX0_post_46, dX0_post_48, dX0_post_50, dX0_post_53, dX0_post_55, dX0_post_56, dX0_post_59, dX0_post_61, dX0_post_62, dX0_post_65, dX0_post_67, dX0_post_68, dX0_post_71, dX0_post_73, dX0_post_76, dX0_post_78, dX0_post_81, dX0_post_82, dX0_post_85, dX0_post_87, dX0_post_90, dX0_post_91, dX0_post_92, dX0_post_93, dX0_post_96, dX0_post_97, dX0_post_98, dX0_post_101, dX0_post_103, fl_X0_16, ft_1_1, tg_7_20, tg_24_22, jx_k1, fw_X0_54, ft_4_3, fw_X0_57, ft_4_4, fw_X0_60, ft_4_5, fl_X0_63, ft_4_0, fl_X0_10, ft_1_0, fl_X0_36, ft_1_2, fw_X0_36, jx_wq, jx_stq, jx_ite, jx_b0, jx_bn0, jx_u_eq, jx_u_na, jx_u_ni, jx_nb0, jx_nb1, jx_ni, jx_E, eq_self, jx_a0, jx_a1, ne_eq, not_false_eq_true, Nat.reduceLeDiff, Nat.reduceEqDiff, Nat.reduceLT, jx_subl, jx_al, jx_la, jx_nm, jx_ml, nI_add, jx_xn, jx_xl, jx_inn, jx_inl, jx_ltnn, jx_lenn, jx_eqnn, jx_ltnl, jx_lenl, jx_ltln, jx_leln, jx_eqnl, Int32.reduceAdd, Int32.reduceSub, Int32.reduceMul, Int32.reduceLT, Int32.reduceLE, jx_eqll, jx_ltll, Nat.reduceMul, Nat.reduceSub, forall_const, implies_true, false_implies, not_true_eq_false, true_implies, jx_tko, jx_ofn, jx_tka, jx_pro, jx_pra, and_self, Nat.not_lt_zero, jx_nbb, fv_4_3, fv_4_4, fv_4_5, fv_1_2, k0, k1, k2, k3, k4, p0, p1, p2, p3, f0, f1, f2, f3, f4, ms_10]
  refine jx_cV0 dX0_post_50 li_X0_53 (ms_clear hq) (congrArg Prod.fst k0) (Nat.le_of_ble_eq_true rfl) (Nat.le_of_ble_eq_true rfl) ?_
  rintro _ _ ⟨rfl, rfl⟩ - -
  simp only [Option.toList_some, Option.toList_none, List.cons_append, List.nil_append]
  refine jx_gq flok_X0 (fwok_X0 rfl) 99999 12 _ _ _ _ ?_
  simp (disch := omega) only [↓reduceIte, jx_wp, jx_stp, jx_f0, jx_f1, jx_f2, jx_f3, List.getElem?_cons_zero, List.getElem?_cons_succ, List.set_cons_zero, List.set_cons_succ, Nat.reduceAdd, true_and, and_true, if_true, if_false, Bool.false_eq_true, jx_s, Nat.reduceLT, dX0_post_0, dX0_post_1, dX0_post_4, dX0_post_7, dX0_post_10, dX0_post_13, dX0_post_14, dX0_post_17, dX0_post_18, dX0_post_21, dX0_post_24, dX0_post_27, dX0_post_28, dX0_post_31, dX0_post_32, dX0_post_35, dX0_post_38, dX0_post_39, dX0_post_40, dX0_post_43, dX0_post_46, dX0_post_48, dX0_post_50, dX0_post_53, dX0_post_55, dX0_post_56, dX0_post_59, dX0_post_61, dX0_post_62, dX0_post_65, dX0_post_67, dX0_post_68, dX0_post_71, dX0_post_73, dX0_post_76, dX0_post_78, dX0_post_81, dX0_post_82, dX0_post_85, dX0_post_87, dX0_post_90, dX0_post_91, dX0_post_92, dX0_post_93, dX0_post_96, dX0_post_97, dX0_post_98, dX0_post_101, dX0_post_103, fl_X0_16, ft_1_1, tg_7_20, tg_24_22, jx_k1, fw_X0_54, ft_4_3, fw_X0_57, ft_4_4, fw_X0_60, ft_4_5, fl_X0_63, ft_4_0, fl_X0_10, ft_1_0, fl_X0_36, ft_1_2, fw_X0_36, jx_wq, jx_stq, jx_ite, jx_b0, jx_bn0, jx_u_eq, jx_u_na, jx_u_ni, jx_nb0, jx_nb1, jx_ni, jx_E, eq_self, jx_a0, jx_a1, ne_eq, not_false_eq_true, Nat.reduceLeDiff, Nat.reduceEqDiff, Nat.reduceLT, jx_subl, jx_al, jx_la, jx_nm, jx_ml, nI_add, jx_xn, jx_xl, jx_inn, jx_inl, jx_ltnn, jx_lenn, jx_eqnn, jx_ltnl, jx_lenl, jx_ltln, jx_leln, jx_eqnl, Int32.reduceAdd, Int32.reduceSub, Int32.reduceMul, Int32.reduceLT, Int32.reduceLE, jx_eqll, jx_ltll, Nat.reduceMul, Nat.reduceSub, forall_const, implies_true, false_implies, not_true_eq_false, true_implies, jx_tko, jx_ofn, jx_tka, jx_pro, jx_pra, and_self, Nat.not_lt_zero, jx_nbb, fv_4_3, fv_4_4, fv_4_5, fv_1_2, k0, k1, k2, k3, k4, p0, p1, p2, p3, f0, f1, f2, f3, f4, ms_10]
  refine jx_cV1 dX0_post_78 li_X0_67 (sm_copyFrom k1 p3 k2 hb hg hg6 (by omega) hg3) (congrArg Prod.fst k1) (Nat.le_of_ble_eq_true rfl) (Nat.le_of_ble_eq_true rfl) ?_
  rintro _ _ ⟨rfl, rfl⟩ - -
  simp only [Option.toList_some, Option.toList_none, List.cons_append, List.nil_append]
  refine jx_gq flok_X0 (fwok_X0 rfl) 99999 4 _ _ _ _ ?_
  simp (disch := omega) only [↓reduceIte, jx_wp, jx_stp, jx_f0, jx_f1, jx_f2, jx_f3, List.getElem?_cons_zero, List.getElem?_cons_succ, List.set_cons_zero, List.set_cons_succ, Nat.reduceAdd, true_and, and_true, if_true, if_false, Bool.false_eq_true, jx_s, Nat.reduceLT, dX0_post_0, dX0_post_1, dX0_post_4, dX0_post_7, dX0_post_10, dX0_post_13, dX0_post_14, dX0_post_17, dX0_post_18, dX0_post_21, dX0_post_24, dX0_post_27, dX0_post_28, dX0_post_31, dX0_post_32, dX0_post_35, dX0_post_38, dX0_post_39, dX0_post_40, dX0_post_43, dX0_post_46, dX0_post_48, dX0_post_50, dX0_post_53, dX0_post_55, dX0_post_56, dX0_post_59, dX0_post_61, dX0_post_62, dX0_post_65, dX0_post_67, dX0_post_68, dX0_post_71, dX0_post_73, dX0_post_76, dX0_post_78, dX0_post_81, dX0_post_82, dX0_post_85, dX0_post_87, dX0_post_90, dX0_post_91, dX0_post_92, dX0_post_93, dX0_post_96, dX0_post_97, dX0_post_98, dX0_post_101, dX0_post_103, fl_X0_16, ft_1_1, tg_7_20, tg_24_22, jx_k1, fw_X0_54, ft_4_3, fw_X0_57, ft_4_4, fw_X0_60, ft_4_5, fl_X0_63, ft_4_0, fl_X0_10, ft_1_0, fl_X0_36, ft_1_2, fw_X0_36, jx_wq, jx_stq, jx_ite, jx_b0, jx_bn0, jx_u_eq, jx_u_na, jx_u_ni, jx_nb0, jx_nb1, jx_ni, jx_E, eq_self, jx_a0, jx_a1, ne_eq, not_false_eq_true, Nat.reduceLeDiff, Nat.reduceEqDiff, Nat.reduceLT, jx_subl, jx_al, jx_la, jx_nm, jx_ml, nI_add, jx_xn, jx_xl, jx_inn, jx_inl, jx_ltnn, jx_lenn, jx_eqnn, jx_ltnl, jx_lenl, jx_ltln, jx_leln, jx_eqnl, Int32.reduceAdd, Int32.reduceSub, Int32.reduceMul, Int32.reduceLT, Int32.reduceLE, jx_eqll, jx_ltll, Nat.reduceMul, Nat.reduceSub, forall_const, implies_true, false_implies, not_true_eq_false, true_implies, jx_tko, jx_ofn, jx_tka, jx_pro, jx_pra, and_self, Nat.not_lt_zero, jx_nbb, fv_4_3, fv_4_4, fv_4_5, fv_1_2, k0, k1, k2, k3, k4, p0, p1, p2, p3, f0, f1, f2, f3, f4, ms_10]
  rw [show sm_cp (jx_u (jx_u (jx_u (jx_u (jx_u (jx_u (jd_fi (jd_fi I (q + 3) 0 3) (q + 4) 0 3) q 6 0) q 7 0) q 8 0) q 3 kd) q 4 s) q 5 cl) (q + 2) g = bg_pt I q g kd s cl from rfl]
  have hl1' : ls_ok n K (bg_pt I q g kd s cl) P 7 e c x L := ls_ok_I hl1 (bg_pt_na (by omega))
  refine jx_cV1 dX0_post_87 li_X0_29 (ls_add f3 f5 hl1' hx (fun i hi => ⟨by rw [(hm1 i hi).1.1], by have := (hm1 i hi).2.2; omega⟩) (by rw [k0]) (by omega) (by omega) h140 hn hms) (congrArg Prod.fst f3) (Nat.le_of_ble_eq_true rfl) (Nat.le_of_ble_eq_true rfl) ?_
  rintro _ _ ⟨rfl, n2, ms2, K2, I2, P2, e3, c3, rfl, hl3, hf1, hf2, hf3, hf4, hf5⟩ - -
  simp only [Option.toList_some, Option.toList_none, List.cons_append, List.nil_append]
  have k6 : K2 6 = (1, 3) := by rw [hf1 6 (by omega), f0]
  refine jx_gq flok_X0 (fwok_X0 rfl) 99999 10 _ _ _ _ ?_
  simp (disch := omega) only [↓reduceIte, jx_wp, jx_stp, jx_f0, jx_f1, jx_f2, jx_f3, List.getElem?_cons_zero, List.getElem?_cons_succ, List.set_cons_zero, List.set_cons_succ, Nat.reduceAdd, true_and, and_true, if_true, if_false, Bool.false_eq_true, jx_s, Nat.reduceLT, dX0_post_0, dX0_post_1, dX0_post_4, dX0_post_7, dX0_post_10, dX0_post_13, dX0_post_14, dX0_post_17, dX0_post_18, dX0_post_21, dX0_post_24, dX0_post_27, dX0_post_28, dX0_post_31, dX0_post_32, dX0_post_35, dX0_post_38, dX0_post_39, dX0_post_40, dX0_post_43, dX0_post_46, dX0_post_48, dX0_post_50, dX0_post_53, dX0_post_55, dX0_post_56, dX0_post_59, dX0_post_61, dX0_post_62, dX0_post_65, dX0_post_67, dX0_post_68, dX0_post_71, dX0_post_73, dX0_post_76, dX0_post_78, dX0_post_81, dX0_post_82, dX0_post_85, dX0_post_87, dX0_post_90, dX0_post_91, dX0_post_92, dX0_post_93, dX0_post_96, dX0_post_97, dX0_post_98, dX0_post_101, dX0_post_103, fl_X0_16, ft_1_1, tg_7_20, tg_24_22, jx_k1, fw_X0_54, ft_4_3, fw_X0_57, ft_4_4, fw_X0_60, ft_4_5, fl_X0_63, ft_4_0, fl_X0_10, ft_1_0, fl_X0_36, ft_1_2, fw_X0_36, jx_wq, jx_stq, jx_ite, jx_b0, jx_bn0, jx_u_eq, jx_u_na, jx_u_ni, jx_nb0, jx_nb1, jx_ni, jx_E, eq_self, jx_a0, jx_a1, ne_eq, not_false_eq_true, Nat.reduceLeDiff, Nat.reduceEqDiff, Nat.reduceLT, jx_subl, jx_al, jx_la, jx_nm, jx_ml, nI_add, jx_xn, jx_xl, jx_inn, jx_inl, jx_ltnn, jx_lenn, jx_eqnn, jx_ltnl, jx_lenl, jx_ltln, jx_leln, jx_eqnl, Int32.reduceAdd, Int32.reduceSub, Int32.reduceMul, Int32.reduceLT, Int32.reduceLE, jx_eqll, jx_ltll, Nat.reduceMul, Nat.reduceSub, forall_const, implies_true, false_implies, not_true_eq_false, true_implies, jx_tko, jx_ofn, jx_tka, jx_pro, jx_pra, and_self, Nat.not_lt_zero, jx_nbb, fv_4_3, fv_4_4, fv_4_5, fv_1_2, k0, k1, k2, k3, k4, p0, p1, p2, p3, f0, f1, f2, f3, f4, ms_10, k6]
  obtain ⟨q0, q1, q2, q3, q4, q5, q6, q7⟩ := bg_pt_q (I := I) (q := q) (g := g) (kd := kd) (s := s) (cl := cl) (by omega)
  have he1 := hl1.2.1
  have he2 := hl2.2.1
  have hen := hl1.2.2.2.2.2.2.1
  have hen2 := hl2.2.2.2.2.2.2.1
  have hce := hl2.2.2.2.1
  have hz1 : e2 = 1 → c2 = 0 := fun h => by
    rw [h, f5] at he2
    simp at he2
    exact he2.symm
  have n67 : e ≠ 6 := fun h => by rw [h, f0] at he1; simp at he1
  have n68 : e ≠ 8 := fun h => by rw [h, f4] at he1; simp at he1
  have n78 : e2 ≠ 7 := fun h => by rw [h, f3] at he2; simp at he2
  have hI : ∀ b j, b < n → b ≠ 6 → b ≠ 7 → b ≠ 8 → (b < q ∨ q + 5 ≤ b) → jx_u I2 6 2 (I2 6 2 + 1) b j = I b j := fun b j h1 h2 h3 h4 h5 => by
    rw [jx_u_na h2, hf2 b j h1 h3, bg_pt_na h5]
  have h6 : I2 6 2 = I 6 2 := by rw [hf2 6 2 (by omega) (by decide), bg_pt_na (by omega)]
  have hw : ∀ b j, q ≤ b → b < q + 5 → jx_u I2 6 2 (I2 6 2 + 1) b j = bg_pt I q g kd s cl b j := fun b j h1 h2 => by
    rw [jx_u_na (by omega), hf2 b j (by omega) (by omega)]
  have hmi : ∀ (N : Nat → Nat) (k : Nat), ms_in n K P N k → ms_in n2 K2 P2 N k := fun N k h i hi => by
    obtain ⟨g1, g2, g3⟩ := h i hi
    have g4 := ob_M_e g1 he1
    refine ⟨ob_M_fr g1 (fun b h1 h2 => hf1 b (by omega)) (fun b j h1 h2 => hf3 b j (by omega) (by omega) (by omega)), g2, by omega⟩
  have hqe := ob_M_e hq he1
  have hq2 : ob_M K2 P2 q := ob_M_fr hq (fun b h1 h2 => hf1 b (by omega)) (fun b j h1 h2 => hf3 b j (by omega) (by omega) (by omega))
  refine kk n2 ms2 K2 _ P2 e3 c3 ⟨⟨k6, ?_, ?_, ?_, ?_, ?_⟩, ls_ok_I hl3 (jx_u_na (by decide)), ?_, ?_, ?_, hmi S z hm2, ?_, by omega⟩ ⟨?_, ?_, ?_, ?_, ?_, ?_, ?_, ?_⟩ ?_ hf1 hI (fun b j h1 h2 _ h3 _ => hf3 b j h1 h2 h3) ?_ ?_ ?_
  · rw [hf3 6 0 (by omega) (by decide) (by omega), f1]
  · rw [hf3 6 1 (by omega) (by decide) (by omega), f2]
  · rw [hf1 7 (by omega), f3]
  · rw [hf1 8 (by omega), f4]
  · rw [hf1 1 (by omega), f5]
  · obtain ⟨a1, a2, a3, a4, a5, a6, a7, a8⟩ := hl2
    refine ⟨by rw [hf3 8 1 (by omega) (by decide) (by omega), a1], by rw [hf1 e2 (by omega), a2], ?_, a4, a5, fun i hi => ?_, by omega, a8⟩
    · rw [jx_u_na (by decide), hf2 8 2 (by omega) (by decide), bg_pt_na (by omega), a3]
    · have hne : e2 ≠ e := fun h => by
        rcases hee with h2 | h2
        · exact h2 h.symm
        · have := hz1 (h.trans h2)
          omega
      rw [hf3 e2 i (by omega) n78 hne, a6 i hi]
  · rcases hf5 with h | h
    · rw [h.2.2.1]
      exact hee
    · left
      omega
  · intro i hi
    by_cases h : i = x
    · subst h
      rw [ls_up_eq]
      exact ⟨hq2, hq1, by omega⟩
    · rw [ls_up_lt (by omega)]
      exact hmi L x hm1 i (by omega)
  · obtain ⟨d1, d2, d3⟩ := hdj
    refine ⟨fun i j hi hj h => ?_, d2, fun i j hi hj => ?_⟩
    · by_cases h1 : i = x
      · by_cases h2 : j = x
        · omega
        · subst h1
          rw [ls_up_eq, ls_up_lt (by omega)] at h
          exact absurd h.symm (hqL j (by omega))
      · by_cases h2 : j = x
        · subst h2
          rw [ls_up_eq, ls_up_lt (by omega)] at h
          exact absurd h (hqL i (by omega))
        · rw [ls_up_lt (by omega), ls_up_lt (by omega)] at h
          exact d1 i j (by omega) (by omega) h
    · by_cases h1 : i = x
      · subst h1
        rw [ls_up_eq]
        exact (hqS j hj).symm
      · rw [ls_up_lt (by omega)]
        exact d3 i j (by omega) hj
  · rw [hw _ _ (by omega) (by omega), q0]
  · rw [hw _ _ (by omega) (by omega), q1]
  · rw [hw _ _ (by omega) (by omega), q2]
  · rw [hw _ _ (by omega) (by omega), q3]
  · rw [hw _ _ (by omega) (by omega), q4]
  · rw [hw _ _ (by omega) (by omega), q5]
  · intro j hj
    rw [hw _ _ (by omega) (by omega), hw _ _ (by omega) (by omega)]
    exact q6 j hj
  · intro j hj
    rw [hw _ _ (by omega) (by omega)]
    exact q7 j hj
  · rw [jx_u_eq, h6]
  · intro j hj
    rw [jx_u_ni hj, hf2 6 j (by omega) (by decide), bg_pt_na (by omega)]
  · have := @bg_cap c
    omega
  · have := @bg_cap c
    omega
