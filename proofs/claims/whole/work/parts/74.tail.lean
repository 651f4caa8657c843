theorem ck_to {J J2 : Nat → Nat → Int32} {B c o q : Nat} (h : ck_h J B c o q) (e : ∀ a j, (a = 98 ∧ j = 1) ∨ a = 99 ∨ a = 119 ∨ a = 121 ∨ a = 128 ∨ a = 134 ∨ a = 135 → J2 a j = J a j) (hp : J2 132 c = 1 ∨ J2 132 c = 2) (hz : bs (J2 131 c) 7) (h2 : J 119 o = 2 → bs (J2 137 (3 * c)) q ∧ 0 ≤ J2 136 (3 * c)) : ck_h J2 B c o q := by
  obtain ⟨a0, a1, a2, a3, a4, a5, a6, a7, a8, a9, a10, a11, a12⟩ := h
  unfold ck_h
  rw [e 128 c (by omega), e 98 1 (by omega), e 119 o (by omega), e 121 o (by omega), e 134 c (by omega), e 135 c (by omega)]
  refine ⟨a0, a1, a2, a3, a4, a5, hp, a7, fun k hk => by rw [e 99 _ (by omega)]; exact a8 k hk, fun w => ?_, a10, fun w => ⟨(a11 w).1, h2 w⟩, hz⟩
  obtain ⟨j, j1, j2, j3⟩ := a9 w
  exact ⟨j, j1, j2, by rw [e 99 _ (by omega)]; exact j3⟩
theorem am_F {J : Nat → Nat → Int32} {c o : Nat} {v : Int32} (a j : Nat) (h1 : 98 ≤ a) (h2 : a < 140) (h3 : ¬ (106 ≤ a ∧ a ≤ 118)) (h4 : ¬ (a = 98 ∧ (j = 9 ∨ j = 10))) (h5 : ¬ (a = 130 ∧ j = c)) : mo_am J c o v a j = J a j := by
  unfold mo_am
  rw [jx_u_no h5, jb_ak 7 a j h1 h2 h3 h4]
theorem ck_BA {J : Nat → Nat → Int32} {B c o q : Nat} (h : ck_h J B c o q) : ck_h (mo_BA J c o) B c o q := by
  unfold mo_BA
  refine ck_to h (fun a j w => am_F a j (by omega) (by omega) (by omega) (by omega) (by omega)) ?_ ?_ (fun w => ?_)
  · rw [am_F 132 c (by omega) (by omega) (by omega) (by omega) (by omega)]
    exact h.2.2.2.2.2.2.1
  · rw [am_F 131 c (by omega) (by omega) (by omega) (by omega) (by omega)]
    exact h.2.2.2.2.2.2.2.2.2.2.2.2
  · rw [am_F 136 _ (by omega) (by omega) (by omega) (by omega) (by omega), am_F 137 _ (by omega) (by omega) (by omega) (by omega) (by omega)]
    exact (h.2.2.2.2.2.2.2.2.2.2.2.1 w).2
theorem BA_many {J : Nat → Nat → Int32} {c o x : Nat} (hx : J 98 9 = nI x) (hb : x < 20000) : ∃ x2, x ≤ x2 ∧ x2 ≤ x + 7 ∧ mo_BA J c o 98 9 = nI x2 := by
  obtain ⟨x2, h1, h2, h3⟩ := rl_ak_many (c := c) (o := o) (y := mo_W J c o &&& (J 130 c ^^^ -1)) hx hb 7 (by omega)
  refine ⟨x2, h1, h2, ?_⟩
  unfold mo_BA mo_am
  rw [jx_u_no (by omega), h3]
def mo_TL (J : Nat → Nat → Int32) (c o : Nat) : Nat → Nat → Int32 := if mo_FU (mo_BA J c o) c o = true then mo_EN (mo_BA J c o) c o else mo_BA J c o
def mo_C1 (J : Nat → Nat → Int32) (c : Nat) : Nat → Nat → Int32 := if J 132 c = 1 then mo_b (mo_b (mo_b (mo_ct J c) c 0 (J 98 52) (J 98 53)) c 1 (J 98 54) (J 98 55)) c 2 (J 98 56) (J 98 57) else mo_ct J c
theorem mo_b_F {J : Nat → Nat → Int32} {c r a j : Nat} {t v : Int32} (h : ¬ ((a = 136 ∨ a = 137) ∧ j = 3 * c + r)) : mo_b J c r t v a j = J a j := by
  unfold mo_b
  split
  · rw [jx_u_no (by omega), jx_u_no (by omega)]
  · rfl
theorem mo_C1_F {J : Nat → Nat → Int32} {c a j : Nat} (h : ¬ (a = 131 ∧ j = c)) (h2 : ¬ ((a = 136 ∨ a = 137) ∧ 3 * c ≤ j ∧ j < 3 * c + 3)) : mo_C1 J c a j = J a j := by
  unfold mo_C1
  split
  · rw [mo_b_F (by omega), mo_b_F (by omega), mo_b_F (by omega)]
    exact jx_u_no h
  · exact jx_u_no h
theorem bs_1s : ∀ s, s < 7 → bs (1 <<< (nI s &&& 31)) 7 := fun s h => ⟨2 ^ s, Nat.pow_lt_pow_right (by decide) h, by
  have q : ∀ s, s < 7 → (1 : Int32) <<< (nI s &&& 31) = nI (2 ^ s) := by decide +kernel
  exact q s h⟩
theorem ck_C1 {J : Nat → Nat → Int32} {B c o q s : Nat} (h : ck_h J B c o q) (hs : J 98 48 = nI s) (h7 : s < 7) (hv : J 119 o = 2 → bs (J 98 53) q) : ck_h (mo_C1 J c) B c o q := by
  have hb := h.2.2.2.2.2.2.2.2.2.2.2.1
  refine ck_to h (fun a j w => mo_C1_F (by omega) (by omega)) ?_ ?_ (fun w => ?_)
  · rw [mo_C1_F (by omega) (by omega)]
    exact h.2.2.2.2.2.2.1
  · have e : mo_C1 J c 131 c = J 131 c ||| 1 <<< (J 98 48 &&& 31) := by
      unfold mo_C1
      split
      · rw [mo_b_F (by omega), mo_b_F (by omega), mo_b_F (by omega)]
        exact jx_u_eq _ _ _ _
      · exact jx_u_eq _ _ _ _
    rw [e, hs]
    exact bs_or h.2.2.2.2.2.2.2.2.2.2.2.2 (bs_1s s h7)
  · have e6 : mo_ct J c 136 (3 * c + 0) = J 136 (3 * c) := jx_u_no (by omega)
    have e7 : mo_ct J c 137 (3 * c) = J 137 (3 * c) := jx_u_no (by omega)
    have e8 : mo_ct J c 136 (3 * c) = J 136 (3 * c) := jx_u_no (by omega)
    unfold mo_C1
    split
    · have f : ∀ a, mo_b (mo_b (mo_b (mo_ct J c) c 0 (J 98 52) (J 98 53)) c 1 (J 98 54) (J 98 55)) c 2 (J 98 56) (J 98 57) a (3 * c) = mo_b (mo_ct J c) c 0 (J 98 52) (J 98 53) a (3 * c) := fun a => by rw [mo_b_F (by omega), mo_b_F (by omega)]
      rw [f, f]
      unfold mo_b
      rw [e6]
      by_cases z : J 136 (3 * c) < J 98 52
      · rw [if_pos z]
        have z1 : jx_u (jx_u (mo_ct J c) 136 (3 * c + 0) (J 98 52)) 137 (3 * c + 0) (J 98 53) 137 (3 * c) = J 98 53 := jx_u_eq _ _ _ _
        have z2 : jx_u (jx_u (mo_ct J c) 136 (3 * c + 0) (J 98 52)) 137 (3 * c + 0) (J 98 53) 136 (3 * c) = J 98 52 := by
          rw [jx_u_na (by omega)]
          exact jx_u_eq _ _ _ _
        rw [z1, z2]
        exact ⟨hv w, Int32.le_of_lt (Int32.lt_of_le_of_lt (hb w).2.2 z)⟩
      · rw [if_neg z, e7, e8]
        exact (hb w).2
    · rw [e7, e8]
      exact (hb w).2
theorem ck_br {J : Nat → Nat → Int32} {B c o q : Nat} {p : Int32} (h : ck_h J B c o q) (hp : p = 1 ∨ p = 2) : ck_h (mo_br J c p) B c o q := by
  have e : ∀ a j, ¬ (129 ≤ a ∧ a ≤ 132 ∧ j = c) → mo_br J c p a j = J a j := fun a j w => by
    unfold mo_br
    rw [jx_u_no (by omega), jx_u_no (by omega), jx_u_no (by omega), jx_u_no (by omega)]
  refine ck_to h (fun a j w => e a j (by omega)) ?_ ?_ (fun w => ?_)
  · have : mo_br J c p 132 c = p := by
      unfold mo_br
      simp (disch := omega) only [jx_u_na, jx_u_ni, jx_u_eq]
    rw [this]
    exact hp
  · have : mo_br J c p 131 c = 0 := by
      unfold mo_br
      simp (disch := omega) only [jx_u_na, jx_u_ni, jx_u_eq]
    rw [this]
    exact bs_0
  · rw [e _ _ (by omega), e _ _ (by omega)]
    exact (h.2.2.2.2.2.2.2.2.2.2.2.1 w).2
theorem ck_wb {J : Nat → Nat → Int32} {B c o q : Nat} (h : ck_h J B c o q) (hs : J 119 o = 1) : ck_h (mo_wb J c o) B c o q := by
  have e : ∀ a j, ¬ (a = 136 ∨ a = 137) → mo_wb J c o a j = J a j := fun a j w => by
    unfold mo_wb
    rw [jx_u_no (by omega), jx_u_no (by omega)]
  refine ck_to h (fun a j w => e a j (by omega)) ?_ ?_ (fun w => absurd (hs.symm.trans w) (by decide))
  · rw [e _ _ (by omega)]
    exact h.2.2.2.2.2.2.1
  · rw [e _ _ (by omega)]
    exact h.2.2.2.2.2.2.2.2.2.2.2.2
theorem ck_rt {J : Nat → Nat → Int32} {B c o q : Nat} (h : ck_h J B c o q) : ck_h (mo_rt J c o) B c o q := by
  have e : ∀ a j, ¬ (a = 127 ∨ a = 133 ∨ a = 136 ∨ a = 137) → mo_rt J c o a j = J a j := fun a j w => mo_rt_na (by omega)
  refine ck_to h (fun a j w => e a j (by omega)) ?_ ?_ (fun w => ?_)
  · rw [e _ _ (by omega)]
    exact h.2.2.2.2.2.2.1
  · rw [e _ _ (by omega)]
    exact h.2.2.2.2.2.2.2.2.2.2.2.2
  · have z1 : mo_rt J c o 137 (3 * c) = 0 := by
      unfold mo_rt mo_fb
      simp (disch := omega) only [jx_u_na, jx_u_ni, jx_u_eq]
      exact jx_u_eq _ _ _ _
    have z2 : mo_rt J c o 136 (3 * c) = 0 := by
      unfold mo_rt mo_fb
      simp (disch := omega) only [jx_u_na, jx_u_ni, jx_u_eq]
      exact jx_u_eq _ _ _ _
    rw [z1, z2]
    exact ⟨bs_0, by decide⟩
set_option maxHeartbeats 4000000 in
set_option maxRecDepth 100000 in
theorem hr_110 {G : jx_G} {n ms : Nat} {K : Nat → Nat × Nat} {I : Nat → Nat → Int32} {P : Nat → Nat → Option Nat} {J : Nat → Nat → Int32} {B h : Nat} {A : Nat → Nat} {T : Nat → Prop} {X : Nat → Nat → Int32} {Q : Option jx_V → jx_M → Prop} {c o q x t : Nat} {x4 : Option jx_V} (hR : rl n ms K I P J B A h T X) (hk : ck_h J B c o q) (hno : J 119 o = 2 ∨ J 119 o = 3 → J 99 (6 * (7 + c) + jx_x (J 134 c)) ≠ -1) (hx : J 98 9 = nI x) (hx2 : x + h + 25 ≤ 15999) (kk : (∀ n2 ms2 K2 I2 P2, rl n2 ms2 K2 I2 P2 (mo_TL J c o) B A h T X → Q none (n2, ms2, K2, I2, P2))) : jx_J G yX8_hear cX8_hear 5 none 10 (Q) 110 [some (.inr (some 3)), some (.inr (some (78 + 5 * c))), some (.inr (some t)), some (.inr (some (A o))), x4] [] (n, ms, K, I, P) := by
  obtain ⟨u, hu1, hu2, hW⟩ := rl_W (G := G) hR hk hno
  obtain ⟨hc, ho, -⟩ := id hk
  have g0 := (rl_f hR hc ho).1
  refine jx_gq flok_X8 (fwok_X8 rfl) 99999 3 _ _ _ _ ?_
  simp (disch := omega) only [↓reduceIte, jx_wp, jx_stp, jx_f0, jx_f1, jx_f2, jx_f3, List.getElem?_cons_zero, List.getElem?_cons_succ, List.set_cons_zero, List.set_cons_succ, Nat.reduceAdd, true_and, and_true, if_true, if_false, Bool.false_eq_true, jx_s, Nat.reduceLT, dX8_hear_0, dX8_hear_1, dX8_hear_4, dX8_hear_5, dX8_hear_8, dX8_hear_11, dX8_hear_12, dX8_hear_15, dX8_hear_16, dX8_hear_17, dX8_hear_20, dX8_hear_21, dX8_hear_22, dX8_hear_25, dX8_hear_26, dX8_hear_29, dX8_hear_32, dX8_hear_33, dX8_hear_36, dX8_hear_37, dX8_hear_39, dX8_hear_41, dX8_hear_44, dX8_hear_45, dX8_hear_48, dX8_hear_51, dX8_hear_52, dX8_hear_53, dX8_hear_56, dX8_hear_57, dX8_hear_58, dX8_hear_61, dX8_hear_64, dX8_hear_65, dX8_hear_66, dX8_hear_67, dX8_hear_68, dX8_hear_69, dX8_hear_72, dX8_hear_75, dX8_hear_76, dX8_hear_78, dX8_hear_81, dX8_hear_82, dX8_hear_85, dX8_hear_88, dX8_hear_89, dX8_hear_90, dX8_hear_91, dX8_hear_94, dX8_hear_95, dX8_hear_96, dX8_hear_99, dX8_hear_102, dX8_hear_103, dX8_hear_104, dX8_hear_105, dX8_hear_106, dX8_hear_109, dX8_hear_110, dX8_hear_111, dX8_hear_112, dX8_hear_113, dX8_hear_116, dX8_hear_117, dX8_hear_118, dX8_hear_121, dX8_hear_124, dX8_hear_125, dX8_hear_126, dX8_hear_129, dX8_hear_130, dX8_hear_133, dX8_hear_134, dX8_hear_135, dX8_hear_138, dX8_hear_139, dX8_hear_140, dX8_hear_141, dX8_hear_144, dX8_hear_147, dX8_hear_148, dX8_hear_149, dX8_hear_150, dX8_hear_153, fl_X8_69, ft_2_1, fl_X8_131, ft_4_0, fl_X8_173, ft_2_4, tg_17_4, fl_X8_114, ft_4_6, fl_X8_182, ft_2_6, tg_29_7, jx_k1, tg_33_4, jx_k0, tg_41_15, fl_X8_127, ft_4_8, tg_48_8, tg_61_15, tg_78_32, tg_85_25, fl_X8_120, ft_4_1, tg_99_11, tg_121_4, fl_X8_189, ft_2_7, tg_130_17, tg_144_9, jx_wq, jx_stq, jx_ite, jx_b0, jx_bn0, jx_u_eq, jx_u_na, jx_u_ni, jx_nb0, jx_nb1, jx_ni, jx_E, eq_self, jx_a0, jx_a1, ne_eq, not_false_eq_true, Nat.reduceLeDiff, Nat.reduceEqDiff, Nat.reduceLT, jx_subl, jx_al, jx_la, jx_nm, jx_ml, nI_add, jx_xn, jx_xl, jx_inn, jx_inl, jx_ltnn, jx_lenn, jx_eqnn, jx_ltnl, jx_lenl, jx_ltln, jx_leln, jx_eqnl, Int32.reduceAdd, Int32.reduceSub, Int32.reduceMul, Int32.reduceLT, Int32.reduceLE, jx_eqll, jx_ltll, Nat.reduceMul, Nat.reduceSub, forall_const, implies_true, false_implies, not_true_eq_false, true_implies, jx_tko, jx_ofn, jx_tka, jx_pro, jx_pra, and_self, Nat.not_lt_zero, jx_nbb]
  refine jx_cV2 dX8_hear_113 li_X8_270 (rl_ask hR (ck_am hk h) hx (by omega) hu1 hW) (congrArg Prod.fst g0) (Nat.le_of_ble_eq_true rfl) (Nat.le_of_ble_eq_true rfl) ?_
  rintro _ _ ⟨rfl, m2, ms2, K2, I2, P2, rfl, hR2⟩ - -
  simp only [Option.toList_some, Option.toList_none, List.cons_append, List.nil_append]
  rw [← hu2] at hR2
  have hk2 := ck_BA hk
  have hno2 : mo_BA J c o 119 o = 2 ∨ mo_BA J c o 119 o = 3 → mo_BA J c o 99 (6 * (7 + c) + jx_x (mo_BA J c o 134 c)) ≠ -1 := by
    unfold mo_BA
    rw [am_F 119 o (by omega) (by omega) (by omega) (by omega) (by omega), am_F 134 c (by omega) (by omega) (by omega) (by omega) (by omega), am_F 99 _ (by omega) (by omega) (by omega) (by omega) (by omega)]
    exact hno
  obtain ⟨x2, -, hx3, hx4⟩ := BA_many (c := c) (o := o) hx (by omega)
  have hR2 : rl m2 ms2 K2 I2 P2 (mo_BA J c o) B A h T X := hR2
  unfold mo_TL at kk
  generalize hJ2 : mo_BA J c o = J2 at hR2 hk2 hno2 hx4 kk
  obtain ⟨hc, ho, hd, hq, hq7, hs, hp, hm3, hmp, hnum, h3, h2, hz⟩ := id hk2
  obtain ⟨g0, g5, hC, hA1, lo, hA2, hA3, hB60, hA4, hcs, -⟩ := rl_f hR2 hc ho
  obtain ⟨hP4, q0, q1, q2, q3, q4, q5, q6, q7, q8⟩ := rl_run hR2 hc ho hd
  have c0 := hC.1
  have l1 := lo.1
  refine jx_gq flok_X8 (fwok_X8 rfl) 99999 2 _ _ _ _ ?_
  simp (disch := omega) only [↓reduceIte, jx_wp, jx_stp, jx_f0, jx_f1, jx_f2, jx_f3, List.getElem?_cons_zero, List.getElem?_cons_succ, List.set_cons_zero, List.set_cons_succ, Nat.reduceAdd, true_and, and_true, if_true, if_false, Bool.false_eq_true, jx_s, Nat.reduceLT, dX8_hear_0, dX8_hear_1, dX8_hear_4, dX8_hear_5, dX8_hear_8, dX8_hear_11, dX8_hear_12, dX8_hear_15, dX8_hear_16, dX8_hear_17, dX8_hear_20, dX8_hear_21, dX8_hear_22, dX8_hear_25, dX8_hear_26, dX8_hear_29, dX8_hear_32, dX8_hear_33, dX8_hear_36, dX8_hear_37, dX8_hear_39, dX8_hear_41, dX8_hear_44, dX8_hear_45, dX8_hear_48, dX8_hear_51, dX8_hear_52, dX8_hear_53, dX8_hear_56, dX8_hear_57, dX8_hear_58, dX8_hear_61, dX8_hear_64, dX8_hear_65, dX8_hear_66, dX8_hear_67, dX8_hear_68, dX8_hear_69, dX8_hear_72, dX8_hear_75, dX8_hear_76, dX8_hear_78, dX8_hear_81, dX8_hear_82, dX8_hear_85, dX8_hear_88, dX8_hear_89, dX8_hear_90, dX8_hear_91, dX8_hear_94, dX8_hear_95, dX8_hear_96, dX8_hear_99, dX8_hear_102, dX8_hear_103, dX8_hear_104, dX8_hear_105, dX8_hear_106, dX8_hear_109, dX8_hear_110, dX8_hear_111, dX8_hear_112, dX8_hear_113, dX8_hear_116, dX8_hear_117, dX8_hear_118, dX8_hear_121, dX8_hear_124, dX8_hear_125, dX8_hear_126, dX8_hear_129, dX8_hear_130, dX8_hear_133, dX8_hear_134, dX8_hear_135, dX8_hear_138, dX8_hear_139, dX8_hear_140, dX8_hear_141, dX8_hear_144, dX8_hear_147, dX8_hear_148, dX8_hear_149, dX8_hear_150, dX8_hear_153, fl_X8_69, ft_2_1, fl_X8_131, ft_4_0, fl_X8_173, ft_2_4, tg_17_4, fl_X8_114, ft_4_6, fl_X8_182, ft_2_6, tg_29_7, jx_k1, tg_33_4, jx_k0, tg_41_15, fl_X8_127, ft_4_8, tg_48_8, tg_61_15, tg_78_32, tg_85_25, fl_X8_120, ft_4_1, tg_99_11, tg_121_4, fl_X8_189, ft_2_7, tg_130_17, tg_144_9, jx_wq, jx_stq, jx_ite, jx_b0, jx_bn0, jx_u_eq, jx_u_na, jx_u_ni, jx_nb0, jx_nb1, jx_ni, jx_E, eq_self, jx_a0, jx_a1, ne_eq, not_false_eq_true, Nat.reduceLeDiff, Nat.reduceEqDiff, Nat.reduceLT, jx_subl, jx_al, jx_la, jx_nm, jx_ml, nI_add, jx_xn, jx_xl, jx_inn, jx_inl, jx_ltnn, jx_lenn, jx_eqnn, jx_ltnl, jx_lenl, jx_ltln, jx_leln, jx_eqnl, Int32.reduceAdd, Int32.reduceSub, Int32.reduceMul, Int32.reduceLT, Int32.reduceLE, jx_eqll, jx_ltll, Nat.reduceMul, Nat.reduceSub, forall_const, implies_true, false_implies, not_true_eq_false, true_implies, jx_tko, jx_ofn, jx_tka, jx_pro, jx_pra, and_self, Nat.not_lt_zero, jx_nbb]
  refine jx_cV1 dX8_hear_118 li_X8_312 (rl_full hR2 hk2 hno2) (congrArg Prod.fst c0) (Nat.le_of_ble_eq_true rfl) (Nat.le_of_ble_eq_true rfl) ?_
  rintro _ _ ⟨rfl, rfl⟩ - -
  simp only [Option.toList_some, Option.toList_none, List.cons_append, List.nil_append]
  by_cases hfull : mo_FU J2 c o = true
  · rw [if_pos hfull] at kk
    rcases hp with hp | hp
    · have e7 : I2 (78 + 5 * c) 7 = 1 := q0.trans hp
      refine jx_gq flok_X8 (fwok_X8 rfl) 99999 10 _ _ _ _ ?_
      simp (disch := omega) only [↓reduceIte, jx_wp, jx_stp, jx_f0, jx_f1, jx_f2, jx_f3, List.getElem?_cons_zero, List.getElem?_cons_succ, List.set_cons_zero, List.set_cons_succ, Nat.reduceAdd, true_and, and_true, if_true, if_false, Bool.false_eq_true, jx_s, Nat.reduceLT, dX8_hear_0, dX8_hear_1, dX8_hear_4, dX8_hear_5, dX8_hear_8, dX8_hear_11, dX8_hear_12, dX8_hear_15, dX8_hear_16, dX8_hear_17, dX8_hear_20, dX8_hear_21, dX8_hear_22, dX8_hear_25, dX8_hear_26, dX8_hear_29, dX8_hear_32, dX8_hear_33, dX8_hear_36, dX8_hear_37, dX8_hear_39, dX8_hear_41, dX8_hear_44, dX8_hear_45, dX8_hear_48, dX8_hear_51, dX8_hear_52, dX8_hear_53, dX8_hear_56, dX8_hear_57, dX8_hear_58, dX8_hear_61, dX8_hear_64, dX8_hear_65, dX8_hear_66, dX8_hear_67, dX8_hear_68, dX8_hear_69, dX8_hear_72, dX8_hear_75, dX8_hear_76, dX8_hear_78, dX8_hear_81, dX8_hear_82, dX8_hear_85, dX8_hear_88, dX8_hear_89, dX8_hear_90, dX8_hear_91, dX8_hear_94, dX8_hear_95, dX8_hear_96, dX8_hear_99, dX8_hear_102, dX8_hear_103, dX8_hear_104, dX8_hear_105, dX8_hear_106, dX8_hear_109, dX8_hear_110, dX8_hear_111, dX8_hear_112, dX8_hear_113, dX8_hear_116, dX8_hear_117, dX8_hear_118, dX8_hear_121, dX8_hear_124, dX8_hear_125, dX8_hear_126, dX8_hear_129, dX8_hear_130, dX8_hear_133, dX8_hear_134, dX8_hear_135, dX8_hear_138, dX8_hear_139, dX8_hear_140, dX8_hear_141, dX8_hear_144, dX8_hear_147, dX8_hear_148, dX8_hear_149, dX8_hear_150, dX8_hear_153, fl_X8_69, ft_2_1, fl_X8_131, ft_4_0, fl_X8_173, ft_2_4, tg_17_4, fl_X8_114, ft_4_6, fl_X8_182, ft_2_6, tg_29_7, jx_k1, tg_33_4, jx_k0, tg_41_15, fl_X8_127, ft_4_8, tg_48_8, tg_61_15, tg_78_32, tg_85_25, fl_X8_120, ft_4_1, tg_99_11, tg_121_4, fl_X8_189, ft_2_7, tg_130_17, tg_144_9, jx_wq, jx_stq, jx_ite, jx_b0, jx_bn0, jx_u_eq, jx_u_na, jx_u_ni, jx_nb0, jx_nb1, jx_ni, jx_E, eq_self, jx_a0, jx_a1, ne_eq, not_false_eq_true, Nat.reduceLeDiff, Nat.reduceEqDiff, Nat.reduceLT, jx_subl, jx_al, jx_la, jx_nm, jx_ml, nI_add, jx_xn, jx_xl, jx_inn, jx_inl, jx_ltnn, jx_lenn, jx_eqnn, jx_ltnl, jx_lenl, jx_ltln, jx_leln, jx_eqnl, Int32.reduceAdd, Int32.reduceSub, Int32.reduceMul, Int32.reduceLT, Int32.reduceLE, jx_eqll, jx_ltll, Nat.reduceMul, Nat.reduceSub, forall_const, implies_true, false_implies, not_true_eq_false, true_implies, jx_tko, jx_ofn, jx_tka, jx_pro, jx_pra, and_self, Nat.not_lt_zero, jx_nbb, hfull, c0, e7]
      have fin : ∀ (J3 : Nat → Nat → Int32) (I3 : Nat → Nat → Int32), rl m2 ms2 K2 I3 P2 J3 B A h T X → ck_h J3 B c o q → J3 98 9 = nI x2 → (J3 119 o = 2 ∨ J3 119 o = 3 → J3 99 (6 * (7 + c) + jx_x (J3 134 c)) ≠ -1) → mo_EN J2 c o = mo_BA J3 c o → jx_J G yX8_hear cX8_hear 5 none 10 (Q) 138 [some (.inr (some 3)), some (.inr (some (78 + 5 * c))), some (.inr (some t)), some (.inr (some (A o))), x4] [] (m2, ms2, K2, I3, P2) := fun J3 I3 hR3 hk3 hx5 hno3 hen => by
        obtain ⟨u3, hu13, hu23, hW3⟩ := rl_W (G := G) hR3 hk3 hno3
        have g03 := (rl_f hR3 hc ho).1
        refine jx_gq flok_X8 (fwok_X8 rfl) 99999 3 _ _ _ _ ?_
        simp (disch := omega) only [↓reduceIte, jx_wp, jx_stp, jx_f0, jx_f1, jx_f2, jx_f3, List.getElem?_cons_zero, List.getElem?_cons_succ, List.set_cons_zero, List.set_cons_succ, Nat.reduceAdd, true_and, and_true, if_true, if_false, Bool.false_eq_true, jx_s, Nat.reduceLT, dX8_hear_0, dX8_hear_1, dX8_hear_4, dX8_hear_5, dX8_hear_8, dX8_hear_11, dX8_hear_12, dX8_hear_15, dX8_hear_16, dX8_hear_17, dX8_hear_20, dX8_hear_21, dX8_hear_22, dX8_hear_25, dX8_hear_26, dX8_hear_29, dX8_hear_32, dX8_hear_33, dX8_hear_36, dX8_hear_37, dX8_hear_39, dX8_hear_41, dX8_hear_44, dX8_hear_45, dX8_hear_48, dX8_hear_51, dX8_hear_52, dX8_hear_53, dX8_hear_56, dX8_hear_57, dX8_hear_58, dX8_hear_61, dX8_hear_64, dX8_hear_65, dX8_hear_66, dX8_hear_67, dX8_hear_68, dX8_hear_69, dX8_hear_72, dX8_hear_75, dX8_hear_76, dX8_hear_78, dX8_hear_81, dX8_hear_82, dX8_hear_85, dX8_hear_88, dX8_hear_89, dX8_hear_90, dX8_hear_91, dX8_hear_94, dX8_hear_95, dX8_hear_96, dX8_hear_99, dX8_hear_102, dX8_hear_103, dX8_hear_104, dX8_hear_105, dX8_hear_106, dX8_hear_109, dX8_hear_110, dX8_hear_111, dX8_hear_112, dX8_hear_113, dX8_hear_116, dX8_hear_117, dX8_hear_118, dX8_hear_121, dX8_hear_124, dX8_hear_125, dX8_hear_126, dX8_hear_129, dX8_hear_130, dX8_hear_133, dX8_hear_134, dX8_hear_135, dX8_hear_138, dX8_hear_139, dX8_hear_140, dX8_hear_141, dX8_hear_144, dX8_hear_147, dX8_hear_148, dX8_hear_149, dX8_hear_150, dX8_hear_153, fl_X8_69, ft_2_1, fl_X8_131, ft_4_0, fl_X8_173, ft_2_4, tg_17_4, fl_X8_114, ft_4_6, fl_X8_182, ft_2_6, tg_29_7, jx_k1, tg_33_4, jx_k0, tg_41_15, fl_X8_127, ft_4_8, tg_48_8, tg_61_15, tg_78_32, tg_85_25, fl_X8_120, ft_4_1, tg_99_11, tg_121_4, fl_X8_189, ft_2_7, tg_130_17, tg_144_9, jx_wq, jx_stq, jx_ite, jx_b0, jx_bn0, jx_u_eq, jx_u_na, jx_u_ni, jx_nb0, jx_nb1, jx_ni, jx_E, eq_self, jx_a0, jx_a1, ne_eq, not_false_eq_true, Nat.reduceLeDiff, Nat.reduceEqDiff, Nat.reduceLT, jx_subl, jx_al, jx_la, jx_nm, jx_ml, nI_add, jx_xn, jx_xl, jx_inn, jx_inl, jx_ltnn, jx_lenn, jx_eqnn, jx_ltnl, jx_lenl, jx_ltln, jx_leln, jx_eqnl, Int32.reduceAdd, Int32.reduceSub, Int32.reduceMul, Int32.reduceLT, Int32.reduceLE, jx_eqll, jx_ltll, Nat.reduceMul, Nat.reduceSub, forall_const, implies_true, false_implies, not_true_eq_false, true_implies, jx_tko, jx_ofn, jx_tka, jx_pro, jx_pra, and_self, Nat.not_lt_zero, jx_nbb]
        refine jx_cV2 dX8_hear_141 li_X8_270 (rl_ask hR3 (ck_am hk3 h) hx5 (by omega) hu13 hW3) (congrArg Prod.fst g03) (Nat.le_of_ble_eq_true rfl) (Nat.le_of_ble_eq_true rfl) ?_
        rintro _ _ ⟨rfl, m4, ms4, K4, I4, P4, rfl, hR4⟩ - -
        simp only [Option.toList_some, Option.toList_none, List.cons_append, List.nil_append]
        rw [← hu23] at hR4
        refine jx_gq flok_X8 (fwok_X8 rfl) 99999 3 _ _ _ _ ?_
        simp (disch := omega) only [↓reduceIte, jx_wp, jx_stp, jx_f0, jx_f1, jx_f2, jx_f3, List.getElem?_cons_zero, List.getElem?_cons_succ, List.set_cons_zero, List.set_cons_succ, Nat.reduceAdd, true_and, and_true, if_true, if_false, Bool.false_eq_true, jx_s, Nat.reduceLT, dX8_hear_0, dX8_hear_1, dX8_hear_4, dX8_hear_5, dX8_hear_8, dX8_hear_11, dX8_hear_12, dX8_hear_15, dX8_hear_16, dX8_hear_17, dX8_hear_20, dX8_hear_21, dX8_hear_22, dX8_hear_25, dX8_hear_26, dX8_hear_29, dX8_hear_32, dX8_hear_33, dX8_hear_36, dX8_hear_37, dX8_hear_39, dX8_hear_41, dX8_hear_44, dX8_hear_45, dX8_hear_48, dX8_hear_51, dX8_hear_52, dX8_hear_53, dX8_hear_56, dX8_hear_57, dX8_hear_58, dX8_hear_61, dX8_hear_64, dX8_hear_65, dX8_hear_66, dX8_hear_67, dX8_hear_68, dX8_hear_69, dX8_hear_72, dX8_hear_75, dX8_hear_76, dX8_hear_78, dX8_hear_81, dX8_hear_82, dX8_hear_85, dX8_hear_88, dX8_hear_89, dX8_hear_90, dX8_hear_91, dX8_hear_94, dX8_hear_95, dX8_hear_96, dX8_hear_99, dX8_hear_102, dX8_hear_103, dX8_hear_104, dX8_hear_105, dX8_hear_106, dX8_hear_109, dX8_hear_110, dX8_hear_111, dX8_hear_112, dX8_hear_113, dX8_hear_116, dX8_hear_117, dX8_hear_118, dX8_hear_121, dX8_hear_124, dX8_hear_125, dX8_hear_126, dX8_hear_129, dX8_hear_130, dX8_hear_133, dX8_hear_134, dX8_hear_135, dX8_hear_138, dX8_hear_139, dX8_hear_140, dX8_hear_141, dX8_hear_144, dX8_hear_147, dX8_hear_148, dX8_hear_149, dX8_hear_150, dX8_hear_153, fl_X8_69, ft_2_1, fl_X8_131, ft_4_0, fl_X8_173, ft_2_4, tg_17_4, fl_X8_114, ft_4_6, fl_X8_182, ft_2_6, tg_29_7, jx_k1, tg_33_4, jx_k0, tg_41_15, fl_X8_127, ft_4_8, tg_48_8, tg_61_15, tg_78_32, tg_85_25, fl_X8_120, ft_4_1, tg_99_11, tg_121_4, fl_X8_189, ft_2_7, tg_130_17, tg_144_9, jx_wq, jx_stq, jx_ite, jx_b0, jx_bn0, jx_u_eq, jx_u_na, jx_u_ni, jx_nb0, jx_nb1, jx_ni, jx_E, eq_self, jx_a0, jx_a1, ne_eq, not_false_eq_true, Nat.reduceLeDiff, Nat.reduceEqDiff, Nat.reduceLT, jx_subl, jx_al, jx_la, jx_nm, jx_ml, nI_add, jx_xn, jx_xl, jx_inn, jx_inl, jx_ltnn, jx_lenn, jx_eqnn, jx_ltnl, jx_lenl, jx_ltln, jx_leln, jx_eqnl, Int32.reduceAdd, Int32.reduceSub, Int32.reduceMul, Int32.reduceLT, Int32.reduceLE, jx_eqll, jx_ltll, Nat.reduceMul, Nat.reduceSub, forall_const, implies_true, false_implies, not_true_eq_false, true_implies, jx_tko, jx_ofn, jx_tka, jx_pro, jx_pra, and_self, Nat.not_lt_zero, jx_nbb]
        refine kk _ _ _ _ _ ?_
        rw [hen]
        exact hR4
      have hb9 : ∀ (J' : Nat → Nat → Int32) a j, ¬ (129 ≤ a ∧ a ≤ 132 ∧ j = c) → mo_br J' c 2 a j = J' a j := fun J' a j w => by
        unfold mo_br
        rw [jx_u_no (by omega), jx_u_no (by omega), jx_u_no (by omega), jx_u_no (by omega)]
      rcases hs with hs | hs | hs | hs
      · refine jx_cV1 dX8_hear_135 li_X8_315 (cn_os0 hC hA1 (by rw [l1, hs]; decide) (by rw [l1, hs]; decide)) (congrArg Prod.fst c0) (Nat.le_of_ble_eq_true rfl) (Nat.le_of_ble_eq_true rfl) ?_
        rintro _ _ ⟨rfl, rfl⟩ - -
        simp only [Option.toList_some, Option.toList_none, List.cons_append, List.nil_append]
        
        refine fin (mo_br J2 c 2) _ (rl_sec_n hR2 hc ho hd (Or.inl hs)) (ck_br hk2 (Or.inr rfl)) (by rw [hb9 _ _ _ (by omega), hx4]) (by rw [hb9 _ _ _ (by omega), hb9 _ _ _ (by omega), hb9 _ _ _ (by omega)]; exact hno2) ?_
        unfold mo_EN
        rw [if_pos (Or.inl hs), if_neg (by rw [hp]; decide), if_neg (by rw [hs]; decide)]
      · refine jx_cV1 dX8_hear_135 li_X8_315 (cn_os1 hC hA1 (by rw [l1, hs]) (by omega)) (congrArg Prod.fst c0) (Nat.le_of_ble_eq_true rfl) (Nat.le_of_ble_eq_true rfl) ?_
        rintro _ _ ⟨rfl, rfl⟩ - -
        simp only [Option.toList_some, Option.toList_none, List.cons_append, List.nil_append]
        
        have hw9 : ∀ a j, ¬ (a = 136 ∨ a = 137) → mo_wb J2 c o a j = J2 a j := fun a j w => by
          unfold mo_wb
          rw [jx_u_no (by omega), jx_u_no (by omega)]
        refine fin (mo_br (mo_wb J2 c o) c 2) _ (rl_sec_w hR2 hc ho hd hs hp) (ck_br (ck_wb hk2 hs) (Or.inr rfl)) (by rw [hb9 _ _ _ (by omega), hw9 _ _ (by omega), hx4]) (by rw [hb9 _ _ _ (by omega), hb9 _ _ _ (by omega), hb9 _ _ _ (by omega), hw9 _ _ (by omega), hw9 _ _ (by omega), hw9 _ _ (by omega)]; exact hno2) ?_
        unfold mo_EN
        rw [if_pos (Or.inr hs), if_neg (by rw [hp]; decide), if_pos hs]
      · have hen : mo_EN J2 c o = mo_BA (mo_br J2 c 2) c o := by
          unfold mo_EN
          rw [if_neg (by rw [hs]; decide), if_pos hp]
        have m0 : I2 (78 + 5 * c + 3) 0 = J2 136 (3 * c) := q3 0 (by omega)
        by_cases hb0 : J2 136 (3 * c) = 0
        · refine jx_cV1 dX8_hear_135 li_X8_315 (cn_os2 hC hA1 (by rw [l1, hs]) (by rw [m0, hb0])) (congrArg Prod.fst c0) (Nat.le_of_ble_eq_true rfl) (Nat.le_of_ble_eq_true rfl) ?_
          rintro _ _ ⟨rfl, rfl⟩ - -
          simp only [Option.toList_some, Option.toList_none, List.cons_append, List.nil_append]
          
          exact fin (mo_br J2 c 2) _ (rl_sec_c0 hR2 hc ho hd hs hp hb0) (ck_br hk2 (Or.inr rfl)) (by rw [hb9 _ _ _ (by omega), hx4]) (by rw [hb9 _ _ _ (by omega), hb9 _ _ _ (by omega), hb9 _ _ _ (by omega)]; exact hno2) hen
        · refine jx_cV1 dX8_hear_135 li_X8_315 (cn_os3 hC hA1 (by rw [l1, hs]) (by rw [m0]; exact hb0)) (congrArg Prod.fst c0) (Nat.le_of_ble_eq_true rfl) (Nat.le_of_ble_eq_true rfl) ?_
          rintro _ _ ⟨rfl, rfl⟩ - -
          simp only [Option.toList_some, Option.toList_none, List.cons_append, List.nil_append]
          
          exact fin (mo_br J2 c 2) _ (rl_sec_c1 hR2 hc ho hd hs hp (fun w => hb0 (Int32.le_antisymm w (h2 hs).2.2))) (ck_br hk2 (Or.inr rfl)) (by rw [hb9 _ _ _ (by omega), hx4]) (by rw [hb9 _ _ _ (by omega), hb9 _ _ _ (by omega), hb9 _ _ _ (by omega)]; exact hno2) hen
      · refine jx_cV1 dX8_hear_135 li_X8_315 (cn_os0 hC hA1 (by rw [l1, hs]; decide) (by rw [l1, hs]; decide)) (congrArg Prod.fst c0) (Nat.le_of_ble_eq_true rfl) (Nat.le_of_ble_eq_true rfl) ?_
        rintro _ _ ⟨rfl, rfl⟩ - -
        simp only [Option.toList_some, Option.toList_none, List.cons_append, List.nil_append]
        
        refine fin (mo_br J2 c 2) _ (rl_sec_n hR2 hc ho hd (Or.inr hs)) (ck_br hk2 (Or.inr rfl)) (by rw [hb9 _ _ _ (by omega), hx4]) (by rw [hb9 _ _ _ (by omega), hb9 _ _ _ (by omega), hb9 _ _ _ (by omega)]; exact hno2) ?_
        unfold mo_EN
        rw [if_neg (by rw [hs]; decide), if_pos hp]
    · have e7 : I2 (78 + 5 * c) 7 = 2 := q0.trans hp
      refine jx_gq flok_X8 (fwok_X8 rfl) 99999 10 _ _ _ _ ?_
      simp (disch := omega) only [↓reduceIte, jx_wp, jx_stp, jx_f0, jx_f1, jx_f2, jx_f3, List.getElem?_cons_zero, List.getElem?_cons_succ, List.set_cons_zero, List.set_cons_succ, Nat.reduceAdd, true_and, and_true, if_true, if_false, Bool.false_eq_true, jx_s, Nat.reduceLT, dX8_hear_0, dX8_hear_1, dX8_hear_4, dX8_hear_5, dX8_hear_8, dX8_hear_11, dX8_hear_12, dX8_hear_15, dX8_hear_16, dX8_hear_17, dX8_hear_20, dX8_hear_21, dX8_hear_22, dX8_hear_25, dX8_hear_26, dX8_hear_29, dX8_hear_32, dX8_hear_33, dX8_hear_36, dX8_hear_37, dX8_hear_39, dX8_hear_41, dX8_hear_44, dX8_hear_45, dX8_hear_48, dX8_hear_51, dX8_hear_52, dX8_hear_53, dX8_hear_56, dX8_hear_57, dX8_hear_58, dX8_hear_61, dX8_hear_64, dX8_hear_65, dX8_hear_66, dX8_hear_67, dX8_hear_68, dX8_hear_69, dX8_hear_72, dX8_hear_75, dX8_hear_76, dX8_hear_78, dX8_hear_81, dX8_hear_82, dX8_hear_85, dX8_hear_88, dX8_hear_89, dX8_hear_90, dX8_hear_91, dX8_hear_94, dX8_hear_95, dX8_hear_96, dX8_hear_99, dX8_hear_102, dX8_hear_103, dX8_hear_104, dX8_hear_105, dX8_hear_106, dX8_hear_109, dX8_hear_110, dX8_hear_111, dX8_hear_112, dX8_hear_113, dX8_hear_116, dX8_hear_117, dX8_hear_118, dX8_hear_121, dX8_hear_124, dX8_hear_125, dX8_hear_126, dX8_hear_129, dX8_hear_130, dX8_hear_133, dX8_hear_134, dX8_hear_135, dX8_hear_138, dX8_hear_139, dX8_hear_140, dX8_hear_141, dX8_hear_144, dX8_hear_147, dX8_hear_148, dX8_hear_149, dX8_hear_150, dX8_hear_153, fl_X8_69, ft_2_1, fl_X8_131, ft_4_0, fl_X8_173, ft_2_4, tg_17_4, fl_X8_114, ft_4_6, fl_X8_182, ft_2_6, tg_29_7, jx_k1, tg_33_4, jx_k0, tg_41_15, fl_X8_127, ft_4_8, tg_48_8, tg_61_15, tg_78_32, tg_85_25, fl_X8_120, ft_4_1, tg_99_11, tg_121_4, fl_X8_189, ft_2_7, tg_130_17, tg_144_9, jx_wq, jx_stq, jx_ite, jx_b0, jx_bn0, jx_u_eq, jx_u_na, jx_u_ni, jx_nb0, jx_nb1, jx_ni, jx_E, eq_self, jx_a0, jx_a1, ne_eq, not_false_eq_true, Nat.reduceLeDiff, Nat.reduceEqDiff, Nat.reduceLT, jx_subl, jx_al, jx_la, jx_nm, jx_ml, nI_add, jx_xn, jx_xl, jx_inn, jx_inl, jx_ltnn, jx_lenn, jx_eqnn, jx_ltnl, jx_lenl, jx_ltln, jx_leln, jx_eqnl, Int32.reduceAdd, Int32.reduceSub, Int32.reduceMul, Int32.reduceLT, Int32.reduceLE, jx_eqll, jx_ltll, Nat.reduceMul, Nat.reduceSub, forall_const, implies_true, false_implies, not_true_eq_false, true_implies, jx_tko, jx_ofn, jx_tka, jx_pro, jx_pra, and_self, Nat.not_lt_zero, jx_nbb, hfull, c0, e7]
      refine jx_cV2 dX8_hear_150 li_X8_318 (rl_complete hR2 hk2 hp hno2 hx4 (by omega)) (congrArg Prod.fst g0) (Nat.le_of_ble_eq_true rfl) (Nat.le_of_ble_eq_true rfl) ?_
      rintro _ _ ⟨rfl, m4, ms4, K4, I4, P4, rfl, hR4⟩ - -
      simp only [Option.toList_some, Option.toList_none, List.cons_append, List.nil_append]
      refine jx_gq flok_X8 (fwok_X8 rfl) 99999 3 _ _ _ _ ?_
      simp (disch := omega) only [↓reduceIte, jx_wp, jx_stp, jx_f0, jx_f1, jx_f2, jx_f3, List.getElem?_cons_zero, List.getElem?_cons_succ, List.set_cons_zero, List.set_cons_succ, Nat.reduceAdd, true_and, and_true, if_true, if_false, Bool.false_eq_true, jx_s, Nat.reduceLT, dX8_hear_0, dX8_hear_1, dX8_hear_4, dX8_hear_5, dX8_hear_8, dX8_hear_11, dX8_hear_12, dX8_hear_15, dX8_hear_16, dX8_hear_17, dX8_hear_20, dX8_hear_21, dX8_hear_22, dX8_hear_25, dX8_hear_26, dX8_hear_29, dX8_hear_32, dX8_hear_33, dX8_hear_36, dX8_hear_37, dX8_hear_39, dX8_hear_41, dX8_hear_44, dX8_hear_45, dX8_hear_48, dX8_hear_51, dX8_hear_52, dX8_hear_53, dX8_hear_56, dX8_hear_57, dX8_hear_58, dX8_hear_61, dX8_hear_64, dX8_hear_65, dX8_hear_66, dX8_hear_67, dX8_hear_68, dX8_hear_69, dX8_hear_72, dX8_hear_75, dX8_hear_76, dX8_hear_78, dX8_hear_81, dX8_hear_82, dX8_hear_85, dX8_hear_88, dX8_hear_89, dX8_hear_90, dX8_hear_91, dX8_hear_94, dX8_hear_95, dX8_hear_96, dX8_hear_99, dX8_hear_102, dX8_hear_103, dX8_hear_104, dX8_hear_105, dX8_hear_106, dX8_hear_109, dX8_hear_110, dX8_hear_111, dX8_hear_112, dX8_hear_113, dX8_hear_116, dX8_hear_117, dX8_hear_118, dX8_hear_121, dX8_hear_124, dX8_hear_125, dX8_hear_126, dX8_hear_129, dX8_hear_130, dX8_hear_133, dX8_hear_134, dX8_hear_135, dX8_hear_138, dX8_hear_139, dX8_hear_140, dX8_hear_141, dX8_hear_144, dX8_hear_147, dX8_hear_148, dX8_hear_149, dX8_hear_150, dX8_hear_153, fl_X8_69, ft_2_1, fl_X8_131, ft_4_0, fl_X8_173, ft_2_4, tg_17_4, fl_X8_114, ft_4_6, fl_X8_182, ft_2_6, tg_29_7, jx_k1, tg_33_4, jx_k0, tg_41_15, fl_X8_127, ft_4_8, tg_48_8, tg_61_15, tg_78_32, tg_85_25, fl_X8_120, ft_4_1, tg_99_11, tg_121_4, fl_X8_189, ft_2_7, tg_130_17, tg_144_9, jx_wq, jx_stq, jx_ite, jx_b0, jx_bn0, jx_u_eq, jx_u_na, jx_u_ni, jx_nb0, jx_nb1, jx_ni, jx_E, eq_self, jx_a0, jx_a1, ne_eq, not_false_eq_true, Nat.reduceLeDiff, Nat.reduceEqDiff, Nat.reduceLT, jx_subl, jx_al, jx_la, jx_nm, jx_ml, nI_add, jx_xn, jx_xl, jx_inn, jx_inl, jx_ltnn, jx_lenn, jx_eqnn, jx_ltnl, jx_lenl, jx_ltln, jx_leln, jx_eqnl, Int32.reduceAdd, Int32.reduceSub, Int32.reduceMul, Int32.reduceLT, Int32.reduceLE, jx_eqll, jx_ltll, Nat.reduceMul, Nat.reduceSub, forall_const, implies_true, false_implies, not_true_eq_false, true_implies, jx_tko, jx_ofn, jx_tka, jx_pro, jx_pra, and_self, Nat.not_lt_zero, jx_nbb]
      exact kk _ _ _ _ _ hR4
  · rw [if_neg hfull] at kk
    refine jx_gq flok_X8 (fwok_X8 rfl) 99999 10 _ _ _ _ ?_
    simp (disch := omega) only [↓reduceIte, jx_wp, jx_stp, jx_f0, jx_f1, jx_f2, jx_f3, List.getElem?_cons_zero, List.getElem?_cons_succ, List.set_cons_zero, List.set_cons_succ, Nat.reduceAdd, true_and, and_true, if_true, if_false, Bool.false_eq_true, jx_s, Nat.reduceLT, dX8_hear_0, dX8_hear_1, dX8_hear_4, dX8_hear_5, dX8_hear_8, dX8_hear_11, dX8_hear_12, dX8_hear_15, dX8_hear_16, dX8_hear_17, dX8_hear_20, dX8_hear_21, dX8_hear_22, dX8_hear_25, dX8_hear_26, dX8_hear_29, dX8_hear_32, dX8_hear_33, dX8_hear_36, dX8_hear_37, dX8_hear_39, dX8_hear_41, dX8_hear_44, dX8_hear_45, dX8_hear_48, dX8_hear_51, dX8_hear_52, dX8_hear_53, dX8_hear_56, dX8_hear_57, dX8_hear_58, dX8_hear_61, dX8_hear_64, dX8_hear_65, dX8_hear_66, dX8_hear_67, dX8_hear_68, dX8_hear_69, dX8_hear_72, dX8_hear_75, dX8_hear_76, dX8_hear_78, dX8_hear_81, dX8_hear_82, dX8_hear_85, dX8_hear_88, dX8_hear_89, dX8_hear_90, dX8_hear_91, dX8_hear_94, dX8_hear_95, dX8_hear_96, dX8_hear_99, dX8_hear_102, dX8_hear_103, dX8_hear_104, dX8_hear_105, dX8_hear_106, dX8_hear_109, dX8_hear_110, dX8_hear_111, dX8_hear_112, dX8_hear_113, dX8_hear_116, dX8_hear_117, dX8_hear_118, dX8_hear_121, dX8_hear_124, dX8_hear_125, dX8_hear_126, dX8_hear_129, dX8_hear_130, dX8_hear_133, dX8_hear_134, dX8_hear_135, dX8_hear_138, dX8_hear_139, dX8_hear_140, dX8_hear_141, dX8_hear_144, dX8_hear_147, dX8_hear_148, dX8_hear_149, dX8_hear_150, dX8_hear_153, fl_X8_69, ft_2_1, fl_X8_131, ft_4_0, fl_X8_173, ft_2_4, tg_17_4, fl_X8_114, ft_4_6, fl_X8_182, ft_2_6, tg_29_7, jx_k1, tg_33_4, jx_k0, tg_41_15, fl_X8_127, ft_4_8, tg_48_8, tg_61_15, tg_78_32, tg_85_25, fl_X8_120, ft_4_1, tg_99_11, tg_121_4, fl_X8_189, ft_2_7, tg_130_17, tg_144_9, jx_wq, jx_stq, jx_ite, jx_b0, jx_bn0, jx_u_eq, jx_u_na, jx_u_ni, jx_nb0, jx_nb1, jx_ni, jx_E, eq_self, jx_a0, jx_a1, ne_eq, not_false_eq_true, Nat.reduceLeDiff, Nat.reduceEqDiff, Nat.reduceLT, jx_subl, jx_al, jx_la, jx_nm, jx_ml, nI_add, jx_xn, jx_xl, jx_inn, jx_inl, jx_ltnn, jx_lenn, jx_eqnn, jx_ltnl, jx_lenl, jx_ltln, jx_leln, jx_eqnl, Int32.reduceAdd, Int32.reduceSub, Int32.reduceMul, Int32.reduceLT, Int32.reduceLE, jx_eqll, jx_ltll, Nat.reduceMul, Nat.reduceSub, forall_const, implies_true, false_implies, not_true_eq_false, true_implies, jx_tko, jx_ofn, jx_tka, jx_pro, jx_pra, and_self, Nat.not_lt_zero, jx_nbb, hfull]
    exact kk _ _ _ _ _ hR2
