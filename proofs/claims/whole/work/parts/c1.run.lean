theorem ae_W {I J : Nat → Nat → Int32} (h : ag I J) {c o : Nat} : mo_W I c o = mo_W J c o := by
  unfold mo_W
  simp only [h 119 o (by decide) (by decide), h 132 c (by decide) (by decide), h 134 c (by decide) (by decide), h 135 c (by decide) (by decide), h 99 _ (by decide) (by decide), ae_al h]
theorem ae_FU {I J : Nat → Nat → Int32} (h : ag I J) {c o : Nat} : mo_FU I c o = mo_FU J c o := by
  unfold mo_FU
  simp only [h 119 o (by decide) (by decide), h 131 c (by decide) (by decide), ae_fu h, ae_W h]
theorem ag_BA {I J : Nat → Nat → Int32} (h : ag I J) {c o : Nat} : ag (mo_BA I c o) (mo_BA J c o) := by
  unfold mo_BA
  rw [ae_W h]
  exact ag_am h
theorem ag_EN {I J : Nat → Nat → Int32} (h : ag I J) {c o : Nat} : ag (mo_EN I c o) (mo_EN J c o) := by
  unfold mo_EN
  simp only [h 119 o (by decide) (by decide), h 132 c (by decide) (by decide), h 134 c (by decide) (by decide), h 137 (3 * c) (by decide) (by decide), h 121 o (by decide) (by decide), ae_of h]
  refine ag_ite (ag_ite (ag_ov h) (ag_BA (ag_br (ag_ite (ag_wb h) h)))) (ag_ite (ag_BA (ag_br h)) (ag_ite (ag_ov (ag_e5 h)) (ag_ov (ag_e6 h))))
theorem ag_TL {I J : Nat → Nat → Int32} (h : ag I J) {c o : Nat} : ag (mo_TL I c o) (mo_TL J c o) := by
  unfold mo_TL
  rw [ae_FU (ag_BA h)]
  exact ag_ite (ag_EN (ag_BA h)) (ag_BA h)
theorem ag_C1 {I J : Nat → Nat → Int32} (h : ag I J) {c : Nat} : ag (mo_C1 I c) (mo_C1 J c) := by
  unfold mo_C1
  simp only [h 132 c (by decide) (by decide), h 98 52 (by decide) (by decide), h 98 53 (by decide) (by decide), h 98 54 (by decide) (by decide), h 98 55 (by decide) (by decide), h 98 56 (by decide) (by decide), h 98 57 (by decide) (by decide)]
  exact ag_ite (ag_b (ag_b (ag_b (ag_ct h)))) (ag_ct h)
theorem ag_C2 {I J : Nat → Nat → Int32} (h : ag I J) {c o : Nat} : ag (mo_C2 I c o) (mo_C2 J c o) := by
  unfold mo_C2
  simp only [h 119 o (by decide) (by decide), h 134 c (by decide) (by decide), h 98 50 (by decide) (by decide), h 129 c (by decide) (by decide), h 98 58 (by decide) (by decide), h 127 o (by decide) (by decide), h 121 o (by decide) (by decide), h 99 _ (by decide) (by decide)]
  exact ag_ite (ag_ite (ag_ov h) (ag_ite (ag_ite (ag_ov (ag_bu h)) (ag_BA (ag_br (ag_rt h)))) (ag_TL h))) (ag_ite (ag_ov h) (ag_TL h))
theorem ag_CX {I J : Nat → Nat → Int32} (h : ag I J) {c o : Nat} : ag (mo_CX I c o) (mo_CX J c o) := by
  unfold mo_CX
  simp only [h 98 50 (by decide) (by decide), h 129 c (by decide) (by decide), h 98 58 (by decide) (by decide)]
  exact ag_C2 (ag_ite (ag_C1 h) h)
theorem ag_SG {I J : Nat → Nat → Int32} (h : ag I J) {q s : Nat} : ag (mo_SG I q s) (mo_SG J q s) := by
  unfold mo_SG
  simp only [h 98 47 (by decide) (by decide), h 98 51 (by decide) (by decide), h 98 52 (by decide) (by decide), h 103 _ (by decide) (by decide)]
  exact ag_ite h (ag_ite (ag_g0 h) (ag_ite (ag_g1 h) (ag_ite (ag_ite (ag_g2 h) (ag_bd h)) (ag_ite (ag_ite (ag_g3 h) (ag_bd h)) (ag_ite (ag_g4 h) (ag_g5 h))))))
theorem ag_CG {I J : Nat → Nat → Int32} (h : ag I J) {c : Nat} : ag (mo_CG I c) (mo_CG J c) := by
  unfold mo_CG
  simp only [h 128 c (by decide) (by decide)]
  exact ag_ite h (ag_CX h)
theorem ag_D {I J : Nat → Nat → Int32} (h : ag I J) {i q : Nat} : ag (mo_D I i q) (mo_D J i q) := by
  unfold mo_D
  simp only [h 106 i (by decide) (by decide), h 107 i (by decide) (by decide), h 108 i (by decide) (by decide), h 100 _ (by decide) (by decide)]
  exact ag_ite (ag_ite (ag_SG (ag_dl h)) (ag_sh (ag_tk h))) (ag_ite (ag_CG (ag_dl h)) (ag_sh (ag_tk h)))
theorem ae_DV {I J : Nat → Nat → Int32} (h : ag I J) {i : Nat} : mo_DV I i = mo_DV J i := by
  unfold mo_DV
  simp only [h 106 i (by decide) (by decide), h 107 i (by decide) (by decide), h 108 i (by decide) (by decide), h 100 _ (by decide) (by decide)]
theorem ag_S1 {I J : Nat → Nat → Int32} (h : ag I J) {B c : Nat} {kd s v : Int32} : ag (mo_S1 I B kd c s v) (mo_S1 J B kd c s v) := ag_br (ag_o1 h)
/-- the count of deliveries -/
theorem BA_11 {J : Nat → Nat → Int32} {c o : Nat} : mo_BA J c o 98 11 = J 98 11 := by
  unfold mo_BA mo_am
  rw [jx_u_na (by omega)]
  exact jb_ak 7 98 11 (by omega) (by omega) (by omega) (by omega)
theorem EN_11 {J : Nat → Nat → Int32} {c o : Nat} : mo_EN J c o 98 11 = J 98 11 := by
  unfold mo_EN
  repeat' split
  · rw [mo_ov_o (by omega) (by omega) (by omega)]
  · rw [BA_11, br_o (by omega), wb_o (by omega)]
  · rw [BA_11, br_o (by omega)]
  · rw [BA_11, br_o (by omega)]
  · rw [mo_ov_o (by omega) (by omega) (by omega)]
    unfold mo_e5
    rw [jb_nk 7 98 11 (by omega) (by omega) (by omega) (by omega), jx_u_na (by omega)]
  · rw [mo_ov_o (by omega) (by omega) (by omega)]
    unfold mo_e6
    rw [jb_nk 7 98 11 (by omega) (by omega) (by omega) (by omega), jx_u_na (by omega)]
theorem TL_11 {J : Nat → Nat → Int32} {c o : Nat} : mo_TL J c o 98 11 = J 98 11 := by
  unfold mo_TL
  split
  · rw [EN_11, BA_11]
  · rw [BA_11]
theorem CX_11 {J : Nat → Nat → Int32} {c o : Nat} : mo_CX J c o 98 11 = J 98 11 := by
  have e : ∀ Y : Nat → Nat → Int32, mo_C2 Y c o 98 11 = Y 98 11 := fun Y => by
    unfold mo_C2
    repeat' split
    · rw [mo_ov_o (by omega) (by omega) (by omega)]
    · rw [mo_ov_o (by omega) (by omega) (by omega)]
      unfold mo_bu
      rw [jx_u_na (by omega)]
    · rw [BA_11, br_o (by omega), rt_o (by omega) (by omega) (by omega)]
    · exact TL_11
    · rw [mo_ov_o (by omega) (by omega) (by omega)]
    · exact TL_11
  unfold mo_CX
  rw [e]
  split
  · exact mo_C1_o (by omega) (by omega)
  · rfl
theorem SG_11 {J : Nat → Nat → Int32} {q s : Nat} : mo_SG J q s 98 11 = J 98 11 := by
  unfold mo_SG
  repeat' split
  · rfl
  · rw [g0_o (by omega), mo_ly_f (by omega) (by omega)]
  · rw [g1_o (by omega), mo_ly_f (by omega) (by omega), mo_h_o (by omega)]
  · rw [g2_o (by omega), mo_ly_f (by omega) (by omega), jx_u_na (by omega)]
  · rw [bd_o2 (by omega), mo_ly_f (by omega) (by omega)]
  · rw [g3_o (by omega), mo_ly_f (by omega) (by omega), jx_u_na (by omega), jx_u_na (by omega), jx_u_na (by omega)]
  · rw [bd_o3 (by omega), mo_ly_f (by omega) (by omega)]
  · rw [g4_o (by omega), mo_ly_f (by omega) (by omega)]
  · rw [g5_o (by omega), mo_ly_f (by omega) (by omega)]
    unfold mo_h3
    rw [mo_h_o (by omega), mo_h_o (by omega), mo_h_o (by omega)]
theorem D_11 {J : Nat → Nat → Int32} {i q : Nat} : mo_D J i q 98 11 = J 98 11 + mo_DV J i := by
  have e1 : ∀ w, mo_dl J w i q 98 11 = J 98 11 + 1 := fun w => by
    unfold mo_dl
    rw [jx_u_eq]
  have e0 : mo_sh (mo_tk J i) i q 98 11 = J 98 11 := by rw [mo_sh_f (by omega), mo_tk_lo (by omega)]
  unfold mo_D mo_DV
  split
  · split
    · rw [SG_11, e1]
    · rw [e0, Int32.add_zero]
  · split
    · unfold mo_CG
      split
      · rw [e1]
      · rw [CX_11, e1]
    · rw [e0, Int32.add_zero]
def mo_rs (s : Int32) : Int32 := s * 1103515245 + 12345
def mo_dr (s : Int32) : Nat := (s.toUInt32 >>> (Int32.toUInt32 16 &&& Int32.toUInt32 31)).toNat
theorem u32_nI (u : UInt32) : u.toInt32 = nI u.toNat := by
  apply Int32.toBitVec_inj.mp
  show u.toBitVec = BitVec.ofNat 32 u.toBitVec.toNat
  rw [BitVec.ofNat_toNat, BitVec.setWidth_eq]
theorem dr_lt (s : Int32) : mo_dr s < 65536 := by
  unfold mo_dr
  have e : Int32.toUInt32 16 &&& Int32.toUInt32 31 = 16 := by decide
  rw [e, UInt32.toNat_shiftRight]
  have h := UInt32.toNat_lt s.toUInt32
  have e2 : (16 : UInt32).toNat % 32 = 16 := by decide
  rw [e2, Nat.shiftRight_eq_div_pow]
  omega
theorem dr_v (s : Int32) : (s.toUInt32 >>> (Int32.toUInt32 16 &&& Int32.toUInt32 31)).toInt32 = nI (mo_dr s) := u32_nI _
/-- k deliveries at most, from seed s on -/
def mo_R : Nat → Int32 → (Nat → Nat → Int32) → (Nat → Nat → Int32)
  | 0, _, J => J
  | k + 1, s, J => if J 98 9 = 0 then J else mo_R k (mo_rs s) (mo_D J (mo_dr (mo_rs s) % jx_x (J 98 9)) (jx_x (J 98 9) - 1))
def mo_RC : Nat → Int32 → (Nat → Nat → Int32) → Nat
  | 0, _, _ => 0
  | k + 1, s, J => if J 98 9 = 0 then 0 else mo_RC k (mo_rs s) (mo_D J (mo_dr (mo_rs s) % jx_x (J 98 9)) (jx_x (J 98 9) - 1)) + 1
theorem ag_R {I J : Nat → Nat → Int32} : ∀ k s, ag I J → ag (mo_R k s I) (mo_R k s J)
  | 0, _, h => h
  | k + 1, s, h => by
    unfold mo_R
    simp only [h 98 9 (by decide) (by decide)]
    exact ag_ite h (ag_R k _ (ag_D h))
theorem ae_RC {I J : Nat → Nat → Int32} : ∀ k s, ag I J → mo_RC k s I = mo_RC k s J
  | 0, _, h => rfl
  | k + 1, s, h => by
    unfold mo_RC
    simp only [h 98 9 (by decide) (by decide)]
    rw [ae_RC k _ (ag_D h)]
theorem RC_le {J : Nat → Nat → Int32} : ∀ k s, mo_RC k s J ≤ k
  | 0, _ => Nat.le_refl _
  | k + 1, s => by
    unfold mo_RC
    split
    · omega
    · have := @RC_le (mo_D J (mo_dr (mo_rs s) % jx_x (J 98 9)) (jx_x (J 98 9) - 1)) k (mo_rs s)
      omega
theorem Iv_R {J : Nat → Nat → Int32} {q B : Nat} : ∀ k s x, Iv J q x B 4 → x + iv_p J ≤ 133 * B → ∃ x2, Iv (mo_R k s J) q x2 B 4 ∧ x2 + iv_p (mo_R k s J) ≤ 133 * B
  | 0, _, x, h, hp => ⟨x, h, hp⟩
  | k + 1, s, x, h, hp => by
    have hB := h.1.2.2.2.2.2.2
    have hx : J 98 9 = nI x := h.1.2.2.2.2.1
    unfold mo_R
    rw [hx, jx_xn (by omega)]
    by_cases e : x = 0
    · subst e
      rw [if_pos (show nI 0 = 0 from rfl)]
      exact ⟨0, h, hp⟩
    · rw [if_neg (fun w => by rw [show (0 : Int32) = nI 0 from rfl, jx_eqnn (by omega) (by omega)] at w; exact e w)]
      obtain ⟨x2, i1, i2⟩ := Iv_D (i := mo_dr (mo_rs s) % x) h (Nat.mod_lt _ (by omega)) (by omega)
      exact Iv_R k _ x2 i1 (by omega)
set_option maxHeartbeats 4000000 in
set_option maxRecDepth 100000 in
theorem mo_run_l {G : jx_G} {n ms : Nat} {K : Nat → Nat × Nat} {P : Nat → Nat → Option Nat} (hM : mo_ok K P) {q B m : Nat} {sd : Int32} {Q : Option jx_V → jx_M → Prop} : ∀ k (I : Nat → Nat → Int32) s x dn, Iv I q x B 4 → x + iv_p I ≤ 133 * B → dn + k = m → m ≤ 1000 → Q (some (.inl (nI (dn + mo_RC k s I)))) (n, ms, K, mo_R k s I, P) → jx_J G yX9_run cX9_run 5 (some FieldType.int) 7 (Q) 23 [some (.inr (some 98)), some (.inl sd), some (.inl (nI m)), some (.inl s), some (.inl (nI dn))] [] (n, ms, K, I, P) := by
  intro k
  induction k with
  | zero =>
    intro I s x dn h hp hm hm2 hQ
    have e1 : m ≤ dn := by omega
    refine jx_gq flok_X9 (fwok_X9 rfl) 23 6 _ _ _ _ ?_
    simp (disch := omega) only [↓reduceIte, jx_wp, jx_stp, jx_f0, jx_f1, jx_f2, jx_f3, List.getElem?_cons_zero, List.getElem?_cons_succ, List.set_cons_zero, List.set_cons_succ, Nat.reduceAdd, true_and, and_true, if_true, if_false, Bool.false_eq_true, jx_s, Nat.reduceLT, dX9_run_0, dX9_run_1, dX9_run_2, dX9_run_5, dX9_run_6, dX9_run_9, dX9_run_10, dX9_run_13, dX9_run_16, dX9_run_17, dX9_run_18, dX9_run_19, dX9_run_20, dX9_run_21, dX9_run_23, dX9_run_25, dX9_run_26, dX9_run_29, dX9_run_30, dX9_run_33, dX9_run_36, dX9_run_37, dX9_run_40, dX9_run_41, dX9_run_44, dX9_run_45, dX9_run_46, dX9_run_47, dX9_run_48, dX9_run_50, dX9_run_51, dX9_run_52, dX9_run_55, dX9_run_56, dX9_run_59, dX9_run_60, dX9_run_62, dX9_run_63, dX9_run_64, dX9_run_66, dX9_run_69, dX9_run_71, jx_k0, fw_X9_140, ft_10_0, tg_6_10, jx_h1000, tg_13_5, jx_km1, tg_26_43, fl_X9_143, ft_10_9, tg_33_36, jx_h12345, jx_b16, jx_k1, tg_66_m43, jx_wq, jx_stq, jx_ite, mo_k98 hM, fv_10_0, jx_b0, jx_bn0, jx_u_eq, jx_u_na, jx_u_ni, jx_nb0, jx_nb1, jx_ni, jx_E, eq_self, jx_a0, jx_a1, ne_eq, not_false_eq_true, Nat.reduceLeDiff, Nat.reduceEqDiff, Nat.reduceLT, jx_subl, jx_al, jx_la, jx_nm, jx_ml, nI_add, jx_xn, jx_xl, jx_inn, jx_inl, jx_ltnn, jx_lenn, jx_eqnn, jx_ltnl, jx_lenl, jx_ltln, jx_leln, jx_eqnl, Int32.reduceAdd, Int32.reduceSub, Int32.reduceMul, Int32.reduceLT, Int32.reduceLE, jx_eqll, jx_ltll, Nat.reduceMul, Nat.reduceSub, forall_const, implies_true, false_implies, not_true_eq_false, true_implies, jx_tko, jx_ofn, jx_tka, jx_pro, jx_pra, and_self, Nat.not_lt_zero, fv_10_0, e1]
    exact hQ
  | succ k ih =>
    intro I s x dn h hp hm hm2 hQ
    have hB := h.1.2.2.2.2.2.2
    have hx : I 98 9 = nI x := h.1.2.2.2.2.1
    have e1 : ¬ m ≤ dn := by omega
    unfold mo_RC mo_R at hQ
    rw [hx, jx_xn (by omega)] at hQ
    by_cases e : x = 0
    · subst e
      have e2 : nI 0 ≤ 0 := by decide
      rw [if_pos (show nI 0 = 0 from rfl), if_pos (show nI 0 = 0 from rfl)] at hQ
      refine jx_gq flok_X9 (fwok_X9 rfl) 23 10 _ _ _ _ ?_
      simp (disch := omega) only [↓reduceIte, jx_wp, jx_stp, jx_f0, jx_f1, jx_f2, jx_f3, List.getElem?_cons_zero, List.getElem?_cons_succ, List.set_cons_zero, List.set_cons_succ, Nat.reduceAdd, true_and, and_true, if_true, if_false, Bool.false_eq_true, jx_s, Nat.reduceLT, dX9_run_0, dX9_run_1, dX9_run_2, dX9_run_5, dX9_run_6, dX9_run_9, dX9_run_10, dX9_run_13, dX9_run_16, dX9_run_17, dX9_run_18, dX9_run_19, dX9_run_20, dX9_run_21, dX9_run_23, dX9_run_25, dX9_run_26, dX9_run_29, dX9_run_30, dX9_run_33, dX9_run_36, dX9_run_37, dX9_run_40, dX9_run_41, dX9_run_44, dX9_run_45, dX9_run_46, dX9_run_47, dX9_run_48, dX9_run_50, dX9_run_51, dX9_run_52, dX9_run_55, dX9_run_56, dX9_run_59, dX9_run_60, dX9_run_62, dX9_run_63, dX9_run_64, dX9_run_66, dX9_run_69, dX9_run_71, jx_k0, fw_X9_140, ft_10_0, tg_6_10, jx_h1000, tg_13_5, jx_km1, tg_26_43, fl_X9_143, ft_10_9, tg_33_36, jx_h12345, jx_b16, jx_k1, tg_66_m43, jx_wq, jx_stq, jx_ite, mo_k98 hM, fv_10_0, jx_b0, jx_bn0, jx_u_eq, jx_u_na, jx_u_ni, jx_nb0, jx_nb1, jx_ni, jx_E, eq_self, jx_a0, jx_a1, ne_eq, not_false_eq_true, Nat.reduceLeDiff, Nat.reduceEqDiff, Nat.reduceLT, jx_subl, jx_al, jx_la, jx_nm, jx_ml, nI_add, jx_xn, jx_xl, jx_inn, jx_inl, jx_ltnn, jx_lenn, jx_eqnn, jx_ltnl, jx_lenl, jx_ltln, jx_leln, jx_eqnl, Int32.reduceAdd, Int32.reduceSub, Int32.reduceMul, Int32.reduceLT, Int32.reduceLE, jx_eqll, jx_ltll, Nat.reduceMul, Nat.reduceSub, forall_const, implies_true, false_implies, not_true_eq_false, true_implies, jx_tko, jx_ofn, jx_tka, jx_pro, jx_pra, and_self, Nat.not_lt_zero, fv_10_0, e1, hx, e2, Nat.le_refl]
      exact hQ
    · have e2 : ¬ x ≤ 0 := by omega
      have e3 : ¬ x = 0 := e
      have n0 : ¬ nI x = 0 := fun w => by
        rw [show (0 : Int32) = nI 0 from rfl, jx_eqnn (by omega) (by omega)] at w
        exact e w
      rw [if_neg n0, if_neg n0] at hQ
      refine jx_gq flok_X9 (fwok_X9 rfl) 37 8 _ _ _ _ ?_
      simp (disch := omega) only [↓reduceIte, jx_wp, jx_stp, jx_f0, jx_f1, jx_f2, jx_f3, List.getElem?_cons_zero, List.getElem?_cons_succ, List.set_cons_zero, List.set_cons_succ, Nat.reduceAdd, true_and, and_true, if_true, if_false, Bool.false_eq_true, jx_s, Nat.reduceLT, dX9_run_0, dX9_run_1, dX9_run_2, dX9_run_5, dX9_run_6, dX9_run_9, dX9_run_10, dX9_run_13, dX9_run_16, dX9_run_17, dX9_run_18, dX9_run_19, dX9_run_20, dX9_run_21, dX9_run_23, dX9_run_25, dX9_run_26, dX9_run_29, dX9_run_30, dX9_run_33, dX9_run_36, dX9_run_37, dX9_run_40, dX9_run_41, dX9_run_44, dX9_run_45, dX9_run_46, dX9_run_47, dX9_run_48, dX9_run_50, dX9_run_51, dX9_run_52, dX9_run_55, dX9_run_56, dX9_run_59, dX9_run_60, dX9_run_62, dX9_run_63, dX9_run_64, dX9_run_66, dX9_run_69, dX9_run_71, jx_k0, fw_X9_140, ft_10_0, tg_6_10, jx_h1000, tg_13_5, jx_km1, tg_26_43, fl_X9_143, ft_10_9, tg_33_36, jx_h12345, jx_b16, jx_k1, tg_66_m43, jx_wq, jx_stq, jx_ite, mo_k98 hM, fv_10_0, jx_b0, jx_bn0, jx_u_eq, jx_u_na, jx_u_ni, jx_nb0, jx_nb1, jx_ni, jx_E, eq_self, jx_a0, jx_a1, ne_eq, not_false_eq_true, Nat.reduceLeDiff, Nat.reduceEqDiff, Nat.reduceLT, jx_subl, jx_al, jx_la, jx_nm, jx_ml, nI_add, jx_xn, jx_xl, jx_inn, jx_inl, jx_ltnn, jx_lenn, jx_eqnn, jx_ltnl, jx_lenl, jx_ltln, jx_leln, jx_eqnl, Int32.reduceAdd, Int32.reduceSub, Int32.reduceMul, Int32.reduceLT, Int32.reduceLE, jx_eqll, jx_ltll, Nat.reduceMul, Nat.reduceSub, forall_const, implies_true, false_implies, not_true_eq_false, true_implies, jx_tko, jx_ofn, jx_tka, jx_pro, jx_pra, and_self, Nat.not_lt_zero, fv_10_0, e1, hx, e2]
      refine jx_ldcw dX9_run_37 ck_X9_298 ?_
      refine jx_gq flok_X9 (fwok_X9 rfl) 56 12 _ _ _ _ ?_
      simp (disch := omega) only [↓reduceIte, jx_wp, jx_stp, jx_f0, jx_f1, jx_f2, jx_f3, List.getElem?_cons_zero, List.getElem?_cons_succ, List.set_cons_zero, List.set_cons_succ, Nat.reduceAdd, true_and, and_true, if_true, if_false, Bool.false_eq_true, jx_s, Nat.reduceLT, dX9_run_0, dX9_run_1, dX9_run_2, dX9_run_5, dX9_run_6, dX9_run_9, dX9_run_10, dX9_run_13, dX9_run_16, dX9_run_17, dX9_run_18, dX9_run_19, dX9_run_20, dX9_run_21, dX9_run_23, dX9_run_25, dX9_run_26, dX9_run_29, dX9_run_30, dX9_run_33, dX9_run_36, dX9_run_37, dX9_run_40, dX9_run_41, dX9_run_44, dX9_run_45, dX9_run_46, dX9_run_47, dX9_run_48, dX9_run_50, dX9_run_51, dX9_run_52, dX9_run_55, dX9_run_56, dX9_run_59, dX9_run_60, dX9_run_62, dX9_run_63, dX9_run_64, dX9_run_66, dX9_run_69, dX9_run_71, jx_k0, fw_X9_140, ft_10_0, tg_6_10, jx_h1000, tg_13_5, jx_km1, tg_26_43, fl_X9_143, ft_10_9, tg_33_36, jx_h12345, jx_b16, jx_k1, tg_66_m43, jx_wq, jx_stq, jx_ite, mo_k98 hM, fv_10_0, jx_b0, jx_bn0, jx_u_eq, jx_u_na, jx_u_ni, jx_nb0, jx_nb1, jx_ni, jx_E, eq_self, jx_a0, jx_a1, ne_eq, not_false_eq_true, Nat.reduceLeDiff, Nat.reduceEqDiff, Nat.reduceLT, jx_subl, jx_al, jx_la, jx_nm, jx_ml, nI_add, jx_xn, jx_xl, jx_inn, jx_inl, jx_ltnn, jx_lenn, jx_eqnn, jx_ltnl, jx_lenl, jx_ltln, jx_leln, jx_eqnl, Int32.reduceAdd, Int32.reduceSub, Int32.reduceMul, Int32.reduceLT, Int32.reduceLE, jx_eqll, jx_ltll, Nat.reduceMul, Nat.reduceSub, forall_const, implies_true, false_implies, not_true_eq_false, true_implies, jx_tko, jx_ofn, jx_tka, jx_pro, jx_pra, and_self, Nat.not_lt_zero, fv_10_0, e1, hx, e2, e3, n0]
      have er : s * 1103515245 + 12345 = mo_rs s := rfl
      have hlt := dr_lt (mo_rs s)
      rw [er, dr_v, pk_rem (by omega) (by omega) (by omega)]
      refine jx_cV1 dX9_run_56 li_X9_295 (mo_DW hM h (i := mo_dr (mo_rs s) % x) (Nat.mod_lt _ (by omega)) (by omega)) (congrArg Prod.fst (mo_k98 hM)) (Nat.le_of_ble_eq_true rfl) (Nat.le_of_ble_eq_true rfl) ?_
      rintro _ _ ⟨rfl, rfl⟩ - -
      simp only [Option.toList_some, Option.toList_none, List.cons_append, List.nil_append]
      
      refine jx_gq flok_X9 (fwok_X9 rfl) 23 8 _ _ _ _ ?_
      simp (disch := omega) only [↓reduceIte, jx_wp, jx_stp, jx_f0, jx_f1, jx_f2, jx_f3, List.getElem?_cons_zero, List.getElem?_cons_succ, List.set_cons_zero, List.set_cons_succ, Nat.reduceAdd, true_and, and_true, if_true, if_false, Bool.false_eq_true, jx_s, Nat.reduceLT, dX9_run_0, dX9_run_1, dX9_run_2, dX9_run_5, dX9_run_6, dX9_run_9, dX9_run_10, dX9_run_13, dX9_run_16, dX9_run_17, dX9_run_18, dX9_run_19, dX9_run_20, dX9_run_21, dX9_run_23, dX9_run_25, dX9_run_26, dX9_run_29, dX9_run_30, dX9_run_33, dX9_run_36, dX9_run_37, dX9_run_40, dX9_run_41, dX9_run_44, dX9_run_45, dX9_run_46, dX9_run_47, dX9_run_48, dX9_run_50, dX9_run_51, dX9_run_52, dX9_run_55, dX9_run_56, dX9_run_59, dX9_run_60, dX9_run_62, dX9_run_63, dX9_run_64, dX9_run_66, dX9_run_69, dX9_run_71, jx_k0, fw_X9_140, ft_10_0, tg_6_10, jx_h1000, tg_13_5, jx_km1, tg_26_43, fl_X9_143, ft_10_9, tg_33_36, jx_h12345, jx_b16, jx_k1, tg_66_m43, jx_wq, jx_stq, jx_ite, mo_k98 hM, fv_10_0, jx_b0, jx_bn0, jx_u_eq, jx_u_na, jx_u_ni, jx_nb0, jx_nb1, jx_ni, jx_E, eq_self, jx_a0, jx_a1, ne_eq, not_false_eq_true, Nat.reduceLeDiff, Nat.reduceEqDiff, Nat.reduceLT, jx_subl, jx_al, jx_la, jx_nm, jx_ml, nI_add, jx_xn, jx_xl, jx_inn, jx_inl, jx_ltnn, jx_lenn, jx_eqnn, jx_ltnl, jx_lenl, jx_ltln, jx_leln, jx_eqnl, Int32.reduceAdd, Int32.reduceSub, Int32.reduceMul, Int32.reduceLT, Int32.reduceLE, jx_eqll, jx_ltll, Nat.reduceMul, Nat.reduceSub, forall_const, implies_true, false_implies, not_true_eq_false, true_implies, jx_tko, jx_ofn, jx_tka, jx_pro, jx_pra, and_self, Nat.not_lt_zero, fv_10_0]
      obtain ⟨x2, i1, i2⟩ := Iv_D (i := mo_dr (mo_rs s) % x) h (Nat.mod_lt _ (by omega)) (by omega)
      refine ih _ _ x2 (dn + 1) i1 (by omega) (by omega) hm2 ?_
      rw [show dn + 1 + mo_RC k (mo_rs s) (mo_D I (mo_dr (mo_rs s) % x) (x - 1)) = dn + (mo_RC k (mo_rs s) (mo_D I (mo_dr (mo_rs s) % x) (x - 1)) + 1) by omega]
      exact hQ
set_option maxHeartbeats 4000000 in
set_option maxRecDepth 100000 in
theorem mo_run {G : jx_G} {n ms : Nat} {K : Nat → Nat × Nat} {I : Nat → Nat → Int32} {P : Nat → Nat → Option Nat} (hM : mo_ok K P) {q x B m : Nat} {sd : Int32} (h : Iv I q x B 4) (hp : x + iv_p I ≤ 133 * B) (hm : m ≤ 1000) : jx_C G yX9_run cX9_run 5 (some FieldType.int) 7 [.inr (some 98), .inl sd, .inl (nI m)] (n, ms, K, I, P) (jx_E (some (.inl (nI (mo_RC m sd I)))) (n, ms, K, mo_R m sd I, P)) := by
  refine jx_C_of (by decide) (Nat.le_of_ble_eq_true rfl) ?_
  simp only [List.map_cons, List.map_nil, List.length_cons, List.length_nil, Nat.reduceAdd, Nat.reduceSub, List.replicate_zero, List.append_nil, List.replicate_succ, List.cons_append, List.nil_append]
  have h0 : I 98 0 = 0 := h.1.1
  refine jx_gq flok_X9 (fwok_X9 rfl) 23 14 _ _ _ _ ?_
  simp (disch := omega) only [↓reduceIte, jx_wp, jx_stp, jx_f0, jx_f1, jx_f2, jx_f3, List.getElem?_cons_zero, List.getElem?_cons_succ, List.set_cons_zero, List.set_cons_succ, Nat.reduceAdd, true_and, and_true, if_true, if_false, Bool.false_eq_true, jx_s, Nat.reduceLT, dX9_run_0, dX9_run_1, dX9_run_2, dX9_run_5, dX9_run_6, dX9_run_9, dX9_run_10, dX9_run_13, dX9_run_16, dX9_run_17, dX9_run_18, dX9_run_19, dX9_run_20, dX9_run_21, dX9_run_23, dX9_run_25, dX9_run_26, dX9_run_29, dX9_run_30, dX9_run_33, dX9_run_36, dX9_run_37, dX9_run_40, dX9_run_41, dX9_run_44, dX9_run_45, dX9_run_46, dX9_run_47, dX9_run_48, dX9_run_50, dX9_run_51, dX9_run_52, dX9_run_55, dX9_run_56, dX9_run_59, dX9_run_60, dX9_run_62, dX9_run_63, dX9_run_64, dX9_run_66, dX9_run_69, dX9_run_71, jx_k0, fw_X9_140, ft_10_0, tg_6_10, jx_h1000, tg_13_5, jx_km1, tg_26_43, fl_X9_143, ft_10_9, tg_33_36, jx_h12345, jx_b16, jx_k1, tg_66_m43, jx_wq, jx_stq, jx_ite, mo_k98 hM, fv_10_0, jx_b0, jx_bn0, jx_u_eq, jx_u_na, jx_u_ni, jx_nb0, jx_nb1, jx_ni, jx_E, eq_self, jx_a0, jx_a1, ne_eq, not_false_eq_true, Nat.reduceLeDiff, Nat.reduceEqDiff, Nat.reduceLT, jx_subl, jx_al, jx_la, jx_nm, jx_ml, nI_add, jx_xn, jx_xl, jx_inn, jx_inl, jx_ltnn, jx_lenn, jx_eqnn, jx_ltnl, jx_lenl, jx_ltln, jx_leln, jx_eqnl, Int32.reduceAdd, Int32.reduceSub, Int32.reduceMul, Int32.reduceLT, Int32.reduceLE, jx_eqll, jx_ltll, Nat.reduceMul, Nat.reduceSub, forall_const, implies_true, false_implies, not_true_eq_false, true_implies, jx_tko, jx_ofn, jx_tka, jx_pro, jx_pra, and_self, Nat.not_lt_zero, fv_10_0, jx_u_id h0, hm]
  refine mo_run_l hM m I sd x 0 h hp (by omega) hm ?_
  rw [Nat.zero_add]
  exact ⟨rfl, rfl⟩
set_option maxHeartbeats 4000000 in
set_option maxRecDepth 100000 in
theorem mo_run_no {G : jx_G} {n ms : Nat} {K : Nat → Nat × Nat} {I : Nat → Nat → Int32} {P : Nat → Nat → Option Nat} (hM : mo_ok K P) {sd m : Int32} (h0 : I 98 0 = 0) (hm : m < 0 ∨ ¬ m ≤ 1000) : jx_C G yX9_run cX9_run 5 (some FieldType.int) 7 [.inr (some 98), .inl sd, .inl m] (n, ms, K, I, P) (jx_E (some (.inl (-1))) (n, ms, K, I, P)) := by
  refine jx_C_of (by decide) (Nat.le_of_ble_eq_true rfl) ?_
  simp only [List.map_cons, List.map_nil, List.length_cons, List.length_nil, Nat.reduceAdd, Nat.reduceSub, List.replicate_zero, List.append_nil, List.replicate_succ, List.cons_append, List.nil_append]
  by_cases h1 : m < 0
  · refine jx_gq flok_X9 (fwok_X9 rfl) 99999 10 _ _ _ _ ?_
    simp (disch := omega) only [↓reduceIte, jx_wp, jx_stp, jx_f0, jx_f1, jx_f2, jx_f3, List.getElem?_cons_zero, List.getElem?_cons_succ, List.set_cons_zero, List.set_cons_succ, Nat.reduceAdd, true_and, and_true, if_true, if_false, Bool.false_eq_true, jx_s, Nat.reduceLT, dX9_run_0, dX9_run_1, dX9_run_2, dX9_run_5, dX9_run_6, dX9_run_9, dX9_run_10, dX9_run_13, dX9_run_16, dX9_run_17, dX9_run_18, dX9_run_19, dX9_run_20, dX9_run_21, dX9_run_23, dX9_run_25, dX9_run_26, dX9_run_29, dX9_run_30, dX9_run_33, dX9_run_36, dX9_run_37, dX9_run_40, dX9_run_41, dX9_run_44, dX9_run_45, dX9_run_46, dX9_run_47, dX9_run_48, dX9_run_50, dX9_run_51, dX9_run_52, dX9_run_55, dX9_run_56, dX9_run_59, dX9_run_60, dX9_run_62, dX9_run_63, dX9_run_64, dX9_run_66, dX9_run_69, dX9_run_71, jx_k0, fw_X9_140, ft_10_0, tg_6_10, jx_h1000, tg_13_5, jx_km1, tg_26_43, fl_X9_143, ft_10_9, tg_33_36, jx_h12345, jx_b16, jx_k1, tg_66_m43, jx_wq, jx_stq, jx_ite, mo_k98 hM, fv_10_0, jx_b0, jx_bn0, jx_u_eq, jx_u_na, jx_u_ni, jx_nb0, jx_nb1, jx_ni, jx_E, eq_self, jx_a0, jx_a1, ne_eq, not_false_eq_true, Nat.reduceLeDiff, Nat.reduceEqDiff, Nat.reduceLT, jx_subl, jx_al, jx_la, jx_nm, jx_ml, nI_add, jx_xn, jx_xl, jx_inn, jx_inl, jx_ltnn, jx_lenn, jx_eqnn, jx_ltnl, jx_lenl, jx_ltln, jx_leln, jx_eqnl, Int32.reduceAdd, Int32.reduceSub, Int32.reduceMul, Int32.reduceLT, Int32.reduceLE, jx_eqll, jx_ltll, Nat.reduceMul, Nat.reduceSub, forall_const, implies_true, false_implies, not_true_eq_false, true_implies, jx_tko, jx_ofn, jx_tka, jx_pro, jx_pra, and_self, Nat.not_lt_zero, fv_10_0, jx_u_id h0, h1]
  · have h2 := hm.resolve_left h1
    refine jx_gq flok_X9 (fwok_X9 rfl) 99999 10 _ _ _ _ ?_
    simp (disch := omega) only [↓reduceIte, jx_wp, jx_stp, jx_f0, jx_f1, jx_f2, jx_f3, List.getElem?_cons_zero, List.getElem?_cons_succ, List.set_cons_zero, List.set_cons_succ, Nat.reduceAdd, true_and, and_true, if_true, if_false, Bool.false_eq_true, jx_s, Nat.reduceLT, dX9_run_0, dX9_run_1, dX9_run_2, dX9_run_5, dX9_run_6, dX9_run_9, dX9_run_10, dX9_run_13, dX9_run_16, dX9_run_17, dX9_run_18, dX9_run_19, dX9_run_20, dX9_run_21, dX9_run_23, dX9_run_25, dX9_run_26, dX9_run_29, dX9_run_30, dX9_run_33, dX9_run_36, dX9_run_37, dX9_run_40, dX9_run_41, dX9_run_44, dX9_run_45, dX9_run_46, dX9_run_47, dX9_run_48, dX9_run_50, dX9_run_51, dX9_run_52, dX9_run_55, dX9_run_56, dX9_run_59, dX9_run_60, dX9_run_62, dX9_run_63, dX9_run_64, dX9_run_66, dX9_run_69, dX9_run_71, jx_k0, fw_X9_140, ft_10_0, tg_6_10, jx_h1000, tg_13_5, jx_km1, tg_26_43, fl_X9_143, ft_10_9, tg_33_36, jx_h12345, jx_b16, jx_k1, tg_66_m43, jx_wq, jx_stq, jx_ite, mo_k98 hM, fv_10_0, jx_b0, jx_bn0, jx_u_eq, jx_u_na, jx_u_ni, jx_nb0, jx_nb1, jx_ni, jx_E, eq_self, jx_a0, jx_a1, ne_eq, not_false_eq_true, Nat.reduceLeDiff, Nat.reduceEqDiff, Nat.reduceLT, jx_subl, jx_al, jx_la, jx_nm, jx_ml, nI_add, jx_xn, jx_xl, jx_inn, jx_inl, jx_ltnn, jx_lenn, jx_eqnn, jx_ltnl, jx_lenl, jx_ltln, jx_leln, jx_eqnl, Int32.reduceAdd, Int32.reduceSub, Int32.reduceMul, Int32.reduceLT, Int32.reduceLE, jx_eqll, jx_ltll, Nat.reduceMul, Nat.reduceSub, forall_const, implies_true, false_implies, not_true_eq_false, true_implies, jx_tko, jx_ofn, jx_tka, jx_pro, jx_pra, and_self, Nat.not_lt_zero, fv_10_0, jx_u_id h0, h1, h2]
