theorem sh_and (u : Nat) (x : Int32) (hu : u < 128) : ∃ t, t ≤ u ∧ nI u &&& x = nI t := by
  refine ⟨u &&& x.toBitVec.toNat, Nat.and_le_left, ?_⟩
  apply Int32.toBitVec_inj.1
  apply BitVec.eq_of_toNat_eq
  show (BitVec.ofNat 32 u &&& x.toBitVec).toNat = (BitVec.ofNat 32 (u &&& x.toBitVec.toNat)).toNat
  have h1 : u &&& x.toBitVec.toNat ≤ u := Nat.and_le_left
  rw [BitVec.toNat_and, BitVec.toNat_ofNat, BitVec.toNat_ofNat, Nat.mod_eq_of_lt (by omega), Nat.mod_eq_of_lt (by omega)]
set_option maxRecDepth 100000 in
theorem sh_bit0 : ∀ s, s < 7 → ∀ t, t < 2 ^ s → nI t >>> (nI s &&& 31) &&& 1 = 0 := by decide +kernel
theorem sh_lo {u s q : Nat} {x : Int32} (hu : u < 2 ^ q) (hq : q ≤ s) (hs : s < 7) : (nI u &&& x) >>> (nI s &&& 31) &&& 1 = 0 := by
  have h1 : 2 ^ q ≤ 2 ^ s := Nat.pow_le_pow_right (by decide) hq
  have h2 : 2 ^ s ≤ 2 ^ 6 := Nat.pow_le_pow_right (by decide) (by omega)
  obtain ⟨t, ht, e⟩ := sh_and u x (by omega)
  rw [e]
  exact sh_bit0 s hs t (by omega)
theorem jb_a1 {J : Nat → Nat → Int32} {c o s : Nat} {y : Int32} : jb_F J (mo_a1 J c o y s) := by
  unfold mo_a1
  split
  · exact jb_F.refl
  · exact mo_fi_fr.2.2.2.2
theorem jb_ak {J : Nat → Nat → Int32} {c o : Nat} {y : Int32} : ∀ k, jb_F J (mo_ak J c o y k)
  | 0 => jb_F.refl
  | k + 1 => (jb_ak k).trans jb_a1
theorem mo_ak_hi {J : Nat → Nat → Int32} {c o q : Nat} {y : Int32} (hz : ∀ s, q ≤ s → s < 7 → y >>> (nI s &&& 31) &&& 1 = 0) : ∀ k, q + k ≤ 7 → mo_ak J c o y (q + k) = mo_ak J c o y q
  | 0, _ => rfl
  | k + 1, h => by
    show mo_a1 (mo_ak J c o y (q + k)) c o y (q + k) = _
    unfold mo_a1
    rw [if_pos (hz (q + k) (by omega) (by omega))]
    exact mo_ak_hi hz k (by omega)
theorem rl_ak_many {J : Nat → Nat → Int32} {c o x : Nat} {y : Int32} (hx : J 98 9 = nI x) (hb : x < 20000) : ∀ k, k ≤ 7 → ∃ x2, x ≤ x2 ∧ x2 ≤ x + k ∧ mo_ak J c o y k 98 9 = nI x2
  | 0, _ => ⟨x, by omega, by omega, hx⟩
  | k + 1, h => by
    obtain ⟨x2, h1, h2, h3⟩ := rl_ak_many hx hb k (by omega)
    show ∃ x2, _ ∧ _ ∧ mo_a1 (mo_ak J c o y k) c o y k 98 9 = _
    unfold mo_a1
    split
    · exact ⟨x2, by omega, by omega, h3⟩
    · refine ⟨x2 + 1, by omega, by omega, ?_⟩
      rw [mo_fi_fr.1, h3, jx_xn (by omega)]
theorem am_h_F {J J2 : Nat → Nat → Int32} {B c o q h : Nat} (ha : am_h J B c o q h) (hF : jb_F J J2) : am_h J2 B c o q h := by
  obtain ⟨a0, a1, a2, a3, a4, a5, a6, a7⟩ := ha
  unfold am_h
  rw [hF 128 c (by omega) (by omega) (by omega) (by omega), hF 98 1 (by omega) (by omega) (by omega) (by omega), hF 119 o (by omega) (by omega) (by omega) (by omega), hF 132 c (by omega) (by omega) (by omega) (by omega), hF 121 o (by omega) (by omega) (by omega) (by omega), hF 134 c (by omega) (by omega) (by omega) (by omega)]
  exact ⟨a0, a1, a2, a3, a4, a5, a6, a7⟩
theorem cn_r_run {I : Nat → Nat → Int32} {P : Nat → Nat → Option Nat} {J : Nat → Nat → Int32} {B c o : Nat} {A : Nat → Nat} (h : cn_r I P J B A c) (hd : J 128 c = nI o) (ho : o < B) (hB : B ≤ 60) : P (78 + 5 * c) 4 = some (A o) ∧ cn_o I J c o := by
  obtain ⟨o2, h1, h2, h3, h4⟩ := h.2.resolve_left (fun q => by have q2 := hd.symm.trans q.1; rw [jx_m1 (by omega)] at q2; exact q2)
  have q := hd.symm.trans h2
  rw [jx_eqnn (by omega) (by omega)] at q
  subst q
  exact ⟨h3, h4⟩
/-- asked grows -/
theorem rl_asked {n ms : Nat} {K : Nat → Nat × Nat} {I : Nat → Nat → Int32} {P : Nat → Nat → Option Nat} {J : Nat → Nat → Int32} {B h c o : Nat} {A : Nat → Nat} {T : Nat → Prop} {X : Nat → Nat → Int32} (hR : rl n ms K I P J B A h T X) (hc : c < 4) (ho : o < B) (hd : J 128 c = nI o) {v : Int32} : rl n ms K (jx_u I (78 + 5 * c) 8 v) P (jx_u J 130 c v) B A h T X := by
  have hN := hR.1
  obtain ⟨hs, -⟩ := hN.2.2.2.2.1 c hc
  obtain ⟨hp, q0, q1, q2, q3, q4, q5, q6, q7, q8⟩ := cn_r_run (hN.2.2.2.2.1 c hc) hd ho hN.2.2.2.2.2.1.1
  obtain ⟨s0, s1, s2, s3⟩ := hs
  refine rl_chg hR (rl_N_c hN hc (fun b j hb => jx_u_na (by omega)) (fun _ _ _ => rfl) (fun a j h1 h2 h3 => ?_) ?_) (fun b j hb => jx_u_na (by omega)) (fun _ _ _ => rfl) (fun a j h1 h2 => jx_u_na (by omega)) (jx_u_na (by decide)) (jx_u_na (by decide))
  · by_cases e : a = 130
    · exact jx_u_ni (fun q => h3 (by unfold jc_own; omega))
    · exact jx_u_na e
  · unfold cn_r cn_s cn_o mo_of
    simp (disch := omega) only [jx_u_na, jx_u_ni, jx_u_eq]
    exact ⟨⟨s0, s1, s2, s3⟩, Or.inr ⟨o, ho, hd, hp, q0, trivial, q2, q3, q4, q5, q6, q7, q8⟩⟩
set_option maxHeartbeats 4000000 in
set_option maxRecDepth 100000 in
theorem am_loop {G : jx_G} {J : Nat → Nat → Int32} {B h : Nat} {A : Nat → Nat} {T : Nat → Prop} {X : Nat → Nat → Int32} {Q : Option jx_V → jx_M → Prop} {c o q x : Nat} {y : Int32} (ha : am_h J B c o q h) (hz : ∀ s, q ≤ s → s < 7 → y >>> (nI s &&& 31) &&& 1 = 0) (hx : J 98 9 = nI x) (hx2 : x + h + 9 ≤ 15999) (kk : ∀ n ms K I P, rl n ms K I P (jx_u (mo_ak J c o y 7) 130 c (J 130 c ||| y)) B A h T X → Q none (n, ms, K, I, P)) : ∀ f s, s + f = q → ∀ n ms K I P, rl n ms K I P (mo_ak J c o y s) B A h T X → ∀ x5, jx_J G yX8_askMissing cX8_askMissing 6 none 8 (Q) 16 [some (.inr (some 3)), some (.inr (some (78 + 5 * c))), some (.inr (some (A o))), some (.inl y), some (.inl (nI s)), x5] [] (n, ms, K, I, P) := by
  intro f
  induction f with
  | zero =>
    intro s hs n ms K I P hR x5
    have e0 : s = q := by omega
    subst e0
    have ha2 := am_h_F ha (jb_ak (c := c) (o := o) (y := y) s)
    obtain ⟨hc, ho, hd, hq, hq7, -⟩ := ha2
    obtain ⟨n0, n1, n2, n3, n4, n5, n6⟩ := id hR.1
    have g0 := n0.1
    have c0 := ((n0.2.2.2.2.2.2.2.2.2.1 c hc).2).1
    have hrun := cn_r_run (n4 c hc) hd ho n5.1
    have n65 : I 3 5 = nI s := n6.trans hq
    have e8 : I (78 + 5 * c) 8 = J 130 c := by
      rw [hrun.2.2.1, jb_ak s 130 c (by omega) (by omega) (by omega) (by omega)]
    have e7 : mo_ak J c o y 7 = mo_ak J c o y s := by
      have := mo_ak_hi (J := J) (c := c) (o := o) (y := y) hz (7 - s) (by omega)
      rw [show s + (7 - s) = 7 by omega] at this
      exact this
    refine jx_gq flok_X8 (fwok_X8 rfl) 99999 14 _ _ _ _ ?_
    simp (disch := omega) only [↓reduceIte, jx_wp, jx_stp, jx_f0, jx_f1, jx_f2, jx_f3, List.getElem?_cons_zero, List.getElem?_cons_succ, List.set_cons_zero, List.set_cons_succ, Nat.reduceAdd, true_and, and_true, if_true, if_false, Bool.false_eq_true, jx_s, Nat.reduceLT, dX8_askMissing_0, dX8_askMissing_1, dX8_askMissing_2, dX8_askMissing_5, dX8_askMissing_6, dX8_askMissing_9, dX8_askMissing_10, dX8_askMissing_11, dX8_askMissing_12, dX8_askMissing_13, dX8_askMissing_14, dX8_askMissing_16, dX8_askMissing_18, dX8_askMissing_19, dX8_askMissing_22, dX8_askMissing_25, dX8_askMissing_26, dX8_askMissing_28, dX8_askMissing_31, dX8_askMissing_34, dX8_askMissing_35, dX8_askMissing_38, dX8_askMissing_39, dX8_askMissing_40, dX8_askMissing_43, dX8_askMissing_45, dX8_askMissing_46, dX8_askMissing_49, dX8_askMissing_50, dX8_askMissing_53, dX8_askMissing_56, dX8_askMissing_58, dX8_askMissing_59, dX8_askMissing_60, dX8_askMissing_62, dX8_askMissing_65, dX8_askMissing_68, dX8_askMissing_71, dX8_askMissing_72, dX8_askMissing_73, dX8_askMissing_76, dX8_askMissing_77, dX8_askMissing_78, dX8_askMissing_81, fl_X8_183, ft_2_8, jx_km1, jx_k0, fl_X8_65, ft_9_5, tg_22_49, tg_31_34, fl_X8_24, ft_9_2, fl_X8_259, ft_2_0, fl_X8_69, ft_2_1, jx_k1, tg_68_m52, fw_X8_183, jx_wq, jx_stq, jx_ite, jx_b0, jx_bn0, jx_u_eq, jx_u_na, jx_u_ni, jx_nb0, jx_nb1, jx_ni, jx_E, eq_self, jx_a0, jx_a1, ne_eq, not_false_eq_true, Nat.reduceLeDiff, Nat.reduceEqDiff, Nat.reduceLT, jx_subl, jx_al, jx_la, jx_nm, jx_ml, nI_add, jx_xn, jx_xl, jx_inn, jx_inl, jx_ltnn, jx_lenn, jx_eqnn, jx_ltnl, jx_lenl, jx_ltln, jx_leln, jx_eqnl, Int32.reduceAdd, Int32.reduceSub, Int32.reduceMul, Int32.reduceLT, Int32.reduceLE, jx_eqll, jx_ltll, Nat.reduceMul, Nat.reduceSub, forall_const, implies_true, false_implies, not_true_eq_false, true_implies, jx_tko, jx_ofn, jx_tka, jx_pro, jx_pra, and_self, Nat.not_lt_zero, jx_nbb, fv_2_8, g0, n65, Nat.le_refl, c0, e8]
    refine kk _ _ _ _ _ ?_
    rw [e7]
    exact rl_asked hR hc ho hd
  | succ f ih =>
    intro s hs n ms K I P hR
    have ha2 := am_h_F ha (jb_ak (c := c) (o := o) (y := y) s)
    obtain ⟨x2, x3, x4, x5⟩ := rl_ak_many (c := c) (o := o) (y := y) hx (by omega) s (by have := ha.2.2.2.2.1; omega)
    have hx3 : ∀ z, mo_ak J c o y s 98 9 = nI z → z ≤ 16000 → z + h + 1 ≤ 15999 := fun z h1 h2 => by
      have q := x5.symm.trans h1
      have hq7 := ha.2.2.2.2.1
      rw [jx_eqnn (by omega) (by omega)] at q
      omega
    have hp := ha2.2.2.2.2.2.2.1
    have kk2 : ∀ n2 ms2 K2 I2 P2 x5, rl n2 ms2 K2 I2 P2 (mo_a1 (mo_ak J c o y s) c o y s) B A h T X → jx_J G yX8_askMissing cX8_askMissing 6 none 8 (Q) 16 [some (.inr (some 3)), some (.inr (some (78 + 5 * c))), some (.inr (some (A o))), some (.inl y), some (.inl (nI (s + 1))), x5] [] (n2, ms2, K2, I2, P2) := fun n2 ms2 K2 I2 P2 x5 hr => ih (s + 1) (by omega) n2 ms2 K2 I2 P2 hr x5
    rcases ha2.2.2.2.2.2.1 with hs0 | hs0 | hs0 | hs0 <;> rcases hp with hp | hp
    · exact am_w1 hR ha2 (Or.inl hs0) hp (by omega) hx3 kk2
    · exact am_w2 hR ha2 (Or.inl hs0) hp (by omega) hx3 kk2
    · exact am_w1 hR ha2 (Or.inr hs0) hp (by omega) hx3 kk2
    · exact am_w2 hR ha2 (Or.inr hs0) hp (by omega) hx3 kk2
    · exact am_c1 hR ha2 hs0 hp (by omega) hx3 kk2
    · exact am_c2 hR ha2 hs0 hp (by omega) hx3 kk2
    · exact am_m1 hR ha2 hs0 hp (by omega) hx3 kk2
    · exact am_m2 hR ha2 hs0 hp (by omega) hx3 kk2
set_option maxHeartbeats 4000000 in
set_option maxRecDepth 100000 in
theorem rl_ask {G : jx_G} {n ms : Nat} {K : Nat → Nat × Nat} {I : Nat → Nat → Int32} {P : Nat → Nat → Option Nat} {J : Nat → Nat → Int32} {B h : Nat} {A : Nat → Nat} {T : Nat → Prop} {X : Nat → Nat → Int32} {c o q x u : Nat} (hR : rl n ms K I P J B A h T X) (ha : am_h J B c o q h) (hx : J 98 9 = nI x) (hx2 : x + h + 9 ≤ 15999) (hu : u < 2 ^ q) (hW : jx_C G yX1_serversToAsk cX1_serversToAsk 2 (some FieldType.int) 2 [.inr (some (78 + 5 * c)), .inr (some (A o))] (n, ms, K, I, P) (jx_E (some (.inl (nI u))) (n, ms, K, I, P))) : jx_C G yX8_askMissing cX8_askMissing 6 none 8 [.inr (some 3), .inr (some (78 + 5 * c)), .inr (some (A o))] (n, ms, K, I, P) (rl_Q none (mo_am J c o (nI u)) B A h T X) := by
  refine jx_C_of (by decide) (Nat.le_of_ble_eq_true rfl) ?_
  simp only [List.map_cons, List.map_nil, List.length_cons, List.length_nil, Nat.reduceAdd, Nat.reduceSub, List.replicate_zero, List.append_nil, List.replicate_succ, List.cons_append, List.nil_append]
  obtain ⟨hc, ho, hd, hq, hq7, -⟩ := id ha
  obtain ⟨n0, n1, n2, n3, n4, n5, n6⟩ := id hR.1
  have g0 := n0.1
  have c0 := ((n0.2.2.2.2.2.2.2.2.2.1 c hc).2).1
  have hrun := cn_r_run (n4 c hc) hd ho n5.1
  have e8 : I (78 + 5 * c) 8 = J 130 c := hrun.2.2.1
  refine jx_gq flok_X8 (fwok_X8 rfl) 16 2 _ _ _ _ ?_
  simp (disch := omega) only [↓reduceIte, jx_wp, jx_stp, jx_f0, jx_f1, jx_f2, jx_f3, List.getElem?_cons_zero, List.getElem?_cons_succ, List.set_cons_zero, List.set_cons_succ, Nat.reduceAdd, true_and, and_true, if_true, if_false, Bool.false_eq_true, jx_s, Nat.reduceLT, dX8_askMissing_0, dX8_askMissing_1, dX8_askMissing_2, dX8_askMissing_5, dX8_askMissing_6, dX8_askMissing_9, dX8_askMissing_10, dX8_askMissing_11, dX8_askMissing_12, dX8_askMissing_13, dX8_askMissing_14, dX8_askMissing_16, dX8_askMissing_18, dX8_askMissing_19, dX8_askMissing_22, dX8_askMissing_25, dX8_askMissing_26, dX8_askMissing_28, dX8_askMissing_31, dX8_askMissing_34, dX8_askMissing_35, dX8_askMissing_38, dX8_askMissing_39, dX8_askMissing_40, dX8_askMissing_43, dX8_askMissing_45, dX8_askMissing_46, dX8_askMissing_49, dX8_askMissing_50, dX8_askMissing_53, dX8_askMissing_56, dX8_askMissing_58, dX8_askMissing_59, dX8_askMissing_60, dX8_askMissing_62, dX8_askMissing_65, dX8_askMissing_68, dX8_askMissing_71, dX8_askMissing_72, dX8_askMissing_73, dX8_askMissing_76, dX8_askMissing_77, dX8_askMissing_78, dX8_askMissing_81, fl_X8_183, ft_2_8, jx_km1, jx_k0, fl_X8_65, ft_9_5, tg_22_49, tg_31_34, fl_X8_24, ft_9_2, fl_X8_259, ft_2_0, fl_X8_69, ft_2_1, jx_k1, tg_68_m52, fw_X8_183, jx_wq, jx_stq, jx_ite, jx_b0, jx_bn0, jx_u_eq, jx_u_na, jx_u_ni, jx_nb0, jx_nb1, jx_ni, jx_E, eq_self, jx_a0, jx_a1, ne_eq, not_false_eq_true, Nat.reduceLeDiff, Nat.reduceEqDiff, Nat.reduceLT, jx_subl, jx_al, jx_la, jx_nm, jx_ml, nI_add, jx_xn, jx_xl, jx_inn, jx_inl, jx_ltnn, jx_lenn, jx_eqnn, jx_ltnl, jx_lenl, jx_ltln, jx_leln, jx_eqnl, Int32.reduceAdd, Int32.reduceSub, Int32.reduceMul, Int32.reduceLT, Int32.reduceLE, jx_eqll, jx_ltll, Nat.reduceMul, Nat.reduceSub, forall_const, implies_true, false_implies, not_true_eq_false, true_implies, jx_tko, jx_ofn, jx_tka, jx_pro, jx_pra, and_self, Nat.not_lt_zero, jx_nbb, fv_2_8, c0]
  refine jx_cV1 dX8_askMissing_2 li_X8_331 (hW) (congrArg Prod.fst c0) (Nat.le_of_ble_eq_true rfl) (Nat.le_of_ble_eq_true rfl) ?_
  rintro _ _ ⟨rfl, rfl⟩ - -
  simp only [Option.toList_some, Option.toList_none, List.cons_append, List.nil_append]
  refine jx_gq flok_X8 (fwok_X8 rfl) 16 10 _ _ _ _ ?_
  simp (disch := omega) only [↓reduceIte, jx_wp, jx_stp, jx_f0, jx_f1, jx_f2, jx_f3, List.getElem?_cons_zero, List.getElem?_cons_succ, List.set_cons_zero, List.set_cons_succ, Nat.reduceAdd, true_and, and_true, if_true, if_false, Bool.false_eq_true, jx_s, Nat.reduceLT, dX8_askMissing_0, dX8_askMissing_1, dX8_askMissing_2, dX8_askMissing_5, dX8_askMissing_6, dX8_askMissing_9, dX8_askMissing_10, dX8_askMissing_11, dX8_askMissing_12, dX8_askMissing_13, dX8_askMissing_14, dX8_askMissing_16, dX8_askMissing_18, dX8_askMissing_19, dX8_askMissing_22, dX8_askMissing_25, dX8_askMissing_26, dX8_askMissing_28, dX8_askMissing_31, dX8_askMissing_34, dX8_askMissing_35, dX8_askMissing_38, dX8_askMissing_39, dX8_askMissing_40, dX8_askMissing_43, dX8_askMissing_45, dX8_askMissing_46, dX8_askMissing_49, dX8_askMissing_50, dX8_askMissing_53, dX8_askMissing_56, dX8_askMissing_58, dX8_askMissing_59, dX8_askMissing_60, dX8_askMissing_62, dX8_askMissing_65, dX8_askMissing_68, dX8_askMissing_71, dX8_askMissing_72, dX8_askMissing_73, dX8_askMissing_76, dX8_askMissing_77, dX8_askMissing_78, dX8_askMissing_81, fl_X8_183, ft_2_8, jx_km1, jx_k0, fl_X8_65, ft_9_5, tg_22_49, tg_31_34, fl_X8_24, ft_9_2, fl_X8_259, ft_2_0, fl_X8_69, ft_2_1, jx_k1, tg_68_m52, fw_X8_183, jx_wq, jx_stq, jx_ite, jx_b0, jx_bn0, jx_u_eq, jx_u_na, jx_u_ni, jx_nb0, jx_nb1, jx_ni, jx_E, eq_self, jx_a0, jx_a1, ne_eq, not_false_eq_true, Nat.reduceLeDiff, Nat.reduceEqDiff, Nat.reduceLT, jx_subl, jx_al, jx_la, jx_nm, jx_ml, nI_add, jx_xn, jx_xl, jx_inn, jx_inl, jx_ltnn, jx_lenn, jx_eqnn, jx_ltnl, jx_lenl, jx_ltln, jx_leln, jx_eqnl, Int32.reduceAdd, Int32.reduceSub, Int32.reduceMul, Int32.reduceLT, Int32.reduceLE, jx_eqll, jx_ltll, Nat.reduceMul, Nat.reduceSub, forall_const, implies_true, false_implies, not_true_eq_false, true_implies, jx_tko, jx_ofn, jx_tka, jx_pro, jx_pra, and_self, Nat.not_lt_zero, jx_nbb, fv_2_8, c0, e8]
  refine am_loop ha (fun s h1 h2 => sh_lo hu h1 h2) hx hx2 (fun n ms K I P hr => ⟨rfl, n, ms, K, I, P, rfl, ?_⟩) q 0 (by omega) n ms K I P hR _
  unfold mo_am
  exact hr
