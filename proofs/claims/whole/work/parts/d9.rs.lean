def la (I : Nat → Nat → Int32) (j : Nat) : Nat := jx_x (I 21 j)
def fd (I0 I : Nat → Nat → Int32) : Prop := (∀ b j, ¬ (20 ≤ b ∧ b ≤ 21) → I b j = I0 b j) ∧ ∀ j, j < 400 → I 21 j = nI (la I j) ∧ la I j < 32768
theorem la_u {I : Nat → Nat → Int32} {t v : Nat} (hv : v < 32768) : la (jx_u I 21 t (nI v)) t = v ∧ ∀ j, j ≠ t → la (jx_u I 21 t (nI v)) j = la I j := by
  unfold la
  refine ⟨by rw [jx_u_eq, jx_xn (by omega)], fun j hj => by rw [jx_u_ni hj]⟩
theorem fd_u {I0 I : Nat → Nat → Int32} {t v : Nat} (h : fd I0 I) (hv : v < 32768) : fd I0 (jx_u I 21 t (nI v)) := by
  obtain ⟨e1, e2⟩ := la_u (I := I) (t := t) hv
  refine ⟨fun b j w => by rw [jx_u_na (by omega), h.1 b j w], fun j hj => ?_⟩
  by_cases q : j = t
  · subst q
    rw [e1, jx_u_eq]
    exact ⟨rfl, hv⟩
  · rw [e2 j q, jx_u_ni q]
    exact h.2 j hj
theorem or_15 {a b : Nat} (ha : a < 32768) (hb : b < 32768) : a ||| b < 32768 := Nat.or_lt_two_pow (n := 15) ha hb
set_option maxHeartbeats 4000000 in
set_option maxRecDepth 100000 in
theorem rs_fi {G : jx_G} {n ms : Nat} {K : Nat → Nat × Nat} {I0 : Nat → Nat → Int32} {P : Nat → Nat → Option Nat} {Q : Option jx_V → jx_M → Prop} {J : Nat → Nat → Int32} {A f : Nat → Nat} {N : Nat} {cl ln : Nat → Nat} (hb : fs_b K I0 P J A f N cl ln) (hh : rw_h N cl (at_fr J f) (at_tl J f) (at_ov J f)) (h19 : ∀ c, c < 4 → I0 19 c = nI (rx_s ln c)) (h400 : rx_s ln 4 ≤ 400) {p : Nat → Nat} (hL : rx_L ln p) (kk : ∀ I, fd I0 I → (∀ c, c < 4 → I 20 c = nI (p c)) → cd_S J f N cl ln (la I) → cd_C J f N cl ln (la I) (rx_n ln p) → cd_P J f N cl ln (la I) p 4 → jx_J G yX5_findsRow cX5_findsRow 4 (some FieldType.boolean) 3 (Q) 57 [some (.inr (some 11)), some (.inl (nI (rx_s ln 4))), some (.inl (nI (rx_n ln p))), some (.inl (nI 4))] [] (n, ms, K, I, P)) : ∀ g c I, c + g = 4 → fd I0 I → (∀ c, c < 4 → I 20 c = nI (p c)) → cd_S J f N cl ln (la I) → cd_C J f N cl ln (la I) (rx_n ln p) → cd_P J f N cl ln (la I) p c → la I (rx_n ln p) ≠ 0 → jx_J G yX5_findsRow cX5_findsRow 4 (some FieldType.boolean) 3 (Q) 32 [some (.inr (some 11)), some (.inl (nI (rx_s ln 4))), some (.inl (nI (rx_n ln p))), some (.inl (nI c))] [] (n, ms, K, I, P) := by
  obtain ⟨r0, r1, r2, r3, r4, r5, r6, r7, r8, r9, r10, r11, r12, r13⟩ := id hb.1
  have hln : ∀ c, c < 4 → ln c = cn cl c N := fun c hc => (hb.2.2.2.2.1 c hc).2
  have hTb := (rx_b hL.1).2.2.2
  intro g
  induction g with
  | zero =>
    intro c I hc hd hp hS hC hP hz
    have e0 : c = 4 := by omega
    subst e0
    refine jx_gq flok_X5 (fwok_X5 rfl) 57 4 _ _ _ _ ?_
    simp (disch := omega) only [↓reduceIte, jx_wp, jx_stp, jx_f0, jx_f1, jx_f2, jx_f3, List.getElem?_cons_zero, List.getElem?_cons_succ, List.set_cons_zero, List.set_cons_succ, Nat.reduceAdd, true_and, and_true, if_true, if_false, Bool.false_eq_true, jx_s, Nat.reduceLT, dX5_findsRow_0, dX5_findsRow_1, dX5_findsRow_4, dX5_findsRow_5, dX5_findsRow_6, dX5_findsRow_7, dX5_findsRow_8, dX5_findsRow_9, dX5_findsRow_12, dX5_findsRow_13, dX5_findsRow_16, dX5_findsRow_17, dX5_findsRow_18, dX5_findsRow_21, dX5_findsRow_22, dX5_findsRow_25, dX5_findsRow_28, dX5_findsRow_29, dX5_findsRow_30, dX5_findsRow_31, dX5_findsRow_32, dX5_findsRow_33, dX5_findsRow_34, dX5_findsRow_37, dX5_findsRow_38, dX5_findsRow_39, dX5_findsRow_42, dX5_findsRow_45, dX5_findsRow_46, dX5_findsRow_47, dX5_findsRow_48, dX5_findsRow_51, dX5_findsRow_54, dX5_findsRow_57, dX5_findsRow_58, dX5_findsRow_61, dX5_findsRow_64, dX5_findsRow_67, dX5_findsRow_68, jx_k0, tg_9_58, fl_X5_32, ft_6_5, tg_18_39, tg_25_5, jx_k1, jx_k4, tg_34_23, tg_42_9, tg_54_m22, tg_64_m57, jx_wq, jx_stq, jx_ite, jx_b0, jx_bn0, jx_u_eq, jx_u_na, jx_u_ni, jx_nb0, jx_nb1, jx_ni, jx_E, eq_self, jx_a0, jx_a1, ne_eq, not_false_eq_true, Nat.reduceLeDiff, Nat.reduceEqDiff, Nat.reduceLT, jx_subl, jx_al, jx_la, jx_nm, jx_ml, nI_add, jx_xn, jx_xl, jx_inn, jx_inl, jx_ltnn, jx_lenn, jx_eqnn, jx_ltnl, jx_lenl, jx_ltln, jx_leln, jx_eqnl, Int32.reduceAdd, Int32.reduceSub, Int32.reduceMul, Int32.reduceLT, Int32.reduceLE, jx_eqll, jx_ltll, Nat.reduceMul, Nat.reduceSub, forall_const, implies_true, false_implies, not_true_eq_false, true_implies, jx_tko, jx_ofn, jx_tka, jx_pro, jx_pra, and_self, Nat.not_lt_zero, jx_nbb, Nat.le_refl]
    exact kk I hd hp hS hC hP
  | succ g ih =>
    intro c I hc hd hp hS hC hP hz
    have e1 : ¬ 4 ≤ c := by omega
    have hc4 : c < 4 := by omega
    have hbI : fs_b K I P J A f N cl ln := fs_to hb (fun b j w => hd.1 b j (by omega))
    obtain ⟨n1, n2, n3⟩ := fs_nx hbI hL hp
    refine jx_gq flok_X5 (fwok_X5 rfl) 39 6 _ _ _ _ ?_
    simp (disch := omega) only [↓reduceIte, jx_wp, jx_stp, jx_f0, jx_f1, jx_f2, jx_f3, List.getElem?_cons_zero, List.getElem?_cons_succ, List.set_cons_zero, List.set_cons_succ, Nat.reduceAdd, true_and, and_true, if_true, if_false, Bool.false_eq_true, jx_s, Nat.reduceLT, dX5_findsRow_0, dX5_findsRow_1, dX5_findsRow_4, dX5_findsRow_5, dX5_findsRow_6, dX5_findsRow_7, dX5_findsRow_8, dX5_findsRow_9, dX5_findsRow_12, dX5_findsRow_13, dX5_findsRow_16, dX5_findsRow_17, dX5_findsRow_18, dX5_findsRow_21, dX5_findsRow_22, dX5_findsRow_25, dX5_findsRow_28, dX5_findsRow_29, dX5_findsRow_30, dX5_findsRow_31, dX5_findsRow_32, dX5_findsRow_33, dX5_findsRow_34, dX5_findsRow_37, dX5_findsRow_38, dX5_findsRow_39, dX5_findsRow_42, dX5_findsRow_45, dX5_findsRow_46, dX5_findsRow_47, dX5_findsRow_48, dX5_findsRow_51, dX5_findsRow_54, dX5_findsRow_57, dX5_findsRow_58, dX5_findsRow_61, dX5_findsRow_64, dX5_findsRow_67, dX5_findsRow_68, jx_k0, tg_9_58, fl_X5_32, ft_6_5, tg_18_39, tg_25_5, jx_k1, jx_k4, tg_34_23, tg_42_9, tg_54_m22, tg_64_m57, jx_wq, jx_stq, jx_ite, jx_b0, jx_bn0, jx_u_eq, jx_u_na, jx_u_ni, jx_nb0, jx_nb1, jx_ni, jx_E, eq_self, jx_a0, jx_a1, ne_eq, not_false_eq_true, Nat.reduceLeDiff, Nat.reduceEqDiff, Nat.reduceLT, jx_subl, jx_al, jx_la, jx_nm, jx_ml, nI_add, jx_xn, jx_xl, jx_inn, jx_inl, jx_ltnn, jx_lenn, jx_eqnn, jx_ltnl, jx_lenl, jx_ltln, jx_leln, jx_eqnl, Int32.reduceAdd, Int32.reduceSub, Int32.reduceMul, Int32.reduceLT, Int32.reduceLE, jx_eqll, jx_ltll, Nat.reduceMul, Nat.reduceSub, forall_const, implies_true, false_implies, not_true_eq_false, true_implies, jx_tko, jx_ofn, jx_tka, jx_pro, jx_pra, and_self, Nat.not_lt_zero, jx_nbb, e1]
    by_cases hl : p c < ln c
    · have hk := n2 c hc4 hl
      have hmay := fs_may hbI hL hp hc4 hl
      by_cases hm : rw_may N cl (at_fr J f) (at_tl J f) (at_ov J f) p (fs_n I p c)
      · refine jx_cV1 dX5_findsRow_39 li_X5_77 (rs_may1 hbI.1 n1 hc4 hl (hmay.mpr hm)) (congrArg Prod.fst r0) (Nat.le_of_ble_eq_true rfl) (Nat.le_of_ble_eq_true rfl) ?_
        rintro _ _ ⟨rfl, rfl⟩ - -
        simp only [Option.toList_some, Option.toList_none, List.cons_append, List.nil_append]
        
        refine jx_gq flok_X5 (fwok_X5 rfl) 48 5 _ _ _ _ ?_
        simp (disch := omega) only [↓reduceIte, jx_wp, jx_stp, jx_f0, jx_f1, jx_f2, jx_f3, List.getElem?_cons_zero, List.getElem?_cons_succ, List.set_cons_zero, List.set_cons_succ, Nat.reduceAdd, true_and, and_true, if_true, if_false, Bool.false_eq_true, jx_s, Nat.reduceLT, dX5_findsRow_0, dX5_findsRow_1, dX5_findsRow_4, dX5_findsRow_5, dX5_findsRow_6, dX5_findsRow_7, dX5_findsRow_8, dX5_findsRow_9, dX5_findsRow_12, dX5_findsRow_13, dX5_findsRow_16, dX5_findsRow_17, dX5_findsRow_18, dX5_findsRow_21, dX5_findsRow_22, dX5_findsRow_25, dX5_findsRow_28, dX5_findsRow_29, dX5_findsRow_30, dX5_findsRow_31, dX5_findsRow_32, dX5_findsRow_33, dX5_findsRow_34, dX5_findsRow_37, dX5_findsRow_38, dX5_findsRow_39, dX5_findsRow_42, dX5_findsRow_45, dX5_findsRow_46, dX5_findsRow_47, dX5_findsRow_48, dX5_findsRow_51, dX5_findsRow_54, dX5_findsRow_57, dX5_findsRow_58, dX5_findsRow_61, dX5_findsRow_64, dX5_findsRow_67, dX5_findsRow_68, jx_k0, tg_9_58, fl_X5_32, ft_6_5, tg_18_39, tg_25_5, jx_k1, jx_k4, tg_34_23, tg_42_9, tg_54_m22, tg_64_m57, jx_wq, jx_stq, jx_ite, jx_b0, jx_bn0, jx_u_eq, jx_u_na, jx_u_ni, jx_nb0, jx_nb1, jx_ni, jx_E, eq_self, jx_a0, jx_a1, ne_eq, not_false_eq_true, Nat.reduceLeDiff, Nat.reduceEqDiff, Nat.reduceLT, jx_subl, jx_al, jx_la, jx_nm, jx_ml, nI_add, jx_xn, jx_xl, jx_inn, jx_inl, jx_ltnn, jx_lenn, jx_eqnn, jx_ltnl, jx_lenl, jx_ltln, jx_leln, jx_eqnl, Int32.reduceAdd, Int32.reduceSub, Int32.reduceMul, Int32.reduceLT, Int32.reduceLE, jx_eqll, jx_ltll, Nat.reduceMul, Nat.reduceSub, forall_const, implies_true, false_implies, not_true_eq_false, true_implies, jx_tko, jx_ofn, jx_tka, jx_pro, jx_pra, and_self, Nat.not_lt_zero, jx_nbb]
        have x19 : I 19 c = nI (rx_s ln c) := by rw [hd.1 _ _ (by omega), h19 c hc4]
        have hup := rx_up (ln := ln) (p := p) hc4
        have hupb := (rx_b (rx_Lu hc4 hL hl).1).2.2.2
        have ht : rx_n ln p + rx_s ln c < 400 := by omega
        obtain ⟨y1, y2⟩ := hd.2 (rx_n ln p) (by omega)
        obtain ⟨z1, z2⟩ := hd.2 (rx_n ln p + rx_s ln c) ht
        obtain ⟨d1, d2, d3, d4, d5, d6, d7, d8, d9, d10, d11⟩ := hbI.2.2.2.1 _ hk.1
        have hbb : ∀ i, i < N → P 12 i = some (A (f i)) ∧ K (A (f i)) = (5, 9) := fun i hi => ⟨(hbI.2.2.2.1 i hi).1, (hbI.2.2.2.1 i hi).2.1⟩
        have hpos := rx_pos ln c
        have step : ∀ W, W < 32768 → (∀ l2, W.testBit l2 = true ↔ ∃ l, (la I (rx_n ln p)).testBit l = true ∧ (at_wr J f (fs_n I p c) ∨ at_re J f (fs_n I p c) = if l = 14 then 0 else at_va J f l) ∧ l2 = at_nl J f l (fs_n I p c)) → jx_J G yX5_findsRow cX5_findsRow 4 (some FieldType.boolean) 3 (Q) 51 [some (.inr (some 11)), some (.inl (nI (rx_s ln 4))), some (.inl (nI (rx_n ln p))), some (.inl (nI c))] [] (n, ms, K, jx_u I 21 (rx_n ln p + rx_s ln c) (nI (la I (rx_n ln p + rx_s ln c) ||| W)), P) := fun W hW15 hW => by
          have hv := or_15 z2 hW15
          obtain ⟨l1, l2⟩ := la_u (I := I) (t := rx_n ln p + rx_s ln c) hv
          obtain ⟨s1, s2, s3⟩ := cd_step (la2 := la (jx_u I 21 (rx_n ln p + rx_s ln c) (nI (la I (rx_n ln p + rx_s ln c) ||| W)))) hh hL hln hc4 hk hm hS hC hP hW l1 l2
          have ihk := ih (c + 1) _ (by omega) (fd_u hd hv) (fun d hd4 => by rw [jx_u_na (by omega), hp d hd4]) s1 s2 s3 (by rw [l2 _ (by omega)]; exact hz)
          refine jx_gq flok_X5 (fwok_X5 rfl) 32 3 _ _ _ _ ?_
          simp (disch := omega) only [↓reduceIte, jx_wp, jx_stp, jx_f0, jx_f1, jx_f2, jx_f3, List.getElem?_cons_zero, List.getElem?_cons_succ, List.set_cons_zero, List.set_cons_succ, Nat.reduceAdd, true_and, and_true, if_true, if_false, Bool.false_eq_true, jx_s, Nat.reduceLT, dX5_findsRow_0, dX5_findsRow_1, dX5_findsRow_4, dX5_findsRow_5, dX5_findsRow_6, dX5_findsRow_7, dX5_findsRow_8, dX5_findsRow_9, dX5_findsRow_12, dX5_findsRow_13, dX5_findsRow_16, dX5_findsRow_17, dX5_findsRow_18, dX5_findsRow_21, dX5_findsRow_22, dX5_findsRow_25, dX5_findsRow_28, dX5_findsRow_29, dX5_findsRow_30, dX5_findsRow_31, dX5_findsRow_32, dX5_findsRow_33, dX5_findsRow_34, dX5_findsRow_37, dX5_findsRow_38, dX5_findsRow_39, dX5_findsRow_42, dX5_findsRow_45, dX5_findsRow_46, dX5_findsRow_47, dX5_findsRow_48, dX5_findsRow_51, dX5_findsRow_54, dX5_findsRow_57, dX5_findsRow_58, dX5_findsRow_61, dX5_findsRow_64, dX5_findsRow_67, dX5_findsRow_68, jx_k0, tg_9_58, fl_X5_32, ft_6_5, tg_18_39, tg_25_5, jx_k1, jx_k4, tg_34_23, tg_42_9, tg_54_m22, tg_64_m57, jx_wq, jx_stq, jx_ite, jx_b0, jx_bn0, jx_u_eq, jx_u_na, jx_u_ni, jx_nb0, jx_nb1, jx_ni, jx_E, eq_self, jx_a0, jx_a1, ne_eq, not_false_eq_true, Nat.reduceLeDiff, Nat.reduceEqDiff, Nat.reduceLT, jx_subl, jx_al, jx_la, jx_nm, jx_ml, nI_add, jx_xn, jx_xl, jx_inn, jx_inl, jx_ltnn, jx_lenn, jx_eqnn, jx_ltnl, jx_lenl, jx_ltln, jx_leln, jx_eqnl, Int32.reduceAdd, Int32.reduceSub, Int32.reduceMul, Int32.reduceLT, Int32.reduceLE, jx_eqll, jx_ltll, Nat.reduceMul, Nat.reduceSub, forall_const, implies_true, false_implies, not_true_eq_false, true_implies, jx_tko, jx_ofn, jx_tka, jx_pro, jx_pra, and_self, Nat.not_lt_zero, jx_nbb]
          exact ihk
        by_cases hw : J 119 (f (fs_n I p c)) = 1
        · refine jx_cV2 dX5_findsRow_48 li_X5_81 (rs_place1 (b := fun i => A (f i)) hbI.1 n1 hbI.2.1 hbI.2.2.1 hbb hc4 hl x19 ht y1 z1 d3 (by show I (A (f (fs_n I p c))) 1 = 1; rw [d4]; exact hw)) (congrArg Prod.fst r0) (Nat.le_of_ble_eq_true rfl) (Nat.le_of_ble_eq_true rfl) ?_
          rintro _ _ ⟨rfl, rfl⟩ - -
          simp only [Option.toList_some, Option.toList_none, List.cons_append, List.nil_append]
          
          have hk14 : fs_n I p c < 14 := by
            have := hk.1
            have := hbI.2.1
            omega
          refine step (2 ^ fs_n I p c) (Nat.pow_lt_pow_right (a := 2) (n := 15) (by decide) (by omega)) (fun l2 => ?_)
          rw [Nat.testBit_two_pow]
          refine ⟨fun w => ?_, fun ⟨l, q1, q2, q3⟩ => ?_⟩
          · obtain ⟨l, hbl⟩ := Nat.exists_testBit_of_ne_zero hz
            exact ⟨l, hbl, Or.inl hw, by unfold at_nl; rw [if_pos hw]; simpa [eq_comm] using w⟩
          · unfold at_nl at q3
            rw [if_pos hw] at q3
            simp [q3]
        · refine jx_cV2 dX5_findsRow_48 li_X5_81 (rs_place0 (b := fun i => A (f i)) hbI.1 n1 hbI.2.1 hbI.2.2.1 hbb hc4 hl x19 ht y1 z1 d3 (by show ¬ I (A (f (fs_n I p c))) 1 = 1; rw [d4]; exact hw)) (congrArg Prod.fst r0) (Nat.le_of_ble_eq_true rfl) (Nat.le_of_ble_eq_true rfl) ?_
          rintro _ _ ⟨rfl, rfl⟩ - -
          simp only [Option.toList_some, Option.toList_none, List.cons_append, List.nil_append]
          
          have hwol := wo_lt (I := I) (b := fun i => A (f i)) (v := I (A (f (fs_n I p c))) 5) N hbI.2.1
          refine step _ (Nat.lt_of_le_of_lt Nat.and_le_left y2) (fun l2 => ?_)
          rw [Nat.testBit_and, Bool.and_eq_true, wo_b N hbI.2.1]
          have e5 : I (A (f (fs_n I p c))) 5 = at_re J f (fs_n I p c) := d6
          refine ⟨fun ⟨w1, w2⟩ => ⟨l2, w1, Or.inr ?_, ?_⟩, fun ⟨l, q1, q2, q3⟩ => ?_⟩
          · rcases w2 with ⟨w2, w3⟩ | ⟨w2, w3, w4⟩
            · rw [if_pos w2, ← e5]
              exact w3
            · rw [if_neg (by have := hbI.2.1; omega), ← e5]
              obtain ⟨-, -, -, -, f5, -⟩ := hbI.2.2.2.1 l2 w2
              exact w4.symm.trans f5
          · unfold at_nl
            rw [if_neg hw]
          · unfold at_nl at q3
            rw [if_neg hw] at q3
            subst q3
            refine ⟨q1, ?_⟩
            have q4 := q2.resolve_left hw
            obtain ⟨s1, -⟩ := hS.2 p hL l2 q1
            rcases s1 with s1 | ⟨s1, s2⟩
            · rw [if_pos s1] at q4
              exact Or.inl ⟨s1, e5.trans q4⟩
            · rw [if_neg (by have := hbI.2.1; omega)] at q4
              obtain ⟨-, -, -, f4, f5, -⟩ := hbI.2.2.2.1 l2 s1
              exact Or.inr ⟨s1, f4.trans s2, f5.trans (q4.symm.trans e5.symm)⟩
      · have ihk := ih (c + 1) I (by omega) hd hp hS hC (cd_skip hP (fun k hk2 => by rw [rw_nxu hk2 hk]; exact hm)) hz
        refine jx_cV1 dX5_findsRow_39 li_X5_77 (rs_may0 hbI.1 n1 hc4 hl (fun w => hm (hmay.mp w))) (congrArg Prod.fst r0) (Nat.le_of_ble_eq_true rfl) (Nat.le_of_ble_eq_true rfl) ?_
        rintro _ _ ⟨rfl, rfl⟩ - -
        simp only [Option.toList_some, Option.toList_none, List.cons_append, List.nil_append]
        refine jx_gq flok_X5 (fwok_X5 rfl) 32 4 _ _ _ _ ?_
        simp (disch := omega) only [↓reduceIte, jx_wp, jx_stp, jx_f0, jx_f1, jx_f2, jx_f3, List.getElem?_cons_zero, List.getElem?_cons_succ, List.set_cons_zero, List.set_cons_succ, Nat.reduceAdd, true_and, and_true, if_true, if_false, Bool.false_eq_true, jx_s, Nat.reduceLT, dX5_findsRow_0, dX5_findsRow_1, dX5_findsRow_4, dX5_findsRow_5, dX5_findsRow_6, dX5_findsRow_7, dX5_findsRow_8, dX5_findsRow_9, dX5_findsRow_12, dX5_findsRow_13, dX5_findsRow_16, dX5_findsRow_17, dX5_findsRow_18, dX5_findsRow_21, dX5_findsRow_22, dX5_findsRow_25, dX5_findsRow_28, dX5_findsRow_29, dX5_findsRow_30, dX5_findsRow_31, dX5_findsRow_32, dX5_findsRow_33, dX5_findsRow_34, dX5_findsRow_37, dX5_findsRow_38, dX5_findsRow_39, dX5_findsRow_42, dX5_findsRow_45, dX5_findsRow_46, dX5_findsRow_47, dX5_findsRow_48, dX5_findsRow_51, dX5_findsRow_54, dX5_findsRow_57, dX5_findsRow_58, dX5_findsRow_61, dX5_findsRow_64, dX5_findsRow_67, dX5_findsRow_68, jx_k0, tg_9_58, fl_X5_32, ft_6_5, tg_18_39, tg_25_5, jx_k1, jx_k4, tg_34_23, tg_42_9, tg_54_m22, tg_64_m57, jx_wq, jx_stq, jx_ite, jx_b0, jx_bn0, jx_u_eq, jx_u_na, jx_u_ni, jx_nb0, jx_nb1, jx_ni, jx_E, eq_self, jx_a0, jx_a1, ne_eq, not_false_eq_true, Nat.reduceLeDiff, Nat.reduceEqDiff, Nat.reduceLT, jx_subl, jx_al, jx_la, jx_nm, jx_ml, nI_add, jx_xn, jx_xl, jx_inn, jx_inl, jx_ltnn, jx_lenn, jx_eqnn, jx_ltnl, jx_lenl, jx_ltln, jx_leln, jx_eqnl, Int32.reduceAdd, Int32.reduceSub, Int32.reduceMul, Int32.reduceLT, Int32.reduceLE, jx_eqll, jx_ltll, Nat.reduceMul, Nat.reduceSub, forall_const, implies_true, false_implies, not_true_eq_false, true_implies, jx_tko, jx_ofn, jx_tka, jx_pro, jx_pra, and_self, Nat.not_lt_zero, jx_nbb]
        exact ihk
    · have ihk := ih (c + 1) I (by omega) hd hp hS hC (cd_skip hP (fun k hk2 => absurd (n3 c k hc4 hk2).1 hl)) hz
      refine jx_cV1 dX5_findsRow_39 li_X5_77 (rs_mayF hbI.1 n1 hc4 hl) (congrArg Prod.fst r0) (Nat.le_of_ble_eq_true rfl) (Nat.le_of_ble_eq_true rfl) ?_
      rintro _ _ ⟨rfl, rfl⟩ - -
      simp only [Option.toList_some, Option.toList_none, List.cons_append, List.nil_append]
      refine jx_gq flok_X5 (fwok_X5 rfl) 32 4 _ _ _ _ ?_
      simp (disch := omega) only [↓reduceIte, jx_wp, jx_stp, jx_f0, jx_f1, jx_f2, jx_f3, List.getElem?_cons_zero, List.getElem?_cons_succ, List.set_cons_zero, List.set_cons_succ, Nat.reduceAdd, true_and, and_true, if_true, if_false, Bool.false_eq_true, jx_s, Nat.reduceLT, dX5_findsRow_0, dX5_findsRow_1, dX5_findsRow_4, dX5_findsRow_5, dX5_findsRow_6, dX5_findsRow_7, dX5_findsRow_8, dX5_findsRow_9, dX5_findsRow_12, dX5_findsRow_13, dX5_findsRow_16, dX5_findsRow_17, dX5_findsRow_18, dX5_findsRow_21, dX5_findsRow_22, dX5_findsRow_25, dX5_findsRow_28, dX5_findsRow_29, dX5_findsRow_30, dX5_findsRow_31, dX5_findsRow_32, dX5_findsRow_33, dX5_findsRow_34, dX5_findsRow_37, dX5_findsRow_38, dX5_findsRow_39, dX5_findsRow_42, dX5_findsRow_45, dX5_findsRow_46, dX5_findsRow_47, dX5_findsRow_48, dX5_findsRow_51, dX5_findsRow_54, dX5_findsRow_57, dX5_findsRow_58, dX5_findsRow_61, dX5_findsRow_64, dX5_findsRow_67, dX5_findsRow_68, jx_k0, tg_9_58, fl_X5_32, ft_6_5, tg_18_39, tg_25_5, jx_k1, jx_k4, tg_34_23, tg_42_9, tg_54_m22, tg_64_m57, jx_wq, jx_stq, jx_ite, jx_b0, jx_bn0, jx_u_eq, jx_u_na, jx_u_ni, jx_nb0, jx_nb1, jx_ni, jx_E, eq_self, jx_a0, jx_a1, ne_eq, not_false_eq_true, Nat.reduceLeDiff, Nat.reduceEqDiff, Nat.reduceLT, jx_subl, jx_al, jx_la, jx_nm, jx_ml, nI_add, jx_xn, jx_xl, jx_inn, jx_inl, jx_ltnn, jx_lenn, jx_eqnn, jx_ltnl, jx_lenl, jx_ltln, jx_leln, jx_eqnl, Int32.reduceAdd, Int32.reduceSub, Int32.reduceMul, Int32.reduceLT, Int32.reduceLE, jx_eqll, jx_ltll, Nat.reduceMul, Nat.reduceSub, forall_const, implies_true, false_implies, not_true_eq_false, true_implies, jx_tko, jx_ofn, jx_tka, jx_pro, jx_pra, and_self, Nat.not_lt_zero, jx_nbb]
      exact ihk
set_option maxHeartbeats 4000000 in
set_option maxRecDepth 100000 in
theorem rs_fo {G : jx_G} {n ms : Nat} {K : Nat → Nat × Nat} {I0 : Nat → Nat → Int32} {P : Nat → Nat → Option Nat} {Q : Option jx_V → jx_M → Prop} {J : Nat → Nat → Int32} {A f : Nat → Nat} {N : Nat} {cl ln : Nat → Nat} (hb : fs_b K I0 P J A f N cl ln) (hh : rw_h N cl (at_fr J f) (at_tl J f) (at_ov J f)) (h19 : ∀ c, c < 4 → I0 19 c = nI (rx_s ln c)) (h400 : rx_s ln 4 ≤ 400) (k1 : ∀ I, (∀ b j, ¬ (20 ≤ b ∧ b ≤ 21) → I b j = I0 b j) → at_Y J f N → Q (some (.inl 1)) (n, ms, K, I, P)) (k0 : ∀ I, (∀ b j, ¬ (20 ≤ b ∧ b ≤ 21) → I b j = I0 b j) → ¬ at_Y J f N → Q (some (.inl 0)) (n, ms, K, I, P)) : ∀ g t I p x3, t + g = rx_s ln 4 → fd I0 I → (t < rx_s ln 4 → rx_L ln p ∧ rx_n ln p = t ∧ ∀ c, c < 4 → I 20 c = nI (p c)) → cd_S J f N cl ln (la I) → cd_C J f N cl ln (la I) t → jx_J G yX5_findsRow cX5_findsRow 4 (some FieldType.boolean) 3 (Q) 7 [some (.inr (some 11)), some (.inl (nI (rx_s ln 4))), some (.inl (nI t)), x3] [] (n, ms, K, I, P) := by
  obtain ⟨r0, r1, r2, r3, r4, r5, r6, r7, r8, r9, r10, r11, r12, r13⟩ := id hb.1
  have hln : ∀ c, c < 4 → ln c = cn cl c N := fun c hc => (hb.2.2.2.2.1 c hc).2
  intro g
  induction g with
  | zero =>
    intro t I p x3 ht hd hp hS hC
    have e0 : rx_s ln 4 ≤ t := by omega
    refine jx_gq flok_X5 (fwok_X5 rfl) 99999 5 _ _ _ _ ?_
    simp (disch := omega) only [↓reduceIte, jx_wp, jx_stp, jx_f0, jx_f1, jx_f2, jx_f3, List.getElem?_cons_zero, List.getElem?_cons_succ, List.set_cons_zero, List.set_cons_succ, Nat.reduceAdd, true_and, and_true, if_true, if_false, Bool.false_eq_true, jx_s, Nat.reduceLT, dX5_findsRow_0, dX5_findsRow_1, dX5_findsRow_4, dX5_findsRow_5, dX5_findsRow_6, dX5_findsRow_7, dX5_findsRow_8, dX5_findsRow_9, dX5_findsRow_12, dX5_findsRow_13, dX5_findsRow_16, dX5_findsRow_17, dX5_findsRow_18, dX5_findsRow_21, dX5_findsRow_22, dX5_findsRow_25, dX5_findsRow_28, dX5_findsRow_29, dX5_findsRow_30, dX5_findsRow_31, dX5_findsRow_32, dX5_findsRow_33, dX5_findsRow_34, dX5_findsRow_37, dX5_findsRow_38, dX5_findsRow_39, dX5_findsRow_42, dX5_findsRow_45, dX5_findsRow_46, dX5_findsRow_47, dX5_findsRow_48, dX5_findsRow_51, dX5_findsRow_54, dX5_findsRow_57, dX5_findsRow_58, dX5_findsRow_61, dX5_findsRow_64, dX5_findsRow_67, dX5_findsRow_68, jx_k0, tg_9_58, fl_X5_32, ft_6_5, tg_18_39, tg_25_5, jx_k1, jx_k4, tg_34_23, tg_42_9, tg_54_m22, tg_64_m57, jx_wq, jx_stq, jx_ite, jx_b0, jx_bn0, jx_u_eq, jx_u_na, jx_u_ni, jx_nb0, jx_nb1, jx_ni, jx_E, eq_self, jx_a0, jx_a1, ne_eq, not_false_eq_true, Nat.reduceLeDiff, Nat.reduceEqDiff, Nat.reduceLT, jx_subl, jx_al, jx_la, jx_nm, jx_ml, nI_add, jx_xn, jx_xl, jx_inn, jx_inl, jx_ltnn, jx_lenn, jx_eqnn, jx_ltnl, jx_lenl, jx_ltln, jx_leln, jx_eqnl, Int32.reduceAdd, Int32.reduceSub, Int32.reduceMul, Int32.reduceLT, Int32.reduceLE, jx_eqll, jx_ltll, Nat.reduceMul, Nat.reduceSub, forall_const, implies_true, false_implies, not_true_eq_false, true_implies, jx_tko, jx_ofn, jx_tka, jx_pro, jx_pra, and_self, Nat.not_lt_zero, jx_nbb, e0]
    have e1 : t = rx_s ln 4 := by omega
    rw [e1] at hC
    exact k0 I hd.1 (cd_no hh hln hS hC)
  | succ g ih =>
    intro t I p x3 ht hd hp hS hC
    have e0 : ¬ rx_s ln 4 ≤ t := by omega
    obtain ⟨hL, hn, hpp⟩ := hp (by omega)
    subst hn
    have hbI : fs_b K I P J A f N cl ln := fs_to hb (fun b j w => hd.1 b j (by omega))
    obtain ⟨y1, y2⟩ := hd.2 (rx_n ln p) (by omega)
    have tail : ∀ I x3, fd I0 I → (∀ c, c < 4 → I 20 c = nI (p c)) → cd_S J f N cl ln (la I) → cd_C J f N cl ln (la I) (rx_n ln p + 1) → jx_J G yX5_findsRow cX5_findsRow 4 (some FieldType.boolean) 3 (Q) 57 [some (.inr (some 11)), some (.inl (nI (rx_s ln 4))), some (.inl (nI (rx_n ln p))), x3] [] (n, ms, K, I, P) := fun I x3 hd hpp hS hC => by
      have hbI : fs_b K I P J A f N cl ln := fs_to hb (fun b j w => hd.1 b j (by omega))
      obtain ⟨n1, -, -⟩ := fs_nx hbI hL hpp
      refine jx_gq flok_X5 (fwok_X5 rfl) 58 2 _ _ _ _ ?_
      simp (disch := omega) only [↓reduceIte, jx_wp, jx_stp, jx_f0, jx_f1, jx_f2, jx_f3, List.getElem?_cons_zero, List.getElem?_cons_succ, List.set_cons_zero, List.set_cons_succ, Nat.reduceAdd, true_and, and_true, if_true, if_false, Bool.false_eq_true, jx_s, Nat.reduceLT, dX5_findsRow_0, dX5_findsRow_1, dX5_findsRow_4, dX5_findsRow_5, dX5_findsRow_6, dX5_findsRow_7, dX5_findsRow_8, dX5_findsRow_9, dX5_findsRow_12, dX5_findsRow_13, dX5_findsRow_16, dX5_findsRow_17, dX5_findsRow_18, dX5_findsRow_21, dX5_findsRow_22, dX5_findsRow_25, dX5_findsRow_28, dX5_findsRow_29, dX5_findsRow_30, dX5_findsRow_31, dX5_findsRow_32, dX5_findsRow_33, dX5_findsRow_34, dX5_findsRow_37, dX5_findsRow_38, dX5_findsRow_39, dX5_findsRow_42, dX5_findsRow_45, dX5_findsRow_46, dX5_findsRow_47, dX5_findsRow_48, dX5_findsRow_51, dX5_findsRow_54, dX5_findsRow_57, dX5_findsRow_58, dX5_findsRow_61, dX5_findsRow_64, dX5_findsRow_67, dX5_findsRow_68, jx_k0, tg_9_58, fl_X5_32, ft_6_5, tg_18_39, tg_25_5, jx_k1, jx_k4, tg_34_23, tg_42_9, tg_54_m22, tg_64_m57, jx_wq, jx_stq, jx_ite, jx_b0, jx_bn0, jx_u_eq, jx_u_na, jx_u_ni, jx_nb0, jx_nb1, jx_ni, jx_E, eq_self, jx_a0, jx_a1, ne_eq, not_false_eq_true, Nat.reduceLeDiff, Nat.reduceEqDiff, Nat.reduceLT, jx_subl, jx_al, jx_la, jx_nm, jx_ml, nI_add, jx_xn, jx_xl, jx_inn, jx_inl, jx_ltnn, jx_lenn, jx_eqnn, jx_ltnl, jx_lenl, jx_ltln, jx_leln, jx_eqnl, Int32.reduceAdd, Int32.reduceSub, Int32.reduceMul, Int32.reduceLT, Int32.reduceLE, jx_eqll, jx_ltll, Nat.reduceMul, Nat.reduceSub, forall_const, implies_true, false_implies, not_true_eq_false, true_implies, jx_tko, jx_ofn, jx_tka, jx_pro, jx_pra, and_self, Nat.not_lt_zero, jx_nbb]
      refine jx_cV0 dX5_findsRow_58 li_X5_85 (rs_step hbI.1 n1) (congrArg Prod.fst r0) (Nat.le_of_ble_eq_true rfl) (Nat.le_of_ble_eq_true rfl) ?_
      rintro _ _ ⟨rfl, I2, rfl, q1, q2⟩ - -
      simp only [Option.toList_some, Option.toList_none, List.cons_append, List.nil_append]
      refine jx_gq flok_X5 (fwok_X5 rfl) 7 3 _ _ _ _ ?_
      simp (disch := omega) only [↓reduceIte, jx_wp, jx_stp, jx_f0, jx_f1, jx_f2, jx_f3, List.getElem?_cons_zero, List.getElem?_cons_succ, List.set_cons_zero, List.set_cons_succ, Nat.reduceAdd, true_and, and_true, if_true, if_false, Bool.false_eq_true, jx_s, Nat.reduceLT, dX5_findsRow_0, dX5_findsRow_1, dX5_findsRow_4, dX5_findsRow_5, dX5_findsRow_6, dX5_findsRow_7, dX5_findsRow_8, dX5_findsRow_9, dX5_findsRow_12, dX5_findsRow_13, dX5_findsRow_16, dX5_findsRow_17, dX5_findsRow_18, dX5_findsRow_21, dX5_findsRow_22, dX5_findsRow_25, dX5_findsRow_28, dX5_findsRow_29, dX5_findsRow_30, dX5_findsRow_31, dX5_findsRow_32, dX5_findsRow_33, dX5_findsRow_34, dX5_findsRow_37, dX5_findsRow_38, dX5_findsRow_39, dX5_findsRow_42, dX5_findsRow_45, dX5_findsRow_46, dX5_findsRow_47, dX5_findsRow_48, dX5_findsRow_51, dX5_findsRow_54, dX5_findsRow_57, dX5_findsRow_58, dX5_findsRow_61, dX5_findsRow_64, dX5_findsRow_67, dX5_findsRow_68, jx_k0, tg_9_58, fl_X5_32, ft_6_5, tg_18_39, tg_25_5, jx_k1, jx_k4, tg_34_23, tg_42_9, tg_54_m22, tg_64_m57, jx_wq, jx_stq, jx_ite, jx_b0, jx_bn0, jx_u_eq, jx_u_na, jx_u_ni, jx_nb0, jx_nb1, jx_ni, jx_E, eq_self, jx_a0, jx_a1, ne_eq, not_false_eq_true, Nat.reduceLeDiff, Nat.reduceEqDiff, Nat.reduceLT, jx_subl, jx_al, jx_la, jx_nm, jx_ml, nI_add, jx_xn, jx_xl, jx_inn, jx_inl, jx_ltnn, jx_lenn, jx_eqnn, jx_ltnl, jx_lenl, jx_ltln, jx_leln, jx_eqnl, Int32.reduceAdd, Int32.reduceSub, Int32.reduceMul, Int32.reduceLT, Int32.reduceLE, jx_eqll, jx_ltll, Nat.reduceMul, Nat.reduceSub, forall_const, implies_true, false_implies, not_true_eq_false, true_implies, jx_tko, jx_ofn, jx_tka, jx_pro, jx_pra, and_self, Nat.not_lt_zero, jx_nbb]
      have e21 : ∀ j, la I2 j = la I j := fun j => by
        unfold la
        rw [q1 _ _ (by omega)]
      have ela : la I2 = la I := funext e21
      refine ih (rx_n ln p + 1) I2 (rx_nx ln p) x3 (by omega) ⟨fun b j w => by rw [q1 b j (by omega), hd.1 b j w], fun j hj => by rw [e21, q1 _ _ (by omega)]; exact hd.2 j hj⟩ (fun hlt => ?_) (by rw [ela]; exact hS) (by rw [ela]; exact hC)
      obtain ⟨w1, w2⟩ := rx_nx_v hL hlt
      exact ⟨w1, w2, q2⟩
    by_cases hz : la I (rx_n ln p) = 0
    · have hz0 : (nI (la I (rx_n ln p)) = 0) = True := by rw [hz]; exact eq_true rfl
      have hzn : (la I (rx_n ln p) = 0) = True := eq_true hz
      refine jx_gq flok_X5 (fwok_X5 rfl) 57 9 _ _ _ _ ?_
      simp (disch := omega) only [↓reduceIte, jx_wp, jx_stp, jx_f0, jx_f1, jx_f2, jx_f3, List.getElem?_cons_zero, List.getElem?_cons_succ, List.set_cons_zero, List.set_cons_succ, Nat.reduceAdd, true_and, and_true, if_true, if_false, Bool.false_eq_true, jx_s, Nat.reduceLT, dX5_findsRow_0, dX5_findsRow_1, dX5_findsRow_4, dX5_findsRow_5, dX5_findsRow_6, dX5_findsRow_7, dX5_findsRow_8, dX5_findsRow_9, dX5_findsRow_12, dX5_findsRow_13, dX5_findsRow_16, dX5_findsRow_17, dX5_findsRow_18, dX5_findsRow_21, dX5_findsRow_22, dX5_findsRow_25, dX5_findsRow_28, dX5_findsRow_29, dX5_findsRow_30, dX5_findsRow_31, dX5_findsRow_32, dX5_findsRow_33, dX5_findsRow_34, dX5_findsRow_37, dX5_findsRow_38, dX5_findsRow_39, dX5_findsRow_42, dX5_findsRow_45, dX5_findsRow_46, dX5_findsRow_47, dX5_findsRow_48, dX5_findsRow_51, dX5_findsRow_54, dX5_findsRow_57, dX5_findsRow_58, dX5_findsRow_61, dX5_findsRow_64, dX5_findsRow_67, dX5_findsRow_68, jx_k0, tg_9_58, fl_X5_32, ft_6_5, tg_18_39, tg_25_5, jx_k1, jx_k4, tg_34_23, tg_42_9, tg_54_m22, tg_64_m57, jx_wq, jx_stq, jx_ite, jx_b0, jx_bn0, jx_u_eq, jx_u_na, jx_u_ni, jx_nb0, jx_nb1, jx_ni, jx_E, eq_self, jx_a0, jx_a1, ne_eq, not_false_eq_true, Nat.reduceLeDiff, Nat.reduceEqDiff, Nat.reduceLT, jx_subl, jx_al, jx_la, jx_nm, jx_ml, nI_add, jx_xn, jx_xl, jx_inn, jx_inl, jx_ltnn, jx_lenn, jx_eqnn, jx_ltnl, jx_lenl, jx_ltln, jx_leln, jx_eqnl, Int32.reduceAdd, Int32.reduceSub, Int32.reduceMul, Int32.reduceLT, Int32.reduceLE, jx_eqll, jx_ltll, Nat.reduceMul, Nat.reduceSub, forall_const, implies_true, false_implies, not_true_eq_false, true_implies, jx_tko, jx_ofn, jx_tka, jx_pro, jx_pra, and_self, Nat.not_lt_zero, jx_nbb, r0, r7, r13, e0, y1, hzn]
      exact tail I x3 hd hpp hS (cd_next hL hC (fun l hbl => by rw [hz, Nat.zero_testBit] at hbl; exact absurd hbl (by decide)))
    · obtain ⟨n1, -, -⟩ := fs_nx hbI hL hpp
      have hall := fs_all hbI hL hpp
      refine jx_gq flok_X5 (fwok_X5 rfl) 22 10 _ _ _ _ ?_
      simp (disch := omega) only [↓reduceIte, jx_wp, jx_stp, jx_f0, jx_f1, jx_f2, jx_f3, List.getElem?_cons_zero, List.getElem?_cons_succ, List.set_cons_zero, List.set_cons_succ, Nat.reduceAdd, true_and, and_true, if_true, if_false, Bool.false_eq_true, jx_s, Nat.reduceLT, dX5_findsRow_0, dX5_findsRow_1, dX5_findsRow_4, dX5_findsRow_5, dX5_findsRow_6, dX5_findsRow_7, dX5_findsRow_8, dX5_findsRow_9, dX5_findsRow_12, dX5_findsRow_13, dX5_findsRow_16, dX5_findsRow_17, dX5_findsRow_18, dX5_findsRow_21, dX5_findsRow_22, dX5_findsRow_25, dX5_findsRow_28, dX5_findsRow_29, dX5_findsRow_30, dX5_findsRow_31, dX5_findsRow_32, dX5_findsRow_33, dX5_findsRow_34, dX5_findsRow_37, dX5_findsRow_38, dX5_findsRow_39, dX5_findsRow_42, dX5_findsRow_45, dX5_findsRow_46, dX5_findsRow_47, dX5_findsRow_48, dX5_findsRow_51, dX5_findsRow_54, dX5_findsRow_57, dX5_findsRow_58, dX5_findsRow_61, dX5_findsRow_64, dX5_findsRow_67, dX5_findsRow_68, jx_k0, tg_9_58, fl_X5_32, ft_6_5, tg_18_39, tg_25_5, jx_k1, jx_k4, tg_34_23, tg_42_9, tg_54_m22, tg_64_m57, jx_wq, jx_stq, jx_ite, jx_b0, jx_bn0, jx_u_eq, jx_u_na, jx_u_ni, jx_nb0, jx_nb1, jx_ni, jx_E, eq_self, jx_a0, jx_a1, ne_eq, not_false_eq_true, Nat.reduceLeDiff, Nat.reduceEqDiff, Nat.reduceLT, jx_subl, jx_al, jx_la, jx_nm, jx_ml, nI_add, jx_xn, jx_xl, jx_inn, jx_inl, jx_ltnn, jx_lenn, jx_eqnn, jx_ltnl, jx_lenl, jx_ltln, jx_leln, jx_eqnl, Int32.reduceAdd, Int32.reduceSub, Int32.reduceMul, Int32.reduceLT, Int32.reduceLE, jx_eqll, jx_ltll, Nat.reduceMul, Nat.reduceSub, forall_const, implies_true, false_implies, not_true_eq_false, true_implies, jx_tko, jx_ofn, jx_tka, jx_pro, jx_pra, and_self, Nat.not_lt_zero, jx_nbb, r0, r7, r13, e0, y1, hz]
      by_cases ha : ∀ c i, c < 4 → rw_nx N cl p c i → ¬ at_ov J f i
      · refine jx_cV0 dX5_findsRow_22 li_X5_74 (rs_all1 hbI.1 n1 (hall.mpr ha)) (congrArg Prod.fst r0) (Nat.le_of_ble_eq_true rfl) (Nat.le_of_ble_eq_true rfl) ?_
        rintro _ _ ⟨rfl, rfl⟩ - -
        simp only [Option.toList_some, Option.toList_none, List.cons_append, List.nil_append]
        refine jx_gq flok_X5 (fwok_X5 rfl) 99999 4 _ _ _ _ ?_
        simp (disch := omega) only [↓reduceIte, jx_wp, jx_stp, jx_f0, jx_f1, jx_f2, jx_f3, List.getElem?_cons_zero, List.getElem?_cons_succ, List.set_cons_zero, List.set_cons_succ, Nat.reduceAdd, true_and, and_true, if_true, if_false, Bool.false_eq_true, jx_s, Nat.reduceLT, dX5_findsRow_0, dX5_findsRow_1, dX5_findsRow_4, dX5_findsRow_5, dX5_findsRow_6, dX5_findsRow_7, dX5_findsRow_8, dX5_findsRow_9, dX5_findsRow_12, dX5_findsRow_13, dX5_findsRow_16, dX5_findsRow_17, dX5_findsRow_18, dX5_findsRow_21, dX5_findsRow_22, dX5_findsRow_25, dX5_findsRow_28, dX5_findsRow_29, dX5_findsRow_30, dX5_findsRow_31, dX5_findsRow_32, dX5_findsRow_33, dX5_findsRow_34, dX5_findsRow_37, dX5_findsRow_38, dX5_findsRow_39, dX5_findsRow_42, dX5_findsRow_45, dX5_findsRow_46, dX5_findsRow_47, dX5_findsRow_48, dX5_findsRow_51, dX5_findsRow_54, dX5_findsRow_57, dX5_findsRow_58, dX5_findsRow_61, dX5_findsRow_64, dX5_findsRow_67, dX5_findsRow_68, jx_k0, tg_9_58, fl_X5_32, ft_6_5, tg_18_39, tg_25_5, jx_k1, jx_k4, tg_34_23, tg_42_9, tg_54_m22, tg_64_m57, jx_wq, jx_stq, jx_ite, jx_b0, jx_bn0, jx_u_eq, jx_u_na, jx_u_ni, jx_nb0, jx_nb1, jx_ni, jx_E, eq_self, jx_a0, jx_a1, ne_eq, not_false_eq_true, Nat.reduceLeDiff, Nat.reduceEqDiff, Nat.reduceLT, jx_subl, jx_al, jx_la, jx_nm, jx_ml, nI_add, jx_xn, jx_xl, jx_inn, jx_inl, jx_ltnn, jx_lenn, jx_eqnn, jx_ltnl, jx_lenl, jx_ltln, jx_leln, jx_eqnl, Int32.reduceAdd, Int32.reduceSub, Int32.reduceMul, Int32.reduceLT, Int32.reduceLE, jx_eqll, jx_ltll, Nat.reduceMul, Nat.reduceSub, forall_const, implies_true, false_implies, not_true_eq_false, true_implies, jx_tko, jx_ofn, jx_tka, jx_pro, jx_pra, and_self, Nat.not_lt_zero, jx_nbb]
        exact k1 I hd.1 (cd_yes hh hS hL hz ha)
      · refine jx_cV0 dX5_findsRow_22 li_X5_74 (rs_all0 hbI.1 n1 (fun w => ha (hall.mp w))) (congrArg Prod.fst r0) (Nat.le_of_ble_eq_true rfl) (Nat.le_of_ble_eq_true rfl) ?_
        rintro _ _ ⟨rfl, rfl⟩ - -
        simp only [Option.toList_some, Option.toList_none, List.cons_append, List.nil_append]
        refine jx_gq flok_X5 (fwok_X5 rfl) 32 4 _ _ _ _ ?_
        simp (disch := omega) only [↓reduceIte, jx_wp, jx_stp, jx_f0, jx_f1, jx_f2, jx_f3, List.getElem?_cons_zero, List.getElem?_cons_succ, List.set_cons_zero, List.set_cons_succ, Nat.reduceAdd, true_and, and_true, if_true, if_false, Bool.false_eq_true, jx_s, Nat.reduceLT, dX5_findsRow_0, dX5_findsRow_1, dX5_findsRow_4, dX5_findsRow_5, dX5_findsRow_6, dX5_findsRow_7, dX5_findsRow_8, dX5_findsRow_9, dX5_findsRow_12, dX5_findsRow_13, dX5_findsRow_16, dX5_findsRow_17, dX5_findsRow_18, dX5_findsRow_21, dX5_findsRow_22, dX5_findsRow_25, dX5_findsRow_28, dX5_findsRow_29, dX5_findsRow_30, dX5_findsRow_31, dX5_findsRow_32, dX5_findsRow_33, dX5_findsRow_34, dX5_findsRow_37, dX5_findsRow_38, dX5_findsRow_39, dX5_findsRow_42, dX5_findsRow_45, dX5_findsRow_46, dX5_findsRow_47, dX5_findsRow_48, dX5_findsRow_51, dX5_findsRow_54, dX5_findsRow_57, dX5_findsRow_58, dX5_findsRow_61, dX5_findsRow_64, dX5_findsRow_67, dX5_findsRow_68, jx_k0, tg_9_58, fl_X5_32, ft_6_5, tg_18_39, tg_25_5, jx_k1, jx_k4, tg_34_23, tg_42_9, tg_54_m22, tg_64_m57, jx_wq, jx_stq, jx_ite, jx_b0, jx_bn0, jx_u_eq, jx_u_na, jx_u_ni, jx_nb0, jx_nb1, jx_ni, jx_E, eq_self, jx_a0, jx_a1, ne_eq, not_false_eq_true, Nat.reduceLeDiff, Nat.reduceEqDiff, Nat.reduceLT, jx_subl, jx_al, jx_la, jx_nm, jx_ml, nI_add, jx_xn, jx_xl, jx_inn, jx_inl, jx_ltnn, jx_lenn, jx_eqnn, jx_ltnl, jx_lenl, jx_ltln, jx_leln, jx_eqnl, Int32.reduceAdd, Int32.reduceSub, Int32.reduceMul, Int32.reduceLT, Int32.reduceLE, jx_eqll, jx_ltll, Nat.reduceMul, Nat.reduceSub, forall_const, implies_true, false_implies, not_true_eq_false, true_implies, jx_tko, jx_ofn, jx_tka, jx_pro, jx_pra, and_self, Nat.not_lt_zero, jx_nbb]
        refine rs_fi hb hh h19 h400 hL (fun I2 q1 q2 q3 q4 q5 => ?_) 4 0 I (by omega) hd hpp hS hC (fun l _ c k hc => absurd hc (by omega)) hz
        exact tail I2 _ q1 q2 q3 (cd_next hL q4 (fun l hbl => ⟨ha, q5 l hbl⟩))
def fr_Q (J : Nat → Nat → Int32) (f : Nat → Nat) (N n ms : Nat) (K : Nat → Nat × Nat) (I : Nat → Nat → Int32) (P : Nat → Nat → Option Nat) (w : Option jx_V) (M : jx_M) : Prop := ∃ I2 v, M = (n, ms, K, I2, P) ∧ w = some (.inl v) ∧ (v = 1 ∧ at_Y J f N ∨ v = 0 ∧ ¬ at_Y J f N) ∧ ∀ b j, ¬ (19 ≤ b ∧ b ≤ 21) → I2 b j = I b j
set_option maxHeartbeats 4000000 in
set_option maxRecDepth 100000 in
theorem rs_find {G : jx_G} {n ms : Nat} {K : Nat → Nat × Nat} {I : Nat → Nat → Int32} {P : Nat → Nat → Option Nat} {J : Nat → Nat → Int32} {A f : Nat → Nat} {N : Nat} {cl ln : Nat → Nat} (hb : fs_b K I P J A f N cl ln) (hh : rw_h N cl (at_fr J f) (at_tl J f) (at_ov J f)) : jx_C G yX5_findsRow cX5_findsRow 4 (some FieldType.boolean) 3 [.inr (some 11)] (n, ms, K, I, P) (fr_Q J f N n ms K I P) := by
  refine jx_C_of (by decide) (Nat.le_of_ble_eq_true rfl) ?_
  simp only [List.map_cons, List.map_nil, List.length_cons, List.length_nil, Nat.reduceAdd, Nat.reduceSub, List.replicate_zero, List.append_nil, List.replicate_succ, List.cons_append, List.nil_append]
  obtain ⟨r0, r1, r2, r3, r4, r5, r6, r7, r8, r9, r10, r11, r12, r13⟩ := id hb.1
  have hln : ∀ c, c < 4 → ln c = cn cl c N := fun c hc => (hb.2.2.2.2.1 c hc).2
  have h400 : rx_s ln 4 ≤ 400 := rx_400 (by
    have := cn_sum (cl := cl) N (fun i hi => (hb.2.2.2.2.2 i hi).1)
    rw [hln 0 (by omega), hln 1 (by omega), hln 2 (by omega), hln 3 (by omega)]
    have := hb.2.1
    omega)
  refine jx_gq flok_X5 (fwok_X5 rfl) 1 2 _ _ _ _ ?_
  simp (disch := omega) only [↓reduceIte, jx_wp, jx_stp, jx_f0, jx_f1, jx_f2, jx_f3, List.getElem?_cons_zero, List.getElem?_cons_succ, List.set_cons_zero, List.set_cons_succ, Nat.reduceAdd, true_and, and_true, if_true, if_false, Bool.false_eq_true, jx_s, Nat.reduceLT, dX5_findsRow_0, dX5_findsRow_1, dX5_findsRow_4, dX5_findsRow_5, dX5_findsRow_6, dX5_findsRow_7, dX5_findsRow_8, dX5_findsRow_9, dX5_findsRow_12, dX5_findsRow_13, dX5_findsRow_16, dX5_findsRow_17, dX5_findsRow_18, dX5_findsRow_21, dX5_findsRow_22, dX5_findsRow_25, dX5_findsRow_28, dX5_findsRow_29, dX5_findsRow_30, dX5_findsRow_31, dX5_findsRow_32, dX5_findsRow_33, dX5_findsRow_34, dX5_findsRow_37, dX5_findsRow_38, dX5_findsRow_39, dX5_findsRow_42, dX5_findsRow_45, dX5_findsRow_46, dX5_findsRow_47, dX5_findsRow_48, dX5_findsRow_51, dX5_findsRow_54, dX5_findsRow_57, dX5_findsRow_58, dX5_findsRow_61, dX5_findsRow_64, dX5_findsRow_67, dX5_findsRow_68, jx_k0, tg_9_58, fl_X5_32, ft_6_5, tg_18_39, tg_25_5, jx_k1, jx_k4, tg_34_23, tg_42_9, tg_54_m22, tg_64_m57, jx_wq, jx_stq, jx_ite, jx_b0, jx_bn0, jx_u_eq, jx_u_na, jx_u_ni, jx_nb0, jx_nb1, jx_ni, jx_E, eq_self, jx_a0, jx_a1, ne_eq, not_false_eq_true, Nat.reduceLeDiff, Nat.reduceEqDiff, Nat.reduceLT, jx_subl, jx_al, jx_la, jx_nm, jx_ml, nI_add, jx_xn, jx_xl, jx_inn, jx_inl, jx_ltnn, jx_lenn, jx_eqnn, jx_ltnl, jx_lenl, jx_ltln, jx_leln, jx_eqnl, Int32.reduceAdd, Int32.reduceSub, Int32.reduceMul, Int32.reduceLT, Int32.reduceLE, jx_eqll, jx_ltll, Nat.reduceMul, Nat.reduceSub, forall_const, implies_true, false_implies, not_true_eq_false, true_implies, jx_tko, jx_ofn, jx_tka, jx_pro, jx_pra, and_self, Nat.not_lt_zero, jx_nbb]
  refine jx_cV0 dX5_findsRow_1 li_X5_70 (rs_lay hb.1 (fun c hc => (hb.2.2.2.2.1 c hc).1) h400) (congrArg Prod.fst r0) (Nat.le_of_ble_eq_true rfl) (Nat.le_of_ble_eq_true rfl) ?_
  rintro _ _ ⟨rfl, I2, rfl, q1, q2, q3, q4⟩ - -
  simp only [Option.toList_some, Option.toList_none, List.cons_append, List.nil_append]
  refine jx_gq flok_X5 (fwok_X5 rfl) 7 5 _ _ _ _ ?_
  simp (disch := omega) only [↓reduceIte, jx_wp, jx_stp, jx_f0, jx_f1, jx_f2, jx_f3, List.getElem?_cons_zero, List.getElem?_cons_succ, List.set_cons_zero, List.set_cons_succ, Nat.reduceAdd, true_and, and_true, if_true, if_false, Bool.false_eq_true, jx_s, Nat.reduceLT, dX5_findsRow_0, dX5_findsRow_1, dX5_findsRow_4, dX5_findsRow_5, dX5_findsRow_6, dX5_findsRow_7, dX5_findsRow_8, dX5_findsRow_9, dX5_findsRow_12, dX5_findsRow_13, dX5_findsRow_16, dX5_findsRow_17, dX5_findsRow_18, dX5_findsRow_21, dX5_findsRow_22, dX5_findsRow_25, dX5_findsRow_28, dX5_findsRow_29, dX5_findsRow_30, dX5_findsRow_31, dX5_findsRow_32, dX5_findsRow_33, dX5_findsRow_34, dX5_findsRow_37, dX5_findsRow_38, dX5_findsRow_39, dX5_findsRow_42, dX5_findsRow_45, dX5_findsRow_46, dX5_findsRow_47, dX5_findsRow_48, dX5_findsRow_51, dX5_findsRow_54, dX5_findsRow_57, dX5_findsRow_58, dX5_findsRow_61, dX5_findsRow_64, dX5_findsRow_67, dX5_findsRow_68, jx_k0, tg_9_58, fl_X5_32, ft_6_5, tg_18_39, tg_25_5, jx_k1, jx_k4, tg_34_23, tg_42_9, tg_54_m22, tg_64_m57, jx_wq, jx_stq, jx_ite, jx_b0, jx_bn0, jx_u_eq, jx_u_na, jx_u_ni, jx_nb0, jx_nb1, jx_ni, jx_E, eq_self, jx_a0, jx_a1, ne_eq, not_false_eq_true, Nat.reduceLeDiff, Nat.reduceEqDiff, Nat.reduceLT, jx_subl, jx_al, jx_la, jx_nm, jx_ml, nI_add, jx_xn, jx_xl, jx_inn, jx_inl, jx_ltnn, jx_lenn, jx_eqnn, jx_ltnl, jx_lenl, jx_ltln, jx_leln, jx_eqnl, Int32.reduceAdd, Int32.reduceSub, Int32.reduceMul, Int32.reduceLT, Int32.reduceLE, jx_eqll, jx_ltll, Nat.reduceMul, Nat.reduceSub, forall_const, implies_true, false_implies, not_true_eq_false, true_implies, jx_tko, jx_ofn, jx_tka, jx_pro, jx_pra, and_self, Nat.not_lt_zero, jx_nbb]
  have hb2 : fs_b K I2 P J A f N cl ln := fs_to hb q1
  have la0 : la I2 0 = 16384 := by
    unfold la
    rw [q3, jx_xn (by omega)]
  have laj : ∀ j, 0 < j → j < 400 → la I2 j = 0 := fun j h1 h2 => by
    unfold la
    rw [q4 j h1 h2, jx_xn (by omega)]
  have hpos : 1 ≤ rx_s ln 4 := rx_pos ln 4
  refine rs_fo (I0 := I2) hb2 hh (fun c hc => (q2 c hc).1) h400 (fun I3 w1 w2 => ⟨I3, 1, rfl, rfl, Or.inl ⟨rfl, w2⟩, fun b j w => by rw [w1 b j (by omega), q1 b j w]⟩) (fun I3 w1 w2 => ⟨I3, 0, rfl, rfl, Or.inr ⟨rfl, w2⟩, fun b j w => by rw [w1 b j (by omega), q1 b j w]⟩) (rx_s ln 4) 0 I2 (fun _ => 0) _ (by omega) ⟨fun _ _ _ => rfl, fun j hj => ?_⟩ (fun _ => ⟨rx_L0, rx_n0, fun c hc => (q2 c hc).2⟩) ⟨by rw [la0]; decide, fun p hL l hbl => ?_⟩ (fun p hL hlt => absurd hlt (by omega))
  · by_cases e : j = 0
    · subst e
      rw [la0, q3]
      exact ⟨rfl, by omega⟩
    · rw [laj j (by omega) hj, q4 j (by omega) hj]
      exact ⟨rfl, by omega⟩
  · have hlt := (rx_b hL.1).2.2.2
    by_cases e : rx_n ln p = 0
    · have ep : p = fun _ => 0 := rx_Li hL rx_L0 (by rw [e, rx_n0])
      rw [e, la0, show (16384 : Nat) = 2 ^ 14 from rfl, Nat.testBit_two_pow] at hbl
      have el : l = 14 := by simpa [eq_comm] using hbl
      subst el
      subst ep
      refine ⟨Or.inl rfl, fun v hv => ?_⟩
      rw [rw_un hv rw_set0]
      exact rw_R0
    · rw [laj _ (by omega) (by omega), Nat.zero_testBit] at hbl
      exact absurd hbl (by decide)
