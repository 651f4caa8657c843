/-- the reference's numbers at a start -/
def mo_f0 (J : Nat → Nat → Int32) (q : Nat) (f : Int32) : Prop := J 98 1 = nI q ∧ J 98 9 = 0 ∧ J 98 10 = 0 ∧ J 98 25 = 0 ∧ J 98 26 = 0 ∧ J 98 27 = 0 ∧ (∀ j, j < 66 → J 99 j = if j % 6 = 0 then f else 0) ∧ (∀ j, j < 11 → J 100 j = 0) ∧ (∀ j, j < 21 → J 101 j = 0 ∧ J 102 j = 0) ∧ (∀ j, j < 35 → J 103 j = 0 ∧ J 104 j = 0 ∧ J 105 j = 0) ∧ ∀ c, c < 4 → J 128 c = -1 ∧ J 129 c = 0
theorem rl_fresh {n ms : Nat} {K : Nat → Nat × Nat} {I : Nat → Nat → Int32} {P : Nat → Nat → Option Nat} {J : Nat → Nat → Int32} {A : Nat → Nat} {q z e c e2 c2 : Nat} {f : Int32} {L S : Nat → Nat} (h1 : cl_ok K P) (h2 : rs_ok K P) (h3 : mo_ok K P) (h4 : ∀ s, s < 7 → sv_0 I s f) (h5 : ∀ c, c < 4 → I (78 + 5 * c) 0 = nI c ∧ I (78 + 5 * c) 5 = 0 ∧ I (78 + 5 * c) 6 = 0 ∧ (∀ k, k < 6 → I (78 + 5 * c + 2) k = if k = 0 then f else 0) ∧ P (78 + 5 * c) 4 = none) (h6 : I 9 1 = 0 ∧ I 9 2 = 0 ∧ I 9 3 = 0) (h7 : ∀ o a, o < 60 → P 10 o = some a → K a = (5, 9) ∧ 140 ≤ a ∧ a < n ∧ I a 0 = nI o) (h8 : I 3 5 = nI q) (h9 : bg_ok n K I P L 0 S z e c e2 c2) (h10 : I 6 2 = 0) (h11 : z ≤ 16000) (h12 : n ≤ 140 + om P + 5 * z + c + c2) (h13 : ms ≤ 890000 + 9 * om P + 22 * z + 4 * c + 4 * c2) (hJ : mo_f0 J q f) : rl0 n ms K I P J 0 A := by
  obtain ⟨j1, j2, j3, j4, j5, j6, j7, j8, j9, j10, j11⟩ := hJ
  have hom := om_le P
  refine ⟨⟨h1, h2, h3, fun s hs => ?_, fun c hc => ?_, ⟨by omega, j4, h6.1, by rw [h6.2.1, j5], by rw [h6.2.2, j6], h7, fun o ho => absurd ho (by omega)⟩, by rw [h8, j1]⟩, ⟨L, 0, S, z, e, c, e2, c2, ⟨h9, j2, by rw [h10, j3], fun i hi => absurd hi (by omega), by omega, by omega, by omega, by omega, by omega⟩, fun _ w => w.elim⟩, fun _ w => w.elim, ag_refl, rfl⟩
  · obtain ⟨a, b, c, d⟩ := h4 s hs
    refine ⟨by rw [a, j8 _ (by omega)], fun k hk => ?_, fun r hr => ⟨by rw [(c r hr).1, (j9 _ (by omega)).1], by rw [(c r hr).2, (j9 _ (by omega)).2]⟩, fun k hk => ⟨by rw [(d k hk).1, (j10 _ (by omega)).1], by rw [(d k hk).2.1, (j10 _ (by omega)).2.1], by rw [(d k hk).2.2, (j10 _ (by omega)).2.2]⟩⟩
    rw [b k hk, j7 _ (by omega)]
    by_cases w : k = 0
    · rw [if_pos w, if_pos (by omega)]
    · rw [if_neg w, if_neg (by omega)]
  · obtain ⟨a, b, d, e, g⟩ := h5 c hc
    refine ⟨⟨a, by rw [b, j8 _ (by omega)], by rw [d, (j11 c hc).2], fun k hk => ?_⟩, Or.inl ⟨(j11 c hc).1, g⟩⟩
    rw [e k hk, j7 _ (by omega)]
    by_cases w : k = 0
    · rw [if_pos w, if_pos (by omega)]
    · rw [if_neg w, if_neg (by omega)]
theorem bg_f0 {J : Nat → Nat → Int32} {q : Nat} {f : Int32} : mo_f0 (mo_bg J q f) q f := by
  have hz : ∀ a i, a < 128 → mo_bg J q f a i = mo_b5 (mo_b4 J q f) a i := fun a i h => mo_z_o (by omega)
  have h5 : ∀ a i, a ≠ 98 → mo_b5 (mo_b4 J q f) a i = mo_b4 J q f a i := fun a i h => by
    unfold mo_b5
    simp (disch := omega) only [jx_u_na]
  refine ⟨?_, ?_, ?_, ?_, ?_, ?_, fun j hj => ?_, fun j hj => ?_, fun j hj => ⟨?_, ?_⟩, fun j hj => ⟨?_, ?_, ?_⟩, fun c hc => ⟨?_, ?_⟩⟩
  · rw [hz _ _ (by omega)]
    unfold mo_b5 mo_b4
    simp (disch := omega) only [jx_u_ni, mo_z_o, jx_u_eq]
  · rw [hz _ _ (by omega)]
    unfold mo_b5
    simp (disch := omega) only [jx_u_ni, jx_u_eq]
  · rw [hz _ _ (by omega)]
    unfold mo_b5
    simp (disch := omega) only [jx_u_ni, jx_u_eq]
  · rw [hz _ _ (by omega)]
    unfold mo_b5
    simp (disch := omega) only [jx_u_ni, jx_u_eq]
  · rw [hz _ _ (by omega)]
    unfold mo_b5
    simp (disch := omega) only [jx_u_ni, jx_u_eq]
  · rw [hz _ _ (by omega)]
    unfold mo_b5
    simp (disch := omega) only [jx_u_eq]
  · rw [hz _ _ (by omega), h5 _ _ (by omega)]
    unfold mo_b4
    rw [mo_z_o (by omega), mo_z_o (by omega), mo_z_o (by omega), mo_z_i (by omega)]
    rfl
  · rw [hz _ _ (by omega), h5 _ _ (by omega)]
    unfold mo_b4
    rw [mo_z_o (by omega), mo_z_o (by omega), mo_z_i (by omega)]
    rfl
  · rw [hz _ _ (by omega), h5 _ _ (by omega)]
    unfold mo_b4
    rw [mo_z_o (by omega), mo_z_i (by omega)]
    rfl
  · rw [hz _ _ (by omega), h5 _ _ (by omega)]
    unfold mo_b4
    rw [mo_z_o (by omega), mo_z_i (by omega)]
    rfl
  · rw [hz _ _ (by omega), h5 _ _ (by omega)]
    unfold mo_b4
    rw [mo_z_i (by omega)]
    rfl
  · rw [hz _ _ (by omega), h5 _ _ (by omega)]
    unfold mo_b4
    rw [mo_z_i (by omega)]
    rfl
  · rw [hz _ _ (by omega), h5 _ _ (by omega)]
    unfold mo_b4
    rw [mo_z_i (by omega)]
    rfl
  · unfold mo_bg
    rw [mo_z_i (by omega)]
    rfl
  · unfold mo_bg
    rw [mo_z_i (by omega)]
    rfl
theorem bg_o {J : Nat → Nat → Int32} {q a i : Nat} {f : Int32} (h : ¬ (a = 98 ∧ (i = 1 ∨ i = 9 ∨ i = 10 ∨ i = 11 ∨ i = 25 ∨ i = 26 ∨ i = 27))) (h2 : ¬ (99 ≤ a ∧ a ≤ 105)) (h3 : ¬ (128 ≤ a ∧ a ≤ 133)) : mo_bg J q f a i = J a i := by
  unfold mo_bg mo_b5 mo_b4
  rw [mo_z_o (by omega), jx_u_no (by omega), jx_u_no (by omega), jx_u_no (by omega), jx_u_no (by omega), jx_u_no (by omega), jx_u_no (by omega), mo_z_o (by omega), mo_z_o (by omega), mo_z_o (by omega), mo_z_o (by omega), jx_u_no (by omega)]
theorem bg_11 {J : Nat → Nat → Int32} {q : Nat} {f : Int32} : mo_bg J q f 98 11 = 0 := by
  unfold mo_bg mo_b5
  rw [mo_z_o (by omega)]
  simp (disch := omega) only [jx_u_ni, jx_u_eq]
theorem ag_z {I J : Nat → Nat → Int32} (h : ag I J) {lo hi k : Nat} {v : Nat → Nat → Int32} : ag (mo_z I lo hi k v) (mo_z J lo hi k v) := fun a j h1 h2 => by
  unfold mo_z
  split
  · rfl
  · exact h a j h1 h2
theorem ag_bg {I J : Nat → Nat → Int32} (h : ag I J) {q : Nat} {f : Int32} : ag (mo_bg I q f) (mo_bg J q f) := by
  unfold mo_bg mo_b5 mo_b4
  exact ag_z (ag_u (ag_u (ag_u (ag_u (ag_u (ag_u (ag_z (ag_z (ag_z (ag_z (ag_u h rfl))))) rfl) rfl) rfl) rfl) rfl) rfl)
/-- the invariant at a start -/
theorem Iv_fresh {J : Nat → Nat → Int32} {q : Nat} {f : Int32} (h3 : 3 ≤ q) (h7 : q ≤ 7) (hf : bs f q) (hf0 : f ≠ 0) (h0 : J 98 0 = 0) (hb : ∀ j, J 117 j &&& 1 = J 117 j) (hJ : mo_f0 J q f) : Iv J q 0 0 4 ∧ iv_p J = 0 := by
  obtain ⟨j1, j2, j3, j4, j5, j6, j7, j8, j9, j10, j11⟩ := hJ
  refine ⟨⟨⟨h0, j1, h3, h7, j2, j4, by omega⟩, fun w hw => ⟨fun k hk => ?_, ?_, fun k hk h1 => ?_⟩, fun i hi => absurd hi (by omega), fun c hc => ⟨0, (j11 c hc).2, by omega, Or.inl (j11 c hc).1⟩, ⟨0, j6, ?_, fun o ho => absurd ho (by omega)⟩, fun s k hs hk => by rw [(j10 _ (by omega)).2.2]; exact bs_0, hb⟩, ?_⟩
  · show mp (J 99 (6 * w + k)) q
    rw [j7 _ (by omega)]
    split
    · exact Or.inr hf
    · exact Or.inr bs_0
  · show J 99 (6 * w + 0) ≠ 0
    rw [j7 _ (by omega), if_pos (by omega)]
    exact hf0
  · have h2 : J 99 (6 * w + k) = -1 := h1
    rw [j7 _ (by omega)] at h2
    split at h2
    · exact absurd h2 (bs_m1 h7 hf)
    · exact absurd h2 (by decide)
  · unfold iv_a
    rw [if_pos (j11 0 (by omega)).1, if_pos (j11 1 (by omega)).1, if_pos (j11 2 (by omega)).1, if_pos (j11 3 (by omega)).1]
    omega
  · unfold iv_p iv_q
    rw [if_pos (j11 0 (by omega)).1, if_pos (j11 1 (by omega)).1, if_pos (j11 2 (by omega)).1, if_pos (j11 3 (by omega)).1]
/-- what a restart leaves -/
def rl_V (v : Option jx_V) (J : Nat → Nat → Int32) (A : Nat → Nat) (I0 : Nat → Nat → Int32) (w : Option jx_V) (M : jx_M) : Prop := w = v ∧ ∃ n2 ms2 K2 I2 P2, M = (n2, ms2, K2, I2, P2) ∧ rl0 n2 ms2 K2 I2 P2 J 0 A ∧ ag I2 I0 ∧ I2 3 6 = 0
set_option maxHeartbeats 4000000 in
set_option maxRecDepth 100000 in
theorem rl_restart {G : jx_G} {n ms : Nat} {K : Nat → Nat × Nat} {I : Nat → Nat → Int32} {P : Nat → Nat → Option Nat} {J : Nat → Nat → Int32} {B : Nat} {A : Nat → Nat} {q : Nat} {f : Int32} (hR : rl0 n ms K I P J B A) : jx_C G yX8_restart cX8_restart 7 none 8 [.inr (some 3), .inl (nI q), .inl f] (n, ms, K, I, P) (rl_V none (mo_bg J q f) A I) := by
  refine jx_C_of (by decide) (Nat.le_of_ble_eq_true rfl) ?_
  simp only [List.map_cons, List.map_nil, List.length_cons, List.length_nil, Nat.reduceAdd, Nat.reduceSub, List.replicate_zero, List.append_nil, List.replicate_succ, List.cons_append, List.nil_append]
  obtain ⟨hN, ⟨L, x, S, z, e, c, e2, c2, hB, -⟩, -⟩ := id hR
  obtain ⟨n0, n1, n2, n3, n4, n5, n6⟩ := id hN
  obtain ⟨bg, bj, b62, bm3, bb, bn, bms, bn2, bms2⟩ := id hB
  obtain ⟨bfx, bl1, bl2, bee, bmi, bmS, bdj, b140⟩ := id bg
  have hom := om_le P
  have hcc := bl1.2.2.2.2.1
  have hcc2 := bl2.2.2.2.2.1
  have he := bl1.2.2.2.2.2.2
  have he2 := bl2.2.2.2.2.2.2
  refine rs_main n0 (fun I3 P3 x6 hI hP => ?_)
  obtain ⟨i1, i2, i3, i4, i5⟩ := id hI
  obtain ⟨p1, p2⟩ := id hP
  have hP3 : ∀ b j, b < 78 ∨ 98 ≤ b → P3 b j = P b j := fun b j w => p1 b j (by omega)
  have bg3 : bg_ok n K I3 P3 L x S z e c e2 c2 := by
    obtain ⟨u1, u2, u3, u4, u5, u6⟩ := bfx
    obtain ⟨a1, a2, a3, a4, a5, a6, a7, a8⟩ := bl1
    obtain ⟨b1, b2, b3, b4, b5, b6, b7, b8⟩ := bl2
    refine ⟨⟨u1, by rw [hP3 _ _ (by omega), u2], by rw [hP3 _ _ (by omega), u3], u4, u5, u6⟩, ⟨by rw [hP3 _ _ (by omega), a1], a2, by rw [i5 _ _ (by omega) (by omega), a3], a4, a5, fun i hi => by rw [hP3 _ _ (by omega), a6 i hi], a7, a8⟩, ⟨by rw [hP3 _ _ (by omega), b1], b2, by rw [i5 _ _ (by omega) (by omega), b3], b4, b5, fun i hi => by rw [hP3 _ _ (by omega), b6 i hi], b7, b8⟩, bee, fun i hi => ?_, fun i hi => ?_, bdj, b140⟩
    · obtain ⟨v1, v2, v3⟩ := bmi i hi
      exact ⟨ob_M_fr v1 (fun _ _ _ => rfl) (fun b j h1 h2 => hP3 b j (by omega)), v2, v3⟩
    · obtain ⟨v1, v2, v3⟩ := bmS i hi
      exact ⟨ob_M_fr v1 (fun _ _ _ => rfl) (fun b j h1 h2 => hP3 b j (by omega)), v2, v3⟩
  have hcl3 : cl_ok K P3 := cl_ok_to n0 (fun _ _ _ => rfl) (fun b j q1 q2 q3 q4 q5 q6 q7 => p1 b j (by omega))
  have g0 := hcl3.1
  have g5 := hcl3.2.2.2.2.2.1
  have g6 := hcl3.2.2.2.2.2.2.1
  refine jx_gq flok_X8 (fwok_X8 rfl) 99999 3 _ _ _ _ ?_
  simp (disch := omega) only [↓reduceIte, jx_wp, jx_stp, jx_f0, jx_f1, jx_f2, jx_f3, List.getElem?_cons_zero, List.getElem?_cons_succ, List.set_cons_zero, List.set_cons_succ, Nat.reduceAdd, true_and, and_true, if_true, if_false, Bool.false_eq_true, jx_s, Nat.reduceLT, dX8_restart_0, dX8_restart_1, dX8_restart_2, dX8_restart_5, dX8_restart_6, dX8_restart_7, dX8_restart_10, dX8_restart_11, dX8_restart_14, dX8_restart_15, dX8_restart_16, dX8_restart_17, dX8_restart_19, dX8_restart_20, dX8_restart_22, dX8_restart_24, dX8_restart_26, dX8_restart_29, dX8_restart_30, dX8_restart_32, dX8_restart_33, dX8_restart_35, dX8_restart_37, dX8_restart_38, dX8_restart_41, dX8_restart_44, dX8_restart_47, dX8_restart_48, dX8_restart_51, dX8_restart_52, dX8_restart_53, dX8_restart_54, dX8_restart_56, dX8_restart_57, dX8_restart_59, dX8_restart_61, dX8_restart_63, dX8_restart_66, dX8_restart_67, dX8_restart_69, dX8_restart_70, dX8_restart_72, dX8_restart_74, dX8_restart_75, dX8_restart_78, dX8_restart_81, dX8_restart_84, dX8_restart_85, dX8_restart_88, dX8_restart_91, dX8_restart_92, dX8_restart_95, dX8_restart_98, fw_X8_65, ft_9_5, jx_k0, fw_X8_235, ft_9_6, fl_X8_11, ft_9_0, tg_26_21, jx_k1, tg_44_m22, fl_X8_17, ft_9_1, tg_63_21, tg_81_m22, fl_X8_24, ft_9_2, fl_X8_31, ft_9_3, jx_wq, jx_stq, jx_ite, jx_b0, jx_bn0, jx_u_eq, jx_u_na, jx_u_ni, jx_nb0, jx_nb1, jx_ni, jx_E, eq_self, jx_a0, jx_a1, ne_eq, not_false_eq_true, Nat.reduceLeDiff, Nat.reduceEqDiff, Nat.reduceLT, jx_subl, jx_al, jx_la, jx_nm, jx_ml, nI_add, jx_xn, jx_xl, jx_inn, jx_inl, jx_ltnn, jx_lenn, jx_eqnn, jx_ltnl, jx_lenl, jx_ltln, jx_leln, jx_eqnl, Int32.reduceAdd, Int32.reduceSub, Int32.reduceMul, Int32.reduceLT, Int32.reduceLE, jx_eqll, jx_ltll, Nat.reduceMul, Nat.reduceSub, forall_const, implies_true, false_implies, not_true_eq_false, true_implies, jx_tko, jx_ofn, jx_tka, jx_pro, jx_pra, and_self, Nat.not_lt_zero, jx_nbb, fv_9_5, fv_9_6, g0, g5]
  refine jx_cV0 dX8_restart_88 li_X8_253 (bg_restart bg3 (by omega) (by omega) (by omega)) (congrArg Prod.fst bg3.1.1) (Nat.le_of_ble_eq_true rfl) (Nat.le_of_ble_eq_true rfl) ?_
  rintro _ _ ⟨rfl, n7, ms7, K7, I7, P7, L7, S7, e7, c7, rfl, q1, q2, q3, q4, q5, q6, q7, q8⟩ - -
  simp only [Option.toList_some, Option.toList_none, List.cons_append, List.nil_append]
  
  have hK7 : ∀ b, b < 140 → K7 b = K b := fun b w => q4 b (by omega)
  have hP7 : ∀ b j, b < 140 → b ≠ 1 → b ≠ 7 → b ≠ 8 → P7 b j = P3 b j := fun b j w1 w2 w3 w4 => q6 b j (by omega) w3 w4 (by omega) (by omega)
  have hcl7 : cl_ok K7 P7 := cl_ok_to hcl3 (fun b w1 w2 => hK7 b (by omega)) (fun b j w1 w2 w3 w4 w5 w6 w7 => hP7 b j (by omega) (by omega) w3 w4)
  have g07 := hcl7.1
  have g67 := hcl7.2.2.2.2.2.2.1
  have hL7 := hcl7.2.2.2.2.2.2.2.2.2.2
  refine jx_gq flok_X8 (fwok_X8 rfl) 99999 3 _ _ _ _ ?_
  simp (disch := omega) only [↓reduceIte, jx_wp, jx_stp, jx_f0, jx_f1, jx_f2, jx_f3, List.getElem?_cons_zero, List.getElem?_cons_succ, List.set_cons_zero, List.set_cons_succ, Nat.reduceAdd, true_and, and_true, if_true, if_false, Bool.false_eq_true, jx_s, Nat.reduceLT, dX8_restart_0, dX8_restart_1, dX8_restart_2, dX8_restart_5, dX8_restart_6, dX8_restart_7, dX8_restart_10, dX8_restart_11, dX8_restart_14, dX8_restart_15, dX8_restart_16, dX8_restart_17, dX8_restart_19, dX8_restart_20, dX8_restart_22, dX8_restart_24, dX8_restart_26, dX8_restart_29, dX8_restart_30, dX8_restart_32, dX8_restart_33, dX8_restart_35, dX8_restart_37, dX8_restart_38, dX8_restart_41, dX8_restart_44, dX8_restart_47, dX8_restart_48, dX8_restart_51, dX8_restart_52, dX8_restart_53, dX8_restart_54, dX8_restart_56, dX8_restart_57, dX8_restart_59, dX8_restart_61, dX8_restart_63, dX8_restart_66, dX8_restart_67, dX8_restart_69, dX8_restart_70, dX8_restart_72, dX8_restart_74, dX8_restart_75, dX8_restart_78, dX8_restart_81, dX8_restart_84, dX8_restart_85, dX8_restart_88, dX8_restart_91, dX8_restart_92, dX8_restart_95, dX8_restart_98, fw_X8_65, ft_9_5, jx_k0, fw_X8_235, ft_9_6, fl_X8_11, ft_9_0, tg_26_21, jx_k1, tg_44_m22, fl_X8_17, ft_9_1, tg_63_21, tg_81_m22, fl_X8_24, ft_9_2, fl_X8_31, ft_9_3, jx_wq, jx_stq, jx_ite, jx_b0, jx_bn0, jx_u_eq, jx_u_na, jx_u_ni, jx_nb0, jx_nb1, jx_ni, jx_E, eq_self, jx_a0, jx_a1, ne_eq, not_false_eq_true, Nat.reduceLeDiff, Nat.reduceEqDiff, Nat.reduceLT, jx_subl, jx_al, jx_la, jx_nm, jx_ml, nI_add, jx_xn, jx_xl, jx_inn, jx_inl, jx_ltnn, jx_lenn, jx_eqnn, jx_ltnl, jx_lenl, jx_ltln, jx_leln, jx_eqnl, Int32.reduceAdd, Int32.reduceSub, Int32.reduceMul, Int32.reduceLT, Int32.reduceLE, jx_eqll, jx_ltll, Nat.reduceMul, Nat.reduceSub, forall_const, implies_true, false_implies, not_true_eq_false, true_implies, jx_tko, jx_ofn, jx_tka, jx_pro, jx_pra, and_self, Nat.not_lt_zero, jx_nbb, fv_9_5, fv_9_6, g07, g67]
  refine jx_cV0 dX8_restart_95 li_X8_255 (lg_restart hL7) (congrArg Prod.fst hL7.1) (Nat.le_of_ble_eq_true rfl) (Nat.le_of_ble_eq_true rfl) ?_
  rintro _ _ ⟨rfl, rfl⟩ - -
  simp only [Option.toList_some, Option.toList_none, List.cons_append, List.nil_append]
  refine jx_gq flok_X8 (fwok_X8 rfl) 99999 2 _ _ _ _ ?_
  simp (disch := omega) only [↓reduceIte, jx_wp, jx_stp, jx_f0, jx_f1, jx_f2, jx_f3, List.getElem?_cons_zero, List.getElem?_cons_succ, List.set_cons_zero, List.set_cons_succ, Nat.reduceAdd, true_and, and_true, if_true, if_false, Bool.false_eq_true, jx_s, Nat.reduceLT, dX8_restart_0, dX8_restart_1, dX8_restart_2, dX8_restart_5, dX8_restart_6, dX8_restart_7, dX8_restart_10, dX8_restart_11, dX8_restart_14, dX8_restart_15, dX8_restart_16, dX8_restart_17, dX8_restart_19, dX8_restart_20, dX8_restart_22, dX8_restart_24, dX8_restart_26, dX8_restart_29, dX8_restart_30, dX8_restart_32, dX8_restart_33, dX8_restart_35, dX8_restart_37, dX8_restart_38, dX8_restart_41, dX8_restart_44, dX8_restart_47, dX8_restart_48, dX8_restart_51, dX8_restart_52, dX8_restart_53, dX8_restart_54, dX8_restart_56, dX8_restart_57, dX8_restart_59, dX8_restart_61, dX8_restart_63, dX8_restart_66, dX8_restart_67, dX8_restart_69, dX8_restart_70, dX8_restart_72, dX8_restart_74, dX8_restart_75, dX8_restart_78, dX8_restart_81, dX8_restart_84, dX8_restart_85, dX8_restart_88, dX8_restart_91, dX8_restart_92, dX8_restart_95, dX8_restart_98, fw_X8_65, ft_9_5, jx_k0, fw_X8_235, ft_9_6, fl_X8_11, ft_9_0, tg_26_21, jx_k1, tg_44_m22, fl_X8_17, ft_9_1, tg_63_21, tg_81_m22, fl_X8_24, ft_9_2, fl_X8_31, ft_9_3, jx_wq, jx_stq, jx_ite, jx_b0, jx_bn0, jx_u_eq, jx_u_na, jx_u_ni, jx_nb0, jx_nb1, jx_ni, jx_E, eq_self, jx_a0, jx_a1, ne_eq, not_false_eq_true, Nat.reduceLeDiff, Nat.reduceEqDiff, Nat.reduceLT, jx_subl, jx_al, jx_la, jx_nm, jx_ml, nI_add, jx_xn, jx_xl, jx_inn, jx_inl, jx_ltnn, jx_lenn, jx_eqnn, jx_ltnl, jx_lenl, jx_ltln, jx_leln, jx_eqnl, Int32.reduceAdd, Int32.reduceSub, Int32.reduceMul, Int32.reduceLT, Int32.reduceLE, jx_eqll, jx_ltll, Nat.reduceMul, Nat.reduceSub, forall_const, implies_true, false_implies, not_true_eq_false, true_implies, jx_tko, jx_ofn, jx_tka, jx_pro, jx_pra, and_self, Nat.not_lt_zero, jx_nbb, fv_9_5, fv_9_6]
  have hI7 : ∀ b j, b < n → b ≠ 6 → b ≠ 7 → b ≠ 8 → b ≠ 9 → jx_u (jx_u (jx_u I7 9 1 0) 9 2 0) 9 3 0 b j = I3 b j := fun b j w1 w2 w3 w4 w5 => by rw [jx_u_na w5, jx_u_na w5, jx_u_na w5, q5 b j w1 w2 w3 w4]
  have hI9 : ∀ b j, b ≠ 9 → jx_u (jx_u (jx_u I7 9 1 0) 9 2 0) 9 3 0 b j = I7 b j := fun b j w5 => by rw [jx_u_na w5, jx_u_na w5, jx_u_na w5]
  have hom7 : om P7 = om P := om_eq (fun o => by rw [hP7 10 o (by omega) (by omega) (by omega) (by omega), hP3 10 o (by omega)])
  refine ⟨rfl, n7, ms7, K7, _, P7, rfl, rl_fresh (L := L7) (S := S7) (z := z + x) (e := e) (c := c) (e2 := e7) (c2 := c7) hcl7 (rs_ok_to n1 (fun b w1 w2 => hK7 b (by omega)) (fun b j w => by rw [hP7 b j (by omega) (by omega) (by omega) (by omega), hP3 b j (by omega)])) (mo_ok_to n2 (fun b w1 w2 => hK7 b (by omega)) (fun j => by rw [hP7 98 j (by omega) (by omega) (by omega) (by omega), hP3 98 j (by omega)])) (fun s hs => sv_0_to (i3 s hs) (fun b j w1 w2 => hI7 b j (by omega) (by omega) (by omega) (by omega) (by omega))) (fun d hd => ?_) ⟨?_, ?_, ?_⟩ (fun o a ho hp => ?_) ?_ ?_ ?_ (by omega) (by omega) (by omega) bg_f0, fun a j w1 w2 => ?_, ?_⟩
  · obtain ⟨v1, v2, v3, v4⟩ := i4 d hd
    have s0 := (n4 d hd).1.1
    refine ⟨by rw [hI7 _ _ (by omega) (by omega) (by omega) (by omega) (by omega), v1, s0], by rw [hI7 _ _ (by omega) (by omega) (by omega) (by omega) (by omega), v2], by rw [hI7 _ _ (by omega) (by omega) (by omega) (by omega) (by omega), v3], fun k hk => by rw [hI7 _ _ (by omega) (by omega) (by omega) (by omega) (by omega), v4 k hk], by rw [hP7 _ _ (by omega) (by omega) (by omega) (by omega), p2 d hd]⟩
  · simp (disch := omega) only [jx_u_ni, jx_u_eq]
  · simp (disch := omega) only [jx_u_ni, jx_u_eq]
  · rw [jx_u_eq]
  · rw [hP7 10 o (by omega) (by omega) (by omega) (by omega), hP3 10 o (by omega)] at hp
    obtain ⟨w1, w2, w3, w4⟩ := n5.2.2.2.2.2.1 o a ho hp
    exact ⟨by rw [q4 a w3, w1], w2, by omega, by rw [hI7 a 0 w3 (by omega) (by omega) (by omega) (by omega), i5 a 0 (by omega) (by omega), w4]⟩
  · rw [hI7 3 5 (by omega) (by omega) (by omega) (by omega) (by omega), i1]
  · obtain ⟨u0, u1, u2, u3, u4, u5, u6, u7⟩ := q1
    exact ⟨u0, ls_ok_I u1 (hI9 7 2 (by omega)), ls_ok_I u2 (hI9 8 2 (by omega)), u3, u4, u5, u6, u7⟩
  · rw [hI9 6 2 (by omega), q2]
  · rw [hI7 a j (by omega) (by omega) (by omega) (by omega) (by omega), i5 a j (by omega) (by omega)]
  · rw [hI7 3 6 (by omega) (by omega) (by omega) (by omega) (by omega), i2]
set_option maxHeartbeats 4000000 in
set_option maxRecDepth 100000 in
theorem rl_beginc {G : jx_G} {n ms : Nat} {K : Nat → Nat × Nat} {I : Nat → Nat → Int32} {P : Nat → Nat → Option Nat} {J : Nat → Nat → Int32} {B : Nat} {A : Nat → Nat} {q : Nat} {f : Int32} (hR : rl0 n ms K I P J B A) (h3 : 3 ≤ q) (h7 : q ≤ 7) (hs : ¬ f ≤ 0 ∧ ¬ (1 : Int32) <<< (nI q &&& 31) ≤ f) : jx_C G yX8_begin cX8_begin 3 (some FieldType.boolean) 9 [.inr (some 3), .inl (nI q), .inl f] (n, ms, K, I, P) (rl_V (some (.inl 1)) (mo_bg J q f) A I) := by
  refine jx_C_of (by decide) (Nat.le_of_ble_eq_true rfl) ?_
  simp only [List.map_cons, List.map_nil, List.length_cons, List.length_nil, Nat.reduceAdd, Nat.reduceSub, List.replicate_zero, List.append_nil, List.replicate_succ, List.cons_append, List.nil_append]
  have g0 := hR.1.1.1
  have e3 : ¬ q < 3 := by omega
  have e7 : ¬ 7 < q := by omega
  have hs2 : (¬ f ≤ 0 ∧ ¬ (1 : Int32) <<< (nI q &&& 31) ≤ f) = True := eq_true hs
  refine jx_gq flok_X8 (fwok_X8 rfl) 99999 8 _ _ _ _ ?_
  simp (disch := omega) only [↓reduceIte, jx_wp, jx_stp, jx_f0, jx_f1, jx_f2, jx_f3, List.getElem?_cons_zero, List.getElem?_cons_succ, List.set_cons_zero, List.set_cons_succ, Nat.reduceAdd, true_and, and_true, if_true, if_false, Bool.false_eq_true, jx_s, Nat.reduceLT, dX8_begin_0, dX8_begin_1, dX8_begin_2, dX8_begin_5, dX8_begin_6, dX8_begin_8, dX8_begin_11, dX8_begin_12, dX8_begin_13, dX8_begin_16, dX8_begin_19, dX8_begin_20, dX8_begin_21, dX8_begin_22, dX8_begin_23, dX8_begin_24, dX8_begin_27, dX8_begin_28, jx_k3, tg_2_17, jx_b7, tg_8_11, tg_16_5, jx_k0, jx_k1, jx_wq, jx_stq, jx_ite, jx_b0, jx_bn0, jx_u_eq, jx_u_na, jx_u_ni, jx_nb0, jx_nb1, jx_ni, jx_E, eq_self, jx_a0, jx_a1, ne_eq, not_false_eq_true, Nat.reduceLeDiff, Nat.reduceEqDiff, Nat.reduceLT, jx_subl, jx_al, jx_la, jx_nm, jx_ml, nI_add, jx_xn, jx_xl, jx_inn, jx_inl, jx_ltnn, jx_lenn, jx_eqnn, jx_ltnl, jx_lenl, jx_ltln, jx_leln, jx_eqnl, Int32.reduceAdd, Int32.reduceSub, Int32.reduceMul, Int32.reduceLT, Int32.reduceLE, jx_eqll, jx_ltll, Nat.reduceMul, Nat.reduceSub, forall_const, implies_true, false_implies, not_true_eq_false, true_implies, jx_tko, jx_ofn, jx_tka, jx_pro, jx_pra, and_self, Nat.not_lt_zero, jx_nbb, e3, e7]
  refine jx_cS2 dX8_begin_13 li_X8_50 (cl_isSetAmong) (Nat.le_of_ble_eq_true rfl) (Nat.le_of_ble_eq_true rfl) ?_
  rintro _ _ ⟨rfl, rfl⟩ - -
  simp only [Option.toList_some, Option.toList_none, List.cons_append, List.nil_append]
  refine jx_gq flok_X8 (fwok_X8 rfl) 99999 6 _ _ _ _ ?_
  simp (disch := omega) only [↓reduceIte, jx_wp, jx_stp, jx_f0, jx_f1, jx_f2, jx_f3, List.getElem?_cons_zero, List.getElem?_cons_succ, List.set_cons_zero, List.set_cons_succ, Nat.reduceAdd, true_and, and_true, if_true, if_false, Bool.false_eq_true, jx_s, Nat.reduceLT, dX8_begin_0, dX8_begin_1, dX8_begin_2, dX8_begin_5, dX8_begin_6, dX8_begin_8, dX8_begin_11, dX8_begin_12, dX8_begin_13, dX8_begin_16, dX8_begin_19, dX8_begin_20, dX8_begin_21, dX8_begin_22, dX8_begin_23, dX8_begin_24, dX8_begin_27, dX8_begin_28, jx_k3, tg_2_17, jx_b7, tg_8_11, tg_16_5, jx_k0, jx_k1, jx_wq, jx_stq, jx_ite, jx_b0, jx_bn0, jx_u_eq, jx_u_na, jx_u_ni, jx_nb0, jx_nb1, jx_ni, jx_E, eq_self, jx_a0, jx_a1, ne_eq, not_false_eq_true, Nat.reduceLeDiff, Nat.reduceEqDiff, Nat.reduceLT, jx_subl, jx_al, jx_la, jx_nm, jx_ml, nI_add, jx_xn, jx_xl, jx_inn, jx_inl, jx_ltnn, jx_lenn, jx_eqnn, jx_ltnl, jx_lenl, jx_ltln, jx_leln, jx_eqnl, Int32.reduceAdd, Int32.reduceSub, Int32.reduceMul, Int32.reduceLT, Int32.reduceLE, jx_eqll, jx_ltll, Nat.reduceMul, Nat.reduceSub, forall_const, implies_true, false_implies, not_true_eq_false, true_implies, jx_tko, jx_ofn, jx_tka, jx_pro, jx_pra, and_self, Nat.not_lt_zero, jx_nbb, hs2]
  refine jx_cV2 dX8_begin_24 li_X8_46 (rl_restart (q := q) (f := f) hR) (congrArg Prod.fst g0) (Nat.le_of_ble_eq_true rfl) (Nat.le_of_ble_eq_true rfl) ?_
  rintro _ _ ⟨rfl, n2, ms2, K2, I2, P2, rfl, hR2, hag, h36⟩ - -
  simp only [Option.toList_some, Option.toList_none, List.cons_append, List.nil_append]
  refine jx_gq flok_X8 (fwok_X8 rfl) 99999 3 _ _ _ _ ?_
  simp (disch := omega) only [↓reduceIte, jx_wp, jx_stp, jx_f0, jx_f1, jx_f2, jx_f3, List.getElem?_cons_zero, List.getElem?_cons_succ, List.set_cons_zero, List.set_cons_succ, Nat.reduceAdd, true_and, and_true, if_true, if_false, Bool.false_eq_true, jx_s, Nat.reduceLT, dX8_begin_0, dX8_begin_1, dX8_begin_2, dX8_begin_5, dX8_begin_6, dX8_begin_8, dX8_begin_11, dX8_begin_12, dX8_begin_13, dX8_begin_16, dX8_begin_19, dX8_begin_20, dX8_begin_21, dX8_begin_22, dX8_begin_23, dX8_begin_24, dX8_begin_27, dX8_begin_28, jx_k3, tg_2_17, jx_b7, tg_8_11, tg_16_5, jx_k0, jx_k1, jx_wq, jx_stq, jx_ite, jx_b0, jx_bn0, jx_u_eq, jx_u_na, jx_u_ni, jx_nb0, jx_nb1, jx_ni, jx_E, eq_self, jx_a0, jx_a1, ne_eq, not_false_eq_true, Nat.reduceLeDiff, Nat.reduceEqDiff, Nat.reduceLT, jx_subl, jx_al, jx_la, jx_nm, jx_ml, nI_add, jx_xn, jx_xl, jx_inn, jx_inl, jx_ltnn, jx_lenn, jx_eqnn, jx_ltnl, jx_lenl, jx_ltln, jx_leln, jx_eqnl, Int32.reduceAdd, Int32.reduceSub, Int32.reduceMul, Int32.reduceLT, Int32.reduceLE, jx_eqll, jx_ltll, Nat.reduceMul, Nat.reduceSub, forall_const, implies_true, false_implies, not_true_eq_false, true_implies, jx_tko, jx_ofn, jx_tka, jx_pro, jx_pra, and_self, Nat.not_lt_zero, jx_nbb]
  exact ⟨rfl, n2, ms2, K2, I2, P2, rfl, hR2, hag, h36⟩
set_option maxHeartbeats 4000000 in
set_option maxRecDepth 100000 in
theorem rl_beginc_no {G : jx_G} {n ms : Nat} {K : Nat → Nat × Nat} {I : Nat → Nat → Int32} {P : Nat → Nat → Option Nat} {x f : Int32} (hs : x < 3 ∨ 7 < x ∨ f ≤ 0 ∨ (1 : Int32) <<< (x &&& 31) ≤ f) : jx_C G yX8_begin cX8_begin 3 (some FieldType.boolean) 9 [.inr (some 3), .inl x, .inl f] (n, ms, K, I, P) (jx_E (some (.inl 0)) (n, ms, K, I, P)) := by
  refine jx_C_of (by decide) (Nat.le_of_ble_eq_true rfl) ?_
  simp only [List.map_cons, List.map_nil, List.length_cons, List.length_nil, Nat.reduceAdd, Nat.reduceSub, List.replicate_zero, List.append_nil, List.replicate_succ, List.cons_append, List.nil_append]
  by_cases h1 : x < 3
  · refine jx_gq flok_X8 (fwok_X8 rfl) 99999 8 _ _ _ _ ?_
    simp (disch := omega) only [↓reduceIte, jx_wp, jx_stp, jx_f0, jx_f1, jx_f2, jx_f3, List.getElem?_cons_zero, List.getElem?_cons_succ, List.set_cons_zero, List.set_cons_succ, Nat.reduceAdd, true_and, and_true, if_true, if_false, Bool.false_eq_true, jx_s, Nat.reduceLT, dX8_begin_0, dX8_begin_1, dX8_begin_2, dX8_begin_5, dX8_begin_6, dX8_begin_8, dX8_begin_11, dX8_begin_12, dX8_begin_13, dX8_begin_16, dX8_begin_19, dX8_begin_20, dX8_begin_21, dX8_begin_22, dX8_begin_23, dX8_begin_24, dX8_begin_27, dX8_begin_28, jx_k3, tg_2_17, jx_b7, tg_8_11, tg_16_5, jx_k0, jx_k1, jx_wq, jx_stq, jx_ite, jx_b0, jx_bn0, jx_u_eq, jx_u_na, jx_u_ni, jx_nb0, jx_nb1, jx_ni, jx_E, eq_self, jx_a0, jx_a1, ne_eq, not_false_eq_true, Nat.reduceLeDiff, Nat.reduceEqDiff, Nat.reduceLT, jx_subl, jx_al, jx_la, jx_nm, jx_ml, nI_add, jx_xn, jx_xl, jx_inn, jx_inl, jx_ltnn, jx_lenn, jx_eqnn, jx_ltnl, jx_lenl, jx_ltln, jx_leln, jx_eqnl, Int32.reduceAdd, Int32.reduceSub, Int32.reduceMul, Int32.reduceLT, Int32.reduceLE, jx_eqll, jx_ltll, Nat.reduceMul, Nat.reduceSub, forall_const, implies_true, false_implies, not_true_eq_false, true_implies, jx_tko, jx_ofn, jx_tka, jx_pro, jx_pra, and_self, Nat.not_lt_zero, jx_nbb, h1]
  · by_cases h2 : 7 < x
    · refine jx_gq flok_X8 (fwok_X8 rfl) 99999 8 _ _ _ _ ?_
      simp (disch := omega) only [↓reduceIte, jx_wp, jx_stp, jx_f0, jx_f1, jx_f2, jx_f3, List.getElem?_cons_zero, List.getElem?_cons_succ, List.set_cons_zero, List.set_cons_succ, Nat.reduceAdd, true_and, and_true, if_true, if_false, Bool.false_eq_true, jx_s, Nat.reduceLT, dX8_begin_0, dX8_begin_1, dX8_begin_2, dX8_begin_5, dX8_begin_6, dX8_begin_8, dX8_begin_11, dX8_begin_12, dX8_begin_13, dX8_begin_16, dX8_begin_19, dX8_begin_20, dX8_begin_21, dX8_begin_22, dX8_begin_23, dX8_begin_24, dX8_begin_27, dX8_begin_28, jx_k3, tg_2_17, jx_b7, tg_8_11, tg_16_5, jx_k0, jx_k1, jx_wq, jx_stq, jx_ite, jx_b0, jx_bn0, jx_u_eq, jx_u_na, jx_u_ni, jx_nb0, jx_nb1, jx_ni, jx_E, eq_self, jx_a0, jx_a1, ne_eq, not_false_eq_true, Nat.reduceLeDiff, Nat.reduceEqDiff, Nat.reduceLT, jx_subl, jx_al, jx_la, jx_nm, jx_ml, nI_add, jx_xn, jx_xl, jx_inn, jx_inl, jx_ltnn, jx_lenn, jx_eqnn, jx_ltnl, jx_lenl, jx_ltln, jx_leln, jx_eqnl, Int32.reduceAdd, Int32.reduceSub, Int32.reduceMul, Int32.reduceLT, Int32.reduceLE, jx_eqll, jx_ltll, Nat.reduceMul, Nat.reduceSub, forall_const, implies_true, false_implies, not_true_eq_false, true_implies, jx_tko, jx_ofn, jx_tka, jx_pro, jx_pra, and_self, Nat.not_lt_zero, jx_nbb, h1, h2]
    · have h3 : ¬ (¬ f ≤ 0 ∧ ¬ (1 : Int32) <<< (x &&& 31) ≤ f) := fun w => ((hs.resolve_left h1).resolve_left h2).elim w.1 w.2
      refine jx_gq flok_X8 (fwok_X8 rfl) 99999 8 _ _ _ _ ?_
      simp (disch := omega) only [↓reduceIte, jx_wp, jx_stp, jx_f0, jx_f1, jx_f2, jx_f3, List.getElem?_cons_zero, List.getElem?_cons_succ, List.set_cons_zero, List.set_cons_succ, Nat.reduceAdd, true_and, and_true, if_true, if_false, Bool.false_eq_true, jx_s, Nat.reduceLT, dX8_begin_0, dX8_begin_1, dX8_begin_2, dX8_begin_5, dX8_begin_6, dX8_begin_8, dX8_begin_11, dX8_begin_12, dX8_begin_13, dX8_begin_16, dX8_begin_19, dX8_begin_20, dX8_begin_21, dX8_begin_22, dX8_begin_23, dX8_begin_24, dX8_begin_27, dX8_begin_28, jx_k3, tg_2_17, jx_b7, tg_8_11, tg_16_5, jx_k0, jx_k1, jx_wq, jx_stq, jx_ite, jx_b0, jx_bn0, jx_u_eq, jx_u_na, jx_u_ni, jx_nb0, jx_nb1, jx_ni, jx_E, eq_self, jx_a0, jx_a1, ne_eq, not_false_eq_true, Nat.reduceLeDiff, Nat.reduceEqDiff, Nat.reduceLT, jx_subl, jx_al, jx_la, jx_nm, jx_ml, nI_add, jx_xn, jx_xl, jx_inn, jx_inl, jx_ltnn, jx_lenn, jx_eqnn, jx_ltnl, jx_lenl, jx_ltln, jx_leln, jx_eqnl, Int32.reduceAdd, Int32.reduceSub, Int32.reduceMul, Int32.reduceLT, Int32.reduceLE, jx_eqll, jx_ltll, Nat.reduceMul, Nat.reduceSub, forall_const, implies_true, false_implies, not_true_eq_false, true_implies, jx_tko, jx_ofn, jx_tka, jx_pro, jx_pra, and_self, Nat.not_lt_zero, jx_nbb, h1, h2]
      refine jx_cS2 dX8_begin_13 li_X8_50 (cl_isSetAmong) (Nat.le_of_ble_eq_true rfl) (Nat.le_of_ble_eq_true rfl) ?_
      rintro _ _ ⟨rfl, rfl⟩ - -
      simp only [Option.toList_some, Option.toList_none, List.cons_append, List.nil_append]
      refine jx_gq flok_X8 (fwok_X8 rfl) 99999 6 _ _ _ _ ?_
      simp (disch := omega) only [↓reduceIte, jx_wp, jx_stp, jx_f0, jx_f1, jx_f2, jx_f3, List.getElem?_cons_zero, List.getElem?_cons_succ, List.set_cons_zero, List.set_cons_succ, Nat.reduceAdd, true_and, and_true, if_true, if_false, Bool.false_eq_true, jx_s, Nat.reduceLT, dX8_begin_0, dX8_begin_1, dX8_begin_2, dX8_begin_5, dX8_begin_6, dX8_begin_8, dX8_begin_11, dX8_begin_12, dX8_begin_13, dX8_begin_16, dX8_begin_19, dX8_begin_20, dX8_begin_21, dX8_begin_22, dX8_begin_23, dX8_begin_24, dX8_begin_27, dX8_begin_28, jx_k3, tg_2_17, jx_b7, tg_8_11, tg_16_5, jx_k0, jx_k1, jx_wq, jx_stq, jx_ite, jx_b0, jx_bn0, jx_u_eq, jx_u_na, jx_u_ni, jx_nb0, jx_nb1, jx_ni, jx_E, eq_self, jx_a0, jx_a1, ne_eq, not_false_eq_true, Nat.reduceLeDiff, Nat.reduceEqDiff, Nat.reduceLT, jx_subl, jx_al, jx_la, jx_nm, jx_ml, nI_add, jx_xn, jx_xl, jx_inn, jx_inl, jx_ltnn, jx_lenn, jx_eqnn, jx_ltnl, jx_lenl, jx_ltln, jx_leln, jx_eqnl, Int32.reduceAdd, Int32.reduceSub, Int32.reduceMul, Int32.reduceLT, Int32.reduceLE, jx_eqll, jx_ltll, Nat.reduceMul, Nat.reduceSub, forall_const, implies_true, false_implies, not_true_eq_false, true_implies, jx_tko, jx_ofn, jx_tka, jx_pro, jx_pra, and_self, Nat.not_lt_zero, jx_nbb, h3]
