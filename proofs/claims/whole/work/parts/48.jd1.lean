theorem jx_ofn (n : Nat) : Int32.ofNat n = nI n := rfl
theorem jx_tko (s : String) : jx_tyk (FieldType.object s) = true := rfl
theorem jx_tka (t : FieldType) : jx_tyk (FieldType.array t) = true := rfl
theorem jx_pro (s : String) : jx_prim (FieldType.object s) = false := rfl
theorem jx_pra (t : FieldType) : jx_prim (FieldType.array t) = false := rfl
section JF
variable {G : jx_G} {y : MethodName} {cc : ByteArray} {nL : Nat} {ret : Option FieldType} {d : Nat} {Q : Option jx_V → jx_M → Prop} {pc : Nat} {ls : List (Option jx_V)} {st : List jx_V} {M : jx_M}
theorem jx_C_ofF {av : List jx_V} (hy : plainFor y = true) (hl : av.length ≤ nL) (k : jx_J G y cc nL ret d Q 0 (av.map some ++ List.replicate (nL - av.length) none) [] M) : jx_C G y cc nL ret d av M Q := by
  refine va_MetF (cc := cc) (maxL := nL) (ret := ret) hy rfl ?_
  intro p e s m args below meth c s₁ B hml hv
  obtain ⟨rfl, hF, hR⟩ := hv
  have hr := B.returns
  have hlocks := B.notSynchronized
  have hx := B.exec
  have hb := B.bytes
  have hts := atoms_spec (ws := .code y cc nL ret :: jx_tb) B.pre
  rw [lg_entry_eq]
  have hent := lv_entry (av.map (jx_cv G)) (n := nL) (by rw [jx_sl, List.length_map]; exact hl)
  obtain ⟨r1, r2, r3, r4, r5, r6⟩ := id hR
  have hk := k p e s m (av.map (jx_cv G)).toArray below meth c (headSpec (.code y cc nL ret :: jx_tb) { frames := d, cells := 600003 - M.1, slots := 7302250 - M.2.1, locals := 40 * d }).room (MQ below (fun _ _ o t => ∃ (r : Option jx_V) (M' : jx_M), o = .returned (r.map (jx_cv G)) ∧ Q r M' ∧ jx_R G M' t.heap ∧ M.1 ≤ M'.1 ∧ M.2.1 ≤ M'.2.1) (av.map (jx_cv G)).toArray s (600003 - M.1) (7302250 - M.2.1) (fun q => jx_gB G ≤ q)) M.1 M.2.1
    ⟨hx, hb, hml, findClass_of_methodNamed B.named, fun w hw => hts w (List.mem_cons_of_mem _ hw), hF, (name_of_methodNamed B.named B.method).1, Nat.le_refl _, Nat.le_refl _, by show 600003 - M.1 + M.1 = _; omega, by show 7302250 - M.2.1 + M.2.1 = _; omega, r1, r3, ?_⟩
    s.heap ((lg_sl (av.map (jx_cv G)) ++ List.replicate (nL - (lg_sl (av.map (jx_cv G))).length) Slot.unset).toArray) [] hR ?_ (fun q h => absurd h List.not_mem_nil) (Nat.le_refl _) (Nat.le_refl _)
  · rw [Nat.sub_self, Nat.sub_self] at hk
    exact hk
  · intro r M' H lsA locs pc hQ hR' hq hn hm hT
    obtain ⟨s1, s2, s3, s4, s5, s6⟩ := id hR'
    refine W.widen (k := 600003 - M.1) (n := 7302250 - M.2.1) (by omega) (by omega) ?_
    match r, hT with
    | none, hT => exact W.vret hx hb (hr.trans hT.1) (fun t ht hW => ⟨none, M', rfl, hQ, by rw [ht]; exact hR', hn, hm⟩) hq hT.2
    | some (.inl v), hT =>
      obtain ⟨⟨ty, h1, h2⟩, h3⟩ := hT
      exact W.zret hx hb (hr.trans h1) h2 (fun t ht hW => ⟨some (.inl v), M', rfl, hQ, by rw [ht]; exact hR', hn, hm⟩) hq h3
    | some (.inr v), hT =>
      obtain ⟨⟨ty, h1, h2⟩, h3⟩ := hT
      exact W.aret hx hb (hr.trans h1) h2 (by cases v with | none => exact Or.inl rfl | some a => exact Or.inr ⟨_, rfl⟩) (fun t ht hW => ⟨some (.inr v), M', rfl, hQ, by rw [ht]; exact hR', hn, hm⟩) hq h3
  · refine ⟨hent.1, by rw [List.length_append, List.length_map, List.length_replicate]; omega, hent.2.1, fun i v hi => ?_⟩
    have hil : i < av.length := by
      rcases Nat.lt_or_ge i av.length with h | h
      · exact h
      · rw [List.getElem?_append_right (by rw [List.length_map]; exact h), List.getElem?_replicate] at hi
        split at hi <;> cases hi
    rw [List.getElem?_append_left (by rw [List.length_map]; exact hil), List.getElem?_map] at hi
    cases hv : av[i]? with
    | none => rw [hv] at hi; cases hi
    | some w =>
      rw [hv] at hi
      cases hi
      rw [List.getElem?_toArray, jx_sl, List.getElem?_append_left (by rw [List.length_map]; exact hil), List.getElem?_map, hv]
      rfl

end JF
theorem flok_J9 : ∀ i c k, (fun _ : Nat => (none : Option (Nat × Nat))) i = some (c, k) → jx_Fl RJ9 i c k := fun _ _ _ h => nomatch h
theorem fwok_J9 {y : MethodName} (hy : y.cls = RJ9) : ∀ i c k, (fun _ : Nat => (none : Option (Nat × Nat))) i = some (c, k) → jx_Fw y i c k := fun _ _ _ h => nomatch h
theorem flok_J6 : ∀ i c k, (fun _ : Nat => (none : Option (Nat × Nat))) i = some (c, k) → jx_Fl RJ6 i c k := fun _ _ _ h => nomatch h
theorem fwok_J6 {y : MethodName} (hy : y.cls = RJ6) : ∀ i c k, (fun _ : Nat => (none : Option (Nat × Nat))) i = some (c, k) → jx_Fw y i c k := fun _ _ _ h => nomatch h
theorem flok_J7 : ∀ i c k, (fun _ : Nat => (none : Option (Nat × Nat))) i = some (c, k) → jx_Fl RJ7 i c k := fun _ _ _ h => nomatch h
theorem fwok_J7 {y : MethodName} (hy : y.cls = RJ7) : ∀ i c k, (fun _ : Nat => (none : Option (Nat × Nat))) i = some (c, k) → jx_Fw y i c k := fun _ _ _ h => nomatch h
theorem flok_J15 : ∀ i c k, (fun _ : Nat => (none : Option (Nat × Nat))) i = some (c, k) → jx_Fl RJ15 i c k := fun _ _ _ h => nomatch h
theorem fwok_J15 {y : MethodName} (hy : y.cls = RJ15) : ∀ i c k, (fun _ : Nat => (none : Option (Nat × Nat))) i = some (c, k) → jx_Fw y i c k := fun _ _ _ h => nomatch h
theorem flok_J3 : ∀ i c k, (fun _ : Nat => (none : Option (Nat × Nat))) i = some (c, k) → jx_Fl RJ3 i c k := fun _ _ _ h => nomatch h
theorem fwok_J3 {y : MethodName} (hy : y.cls = RJ3) : ∀ i c k, (fun _ : Nat => (none : Option (Nat × Nat))) i = some (c, k) → jx_Fw y i c k := fun _ _ _ h => nomatch h
theorem flok_J8 : ∀ i c k, (fun _ : Nat => (none : Option (Nat × Nat))) i = some (c, k) → jx_Fl RJ8 i c k := fun _ _ _ h => nomatch h
theorem fwok_J8 {y : MethodName} (hy : y.cls = RJ8) : ∀ i c k, (fun _ : Nat => (none : Option (Nat × Nat))) i = some (c, k) → jx_Fw y i c k := fun _ _ _ h => nomatch h
set_option maxRecDepth 100000 in
theorem jd_pmin : plainFor yJ9_min_7cf53 = true := by decide +kernel
set_option maxRecDepth 100000 in
theorem jd_pmax : plainFor yJ9_max_7cf53 = true := by decide +kernel
set_option maxHeartbeats 4000000 in
set_option maxRecDepth 100000 in
theorem jd_min {G : jx_G} {n ms : Nat} {K : Nat → Nat × Nat} {I : Nat → Nat → Int32} {P : Nat → Nat → Option Nat} {x z : Int32} : jx_C G yJ9_min_7cf53 cJ9_min_7cf53 2 (some FieldType.int) 0 [.inl x, .inl z] (n, ms, K, I, P) (jx_E (some (.inl (if z < x then z else x))) (n, ms, K, I, P)) := by
  refine jx_C_ofF jd_pmin (Nat.le_of_ble_eq_true rfl) ?_
  simp only [List.map_cons, List.map_nil, List.length_cons, List.length_nil, Nat.reduceAdd, Nat.reduceSub, List.replicate_zero, List.append_nil, List.replicate_succ, List.cons_append, List.nil_append]
  refine jx_gq flok_J9 (fwok_J9 rfl) 99999 10 _ _ _ _ ?_
  simp (disch := omega) only [↓reduceIte, jx_wp, jx_stp, jx_f0, jx_f1, jx_f2, jx_f3, List.getElem?_cons_zero, List.getElem?_cons_succ, List.set_cons_zero, List.set_cons_succ, Nat.reduceAdd, true_and, and_true, if_true, if_false, Bool.false_eq_true, jx_s, Nat.reduceLT, dJ9_min_7cf53_0, dJ9_min_7cf53_1, dJ9_min_7cf53_2, dJ9_min_7cf53_5, dJ9_min_7cf53_6, dJ9_min_7cf53_9, dJ9_min_7cf53_10, tg_2_7, tg_6_4, jx_wq, jx_stq, jx_ite, jx_b0, jx_bn0, jx_u_eq, jx_u_na, jx_u_ni, jx_nb0, jx_nb1, jx_ni, jx_E, eq_self, jx_a0, jx_a1, ne_eq, not_false_eq_true, Nat.reduceLeDiff, Nat.reduceEqDiff, Nat.reduceLT, jx_subl, jx_al, jx_la, jx_nm, jx_ml, nI_add, jx_xn, jx_xl, jx_inn, jx_inl, jx_ltnn, jx_lenn, jx_eqnn, jx_ltnl, jx_lenl, jx_ltln, jx_leln, jx_eqnl, Int32.reduceAdd, Int32.reduceSub, Int32.reduceMul, Int32.reduceLT, Int32.reduceLE, jx_eqll, jx_ltll, Nat.reduceMul, Nat.reduceSub, forall_const, implies_true, false_implies, not_true_eq_false, true_implies, jx_tko, jx_ofn, jx_tka, jx_pro, jx_pra, and_self, Nat.not_lt_zero]
  by_cases h : z < x <;> simp [h]
set_option maxHeartbeats 4000000 in
set_option maxRecDepth 100000 in
theorem jd_max {G : jx_G} {n ms : Nat} {K : Nat → Nat × Nat} {I : Nat → Nat → Int32} {P : Nat → Nat → Option Nat} {x z : Int32} : jx_C G yJ9_max_7cf53 cJ9_max_7cf53 2 (some FieldType.int) 0 [.inl x, .inl z] (n, ms, K, I, P) (jx_E (some (.inl (if x < z then z else x))) (n, ms, K, I, P)) := by
  refine jx_C_ofF jd_pmax (Nat.le_of_ble_eq_true rfl) ?_
  simp only [List.map_cons, List.map_nil, List.length_cons, List.length_nil, Nat.reduceAdd, Nat.reduceSub, List.replicate_zero, List.append_nil, List.replicate_succ, List.cons_append, List.nil_append]
  refine jx_gq flok_J9 (fwok_J9 rfl) 99999 10 _ _ _ _ ?_
  simp (disch := omega) only [↓reduceIte, jx_wp, jx_stp, jx_f0, jx_f1, jx_f2, jx_f3, List.getElem?_cons_zero, List.getElem?_cons_succ, List.set_cons_zero, List.set_cons_succ, Nat.reduceAdd, true_and, and_true, if_true, if_false, Bool.false_eq_true, jx_s, Nat.reduceLT, dJ9_max_7cf53_0, dJ9_max_7cf53_1, dJ9_max_7cf53_2, dJ9_max_7cf53_5, dJ9_max_7cf53_6, dJ9_max_7cf53_9, dJ9_max_7cf53_10, tg_2_7, tg_6_4, jx_wq, jx_stq, jx_ite, jx_b0, jx_bn0, jx_u_eq, jx_u_na, jx_u_ni, jx_nb0, jx_nb1, jx_ni, jx_E, eq_self, jx_a0, jx_a1, ne_eq, not_false_eq_true, Nat.reduceLeDiff, Nat.reduceEqDiff, Nat.reduceLT, jx_subl, jx_al, jx_la, jx_nm, jx_ml, nI_add, jx_xn, jx_xl, jx_inn, jx_inl, jx_ltnn, jx_lenn, jx_eqnn, jx_ltnl, jx_lenl, jx_ltln, jx_leln, jx_eqnl, Int32.reduceAdd, Int32.reduceSub, Int32.reduceMul, Int32.reduceLT, Int32.reduceLE, jx_eqll, jx_ltll, Nat.reduceMul, Nat.reduceSub, forall_const, implies_true, false_implies, not_true_eq_false, true_implies, jx_tko, jx_ofn, jx_tka, jx_pro, jx_pra, and_self, Nat.not_lt_zero]
  by_cases h : x < z <;> simp [h]
set_option maxHeartbeats 4000000 in
set_option maxRecDepth 100000 in
theorem jd_ci3 {G : jx_G} {n ms : Nat} {K : Nat → Nat × Nat} {I : Nat → Nat → Int32} {P : Nat → Nat → Option Nat} {i x : Nat} (hi : i < x) (hx : x < 2147483648) : jx_C G yJ3_checkIndex_8e157 cJ3_checkIndex_8e157 3 (some FieldType.int) 0 [.inl (nI i), .inl (nI x), .inr none] (n, ms, K, I, P) (jx_E (some (.inl (nI i))) (n, ms, K, I, P)) := by
  refine jx_C_of (by decide) (Nat.le_of_ble_eq_true rfl) ?_
  simp only [List.map_cons, List.map_nil, List.length_cons, List.length_nil, Nat.reduceAdd, Nat.reduceSub, List.replicate_zero, List.append_nil, List.replicate_succ, List.cons_append, List.nil_append]
  have h0 : ¬ nI i < 0 := by simp (disch := omega) only [jx_ltnl, Nat.not_lt_zero, not_false_eq_true]
  refine jx_gq flok_J3 (fwok_J3 rfl) 99999 12 _ _ _ _ ?_
  simp (disch := omega) only [↓reduceIte, jx_wp, jx_stp, jx_f0, jx_f1, jx_f2, jx_f3, List.getElem?_cons_zero, List.getElem?_cons_succ, List.set_cons_zero, List.set_cons_succ, Nat.reduceAdd, true_and, and_true, if_true, if_false, Bool.false_eq_true, jx_s, Nat.reduceLT, dJ3_checkIndex_8e157_0, dJ3_checkIndex_8e157_1, dJ3_checkIndex_8e157_4, dJ3_checkIndex_8e157_5, dJ3_checkIndex_8e157_6, dJ3_checkIndex_8e157_9, dJ3_checkIndex_8e157_10, dJ3_checkIndex_8e157_11, dJ3_checkIndex_8e157_12, dJ3_checkIndex_8e157_15, dJ3_checkIndex_8e157_16, dJ3_checkIndex_8e157_17, tg_1_8, tg_6_10, jx_wq, jx_stq, jx_ite, jx_b0, jx_bn0, jx_u_eq, jx_u_na, jx_u_ni, jx_nb0, jx_nb1, jx_ni, jx_E, eq_self, jx_a0, jx_a1, ne_eq, not_false_eq_true, Nat.reduceLeDiff, Nat.reduceEqDiff, Nat.reduceLT, jx_subl, jx_al, jx_la, jx_nm, jx_ml, nI_add, jx_xn, jx_xl, jx_inn, jx_inl, jx_ltnn, jx_lenn, jx_eqnn, jx_ltnl, jx_lenl, jx_ltln, jx_leln, jx_eqnl, Int32.reduceAdd, Int32.reduceSub, Int32.reduceMul, Int32.reduceLT, Int32.reduceLE, jx_eqll, jx_ltll, Nat.reduceMul, Nat.reduceSub, forall_const, implies_true, false_implies, not_true_eq_false, true_implies, jx_tko, jx_ofn, jx_tka, jx_pro, jx_pra, and_self, Nat.not_lt_zero, h0, hi]
set_option maxHeartbeats 4000000 in
set_option maxRecDepth 100000 in
theorem jd_ci {G : jx_G} {n ms : Nat} {K : Nat → Nat × Nat} {I : Nat → Nat → Int32} {P : Nat → Nat → Option Nat} {i x : Nat} (hi : i < x) (hx : x < 2147483648) : jx_C G yJ15_checkIndex_7cf53 cJ15_checkIndex_7cf53 2 (some FieldType.int) 1 [.inl (nI i), .inl (nI x)] (n, ms, K, I, P) (jx_E (some (.inl (nI i))) (n, ms, K, I, P)) := by
  refine jx_C_of (by decide) (Nat.le_of_ble_eq_true rfl) ?_
  simp only [List.map_cons, List.map_nil, List.length_cons, List.length_nil, Nat.reduceAdd, Nat.reduceSub, List.replicate_zero, List.append_nil, List.replicate_succ, List.cons_append, List.nil_append]
  refine jx_gq flok_J15 (fwok_J15 rfl) 99999 3 _ _ _ _ ?_
  simp (disch := omega) only [↓reduceIte, jx_wp, jx_stp, jx_f0, jx_f1, jx_f2, jx_f3, List.getElem?_cons_zero, List.getElem?_cons_succ, List.set_cons_zero, List.set_cons_succ, Nat.reduceAdd, true_and, and_true, if_true, if_false, Bool.false_eq_true, jx_s, Nat.reduceLT, dJ15_checkIndex_7cf53_0, dJ15_checkIndex_7cf53_1, dJ15_checkIndex_7cf53_2, dJ15_checkIndex_7cf53_3, dJ15_checkIndex_7cf53_6, jx_wq, jx_stq, jx_ite, jx_b0, jx_bn0, jx_u_eq, jx_u_na, jx_u_ni, jx_nb0, jx_nb1, jx_ni, jx_E, eq_self, jx_a0, jx_a1, ne_eq, not_false_eq_true, Nat.reduceLeDiff, Nat.reduceEqDiff, Nat.reduceLT, jx_subl, jx_al, jx_la, jx_nm, jx_ml, nI_add, jx_xn, jx_xl, jx_inn, jx_inl, jx_ltnn, jx_lenn, jx_eqnn, jx_ltnl, jx_lenl, jx_ltln, jx_leln, jx_eqnl, Int32.reduceAdd, Int32.reduceSub, Int32.reduceMul, Int32.reduceLT, Int32.reduceLE, jx_eqll, jx_ltll, Nat.reduceMul, Nat.reduceSub, forall_const, implies_true, false_implies, not_true_eq_false, true_implies, jx_tko, jx_ofn, jx_tka, jx_pro, jx_pra, and_self, Nat.not_lt_zero]
  refine jx_cS3 dJ15_checkIndex_7cf53_3 li_J15_105 (jd_ci3 hi hx) (Nat.le_of_ble_eq_true rfl) (Nat.le_of_ble_eq_true rfl) ?_
  rintro _ _ ⟨rfl, rfl⟩ - -
  simp only [Option.toList_some, Option.toList_none, List.cons_append, List.nil_append]
  refine jx_gq flok_J15 (fwok_J15 rfl) 99999 3 _ _ _ _ ?_
  simp (disch := omega) only [↓reduceIte, jx_wp, jx_stp, jx_f0, jx_f1, jx_f2, jx_f3, List.getElem?_cons_zero, List.getElem?_cons_succ, List.set_cons_zero, List.set_cons_succ, Nat.reduceAdd, true_and, and_true, if_true, if_false, Bool.false_eq_true, jx_s, Nat.reduceLT, dJ15_checkIndex_7cf53_0, dJ15_checkIndex_7cf53_1, dJ15_checkIndex_7cf53_2, dJ15_checkIndex_7cf53_3, dJ15_checkIndex_7cf53_6, jx_wq, jx_stq, jx_ite, jx_b0, jx_bn0, jx_u_eq, jx_u_na, jx_u_ni, jx_nb0, jx_nb1, jx_ni, jx_E, eq_self, jx_a0, jx_a1, ne_eq, not_false_eq_true, Nat.reduceLeDiff, Nat.reduceEqDiff, Nat.reduceLT, jx_subl, jx_al, jx_la, jx_nm, jx_ml, nI_add, jx_xn, jx_xl, jx_inn, jx_inl, jx_ltnn, jx_lenn, jx_eqnn, jx_ltnl, jx_lenl, jx_ltln, jx_leln, jx_eqnl, Int32.reduceAdd, Int32.reduceSub, Int32.reduceMul, Int32.reduceLT, Int32.reduceLE, jx_eqll, jx_ltll, Nat.reduceMul, Nat.reduceSub, forall_const, implies_true, false_implies, not_true_eq_false, true_implies, jx_tko, jx_ofn, jx_tka, jx_pro, jx_pra, and_self, Nat.not_lt_zero]
set_option maxHeartbeats 4000000 in
set_option maxRecDepth 100000 in
theorem jd_size {G : jx_G} {n ms : Nat} {K : Nat → Nat × Nat} {I : Nat → Nat → Int32} {P : Nat → Nat → Option Nat} {a : Nat} (hk : K a = (0, 3)) : jx_C G yJx4a65c_size_8abf5 cJx4a65c_size_8abf5 1 (some FieldType.int) 0 [.inr (some a)] (n, ms, K, I, P) (jx_E (some (.inl (I a 2))) (n, ms, K, I, P)) := by
  refine jx_C_of (by decide) (Nat.le_of_ble_eq_true rfl) ?_
  simp only [List.map_cons, List.map_nil, List.length_cons, List.length_nil, Nat.reduceAdd, Nat.reduceSub, List.replicate_zero, List.append_nil, List.replicate_succ, List.cons_append, List.nil_append]
  refine jx_gq flok_Jx4a65c (fwok_Jx4a65c rfl) 99999 5 _ _ _ _ ?_
  simp (disch := omega) only [↓reduceIte, jx_wp, jx_stp, jx_f0, jx_f1, jx_f2, jx_f3, List.getElem?_cons_zero, List.getElem?_cons_succ, List.set_cons_zero, List.set_cons_succ, Nat.reduceAdd, true_and, and_true, if_true, if_false, Bool.false_eq_true, jx_s, Nat.reduceLT, dJx4a65c_size_8abf5_0, dJx4a65c_size_8abf5_1, dJx4a65c_size_8abf5_4, fl_Jx4a65c_48, ft_0_2, jx_wq, jx_stq, jx_ite, jx_b0, jx_bn0, jx_u_eq, jx_u_na, jx_u_ni, jx_nb0, jx_nb1, jx_ni, jx_E, eq_self, jx_a0, jx_a1, ne_eq, not_false_eq_true, Nat.reduceLeDiff, Nat.reduceEqDiff, Nat.reduceLT, jx_subl, jx_al, jx_la, jx_nm, jx_ml, nI_add, jx_xn, jx_xl, jx_inn, jx_inl, jx_ltnn, jx_lenn, jx_eqnn, jx_ltnl, jx_lenl, jx_ltln, jx_leln, jx_eqnl, Int32.reduceAdd, Int32.reduceSub, Int32.reduceMul, Int32.reduceLT, Int32.reduceLE, jx_eqll, jx_ltll, Nat.reduceMul, Nat.reduceSub, forall_const, implies_true, false_implies, not_true_eq_false, true_implies, jx_tko, jx_ofn, jx_tka, jx_pro, jx_pra, and_self, Nat.not_lt_zero, hk]
set_option maxHeartbeats 4000000 in
set_option maxRecDepth 100000 in
theorem jd_empty {G : jx_G} {n ms : Nat} {K : Nat → Nat × Nat} {I : Nat → Nat → Int32} {P : Nat → Nat → Option Nat} {a : Nat} (hk : K a = (0, 3)) : jx_C G yJx4a65c_isEmpty_aae02 cJx4a65c_isEmpty_aae02 1 (some FieldType.boolean) 0 [.inr (some a)] (n, ms, K, I, P) (jx_E (some (.inl (jx_b (I a 2 = 0)))) (n, ms, K, I, P)) := by
  refine jx_C_of (by decide) (Nat.le_of_ble_eq_true rfl) ?_
  simp only [List.map_cons, List.map_nil, List.length_cons, List.length_nil, Nat.reduceAdd, Nat.reduceSub, List.replicate_zero, List.append_nil, List.replicate_succ, List.cons_append, List.nil_append]
  refine jx_gq flok_Jx4a65c (fwok_Jx4a65c rfl) 99999 9 _ _ _ _ ?_
  simp (disch := omega) only [↓reduceIte, jx_wp, jx_stp, jx_f0, jx_f1, jx_f2, jx_f3, List.getElem?_cons_zero, List.getElem?_cons_succ, List.set_cons_zero, List.set_cons_succ, Nat.reduceAdd, true_and, and_true, if_true, if_false, Bool.false_eq_true, jx_s, Nat.reduceLT, dJx4a65c_isEmpty_aae02_0, dJx4a65c_isEmpty_aae02_1, dJx4a65c_isEmpty_aae02_4, dJx4a65c_isEmpty_aae02_7, dJx4a65c_isEmpty_aae02_8, dJx4a65c_isEmpty_aae02_11, dJx4a65c_isEmpty_aae02_12, fl_Jx4a65c_48, ft_0_2, tg_4_7, jx_k1, tg_8_4, jx_k0, jx_wq, jx_stq, jx_ite, jx_b0, jx_bn0, jx_u_eq, jx_u_na, jx_u_ni, jx_nb0, jx_nb1, jx_ni, jx_E, eq_self, jx_a0, jx_a1, ne_eq, not_false_eq_true, Nat.reduceLeDiff, Nat.reduceEqDiff, Nat.reduceLT, jx_subl, jx_al, jx_la, jx_nm, jx_ml, nI_add, jx_xn, jx_xl, jx_inn, jx_inl, jx_ltnn, jx_lenn, jx_eqnn, jx_ltnl, jx_lenl, jx_ltln, jx_leln, jx_eqnl, Int32.reduceAdd, Int32.reduceSub, Int32.reduceMul, Int32.reduceLT, Int32.reduceLE, jx_eqll, jx_ltll, Nat.reduceMul, Nat.reduceSub, forall_const, implies_true, false_implies, not_true_eq_false, true_implies, jx_tko, jx_ofn, jx_tka, jx_pro, jx_pra, and_self, Nat.not_lt_zero, hk, jx_b]
  by_cases h : I a 2 = 0 <;> simp [h]
set_option maxHeartbeats 4000000 in
set_option maxRecDepth 100000 in
theorem jd_elt {G : jx_G} {n ms : Nat} {K : Nat → Nat × Nat} {I : Nat → Nat → Int32} {P : Nat → Nat → Option Nat} {a e c x : Nat} (hk : K a = (0, 3)) (hp : P a 1 = some e) (he : K e = (16, c)) (hx : I a 2 = nI x) (hxc : x ≤ c) (hc : c < 1000000) {i : Nat} (hi : i < x) : jx_C G yJx4a65c_elementData_915e3 cJx4a65c_elementData_915e3 2 (some (FieldType.object "java/lang/Object")) 0 [.inr (some a), .inl (nI i)] (n, ms, K, I, P) (jx_E (some (.inr (P e i))) (n, ms, K, I, P)) := by
  refine jx_C_of (by decide) (Nat.le_of_ble_eq_true rfl) ?_
  simp only [List.map_cons, List.map_nil, List.length_cons, List.length_nil, Nat.reduceAdd, Nat.reduceSub, List.replicate_zero, List.append_nil, List.replicate_succ, List.cons_append, List.nil_append]
  refine jx_gq flok_Jx4a65c (fwok_Jx4a65c rfl) 99999 9 _ _ _ _ ?_
  simp (disch := omega) only [↓reduceIte, jx_wp, jx_stp, jx_f0, jx_f1, jx_f2, jx_f3, List.getElem?_cons_zero, List.getElem?_cons_succ, List.set_cons_zero, List.set_cons_succ, Nat.reduceAdd, true_and, and_true, if_true, if_false, Bool.false_eq_true, jx_s, Nat.reduceLT, dJx4a65c_elementData_915e3_0, dJx4a65c_elementData_915e3_1, dJx4a65c_elementData_915e3_4, dJx4a65c_elementData_915e3_5, dJx4a65c_elementData_915e3_6, fl_Jx4a65c_9, ft_0_1, jx_wq, jx_stq, jx_ite, jx_b0, jx_bn0, jx_u_eq, jx_u_na, jx_u_ni, jx_nb0, jx_nb1, jx_ni, jx_E, eq_self, jx_a0, jx_a1, ne_eq, not_false_eq_true, Nat.reduceLeDiff, Nat.reduceEqDiff, Nat.reduceLT, jx_subl, jx_al, jx_la, jx_nm, jx_ml, nI_add, jx_xn, jx_xl, jx_inn, jx_inl, jx_ltnn, jx_lenn, jx_eqnn, jx_ltnl, jx_lenl, jx_ltln, jx_leln, jx_eqnl, Int32.reduceAdd, Int32.reduceSub, Int32.reduceMul, Int32.reduceLT, Int32.reduceLE, jx_eqll, jx_ltll, Nat.reduceMul, Nat.reduceSub, forall_const, implies_true, false_implies, not_true_eq_false, true_implies, jx_tko, jx_ofn, jx_tka, jx_pro, jx_pra, and_self, Nat.not_lt_zero, hk, hp, he]
set_option maxHeartbeats 4000000 in
set_option maxRecDepth 100000 in
theorem jd_get {G : jx_G} {n ms : Nat} {K : Nat → Nat × Nat} {I : Nat → Nat → Int32} {P : Nat → Nat → Option Nat} {a e c x : Nat} (hk : K a = (0, 3)) (hp : P a 1 = some e) (he : K e = (16, c)) (hx : I a 2 = nI x) (hxc : x ≤ c) (hc : c < 1000000) {i : Nat} (hi : i < x) : jx_C G yJx4a65c_get_915e3 cJx4a65c_get_915e3 2 (some (FieldType.object "java/lang/Object")) 2 [.inr (some a), .inl (nI i)] (n, ms, K, I, P) (jx_E (some (.inr (P e i))) (n, ms, K, I, P)) := by
  refine jx_C_of (by decide) (Nat.le_of_ble_eq_true rfl) ?_
  simp only [List.map_cons, List.map_nil, List.length_cons, List.length_nil, Nat.reduceAdd, Nat.reduceSub, List.replicate_zero, List.append_nil, List.replicate_succ, List.cons_append, List.nil_append]
  refine jx_gq flok_Jx4a65c (fwok_Jx4a65c rfl) 99999 9 _ _ _ _ ?_
  simp (disch := omega) only [↓reduceIte, jx_wp, jx_stp, jx_f0, jx_f1, jx_f2, jx_f3, List.getElem?_cons_zero, List.getElem?_cons_succ, List.set_cons_zero, List.set_cons_succ, Nat.reduceAdd, true_and, and_true, if_true, if_false, Bool.false_eq_true, jx_s, Nat.reduceLT, dJx4a65c_get_915e3_0, dJx4a65c_get_915e3_1, dJx4a65c_get_915e3_2, dJx4a65c_get_915e3_5, dJx4a65c_get_915e3_8, dJx4a65c_get_915e3_9, dJx4a65c_get_915e3_10, dJx4a65c_get_915e3_11, dJx4a65c_get_915e3_14, fl_Jx4a65c_48, ft_0_2, jx_wq, jx_stq, jx_ite, jx_b0, jx_bn0, jx_u_eq, jx_u_na, jx_u_ni, jx_nb0, jx_nb1, jx_ni, jx_E, eq_self, jx_a0, jx_a1, ne_eq, not_false_eq_true, Nat.reduceLeDiff, Nat.reduceEqDiff, Nat.reduceLT, jx_subl, jx_al, jx_la, jx_nm, jx_ml, nI_add, jx_xn, jx_xl, jx_inn, jx_inl, jx_ltnn, jx_lenn, jx_eqnn, jx_ltnl, jx_lenl, jx_ltln, jx_leln, jx_eqnl, Int32.reduceAdd, Int32.reduceSub, Int32.reduceMul, Int32.reduceLT, Int32.reduceLE, jx_eqll, jx_ltll, Nat.reduceMul, Nat.reduceSub, forall_const, implies_true, false_implies, not_true_eq_false, true_implies, jx_tko, jx_ofn, jx_tka, jx_pro, jx_pra, and_self, Nat.not_lt_zero, hk, hp, he, hx]
  refine jx_cS2 dJx4a65c_get_915e3_5 li_Jx4a65c_118 (jd_ci hi (by omega)) (Nat.le_of_ble_eq_true rfl) (Nat.le_of_ble_eq_true rfl) ?_
  rintro _ _ ⟨rfl, rfl⟩ - -
  simp only [Option.toList_some, Option.toList_none, List.cons_append, List.nil_append]
  refine jx_gq flok_Jx4a65c (fwok_Jx4a65c rfl) 99999 9 _ _ _ _ ?_
  simp (disch := omega) only [↓reduceIte, jx_wp, jx_stp, jx_f0, jx_f1, jx_f2, jx_f3, List.getElem?_cons_zero, List.getElem?_cons_succ, List.set_cons_zero, List.set_cons_succ, Nat.reduceAdd, true_and, and_true, if_true, if_false, Bool.false_eq_true, jx_s, Nat.reduceLT, dJx4a65c_get_915e3_0, dJx4a65c_get_915e3_1, dJx4a65c_get_915e3_2, dJx4a65c_get_915e3_5, dJx4a65c_get_915e3_8, dJx4a65c_get_915e3_9, dJx4a65c_get_915e3_10, dJx4a65c_get_915e3_11, dJx4a65c_get_915e3_14, fl_Jx4a65c_48, ft_0_2, jx_wq, jx_stq, jx_ite, jx_b0, jx_bn0, jx_u_eq, jx_u_na, jx_u_ni, jx_nb0, jx_nb1, jx_ni, jx_E, eq_self, jx_a0, jx_a1, ne_eq, not_false_eq_true, Nat.reduceLeDiff, Nat.reduceEqDiff, Nat.reduceLT, jx_subl, jx_al, jx_la, jx_nm, jx_ml, nI_add, jx_xn, jx_xl, jx_inn, jx_inl, jx_ltnn, jx_lenn, jx_eqnn, jx_ltnl, jx_lenl, jx_ltln, jx_leln, jx_eqnl, Int32.reduceAdd, Int32.reduceSub, Int32.reduceMul, Int32.reduceLT, Int32.reduceLE, jx_eqll, jx_ltll, Nat.reduceMul, Nat.reduceSub, forall_const, implies_true, false_implies, not_true_eq_false, true_implies, jx_tko, jx_ofn, jx_tka, jx_pro, jx_pra, and_self, Nat.not_lt_zero, hk, hp, he, hx]
  refine jx_cV1 dJx4a65c_get_915e3_11 li_Jx4a65c_123 (jd_elt hk hp he hx hxc hc hi) (congrArg Prod.fst hk) (Nat.le_of_ble_eq_true rfl) (Nat.le_of_ble_eq_true rfl) ?_
  rintro _ _ ⟨rfl, rfl⟩ - -
  simp only [Option.toList_some, Option.toList_none, List.cons_append, List.nil_append]
  refine jx_gq flok_Jx4a65c (fwok_Jx4a65c rfl) 99999 3 _ _ _ _ ?_
  simp (disch := omega) only [↓reduceIte, jx_wp, jx_stp, jx_f0, jx_f1, jx_f2, jx_f3, List.getElem?_cons_zero, List.getElem?_cons_succ, List.set_cons_zero, List.set_cons_succ, Nat.reduceAdd, true_and, and_true, if_true, if_false, Bool.false_eq_true, jx_s, Nat.reduceLT, dJx4a65c_get_915e3_0, dJx4a65c_get_915e3_1, dJx4a65c_get_915e3_2, dJx4a65c_get_915e3_5, dJx4a65c_get_915e3_8, dJx4a65c_get_915e3_9, dJx4a65c_get_915e3_10, dJx4a65c_get_915e3_11, dJx4a65c_get_915e3_14, fl_Jx4a65c_48, ft_0_2, jx_wq, jx_stq, jx_ite, jx_b0, jx_bn0, jx_u_eq, jx_u_na, jx_u_ni, jx_nb0, jx_nb1, jx_ni, jx_E, eq_self, jx_a0, jx_a1, ne_eq, not_false_eq_true, Nat.reduceLeDiff, Nat.reduceEqDiff, Nat.reduceLT, jx_subl, jx_al, jx_la, jx_nm, jx_ml, nI_add, jx_xn, jx_xl, jx_inn, jx_inl, jx_ltnn, jx_lenn, jx_eqnn, jx_ltnl, jx_lenl, jx_ltln, jx_leln, jx_eqnl, Int32.reduceAdd, Int32.reduceSub, Int32.reduceMul, Int32.reduceLT, Int32.reduceLE, jx_eqll, jx_ltll, Nat.reduceMul, Nat.reduceSub, forall_const, implies_true, false_implies, not_true_eq_false, true_implies, jx_tko, jx_ofn, jx_tka, jx_pro, jx_pra, and_self, Nat.not_lt_zero]
