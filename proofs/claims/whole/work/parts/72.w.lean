/-- a set among q servers, or none -/
def bs (v : Int32) (q : Nat) : Prop := ∃ u, u < 2 ^ q ∧ v = nI u
def mp (v : Int32) (q : Nat) : Prop := v = -1 ∨ bs v q
def mo_W (J : Nat → Nat → Int32) (c o : Nat) : Int32 := if J 119 o = 0 ∨ J 119 o = 1 then mo_al J c else if J 119 o = 3 ∧ J 132 c = 2 then J 135 c else if J 99 (6 * (7 + c) + jx_x (J 134 c)) ≤ 0 then 0 else J 99 (6 * (7 + c) + jx_x (J 134 c))
theorem mo_W_2 {J : Nat → Nat → Int32} {c o : Nat} (hs : J 119 o = 2) : mo_W J c o = if J 99 (6 * (7 + c) + jx_x (J 134 c)) ≤ 0 then 0 else J 99 (6 * (7 + c) + jx_x (J 134 c)) := by
  unfold mo_W
  rw [if_neg (by rw [hs]; decide), if_neg (fun w => absurd (hs.symm.trans w.1) (by decide))]
theorem mo_W_31 {J : Nat → Nat → Int32} {c o : Nat} (hs : J 119 o = 3) (hp : J 132 c = 1) : mo_W J c o = if J 99 (6 * (7 + c) + jx_x (J 134 c)) ≤ 0 then 0 else J 99 (6 * (7 + c) + jx_x (J 134 c)) := by
  unfold mo_W
  rw [if_neg (by rw [hs]; decide), if_neg (fun w => absurd (hp.symm.trans w.2) (by decide))]
theorem mo_W_32 {J : Nat → Nat → Int32} {c o : Nat} (hs : J 119 o = 3) (hp : J 132 c = 2) : mo_W J c o = J 135 c := by
  unfold mo_W
  rw [if_neg (by rw [hs]; decide), if_pos ⟨hs, hp⟩]
theorem mo_W_0 {J : Nat → Nat → Int32} {c o : Nat} (hs : J 119 o = 0 ∨ J 119 o = 1) : mo_W J c o = mo_al J c := by
  unfold mo_W
  rw [if_pos hs]
/-- what holds of a client at its operation -/
def ck_h (J : Nat → Nat → Int32) (B c o q : Nat) : Prop := c < 4 ∧ o < B ∧ J 128 c = nI o ∧ J 98 1 = nI q ∧ q ≤ 7 ∧ (J 119 o = 0 ∨ J 119 o = 1 ∨ J 119 o = 2 ∨ J 119 o = 3) ∧ (J 132 c = 1 ∨ J 132 c = 2) ∧ (J 119 o = 3 → J 121 o = J 134 c) ∧ (∀ k, k < 6 → mp (J 99 (6 * (7 + c) + k)) q) ∧ (J 119 o = 2 ∨ J 119 o = 3 → ∃ j, j < 5 ∧ J 134 c = nI j ∧ J 99 (6 * (7 + c) + j) ≠ 0) ∧ (J 119 o = 3 → bs (J 135 c) q) ∧ (J 119 o = 2 → bs (J 121 o) q ∧ bs (J 137 (3 * c)) q ∧ 0 ≤ J 136 (3 * c)) ∧ bs (J 131 c) 7
theorem ck_am {J : Nat → Nat → Int32} {B c o q : Nat} (h : ck_h J B c o q) (d : Nat) : am_h J B c o q d := ⟨h.1, h.2.1, h.2.2.1, h.2.2.2.1, h.2.2.2.2.1, h.2.2.2.2.2.1, h.2.2.2.2.2.2.1, h.2.2.2.2.2.2.2.1⟩
theorem bs_le {v : Int32} {q : Nat} (hq : q ≤ 7) (h : bs v q) (h0 : v ≤ 0) : v = 0 := by
  obtain ⟨u, h1, rfl⟩ := h
  have h2 : 2 ^ q ≤ 2 ^ 7 := Nat.pow_le_pow_right (by decide) hq
  have h3 : nI u ≤ nI 0 := h0
  rw [jx_lenn (by omega) (by omega)] at h3
  have h4 : u = 0 := by omega
  rw [h4]
  rfl
theorem bs_or {a b : Int32} {q : Nat} (h : bs a q) (g : bs b q) : bs (a ||| b) q := by
  obtain ⟨u, h1, rfl⟩ := h
  obtain ⟨v, h2, rfl⟩ := g
  refine ⟨u ||| v, Nat.or_lt_two_pow h1 h2, ?_⟩
  apply Int32.toBitVec_inj.1
  show BitVec.ofNat 32 u ||| BitVec.ofNat 32 v = BitVec.ofNat 32 (u ||| v)
  apply BitVec.eq_of_toNat_eq
  simp only [BitVec.toNat_or, BitVec.toNat_ofNat]
  rw [Nat.or_mod_two_pow]
theorem bs_0 {q : Nat} : bs 0 q := ⟨0, Nat.pow_pos (by decide), rfl⟩
theorem mp_ne {v : Int32} {q : Nat} (hq : q ≤ 7) (h : mp v q) (h0 : ¬ v ≤ 0) : bs v q := by
  rcases h with h | h
  · exact absurd (by rw [h]; decide) h0
  · exact h
theorem mp_neg {v : Int32} {q : Nat} (hq : q ≤ 7) (h : mp v q) (h0 : v ≤ 0) : v = -1 ∨ v = 0 := by
  rcases h with h | h
  · exact Or.inl h
  · exact Or.inr (bs_le hq h h0)
theorem sm_al_eq {f g : Nat → Int32} : ∀ k, (∀ i, i < k → f i = g i) → sm_al f k = sm_al g k
  | 0, _ => rfl
  | k + 1, h => by
    unfold sm_al
    rw [h k (by omega), sm_al_eq k (fun i hi => h i (by omega))]
theorem sm_al_mo {J : Nat → Nat → Int32} {c : Nat} : sm_al (fun k => J 99 (6 * (7 + c) + k)) 6 = mo_al J c := rfl
theorem sm_al_bs {f : Nat → Int32} {q : Nat} (hq : q ≤ 7) : ∀ k, (∀ i, i < k → mp (f i) q) → bs (sm_al f k) q
  | 0, _ => bs_0
  | k + 1, h => by
    unfold sm_al
    split
    · exact sm_al_bs hq k (fun i hi => h i (by omega))
    · exact bs_or (sm_al_bs hq k (fun i hi => h i (by omega))) (mp_ne hq (h k (by omega)) (by assumption))
theorem sm_fu_eq {f g : Nat → Int32} {z : Nat} : ∀ k, (∀ i, i < k → f i = g i) → sm_fu f z k = sm_fu g z k
  | 0, _ => rfl
  | k + 1, h => by
    unfold sm_fu sm_fk
    rw [h k (by omega), sm_fu_eq k (fun i hi => h i (by omega))]
def mo_FU (J : Nat → Nat → Int32) (c o : Nat) : Bool := if J 119 o = 0 ∨ J 119 o = 1 then mo_fu J c else decide (¬ 2 * jx_pc (jx_x (mo_W J c o) &&& jx_x (J 131 c)) ≤ jx_pc (jx_x (mo_W J c o)))
theorem sm_fu_mo {J : Nat → Nat → Int32} {c : Nat} : (!sm_fu (fun k => J 99 (6 * (7 + c) + k)) (jx_x (J 131 c)) 6) = mo_fu J c := by
  unfold mo_fu sm_fu sm_fu sm_fu sm_fu sm_fu sm_fu sm_fu
  rw [Bool.false_or]
  rfl
/-- the servers to ask -/
theorem rl_W {G : jx_G} {n ms : Nat} {K : Nat → Nat × Nat} {I : Nat → Nat → Int32} {P : Nat → Nat → Option Nat} {J : Nat → Nat → Int32} {B h : Nat} {A : Nat → Nat} {T : Nat → Prop} {X : Nat → Nat → Int32} {c o q : Nat} (hR : rl n ms K I P J B A h T X) (hk : ck_h J B c o q) (hno : J 119 o = 2 ∨ J 119 o = 3 → J 99 (6 * (7 + c) + jx_x (J 134 c)) ≠ -1) : ∃ u, u < 2 ^ q ∧ mo_W J c o = nI u ∧ jx_C G yX1_serversToAsk cX1_serversToAsk 2 (some FieldType.int) 2 [.inr (some (78 + 5 * c)), .inr (some (A o))] (n, ms, K, I, P) (jx_E (some (.inl (nI u))) (n, ms, K, I, P)) := by
  obtain ⟨hc, ho, hd, hq, hq7, hs, hp, hm3, hmp, hnum, h3, h2, hz⟩ := id hk
  obtain ⟨n0, n1, n2, n3, n4, n5, n6⟩ := id hR.1
  have hC := (n0.2.2.2.2.2.2.2.2.2.1 c hc).2
  obtain ⟨hcs, -⟩ := n4 c hc
  obtain ⟨hP4, q0, q1, q2, q3, q4, q5, q6, q7, q8⟩ := cn_r_run (n4 c hc) hd ho n5.1
  have hB60 := n5.1
  obtain ⟨lo1, lo2⟩ := n5.2.2.2.2.2.2 o ho
  obtain ⟨hA1, hA2, hA3, hA4⟩ := n5.2.2.2.2.2.1 o _ (by omega) lo1
  have l1 := lo2.1
  have hpq : 2 ^ q ≤ 2 ^ 7 := Nat.pow_le_pow_right (by decide) hq7

  have old : J 119 o = 2 ∨ J 119 o = 3 → bs (I (78 + 5 * c) 12) q ∧ I (78 + 5 * c) 12 = (if J 99 (6 * (7 + c) + jx_x (J 134 c)) ≤ 0 then 0 else J 99 (6 * (7 + c) + jx_x (J 134 c))) := fun w => by
    obtain ⟨j, j5, hj, hj0⟩ := hnum w
    have hn := hno w
    have hxj : jx_x (J 134 c) = j := by rw [hj]; exact jx_xn (by omega)
    rw [hxj] at hn ⊢
    have e12 := (q8 w j hj j5).resolve_left hn
    have hb := (hmp j (by omega)).resolve_left hn
    rw [e12]
    refine ⟨hb, ?_⟩
    by_cases e : J 99 (6 * (7 + c) + j) ≤ 0
    · exact absurd (bs_le hq7 hb e) hj0
    · rw [if_neg e]
  rcases hs with hs | hs | hs | hs
  · have hal : mo_W J c o = sm_al (I (78 + 5 * c + 2)) 6 := by
      unfold mo_W
      rw [if_pos (Or.inl hs), ← sm_al_mo]
      exact sm_al_eq 6 (fun i hi => (hcs.2.2.2 i hi).symm)
    obtain ⟨u, hu1, hu2⟩ := sm_al_bs (f := I (78 + 5 * c + 2)) hq7 6 (fun i hi => by rw [hcs.2.2.2 i hi]; exact hmp i hi)
    refine ⟨u, hu1, hal.trans hu2, ?_⟩
    rw [← hu2]
    exact cn_ask0 hC hA1 (by rw [l1]; exact Or.inl hs)
  · have hal : mo_W J c o = sm_al (I (78 + 5 * c + 2)) 6 := by
      unfold mo_W
      rw [if_pos (Or.inr hs), ← sm_al_mo]
      exact sm_al_eq 6 (fun i hi => (hcs.2.2.2 i hi).symm)
    obtain ⟨u, hu1, hu2⟩ := sm_al_bs (f := I (78 + 5 * c + 2)) hq7 6 (fun i hi => by rw [hcs.2.2.2 i hi]; exact hmp i hi)
    refine ⟨u, hu1, hal.trans hu2, ?_⟩
    rw [← hu2]
    exact cn_ask0 hC hA1 (by rw [l1]; exact Or.inr hs)
  · obtain ⟨⟨u, hu1, hu2⟩, e12⟩ := old (Or.inl hs)
    refine ⟨u, hu1, ?_, ?_⟩
    · rw [← hu2, e12]
      unfold mo_W
      rw [hs, if_neg (by decide), if_neg (fun w => absurd w.1 (by decide))]
    · rw [← hu2]
      exact cn_ask2 hC hA1 (by rw [l1]; exact hs)
  · rcases hp with hp | hp
    · obtain ⟨⟨u, hu1, hu2⟩, e12⟩ := old (Or.inr hs)
      refine ⟨u, hu1, ?_, ?_⟩
      · rw [← hu2, e12]
        unfold mo_W
        rw [hs, hp, if_neg (by decide), if_neg (fun w => absurd w.2 (by decide))]
      · rw [← hu2]
        exact cn_ask31 hC hA1 (by rw [l1]; exact hs) (by rw [q0]; exact hp)
    · obtain ⟨u, hu1, hu2⟩ := h3 hs
      refine ⟨u, hu1, ?_, ?_⟩
      · rw [← hu2]
        unfold mo_W
        rw [hs, hp, if_neg (by decide), if_pos ⟨rfl, rfl⟩]
      · rw [← hu2, ← (q7 hs).2]
        exact cn_ask32 hC hA1 (by rw [l1]; exact hs) (by rw [q0, hp]; decide)
/-- whether the round is full -/
theorem rl_full {G : jx_G} {n ms : Nat} {K : Nat → Nat × Nat} {I : Nat → Nat → Int32} {P : Nat → Nat → Option Nat} {J : Nat → Nat → Int32} {B h : Nat} {A : Nat → Nat} {T : Nat → Prop} {X : Nat → Nat → Int32} {c o q : Nat} (hR : rl n ms K I P J B A h T X) (hk : ck_h J B c o q) (hno : J 119 o = 2 ∨ J 119 o = 3 → J 99 (6 * (7 + c) + jx_x (J 134 c)) ≠ -1) : jx_C G yX1_roundIsFull cX1_roundIsFull 2 (some FieldType.boolean) 3 [.inr (some (78 + 5 * c)), .inr (some (A o))] (n, ms, K, I, P) (jx_E (some (.inl (jx_b (mo_FU J c o = true)))) (n, ms, K, I, P)) := by
  obtain ⟨u, hu1, hu2, -⟩ := rl_W (G := G) hR hk hno
  obtain ⟨hc, ho, hd, hq, hq7, hs, hp, hm3, hmp, hnum, h3, h2, hz⟩ := id hk
  obtain ⟨n0, n1, n2, n3, n4, n5, n6⟩ := id hR.1
  have hC := (n0.2.2.2.2.2.2.2.2.2.1 c hc).2
  obtain ⟨hcs, -⟩ := n4 c hc
  obtain ⟨hP4, q0, q1, q2, q3, q4, q5, q6, q7, q8⟩ := cn_r_run (n4 c hc) hd ho n5.1
  have hB60 := n5.1
  obtain ⟨lo1, lo2⟩ := n5.2.2.2.2.2.2 o ho
  obtain ⟨hA1, hA2, hA3, hA4⟩ := n5.2.2.2.2.2.1 o _ (by omega) lo1
  have l1 := lo2.1
  have hpq : 2 ^ q ≤ 2 ^ 7 := Nat.pow_le_pow_right (by decide) hq7

  obtain ⟨z, hz1, hz2⟩ := hz
  have hz3 : I (78 + 5 * c) 9 = nI z := q2.trans hz2
  have hz4 : jx_x (J 131 c) = z := by rw [hz2]; exact jx_xn (by omega)
  have hxu : jx_x (mo_W J c o) = u := by rw [hu2]; exact jx_xn (by omega)
  have rw1 : J 119 o = 0 ∨ J 119 o = 1 → jx_C G yX1_roundIsFull cX1_roundIsFull 2 (some FieldType.boolean) 3 [.inr (some (78 + 5 * c)), .inr (some (A o))] (n, ms, K, I, P) (jx_E (some (.inl (jx_b (mo_FU J c o = true)))) (n, ms, K, I, P)) := fun w => by
    have e : jx_b (mo_FU J c o = true) = jx_b (sm_fu (I (78 + 5 * c + 2)) z 6 = false) := by
      unfold mo_FU
      rw [if_pos w, ← sm_fu_mo, hz4, sm_fu_eq (f := fun k => J 99 (6 * (7 + c) + k)) (g := I (78 + 5 * c + 2)) 6 (fun i hi => (hcs.2.2.2 i hi).symm)]
      cases sm_fu (I (78 + 5 * c + 2)) z 6 <;> rfl
    rw [e]
    exact cn_full0 hC hA1 hz3 (fun k h6 hk0 => by
      obtain ⟨v, v1, v2⟩ := mp_ne hq7 (hmp k h6) (by rw [← hcs.2.2.2 k h6]; exact hk0)
      exact ⟨v, by omega, by rw [hcs.2.2.2 k h6]; exact v2⟩) (by rw [l1]; exact w)
  have hF : ¬ (J 119 o = 0 ∨ J 119 o = 1) → jx_b (mo_FU J c o = true) = jx_b (¬ 2 * jx_pc (u &&& z) ≤ jx_pc u) := fun w => by
    unfold mo_FU
    rw [if_neg w, hxu, hz4]
    unfold jx_b
    by_cases e : 2 * jx_pc (u &&& z) ≤ jx_pc u <;> simp [e]
  have old : J 119 o = 2 ∨ J 119 o = 3 → I (78 + 5 * c) 12 = (if J 99 (6 * (7 + c) + jx_x (J 134 c)) ≤ 0 then 0 else J 99 (6 * (7 + c) + jx_x (J 134 c))) := fun w => by
    obtain ⟨j, j5, hj, hj0⟩ := hnum w
    have hn := hno w
    have hxj : jx_x (J 134 c) = j := by rw [hj]; exact jx_xn (by omega)
    rw [hxj] at hn ⊢
    have e12 := (q8 w j hj j5).resolve_left hn
    have hb := (hmp j (by omega)).resolve_left hn
    rw [e12]
    by_cases e : J 99 (6 * (7 + c) + j) ≤ 0
    · exact absurd (bs_le hq7 hb e) hj0
    · rw [if_neg e]
  rcases hs with hs | hs | hs | hs
  · exact rw1 (Or.inl hs)
  · exact rw1 (Or.inr hs)
  · rw [hF (by rw [hs]; decide)]
    refine cn_full2 hC hA1 hz3 (by omega) (by rw [l1]; exact hs) ?_
    rw [old (Or.inl hs), ← mo_W_2 hs, hu2]
  · rw [hF (by rw [hs]; decide)]
    rcases hp with hp | hp
    · refine cn_full31 hC hA1 hz3 (by omega) (by rw [l1]; exact hs) (by rw [q0]; exact hp) ?_
      rw [old (Or.inr hs), ← mo_W_31 hs hp, hu2]
    · refine cn_full32 hC hA1 hz3 (by omega) (by rw [l1]; exact hs) (by rw [q0, hp]; decide) ?_
      rw [(q7 hs).2, ← mo_W_32 hs hp, hu2]
