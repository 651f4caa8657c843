theorem jb_c {J J2 : Nat → Nat → Int32} {B c : Nat} (hJ : ∀ a j, 98 ≤ a → a < 140 → a ≠ 99 → J2 a j = J a j) : (∀ a, 128 ≤ a → a ≤ 135 → J2 a c = J a c) ∧ (∀ r, r < 3 → J2 136 (3 * c + r) = J 136 (3 * c + r) ∧ J2 137 (3 * c + r) = J 137 (3 * c + r)) := ⟨fun a h1 h2 => hJ a c (by omega) (by omega) (by omega), fun r _ => ⟨hJ _ _ (by omega) (by omega) (by omega), hJ _ _ (by omega) (by omega) (by omega)⟩⟩
/-- client c's map takes in that of t -/
theorem rl_join_c {n ms : Nat} {K : Nat → Nat × Nat} {I : Nat → Nat → Int32} {P : Nat → Nat → Option Nat} {J : Nat → Nat → Int32} {B h c o : Nat} {A : Nat → Nat} {T : Nat → Prop} {X : Nat → Nat → Int32} (hR : rl n ms K I P J B A h T X) (hc : c < 4) {J2 : Nat → Nat → Int32} {t : Nat} (ht : T t) (hJo : ∀ a j, 98 ≤ a → a < 140 → ¬ (a = 99 ∧ 42 + 6 * c ≤ j ∧ j < 48 + 6 * c) → J2 a j = J a j) (hJm : ∀ k, k < 6 → J2 99 (6 * (7 + c) + k) = if X (t + 2) k = -1 ∨ J 99 (6 * (7 + c) + k) = 0 then X (t + 2) k else J 99 (6 * (7 + c) + k)) (hnz : ∀ o, o < B → J 128 c = nI o → J 119 o = 2 ∨ J 119 o = 3 → ∀ j, J 134 c = nI j → j < 5 → J 99 (6 * (7 + c) + j) ≠ 0) : rl n ms K (sm_jn I (78 + 5 * c + 2) (t + 2) 6) P J2 B A h T X := by
  obtain ⟨hN, ⟨L, x, S, z, e, c', e2, c2, hB, hT⟩, hX, hag⟩ := id hR
  obtain ⟨t0, t1, t2, -⟩ := hT t ht
  have hJ2 : ∀ a j, 98 ≤ a → a < 140 → a ≠ 99 → J2 a j = J a j := fun a j h1 h2 h3 => hJo a j h1 h2 (by omega)
  refine rl_chg hR (rl_N_c hN hc (fun b j hb => sm_jn_na (by omega)) (fun _ _ _ => rfl) (fun a j h1 h2 h3 => hJo a j h1 h2 (fun q => h3 (Or.inl q))) ?_) (fun b j hb => sm_jn_na (by omega)) (fun _ _ _ => rfl) (fun a j h1 h2 => hJ2 a j (by omega) (by omega) (by omega)) (hJ2 _ _ (by omega) (by omega) (by omega)) (hJ2 _ _ (by omega) (by omega) (by omega))
  have hmap : ∀ k, k < 6 → sm_jn I (78 + 5 * c + 2) (t + 2) 6 (78 + 5 * c + 2) k = J2 99 (6 * (7 + c) + k) := fun k hk => by
    rw [hJm k hk, ← hX t ht (t + 2) k (by omega) (by omega), ← (hN.2.2.2.2.1 c hc).1.2.2.2 k hk]
    unfold sm_jn
    by_cases q : I (t + 2) k = -1 ∨ I (78 + 5 * c + 2) k = 0
    · rw [if_pos ⟨rfl, hk, q⟩, if_pos q]
    · rw [if_neg (fun w => q w.2.2), if_neg q]
  obtain ⟨⟨s0, s1, s2, s3⟩, hr⟩ := hN.2.2.2.2.1 c hc
  have hb : ∀ b j, b ≠ 78 + 5 * c + 2 → sm_jn I (78 + 5 * c + 2) (t + 2) 6 b j = I b j := fun b j q => sm_jn_na q
  refine ⟨⟨by rw [hb _ _ (by omega), s0], by rw [hb _ _ (by omega), hJ2 _ _ (by omega) (by omega) (by omega), s1], by rw [hb _ _ (by omega), hJ2 _ _ (by omega) (by omega) (by omega), s2], hmap⟩, ?_⟩
  rw [hJ2 128 c (by omega) (by omega) (by omega)]
  rcases hr with hr | ⟨o, r1, r2, r3, q0, q1, q2, q3, q4, q5, q6, q7, q8⟩
  · exact Or.inl hr
  · refine Or.inr ⟨o, r1, r2, r3, ?_⟩
    have e99 : ∀ j, j < 5 → J2 99 (6 * (7 + c) + j) = -1 ∨ J2 99 (6 * (7 + c) + j) = J 99 (6 * (7 + c) + j) ∨ J 99 (6 * (7 + c) + j) = 0 := fun j hj => by
      rw [hJm j (by omega)]
      by_cases q : X (t + 2) j = -1 ∨ J 99 (6 * (7 + c) + j) = 0
      · rw [if_pos q]
        rcases q with q | q
        · exact Or.inl q
        · exact Or.inr (Or.inr q)
      · rw [if_neg q]
        exact Or.inr (Or.inl rfl)
    unfold cn_o mo_of at *
    simp (disch := omega) only [hJ2, hb]
    refine ⟨q0, q1, q2, q3, q4, q5, q6, q7, fun w j h1 h2 => ?_⟩
    rcases e99 j h2 with q | q | q
    · exact Or.inl q
    · rw [q]
      exact q8 w j h1 h2
    · exact absurd q (hnz o r1 r2 w j h1 h2)
/-- server s's map takes in that of t -/
theorem rl_join_s {n ms : Nat} {K : Nat → Nat × Nat} {I : Nat → Nat → Int32} {P : Nat → Nat → Option Nat} {J : Nat → Nat → Int32} {B h s : Nat} {A : Nat → Nat} {T : Nat → Prop} {X : Nat → Nat → Int32} (hR : rl n ms K I P J B A h T X)  (hs : s < 7) {J2 : Nat → Nat → Int32} {t : Nat} (ht : T t) (hJo : ∀ a j, 98 ≤ a → a < 140 → ¬ (a = 99 ∧ 6 * s ≤ j ∧ j < 6 * s + 6) → J2 a j = J a j) (hJm : ∀ k, k < 6 → J2 99 (6 * s + k) = if X (t + 2) k = -1 ∨ J 99 (6 * s + k) = 0 then X (t + 2) k else J 99 (6 * s + k)) : rl n ms K (sm_jn I (22 + 8 * s + 2) (t + 2) 6) P J2 B A h T X := by
  obtain ⟨hN, ⟨L, x, S, z, e, c', e2, c2, hB, hT⟩, hX, hag⟩ := id hR
  obtain ⟨a0, a1, a2, a3, a4, a5, a6⟩ := id hN
  obtain ⟨t0, t1, t2, -⟩ := hT t ht
  have hb : ∀ b j, b ≠ 22 + 8 * s + 2 → sm_jn I (22 + 8 * s + 2) (t + 2) 6 b j = I b j := fun b j q => sm_jn_na q
  have hJ2 : ∀ a j, 98 ≤ a → a < 140 → a ≠ 99 → J2 a j = J a j := fun a j h1 h2 h3 => hJo a j h1 h2 (by omega)
  refine rl_chg hR ⟨a0, a1, a2, fun r hr => ?_, fun c hc => ?_, ?_, ?_⟩ (fun b j hb => sm_jn_na (by omega)) (fun _ _ _ => rfl) (fun a j h1 h2 => hJ2 a j (by omega) (by omega) (by omega)) (hJ2 _ _ (by omega) (by omega) (by omega)) (hJ2 _ _ (by omega) (by omega) (by omega))
  · obtain ⟨b0, b1, b2, b3⟩ := a3 r hr
    refine ⟨by rw [hb _ _ (by omega), hJ2 _ _ (by omega) (by omega) (by omega), b0], fun k hk => ?_, fun k hk => ?_, fun k hk => ?_⟩
    · by_cases q : r = s
      · subst q
        rw [hJm k hk, ← hX t ht (t + 2) k (by omega) (by omega), ← b1 k hk]
        unfold sm_jn
        by_cases q : I (t + 2) k = -1 ∨ I (22 + 8 * r + 2) k = 0
        · rw [if_pos ⟨rfl, hk, q⟩, if_pos q]
        · rw [if_neg (fun w => q w.2.2), if_neg q]
      · rw [hb _ _ (by omega), hJo _ _ (by omega) (by omega) (by omega), b1 k hk]
    · rw [hb _ _ (by omega), hb _ _ (by omega), hJ2 _ _ (by omega) (by omega) (by omega), hJ2 _ _ (by omega) (by omega) (by omega)]
      exact b2 k hk
    · rw [hb _ _ (by omega), hb _ _ (by omega), hb _ _ (by omega), hJ2 _ _ (by omega) (by omega) (by omega), hJ2 _ _ (by omega) (by omega) (by omega), hJ2 _ _ (by omega) (by omega) (by omega)]
      exact b3 k hk
  · exact cn_r_to (a4 c hc) (fun b j h1 h2 => hb b j (by omega)) rfl ⟨fun k hk => hJo _ _ (by omega) (by omega) (by omega), hJ2 _ _ (by omega) (by omega) (by omega), (jb_c (B := B) hJ2).1, (jb_c (B := B) hJ2).2, fun o _ => ⟨hJ2 _ _ (by omega) (by omega) (by omega), hJ2 _ _ (by omega) (by omega) (by omega)⟩⟩ (Nat.le_refl _) (fun _ _ => rfl)
  · obtain ⟨b0, b1, b2, b3, b4, b5, b6⟩ := a5
    refine ⟨b0, by rw [hJ2 _ _ (by omega) (by omega) (by omega), b1], by rw [hb _ _ (by omega), b2], by rw [hb _ _ (by omega), hJ2 _ _ (by omega) (by omega) (by omega), b3], by rw [hb _ _ (by omega), hJ2 _ _ (by omega) (by omega) (by omega), b4], fun o a ho hp => ?_, fun o ho => ⟨(b6 o ho).1, ?_⟩⟩
    · obtain ⟨d1, d2, d3, d4⟩ := b5 o a ho hp
      exact ⟨d1, d2, d3, by rw [hb _ _ (by omega), d4]⟩
    · obtain ⟨d1, d2, d3, d4⟩ := b5 o _ (by omega) (b6 o ho).1
      exact op_r_to (b6 o ho).2 (fun j => hb _ j (by omega)) (fun b j h1 h2 => hJ2 b j (by omega) (by omega) (by omega))
  · rw [hb _ _ (by omega), hJ2 _ _ (by omega) (by omega) (by omega), a6]
/-- J's hand holds message t -/
def hd_j (X : Nat → Nat → Int32) (t : Nat) (J : Nat → Nat → Int32) : Prop := X t 3 = J 98 47 ∧ X t 4 = J 98 48 ∧ X t 5 = J 98 49 ∧ X t 6 = J 98 50 ∧ X t 7 = J 98 51 ∧ X (t + 3) 0 = J 98 52 ∧ X (t + 4) 0 = J 98 53 ∧ X (t + 3) 1 = J 98 54 ∧ X (t + 4) 1 = J 98 55 ∧ X (t + 3) 2 = J 98 56 ∧ X (t + 4) 2 = J 98 57 ∧ X t 8 = J 98 58
/-- a client's own change that leaves its map, its index, its stop and its task -/
theorem rl_cl {n ms : Nat} {K : Nat → Nat × Nat} {I : Nat → Nat → Int32} {P : Nat → Nat → Option Nat} {J : Nat → Nat → Int32} {B h c o : Nat} {A : Nat → Nat} {T : Nat → Prop} {X : Nat → Nat → Int32} (hR : rl n ms K I P J B A h T X) (hc : c < 4) (ho : o < B) (hd : J 128 c = nI o) {I2 J2 : Nat → Nat → Int32} (hI : ∀ b j, b < 78 + 5 * c ∨ 78 + 5 * c + 5 ≤ b → I2 b j = I b j) (hJ : ∀ a j, 98 ≤ a → a < 140 → ¬ jc_own c a j → J2 a j = J a j) (hJ1 : ∀ k, k < 6 → J2 99 (6 * (7 + c) + k) = J 99 (6 * (7 + c) + k)) (hJ2 : J2 100 (7 + c) = J 100 (7 + c)) (hJ3 : J2 128 c = J 128 c) (hI1 : I2 (78 + 5 * c) 0 = I (78 + 5 * c) 0) (hI2 : I2 (78 + 5 * c) 5 = I (78 + 5 * c) 5) (hI3 : ∀ k, k < 6 → I2 (78 + 5 * c + 2) k = I (78 + 5 * c + 2) k) (h6 : I2 (78 + 5 * c) 6 = J2 129 c) (hco : cn_o I J c o → cn_o I2 J2 c o) : rl n ms K I2 P J2 B A h T X := by
  have hN := hR.1
  obtain ⟨⟨s0, s1, s2, s3⟩, hr⟩ := hN.2.2.2.2.1 c hc
  obtain ⟨hp, hco1⟩ := cn_r_run (hN.2.2.2.2.1 c hc) hd ho hN.2.2.2.2.2.1.1
  refine rl_chg hR (rl_N_c hN hc hI (fun _ _ _ => rfl) hJ ⟨⟨by rw [hI1, s0], by rw [hI2, hJ2, s1], h6, fun k hk => by rw [hI3 k hk, hJ1 k hk, s3 k hk]⟩, Or.inr ⟨o, ho, by rw [hJ3, hd], hp, hco hco1⟩⟩) (fun b j hb => hI b j (by omega)) (fun _ _ _ => rfl) (fun a j h1 h2 => hJ a j (by omega) (by omega) (by unfold jc_own; omega)) (hJ _ _ (by omega) (by omega) (by unfold jc_own; omega)) (hJ _ _ (by omega) (by omega) (by unfold jc_own; omega))
