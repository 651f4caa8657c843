theorem rl_sec_n {n ms : Nat} {K : Nat → Nat × Nat} {I : Nat → Nat → Int32} {P : Nat → Nat → Option Nat} {J : Nat → Nat → Int32} {B h c o : Nat} {A : Nat → Nat} {T : Nat → Prop} {X : Nat → Nat → Int32} (hR : rl n ms K I P J B A h T X) (hc : c < 4) (ho : o < B) (hd : J 128 c = nI o) (hs : J 119 o = 0 ∨ J 119 o = 3) : rl n ms K (cn_or (I) (78 + 5 * c) 2) P (mo_br (J) c 2) B A h T X := by
  obtain ⟨⟨s0, s1, s2, s3⟩, -⟩ := hR.1.2.2.2.2.1 c hc
  have hJ : ∀ a j, ¬ ((129 ≤ a ∧ a ≤ 132 ∧ j = c)) → mo_br (J) c 2 a j = J a j := fun a j q => by
    unfold mo_br
    rw [jx_u_no (by omega), jx_u_no (by omega), jx_u_no (by omega), jx_u_no (by omega)]
  have hI : ∀ b j, ¬ ((b = 78 + 5 * c ∧ 6 ≤ j ∧ j ≤ 9)) → cn_or (I) (78 + 5 * c) 2 b j = I b j := fun b j q => by
    unfold cn_or
    rw [jx_u_no (by omega), jx_u_no (by omega), jx_u_no (by omega), jx_u_no (by omega)]
  refine rl_cl hR hc ho hd (fun b j hb => hI b j (by omega)) (fun a j h1 h2 h3 => hJ a j (fun q => h3 (by unfold jc_own; omega))) (fun k hk => hJ _ _ (by omega)) (hJ _ _ (by omega)) (hJ _ _ (by omega)) (hI _ _ (by omega)) (hI _ _ (by omega)) (fun k hk => hI _ _ (by omega)) ?_ ?_
  · unfold cn_or mo_br
    simp (disch := omega) only [jx_u_na, jx_u_ni, jx_u_eq]
    rw [s2]
  rintro ⟨q0, q1, q2, q3, q4, q5, q6, q7, q8⟩
  have p2 : mo_br (J) c 2 132 c = 2 := by
    unfold mo_br
    simp (disch := omega) only [jx_u_na, jx_u_ni, jx_u_eq]
  unfold cn_o
  rw [hJ 119 o (by omega), hJ 134 c (by omega), hJ 121 o (by omega), hJ 135 c (by omega), hJ 133 c (by omega), p2]
  have n2 : ¬ J 119 o = 2 := by rcases hs with e | e <;> rw [e] <;> decide
  refine ⟨?_, ?_, ?_, fun r hr => by rw [hI _ _ (by omega), hJ _ _ (by omega), q3 r hr], fun r hr _ => by rw [hI _ _ (by omega), hJ _ _ (by omega), q4 r hr (fun e => absurd e.1 n2)], fun e => absurd e n2, fun e => ?_, fun e => ?_, fun e j h3 h4 => ?_⟩
  · unfold cn_or
    simp (disch := omega) only [jx_u_na, jx_u_ni, jx_u_eq]
  · unfold cn_or mo_br
    simp (disch := omega) only [jx_u_na, jx_u_ni, jx_u_eq]
  · unfold cn_or mo_br
    simp (disch := omega) only [jx_u_na, jx_u_ni, jx_u_eq]
  · rw [hI _ _ (by omega), hI _ _ (by omega), hI _ _ (by omega)]
    exact q6 e
  · rw [hI _ _ (by omega), hI _ _ (by omega)]
    exact q7 e
  · rw [hI _ _ (by omega), hJ _ _ (by omega)]
    exact q8 e j h3 h4
theorem rl_sec_c1 {n ms : Nat} {K : Nat → Nat × Nat} {I : Nat → Nat → Int32} {P : Nat → Nat → Option Nat} {J : Nat → Nat → Int32} {B h c o : Nat} {A : Nat → Nat} {T : Nat → Prop} {X : Nat → Nat → Int32} (hR : rl n ms K I P J B A h T X) (hc : c < 4) (ho : o < B) (hd : J 128 c = nI o) (hs : J 119 o = 2) (hp : J 132 c = 1) (h0 : ¬ J 136 (3 * c) ≤ 0) : rl n ms K (cn_or (I) (78 + 5 * c) 2) P (mo_br (J) c 2) B A h T X := by
  obtain ⟨⟨s0, s1, s2, s3⟩, -⟩ := hR.1.2.2.2.2.1 c hc
  have hJ : ∀ a j, ¬ ((129 ≤ a ∧ a ≤ 132 ∧ j = c)) → mo_br (J) c 2 a j = J a j := fun a j q => by
    unfold mo_br
    rw [jx_u_no (by omega), jx_u_no (by omega), jx_u_no (by omega), jx_u_no (by omega)]
  have hI : ∀ b j, ¬ ((b = 78 + 5 * c ∧ 6 ≤ j ∧ j ≤ 9)) → cn_or (I) (78 + 5 * c) 2 b j = I b j := fun b j q => by
    unfold cn_or
    rw [jx_u_no (by omega), jx_u_no (by omega), jx_u_no (by omega), jx_u_no (by omega)]
  refine rl_cl hR hc ho hd (fun b j hb => hI b j (by omega)) (fun a j h1 h2 h3 => hJ a j (fun q => h3 (by unfold jc_own; omega))) (fun k hk => hJ _ _ (by omega)) (hJ _ _ (by omega)) (hJ _ _ (by omega)) (hI _ _ (by omega)) (hI _ _ (by omega)) (fun k hk => hI _ _ (by omega)) ?_ ?_
  · unfold cn_or mo_br
    simp (disch := omega) only [jx_u_na, jx_u_ni, jx_u_eq]
    rw [s2]
  rintro ⟨q0, q1, q2, q3, q4, q5, q6, q7, q8⟩
  have p2 : mo_br (J) c 2 132 c = 2 := by
    unfold mo_br
    simp (disch := omega) only [jx_u_na, jx_u_ni, jx_u_eq]
  unfold cn_o
  rw [hJ 119 o (by omega), hJ 134 c (by omega), hJ 121 o (by omega), hJ 135 c (by omega), hJ 133 c (by omega), p2]
  have n1 : ¬ J 132 c = 2 := by rw [hp]; decide
  refine ⟨?_, ?_, ?_, fun r hr => by rw [hI _ _ (by omega), hJ _ _ (by omega), q3 r hr], fun r hr _ => by rw [hI _ _ (by omega), hJ _ _ (by omega), q4 r hr (fun e => absurd e.2 n1)], fun _ _ => ?_, fun e => ?_, fun e => ?_, fun e j h3 h4 => ?_⟩
  rotate_left 3
  · unfold mo_of
    rw [hJ 136 _ (by omega), hJ 121 _ (by omega), hJ 137 _ (by omega), if_neg h0, hI _ _ (by omega)]
    exact q4 0 (by omega) (fun e => absurd e.2 n1)
  rotate_left 3
  · unfold cn_or
    simp (disch := omega) only [jx_u_na, jx_u_ni, jx_u_eq]
  · unfold cn_or mo_br
    simp (disch := omega) only [jx_u_na, jx_u_ni, jx_u_eq]
  · unfold cn_or mo_br
    simp (disch := omega) only [jx_u_na, jx_u_ni, jx_u_eq]
  · rw [hI _ _ (by omega), hI _ _ (by omega), hI _ _ (by omega)]
    exact q6 e
  · rw [hI _ _ (by omega), hI _ _ (by omega)]
    exact q7 e
  · rw [hI _ _ (by omega), hJ _ _ (by omega)]
    exact q8 e j h3 h4
theorem rl_sec_c0 {n ms : Nat} {K : Nat → Nat × Nat} {I : Nat → Nat → Int32} {P : Nat → Nat → Option Nat} {J : Nat → Nat → Int32} {B h c o : Nat} {A : Nat → Nat} {T : Nat → Prop} {X : Nat → Nat → Int32} (hR : rl n ms K I P J B A h T X) (hc : c < 4) (ho : o < B) (hd : J 128 c = nI o) (hs : J 119 o = 2) (hp : J 132 c = 1) (h0 : J 136 (3 * c) = 0) : rl n ms K (cn_or (jx_u I (78 + 5 * c + 4) 0 (I (78 + 5 * c) 13)) (78 + 5 * c) 2) P (mo_br (J) c 2) B A h T X := by
  obtain ⟨⟨s0, s1, s2, s3⟩, -⟩ := hR.1.2.2.2.2.1 c hc
  have hJ : ∀ a j, ¬ ((129 ≤ a ∧ a ≤ 132 ∧ j = c)) → mo_br (J) c 2 a j = J a j := fun a j q => by
    unfold mo_br
    rw [jx_u_no (by omega), jx_u_no (by omega), jx_u_no (by omega), jx_u_no (by omega)]
  have hI : ∀ b j, ¬ ((b = 78 + 5 * c ∧ 6 ≤ j ∧ j ≤ 9) ∨ (b = 78 + 5 * c + 4 ∧ j = 0)) → cn_or (jx_u I (78 + 5 * c + 4) 0 (I (78 + 5 * c) 13)) (78 + 5 * c) 2 b j = I b j := fun b j q => by
    unfold cn_or
    rw [jx_u_no (by omega), jx_u_no (by omega), jx_u_no (by omega), jx_u_no (by omega), jx_u_no (by omega)]
  refine rl_cl hR hc ho hd (fun b j hb => hI b j (by omega)) (fun a j h1 h2 h3 => hJ a j (fun q => h3 (by unfold jc_own; omega))) (fun k hk => hJ _ _ (by omega)) (hJ _ _ (by omega)) (hJ _ _ (by omega)) (hI _ _ (by omega)) (hI _ _ (by omega)) (fun k hk => hI _ _ (by omega)) ?_ ?_
  · unfold cn_or mo_br
    simp (disch := omega) only [jx_u_na, jx_u_ni, jx_u_eq]
    rw [s2]
  rintro ⟨q0, q1, q2, q3, q4, q5, q6, q7, q8⟩
  have p2 : mo_br (J) c 2 132 c = 2 := by
    unfold mo_br
    simp (disch := omega) only [jx_u_na, jx_u_ni, jx_u_eq]
  unfold cn_o
  rw [hJ 119 o (by omega), hJ 134 c (by omega), hJ 121 o (by omega), hJ 135 c (by omega), hJ 133 c (by omega), p2]
  have n1 : ¬ J 132 c = 2 := by rw [hp]; decide
  refine ⟨?_, ?_, ?_, fun r hr => by rw [hI _ _ (by omega), hJ _ _ (by omega), q3 r hr], fun r hr e0 => by rw [hI _ _ (by have := e0 ⟨hs, rfl⟩; omega), hJ _ _ (by omega), q4 r hr (fun e => absurd e.2 n1)], fun _ _ => ?_, fun e => ?_, fun e => ?_, fun e j h3 h4 => ?_⟩
  rotate_left 3
  · unfold mo_of
    rw [hJ 136 _ (by omega), hJ 121 _ (by omega), hJ 137 _ (by omega), h0, if_pos (by decide)]
    unfold cn_or
    simp (disch := omega) only [jx_u_na, jx_u_ni, jx_u_eq]
    exact (q6 hs).2.2
  rotate_left 3
  · unfold cn_or
    simp (disch := omega) only [jx_u_na, jx_u_ni, jx_u_eq]
  · unfold cn_or mo_br
    simp (disch := omega) only [jx_u_na, jx_u_ni, jx_u_eq]
  · unfold cn_or mo_br
    simp (disch := omega) only [jx_u_na, jx_u_ni, jx_u_eq]
  · rw [hI _ _ (by omega), hI _ _ (by omega), hI _ _ (by omega)]
    exact q6 e
  · rw [hI _ _ (by omega), hI _ _ (by omega)]
    exact q7 e
  · rw [hI _ _ (by omega), hJ _ _ (by omega)]
    exact q8 e j h3 h4
theorem rl_sec_w {n ms : Nat} {K : Nat → Nat × Nat} {I : Nat → Nat → Int32} {P : Nat → Nat → Option Nat} {J : Nat → Nat → Int32} {B h c o : Nat} {A : Nat → Nat} {T : Nat → Prop} {X : Nat → Nat → Int32} (hR : rl n ms K I P J B A h T X) (hc : c < 4) (ho : o < B) (hd : J 128 c = nI o) (hs : J 119 o = 1) (hp : J 132 c = 1) : rl n ms K (cn_or (jx_u (jx_u I (78 + 5 * c + 3) 0 (4 * (I (78 + 5 * c + 3) 0 / 4 + 1) + I (78 + 5 * c) 0)) (78 + 5 * c + 4) 0 (I (A o) 4)) (78 + 5 * c) 2) P (mo_br (mo_wb J c o) c 2) B A h T X := by
  obtain ⟨⟨s0, s1, s2, s3⟩, -⟩ := hR.1.2.2.2.2.1 c hc
  have hJ : ∀ a j, ¬ ((129 ≤ a ∧ a ≤ 132 ∧ j = c) ∨ ((a = 136 ∨ a = 137) ∧ j = 3 * c)) → mo_br (mo_wb J c o) c 2 a j = J a j := fun a j q => by
    unfold mo_br mo_wb
    rw [jx_u_no (by omega), jx_u_no (by omega), jx_u_no (by omega), jx_u_no (by omega), jx_u_no (by omega), jx_u_no (by omega)]
  have hI : ∀ b j, ¬ ((b = 78 + 5 * c ∧ 6 ≤ j ∧ j ≤ 9) ∨ ((b = 78 + 5 * c + 3 ∨ b = 78 + 5 * c + 4) ∧ j = 0)) → cn_or (jx_u (jx_u I (78 + 5 * c + 3) 0 (4 * (I (78 + 5 * c + 3) 0 / 4 + 1) + I (78 + 5 * c) 0)) (78 + 5 * c + 4) 0 (I (A o) 4)) (78 + 5 * c) 2 b j = I b j := fun b j q => by
    unfold cn_or
    rw [jx_u_no (by omega), jx_u_no (by omega), jx_u_no (by omega), jx_u_no (by omega), jx_u_no (by omega), jx_u_no (by omega)]
  refine rl_cl hR hc ho hd (fun b j hb => hI b j (by omega)) (fun a j h1 h2 h3 => hJ a j (fun q => h3 (by unfold jc_own; omega))) (fun k hk => hJ _ _ (by omega)) (hJ _ _ (by omega)) (hJ _ _ (by omega)) (hI _ _ (by omega)) (hI _ _ (by omega)) (fun k hk => hI _ _ (by omega)) ?_ ?_
  · unfold cn_or mo_br mo_wb
    simp (disch := omega) only [jx_u_na, jx_u_ni, jx_u_eq]
    rw [s2]
  rintro ⟨q0, q1, q2, q3, q4, q5, q6, q7, q8⟩
  have p2 : mo_br (mo_wb J c o) c 2 132 c = 2 := by
    unfold mo_br
    simp (disch := omega) only [jx_u_na, jx_u_ni, jx_u_eq]
  unfold cn_o
  rw [hJ 119 o (by omega), hJ 134 c (by omega), hJ 121 o (by omega), hJ 135 c (by omega), hJ 133 c (by omega), p2]
  have n2 : ¬ J 119 o = 2 := by rw [hs]; decide
  have lo := (hR.1.2.2.2.2.2.1.2.2.2.2.2.2 o ho).2.2.2.2.1
  refine ⟨?_, ?_, ?_, fun r hr => ?_, fun r hr _ => ?_, fun e => absurd e n2, fun e => ?_, fun e => ?_, fun e j h3 h4 => ?_⟩
  rotate_left 3
  · by_cases e : r = 0
    · subst e
      have q := q3 0 (by omega)
      unfold cn_or mo_br mo_wb
      simp (disch := omega) only [jx_u_na, jx_u_ni, jx_u_eq, Nat.add_zero]
      rw [q, s0]
      rfl
    · rw [hI _ _ (by omega), hJ _ _ (by omega), q3 r hr]
  · by_cases e : r = 0
    · subst e
      unfold cn_or mo_br mo_wb
      simp (disch := omega) only [jx_u_na, jx_u_ni, jx_u_eq, Nat.add_zero]
      exact lo
    · rw [hI _ _ (by omega), hJ _ _ (by omega), q4 r hr (fun e => absurd e.1 n2)]
  rotate_left 3
  · unfold cn_or
    simp (disch := omega) only [jx_u_na, jx_u_ni, jx_u_eq]
  · unfold cn_or mo_br
    simp (disch := omega) only [jx_u_na, jx_u_ni, jx_u_eq]
  · unfold cn_or mo_br
    simp (disch := omega) only [jx_u_na, jx_u_ni, jx_u_eq]
  · rw [hI _ _ (by omega), hI _ _ (by omega), hI _ _ (by omega)]
    exact q6 e
  · rw [hI _ _ (by omega), hI _ _ (by omega)]
    exact q7 e
  · rw [hI _ _ (by omega), hJ _ _ (by omega)]
    exact q8 e j h3 h4
/-- client c's map has v for k now -/
theorem rl_map {n ms : Nat} {K : Nat → Nat × Nat} {I : Nat → Nat → Int32} {P : Nat → Nat → Option Nat} {J : Nat → Nat → Int32} {B h c o : Nat} {A : Nat → Nat} {T : Nat → Prop} {X : Nat → Nat → Int32} (hR : rl n ms K I P J B A h T X) (hc : c < 4) (ho : o < B) (hd : J 128 c = nI o) {k : Nat} {v : Int32} (hk : k < 6) (hv : v = -1 ∨ ∀ j, J 134 c = nI j → j < 5 → k ≠ j) : rl n ms K (jx_u I (78 + 5 * c + 2) k v) P (jx_u J 99 (6 * (7 + c) + k) v) B A h T X := by
  have hN := hR.1
  obtain ⟨⟨s0, s1, s2, s3⟩, -⟩ := hN.2.2.2.2.1 c hc
  obtain ⟨hp, q0, q1, q2, q3, q4, q5, q6, q7, q8⟩ := cn_r_run (hN.2.2.2.2.1 c hc) hd ho hN.2.2.2.2.2.1.1
  refine rl_chg hR (rl_N_c hN hc (fun b j hb => jx_u_na (by omega)) (fun _ _ _ => rfl) (fun a j h1 h2 h3 => jx_u_no (fun q => h3 (by unfold jc_own; omega))) ?_) (fun b j hb => jx_u_na (by omega)) (fun _ _ _ => rfl) (fun a j h1 h2 => jx_u_na (by omega)) (jx_u_na (by omega)) (jx_u_na (by omega))
  unfold cn_r cn_s cn_o mo_of
  simp (disch := omega) only [jx_u_na, jx_u_ni, jx_u_eq]
  refine ⟨⟨s0, s1, s2, fun i hi => ?_⟩, Or.inr ⟨o, ho, hd, hp, q0, q1, q2, q3, q4, q5, q6, q7, fun w j h1 h2 => ?_⟩⟩
  · by_cases e : i = k
    · subst e
      rw [jx_u_eq, jx_u_eq]
    · rw [jx_u_ni (by omega), jx_u_ni (by omega), s3 i hi]
  · by_cases e : j = k
    · subst e
      rw [jx_u_eq]
      rcases hv with hv | hv
      · exact Or.inl hv
      · exact absurd rfl (hv j h1 h2)
    · rw [jx_u_ni (by omega)]
      exact q8 w j h1 h2
