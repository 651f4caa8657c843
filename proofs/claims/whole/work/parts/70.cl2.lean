theorem jx_u_no {I : Nat → Nat → Int32} {a i b j : Nat} {v : Int32} (h : ¬ (b = a ∧ j = i)) : jx_u I a i v b j = I b j := if_neg h
theorem hd_ok_t {n ms : Nat} {K : Nat → Nat × Nat} {I : Nat → Nat → Int32} {P : Nat → Nat → Option Nat} {J : Nat → Nat → Int32} {B h t : Nat} {A : Nat → Nat} {T : Nat → Prop} {X : Nat → Nat → Int32} (hR : rl n ms K I P J B A h T X) (ht : T t) : ob_M K P t ∧ 140 ≤ t ∧ t + 5 ≤ n ∧ ∀ b j, t ≤ b → b < t + 5 → I b j = X b j := by
  obtain ⟨-, ⟨L, x, S, z, e, c', e2, c2, hB, hT⟩, hX, -⟩ := hR
  obtain ⟨t0, t1, t2, -⟩ := hT t ht
  exact ⟨t0, t1, t2, hX t ht⟩
theorem rl_cnt {n ms : Nat} {K : Nat → Nat × Nat} {I : Nat → Nat → Int32} {P : Nat → Nat → Option Nat} {J : Nat → Nat → Int32} {B h c o : Nat} {A : Nat → Nat} {T : Nat → Prop} {X : Nat → Nat → Int32} (hR : rl n ms K I P J B A h T X) (hc : c < 4) (ho : o < B) (hd : J 128 c = nI o) {t : Nat} (ht : T t) (hj : hd_j X t J) : rl n ms K (cn_ct I (78 + 5 * c) t) P (mo_ct J c) B A h T X := by
  obtain ⟨t0, t1, t2, t3⟩ := hd_ok_t hR ht
  have e4 : I t 4 = J 98 48 := by rw [t3 t 4 (by omega) (by omega), hj.2.1]
  have hJ : ∀ a j, ¬ (a = 131 ∧ j = c) → mo_ct J c a j = J a j := fun a j q => jx_u_no q
  have hI : ∀ b j, ¬ (b = 78 + 5 * c ∧ j = 9) → cn_ct I (78 + 5 * c) t b j = I b j := fun b j q => jx_u_no q
  refine rl_cl hR hc ho hd (fun b j hb => hI b j (by omega)) (fun a j h1 h2 h3 => hJ a j (fun q => h3 (by unfold jc_own; omega))) (fun k hk => hJ _ _ (by omega)) (hJ _ _ (by omega)) (hJ _ _ (by omega)) (hI _ _ (by omega)) (hI _ _ (by omega)) (fun k hk => hI _ _ (by omega)) (by rw [hI _ _ (by omega), hJ _ _ (by omega)]; exact (hR.1.2.2.2.2.1 c hc).1.2.2.1) ?_
  rintro ⟨q0, q1, q2, q3, q4, q5, q6, q7, q8⟩
  unfold cn_o mo_of
  simp (disch := omega) only [hI, hJ]
  refine ⟨q0, q1, ?_, q3, q4, q5, q6, q7, q8⟩
  unfold cn_ct mo_ct
  rw [jx_u_eq, jx_u_eq, q2, e4]
theorem rl_best {n ms : Nat} {K : Nat → Nat × Nat} {I : Nat → Nat → Int32} {P : Nat → Nat → Option Nat} {J : Nat → Nat → Int32} {B h c o : Nat} {A : Nat → Nat} {T : Nat → Prop} {X : Nat → Nat → Int32} (hR : rl n ms K I P J B A h T X) (hc : c < 4) (ho : o < B) (hd : J 128 c = nI o) {t i : Nat} (ht : T t) (hi : i < 3) (hp : J 132 c = 1) {tg v : Int32} (h1 : X (t + 3) i = tg) (h2 : X (t + 4) i = v) : rl n ms K (cn_b1 I (78 + 5 * c) t i) P (mo_b J c i tg v) B A h T X := by
  obtain ⟨t0, t1, t2, t3⟩ := hd_ok_t hR ht
  have e3 : I (t + 3) i = tg := by rw [t3 _ _ (by omega) (by omega), h1]
  have e4 : I (t + 4) i = v := by rw [t3 _ _ (by omega) (by omega), h2]
  have hJ : ∀ a j, ¬ ((a = 136 ∨ a = 137) ∧ j = 3 * c + i) → mo_b J c i tg v a j = J a j := fun a j q => by
    unfold mo_b
    split
    · rw [jx_u_no (by omega), jx_u_no (by omega)]
    · rfl
  have hI : ∀ b j, ¬ ((b = 78 + 5 * c + 3 ∨ b = 78 + 5 * c + 4) ∧ j = i) → cn_b1 I (78 + 5 * c) t i b j = I b j := fun b j q => by
    unfold cn_b1
    split
    · rw [jx_u_no (by omega), jx_u_no (by omega)]
    · rfl
  refine rl_cl hR hc ho hd (fun b j hb => hI b j (by omega)) (fun a j h1 h2 h3 => hJ a j (fun q => h3 (by unfold jc_own; omega))) (fun k hk => hJ _ _ (by omega)) (hJ _ _ (by omega)) (hJ _ _ (by omega)) (hI _ _ (by omega)) (hI _ _ (by omega)) (fun k hk => hI _ _ (by omega)) (by rw [hI _ _ (by omega), hJ _ _ (by omega)]; exact (hR.1.2.2.2.2.1 c hc).1.2.2.1) ?_
  rintro ⟨q0, q1, q2, q3, q4, q5, q6, q7, q8⟩
  have n1 : ¬ J 132 c = 2 := by rw [hp]; decide
  have hm : ∀ r, r < 3 → cn_b1 I (78 + 5 * c) t i (78 + 5 * c + 3) r = mo_b J c i tg v 136 (3 * c + r) ∧ cn_b1 I (78 + 5 * c) t i (78 + 5 * c + 4) r = mo_b J c i tg v 137 (3 * c + r) := fun r hr => by
    by_cases q : r = i
    · subst q
      unfold cn_b1 mo_b
      rw [e3, e4, q3 r hr]
      by_cases w : J 136 (3 * c + r) < tg
      · rw [if_pos w, if_pos w]
        exact ⟨by simp (disch := omega) only [jx_u_na, jx_u_ni, jx_u_eq], by simp (disch := omega) only [jx_u_na, jx_u_ni, jx_u_eq]⟩
      · rw [if_neg w, if_neg w]
        exact ⟨q3 r hr, q4 r hr (fun z => absurd z.2 n1)⟩
    · rw [hI _ _ (by omega), hI _ _ (by omega), hJ _ _ (by omega), hJ _ _ (by omega)]
      exact ⟨q3 r hr, q4 r hr (fun z => absurd z.2 n1)⟩
  unfold cn_o
  rw [hJ 132 c (by omega), hJ 130 c (by omega), hJ 131 c (by omega), hJ 119 o (by omega), hJ 133 c (by omega), hJ 134 c (by omega), hJ 121 o (by omega), hJ 135 c (by omega)]
  refine ⟨by rw [hI _ _ (by omega), q0], by rw [hI _ _ (by omega), q1], by rw [hI _ _ (by omega), q2], fun r hr => (hm r hr).1, fun r hr _ => (hm r hr).2, fun _ w => absurd w n1, fun w => ?_, fun w => ?_, fun w j h3 h4 => ?_⟩
  · rw [hI _ _ (by omega), hI _ _ (by omega), hI _ _ (by omega)]
    exact q6 w
  · rw [hI _ _ (by omega), hI _ _ (by omega)]
    exact q7 w
  · rw [hI _ _ (by omega), hJ _ _ (by omega)]
    exact q8 w j h3 h4
/-- a bad answer more -/
theorem rl_bad {n ms : Nat} {K : Nat → Nat × Nat} {I : Nat → Nat → Int32} {P : Nat → Nat → Option Nat} {J : Nat → Nat → Int32} {B h o : Nat} {A : Nat → Nat} {T : Nat → Prop} {X : Nat → Nat → Int32} (hR : rl n ms K I P J B A h T X)  (ho : o < B)  : rl n ms K (jx_u I (A o) 8 (I (A o) 8 + 1)) P (mo_bu J o) B A h T X := by
  obtain ⟨a0, a1, a2, a3, a4, a5, a6⟩ := hR.1
  obtain ⟨b0, b1, b2, b3, b4, b5, b6⟩ := id a5
  obtain ⟨d1, d2, d3, d4⟩ := b5 o _ (by omega) (b6 o ho).1
  have hI : ∀ b j, ¬ (b = A o ∧ j = 8) → jx_u I (A o) 8 (I (A o) 8 + 1) b j = I b j := fun b j q => jx_u_no q
  have hJ : ∀ a j, ¬ (a = 127 ∧ j = o) → mo_bu J o a j = J a j := fun a j q => jx_u_no q
  have hinj : ∀ p, p < B → A p = A o → p = o := fun p hp e => by
    have q := (b5 p _ (by omega) (b6 p hp).1).2.2.2
    rw [e, d4, jx_eqnn (by omega) (by omega)] at q
    omega
  refine rl_chg hR ⟨a0, a1, a2, fun s hs => sv_r_to hs (a3 s hs) (fun b j h1 h2 => hI b j (by omega)) (fun a j h1 h2 => hJ a j (by omega)), fun d hd => cn_r_to (a4 d hd) (fun b j h1 h2 => hI b j (by omega)) rfl ⟨fun k hk => hJ _ _ (by omega), hJ _ _ (by omega), fun a h1 h2 => hJ _ _ (by omega), fun r hr => ⟨hJ _ _ (by omega), hJ _ _ (by omega)⟩, fun o _ => ⟨hJ _ _ (by omega), hJ _ _ (by omega)⟩⟩ (Nat.le_refl _) (fun _ _ => rfl), ⟨b0, by rw [hJ _ _ (by omega), b1], by rw [hI _ _ (by omega), b2], by rw [hI _ _ (by omega), hJ _ _ (by omega), b3], by rw [hI _ _ (by omega), hJ _ _ (by omega), b4], fun p a hp hq => ?_, fun p hp => ⟨(b6 p hp).1, ?_⟩⟩, by rw [hI _ _ (by omega), hJ _ _ (by omega), a6]⟩ (fun b j hb => hI b j (fun q => ?_)) (fun _ _ _ => rfl) (fun a j h1 h2 => hJ a j (by omega)) (hJ _ _ (by omega)) (hJ _ _ (by omega))
  · obtain ⟨e1, e2, e3, e4⟩ := b5 p a hp hq
    exact ⟨e1, e2, e3, by rw [hI _ _ (by omega), e4]⟩
  · obtain ⟨r1, r2, r3, r4, r5, r6, r7, r8⟩ := (b6 p hp).2
    by_cases hpo : p = o
    · subst hpo
      refine ⟨by rw [hI _ _ (by omega), hJ _ _ (by omega), r1], by rw [hI _ _ (by omega), hJ _ _ (by omega), r2], by rw [hI _ _ (by omega), hJ _ _ (by omega), r3], by rw [hI _ _ (by omega), hJ _ _ (by omega), r4], by rw [hI _ _ (by omega), hJ _ _ (by omega), r5], by rw [hI _ _ (by omega), hJ _ _ (by omega), r6], by rw [hI _ _ (by omega), hJ _ _ (by omega), r7], ?_⟩
      unfold mo_bu
      rw [jx_u_eq, jx_u_eq, r8]
    · have hne : A p ≠ A o := fun e => hpo (hinj p hp e)
      exact ⟨by rw [hI _ _ (by omega), hJ _ _ (by omega), r1], by rw [hI _ _ (by omega), hJ _ _ (by omega), r2], by rw [hI _ _ (by omega), hJ _ _ (by omega), r3], by rw [hI _ _ (by omega), hJ _ _ (by omega), r4], by rw [hI _ _ (by omega), hJ _ _ (by omega), r5], by rw [hI _ _ (by omega), hJ _ _ (by omega), r6], by rw [hI _ _ (by omega), hJ _ _ (by omega), r7], by rw [hI _ _ (by omega), hJ _ _ (by omega), r8]⟩
  · rcases hb with w | w | w | w | ⟨_, _, w⟩
    · omega
    · omega
    · omega
    · omega
    · rw [q.1] at w
      exact w d1
/-- a first round anew -/
theorem rl_first {n ms : Nat} {K : Nat → Nat × Nat} {I : Nat → Nat → Int32} {P : Nat → Nat → Option Nat} {J : Nat → Nat → Int32} {B h c o : Nat} {A : Nat → Nat} {T : Nat → Prop} {X : Nat → Nat → Int32} (hR : rl n ms K I P J B A h T X) (hc : c < 4) (ho : o < B) (hd : J 128 c = nI o) {v : Int32} : rl n ms K (cn_o1 (jx_u I (78 + 5 * c) 10 v) (78 + 5 * c)) P (mo_br (mo_fb (jx_u J 133 c v) c) c 1) B A h T X := by
  have hJ : ∀ a j, ¬ ((129 ≤ a ∧ a ≤ 133 ∧ j = c) ∨ ((a = 136 ∨ a = 137) ∧ 3 * c ≤ j ∧ j < 3 * c + 3)) → mo_br (mo_fb (jx_u J 133 c v) c) c 1 a j = J a j := fun a j q => by
    unfold mo_br mo_fb
    rw [jx_u_no (by omega), jx_u_no (by omega), jx_u_no (by omega), jx_u_no (by omega), jx_u_no (by omega), jx_u_no (by omega), jx_u_no (by omega), jx_u_no (by omega), jx_u_no (by omega), jx_u_no (by omega), jx_u_no (by omega)]
  have hI : ∀ b j, ¬ ((b = 78 + 5 * c ∧ 6 ≤ j ∧ j ≤ 10) ∨ b = 78 + 5 * c + 3 ∨ b = 78 + 5 * c + 4) → cn_o1 (jx_u I (78 + 5 * c) 10 v) (78 + 5 * c) b j = I b j := fun b j q => by
    unfold cn_o1 cn_or
    rw [jx_u_no (by omega), jx_u_no (by omega), jx_u_no (by omega), jx_u_no (by omega), jd_fi_na (by omega), jd_fi_na (by omega), jx_u_no (by omega)]
  have s2 := (hR.1.2.2.2.2.1 c hc).1.2.2.1
  refine rl_cl hR hc ho hd (fun b j hb => hI b j (by omega)) (fun a j h1 h2 h3 => hJ a j (fun q => h3 (by unfold jc_own; omega))) (fun k hk => hJ _ _ (by omega)) (hJ _ _ (by omega)) (hJ _ _ (by omega)) (hI _ _ (by omega)) (hI _ _ (by omega)) (fun k hk => hI _ _ (by omega)) ?_ ?_
  · unfold cn_o1 cn_or mo_br mo_fb
    simp (disch := omega) only [jx_u_na, jx_u_ni, jx_u_eq, jd_fi_na]
    rw [s2]
  rintro ⟨q0, q1, q2, q3, q4, q5, q6, q7, q8⟩
  have p1 : mo_br (mo_fb (jx_u J 133 c v) c) c 1 132 c = 1 := by
    unfold mo_br mo_fb
    simp (disch := omega) only [jx_u_na, jx_u_ni, jx_u_eq]
  have n1 : ¬ mo_br (mo_fb (jx_u J 133 c v) c) c 1 132 c = 2 := by rw [p1]; decide
  have z : ∀ r, r < 3 → mo_br (mo_fb (jx_u J 133 c v) c) c 1 136 (3 * c + r) = 0 ∧ mo_br (mo_fb (jx_u J 133 c v) c) c 1 137 (3 * c + r) = 0 := fun r hr => by
    unfold mo_br mo_fb
    rcases (show r = 0 ∨ r = 1 ∨ r = 2 by omega) with rfl | rfl | rfl
    · exact ⟨by simp (disch := omega) only [jx_u_na, jx_u_ni, jx_u_eq], by simp (disch := omega) only [jx_u_na, jx_u_ni, jx_u_eq]⟩
    · exact ⟨by simp (disch := omega) only [jx_u_na, jx_u_ni, jx_u_eq], by simp (disch := omega) only [jx_u_na, jx_u_ni, jx_u_eq]⟩
    · exact ⟨by simp (disch := omega) only [jx_u_na, jx_u_ni, jx_u_eq], by simp (disch := omega) only [jx_u_na, jx_u_ni, jx_u_eq]⟩
  have y : ∀ r, r < 3 → cn_o1 (jx_u I (78 + 5 * c) 10 v) (78 + 5 * c) (78 + 5 * c + 3) r = 0 ∧ cn_o1 (jx_u I (78 + 5 * c) 10 v) (78 + 5 * c) (78 + 5 * c + 4) r = 0 := fun r hr => by
    unfold cn_o1 cn_or
    exact ⟨by simp (disch := omega) only [jx_u_na, jd_fi_na, jd_fi_lt], by simp (disch := omega) only [jx_u_na, jd_fi_na, jd_fi_lt]⟩
  unfold cn_o
  rw [hJ 119 o (by omega), hJ 134 c (by omega), hJ 121 o (by omega), hJ 135 c (by omega)]
  refine ⟨?_, ?_, ?_, fun r hr => by rw [(y r hr).1, (z r hr).1], fun r hr _ => by rw [(y r hr).2, (z r hr).2], fun _ w => absurd w n1, fun w => ?_, fun w => ?_, fun w j h3 h4 => ?_⟩
  · rw [p1]
    unfold cn_o1 cn_or
    simp (disch := omega) only [jx_u_na, jx_u_ni, jx_u_eq]
  · unfold cn_o1 cn_or mo_br
    simp (disch := omega) only [jx_u_na, jx_u_ni, jx_u_eq]
  · unfold cn_o1 cn_or mo_br
    simp (disch := omega) only [jx_u_na, jx_u_ni, jx_u_eq]
  · refine ⟨?_, ?_, ?_⟩
    · unfold cn_o1 cn_or mo_br mo_fb
      simp (disch := omega) only [jx_u_na, jx_u_ni, jx_u_eq, jd_fi_na]
    · rw [hI _ _ (by omega)]
      exact (q6 w).2.1
    · rw [hI _ _ (by omega)]
      exact (q6 w).2.2
  · rw [hI _ _ (by omega), hI _ _ (by omega)]
    exact q7 w
  · rw [hI _ _ (by omega), hJ _ _ (by omega)]
    exact q8 w j h3 h4
