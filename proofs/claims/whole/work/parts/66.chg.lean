theorem mo_K_ne : ∀ a, 98 ≤ a → a < 140 → mo_K a ≠ (5, 9) := by
  have h : ∀ a, a < 140 → 98 ≤ a → mo_K a ≠ (5, 9) := by decide
  exact fun a h1 h2 => h a h2 h1
/-- J2 has client c as J has -/
def jc_eq (J J2 : Nat → Nat → Int32) (B c : Nat) : Prop := (∀ k, k < 6 → J2 99 (6 * (7 + c) + k) = J 99 (6 * (7 + c) + k)) ∧ J2 100 (7 + c) = J 100 (7 + c) ∧ (∀ a, 128 ≤ a → a ≤ 135 → J2 a c = J a c) ∧ (∀ r, r < 3 → J2 136 (3 * c + r) = J 136 (3 * c + r) ∧ J2 137 (3 * c + r) = J 137 (3 * c + r)) ∧ ∀ o, o < B → J2 119 o = J 119 o ∧ J2 121 o = J 121 o
theorem cn_r_to {I I2 : Nat → Nat → Int32} {P P2 : Nat → Nat → Option Nat} {J J2 : Nat → Nat → Int32} {B B2 c : Nat} {A A2 : Nat → Nat} (h : cn_r I P J B A c) (hI : ∀ b j, 78 + 5 * c ≤ b → b < 78 + 5 * c + 5 → I2 b j = I b j) (hP : P2 (78 + 5 * c) 4 = P (78 + 5 * c) 4) (hJ : jc_eq J J2 B c) (hB : B ≤ B2) (hA : ∀ o, o < B → A2 o = A o) : cn_r I2 P2 J2 B2 A2 c := by
  obtain ⟨⟨a0, a1, a2, a3⟩, ht⟩ := h
  obtain ⟨j0, j1, j2, j3, j4⟩ := hJ
  refine ⟨⟨by rw [hI _ _ (by omega) (by omega), a0], by rw [hI _ _ (by omega) (by omega), j1, a1], by rw [hI _ _ (by omega) (by omega), j2 129 (by omega) (by omega), a2], fun k hk => by rw [hI _ _ (by omega) (by omega), j0 k hk, a3 k hk]⟩, ?_⟩
  rcases ht with ⟨t1, t2⟩ | ⟨o, t1, t2, t3, q0, q1, q2, q3, q4, q5, q6, q7, q8⟩
  · exact Or.inl ⟨by rw [j2 128 (by omega) (by omega), t1], by rw [hP, t2]⟩
  · have z0 := (j3 0 (by omega)).1
    have z1 := (j3 0 (by omega)).2
    rw [Nat.add_zero] at z0 z1
    have ro : mo_of J2 c o = mo_of J c o := by
      unfold mo_of
      rw [z0, z1, (j4 o t1).2]
    refine Or.inr ⟨o, by omega, by rw [j2 128 (by omega) (by omega), t2], by rw [hP, t3, hA o t1], ?_⟩
    unfold cn_o
    rw [(j4 o t1).1, (j4 o t1).2, j2 130 (by omega) (by omega), j2 131 (by omega) (by omega), j2 132 (by omega) (by omega), j2 133 (by omega) (by omega), j2 134 (by omega) (by omega), j2 135 (by omega) (by omega), ro]
    refine ⟨by rw [hI _ _ (by omega) (by omega), q0], by rw [hI _ _ (by omega) (by omega), q1], by rw [hI _ _ (by omega) (by omega), q2], fun r hr => by rw [hI _ _ (by omega) (by omega), (j3 r hr).1, q3 r hr], fun r hr hq => by rw [hI _ _ (by omega) (by omega), (j3 r hr).2, q4 r hr hq], fun h1 h2 => by rw [hI _ _ (by omega) (by omega), q5 h1 h2], fun h1 => ?_, fun h1 => ?_, fun h1 j h2 h3 => ?_⟩
    · rw [hI _ _ (by omega) (by omega), hI _ _ (by omega) (by omega), hI _ _ (by omega) (by omega)]
      exact q6 h1
    · rw [hI _ _ (by omega) (by omega), hI _ _ (by omega) (by omega)]
      exact q7 h1
    · rw [hI _ _ (by omega) (by omega), j0 j (by omega)]
      exact q8 h1 j h2 h3
/-- entries of the reference that are client c's -/
def jc_own (c a j : Nat) : Prop := (a = 99 ∧ 42 + 6 * c ≤ j ∧ j < 48 + 6 * c) ∨ (a = 100 ∧ j = 7 + c) ∨ (128 ≤ a ∧ a ≤ 135 ∧ j = c) ∨ ((a = 136 ∨ a = 137) ∧ 3 * c ≤ j ∧ j < 3 * c + 3)
/-- only client c changes -/
theorem rl_N_c {n : Nat} {K : Nat → Nat × Nat} {I I2 : Nat → Nat → Int32} {P P2 : Nat → Nat → Option Nat} {J J2 : Nat → Nat → Int32} {B c : Nat} {A : Nat → Nat} (hN : rl_N n K I P J B A) (hc : c < 4) (hI : ∀ b j, b < 78 + 5 * c ∨ 78 + 5 * c + 5 ≤ b → I2 b j = I b j) (hP : ∀ b j, ¬ (b = 78 + 5 * c ∧ j = 4) → P2 b j = P b j) (hJ : ∀ a j, 98 ≤ a → a < 140 → ¬ jc_own c a j → J2 a j = J a j) (hr : cn_r I2 P2 J2 B A c) : rl_N n K I2 P2 J2 B A := by
  obtain ⟨a0, a1, a2, a3, a4, a5, a6⟩ := hN
  have hJo : ∀ a j, 98 ≤ a → a < 140 → a < 99 ∨ 100 < a ∧ a < 128 ∨ 137 < a → J2 a j = J a j := fun a j h1 h2 h3 => hJ a j h1 h2 (by unfold jc_own; omega)
  refine ⟨cl_ok_to a0 (fun _ _ _ => rfl) (fun b j h1 h2 h3 h4 h5 h6 h7 => hP b j (by omega)), rs_ok_to a1 (fun _ _ _ => rfl) (fun b j h => hP b j (by omega)), mo_ok_to a2 (fun _ _ _ => rfl) (fun j => hP 98 j (by omega)), fun s hs => ?_, fun d hd => ?_, ?_, ?_⟩
  · obtain ⟨b0, b1, b2, b3⟩ := a3 s hs
    refine ⟨?_, fun k hk => ?_, fun r hr => ⟨?_, ?_⟩, fun k hk => ⟨?_, ?_, ?_⟩⟩
    · rw [hI _ _ (by omega), hJ _ _ (by omega) (by omega) (by unfold jc_own; omega), b0]
    · rw [hI _ _ (by omega), hJ _ _ (by omega) (by omega) (by unfold jc_own; omega), b1 k hk]
    · rw [hI _ _ (by omega), hJo _ _ (by omega) (by omega) (by omega), (b2 r hr).1]
    · rw [hI _ _ (by omega), hJo _ _ (by omega) (by omega) (by omega), (b2 r hr).2]
    · rw [hI _ _ (by omega), hJo _ _ (by omega) (by omega) (by omega), (b3 k hk).1]
    · rw [hI _ _ (by omega), hJo _ _ (by omega) (by omega) (by omega), (b3 k hk).2.1]
    · rw [hI _ _ (by omega), hJo _ _ (by omega) (by omega) (by omega), (b3 k hk).2.2]
  · by_cases hdc : d = c
    · subst hdc
      exact hr
    · refine cn_r_to (a4 d hd) (fun b j h1 h2 => hI b j (by omega)) (hP _ _ (by omega)) ⟨fun k hk => ?_, ?_, fun a h1 h2 => ?_, fun r hr => ⟨?_, ?_⟩, fun o ho => ⟨?_, ?_⟩⟩ (Nat.le_refl _) (fun _ _ => rfl)
      · exact hJ _ _ (by omega) (by omega) (by unfold jc_own; omega)
      · exact hJ _ _ (by omega) (by omega) (by unfold jc_own; omega)
      · exact hJ _ _ (by omega) (by omega) (by unfold jc_own; omega)
      · exact hJ _ _ (by omega) (by omega) (by unfold jc_own; omega)
      · exact hJ _ _ (by omega) (by omega) (by unfold jc_own; omega)
      · exact hJo _ _ (by omega) (by omega) (by omega)
      · exact hJo _ _ (by omega) (by omega) (by omega)
  · obtain ⟨b0, b1, b2, b3, b4, b5, b6⟩ := a5
    refine ⟨b0, by rw [hJo _ _ (by omega) (by omega) (by omega), b1], by rw [hI _ _ (by omega), b2], by rw [hI _ _ (by omega), hJo _ _ (by omega) (by omega) (by omega), b3], by rw [hI _ _ (by omega), hJo _ _ (by omega) (by omega) (by omega), b4], fun o a ho hp => ?_, fun o ho => ⟨?_, ?_⟩⟩
    · rw [hP 10 o (by omega)] at hp
      obtain ⟨d1, d2, d3, d4⟩ := b5 o a ho hp
      exact ⟨d1, d2, d3, by rw [hI _ _ (by omega), d4]⟩
    · rw [hP 10 o (by omega)]
      exact (b6 o ho).1
    · obtain ⟨d1, d2, d3, d4⟩ := b5 o _ (by omega) (b6 o ho).1
      exact op_r_to (b6 o ho).2 (fun j => hI _ j (by omega)) (fun b j h1 h2 => hJo b j (by omega) (by omega) (by omega))
  · rw [hI _ _ (by omega), hJo _ _ (by omega) (by omega) (by omega), a6]
/-- the bag stays -/
theorem rl_chg {n ms : Nat} {K : Nat → Nat × Nat} {I I2 : Nat → Nat → Int32} {P P2 : Nat → Nat → Option Nat} {J J2 : Nat → Nat → Int32} {B B2 h : Nat} {A A2 : Nat → Nat} {T : Nat → Prop} {X : Nat → Nat → Int32} (hR : rl n ms K I P J B A h T X) (hN : rl_N n K I2 P2 J2 B2 A2) (hI : ∀ b j, b = 3 ∧ j = 6 ∨ b = 6 ∨ b = 7 ∨ b = 8 ∨ (98 ≤ b ∧ b < n ∧ K b ≠ (5, 9)) → I2 b j = I b j) (hP : ∀ b j, b = 1 ∨ b = 6 ∨ b = 7 ∨ b = 8 ∨ b = 10 ∨ 98 ≤ b → P2 b j = P b j) (hJ : ∀ a j, 106 ≤ a → a ≤ 118 → J2 a j = J a j) (h9 : J2 98 9 = J 98 9) (h10 : J2 98 10 = J 98 10) : rl n ms K I2 P2 J2 B2 A2 h T X := by
  obtain ⟨-, ⟨L, x, S, z, e, c, e2, c2, ⟨⟨f0, l1, l2, ee, m1, m2, dj, n140⟩, b1, b2, b3, b4, b5, b6⟩, hT⟩, hX, hag⟩ := hR
  have hm : ∀ t, ob_M K P t → 140 ≤ t → t + 5 ≤ n → ob_M K P2 t ∧ ∀ b j, t ≤ b → b < t + 5 → I2 b j = I b j := fun t h1 h2 h3 => by
    refine ⟨ob_M_fr h1 (fun _ _ _ => rfl) (fun b j h4 h5 => hP b j (by omega)), fun b j h4 h5 => hI b j (Or.inr (Or.inr (Or.inr (Or.inr ⟨by omega, by omega, fun h => ?_⟩))))⟩
    obtain ⟨k0, k1, k2, k3, k4, -⟩ := h1
    rcases (show b = t ∨ b = t + 1 ∨ b = t + 2 ∨ b = t + 3 ∨ b = t + 4 by omega) with q | q | q | q | q
    · rw [q, k0] at h; simp at h
    · rw [q, k1] at h; simp at h
    · rw [q, k2] at h; simp at h
    · rw [q, k3] at h; simp at h
    · rw [q, k4] at h; simp at h
  have hls : ∀ a e c x N, (a = 7 ∨ a = 8) → ls_ok n K I P a e c x N → ls_ok n K I2 P2 a e c x N := fun a e c x N ha q => by
    obtain ⟨a1, a2, a3, a4, a5, a6, a7, a8⟩ := q
    exact ⟨by rw [hP a 1 (by omega), a1], a2, by rw [hI a 2 (by omega), a3], a4, a5, fun i hi => by rw [hP e i (by omega), a6 i hi], a7, a8⟩
  have hin : ∀ N k, ms_in n K P N k → ms_in n K P2 N k := fun N k q i hi => by
    obtain ⟨q1, q2, q3⟩ := q i hi
    exact ⟨(hm _ q1 q2 q3).1, q2, q3⟩
  have hom : om P2 = om P := om_eq (fun o => hP 10 o (by omega))
  refine ⟨hN, ⟨L, x, S, z, e, c, e2, c2, ⟨⟨⟨f0.1, by rw [hP 6 0 (by omega), f0.2.1], by rw [hP 6 1 (by omega), f0.2.2.1], f0.2.2.2⟩, hls 7 e c x L (by omega) l1, hls 8 e2 c2 z S (by omega) l2, ee, hin L x m1, hin S z m2, dj, n140⟩, by rw [h9, b1], by rw [hI 6 2 (by omega), h10, b2], fun i hi => ?_, b4, b5, by rw [hom]; exact b6⟩, fun t ht => ?_⟩, fun t ht b j h1 h2 => ?_, fun a j h1 h2 => ?_, ?_⟩
  · obtain ⟨q1, q2, q3⟩ := m1 i hi
    exact mgs_to (b3 i hi) (hm _ q1 q2 q3).2 (fun a h1 h2 => hJ a i h1 (by omega)) (fun k hk => hJ 118 _ (by omega) (by omega))
  · obtain ⟨q1, q2, q3, q4⟩ := hT t ht
    exact ⟨(hm t q1 q2 q3).1, q2, q3, q4⟩
  · obtain ⟨q1, q2, q3, q4⟩ := hT t ht
    rw [(hm t q1 q2 q3).2 b j h1 h2, hX t ht b j h1 h2]
  · have hk : K a ≠ (5, 9) := fun h => by
      have := hN.2.2.1.1 a h1 h2
      rw [h] at this
      exact mo_K_ne a h1 h2 this.symm
    rw [hI a j (Or.inr (Or.inr (Or.inr (Or.inr ⟨h1, by omega, hk⟩)))), hag.1 a j h1 h2]
  · rw [hI 3 6 (Or.inl ⟨rfl, rfl⟩), hag.2]
