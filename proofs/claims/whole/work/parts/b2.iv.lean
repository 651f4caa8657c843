theorem iv_run {J : Nat → Nat → Int32} {q x B e c o : Nat} (h : Iv J q x B e) (hc : c < 4) (ho : o < B) (hd : J 128 c = nI o) : ∃ R j b p u, J 129 c = nI R ∧ R ≤ 18 * B ∧ iv_r J q B c e o j b p u R := by
  obtain ⟨R, h1, h2, h3⟩ := h.2.2.2.1 c hc
  have hB := h.1.2.2.2.2.2.2
  rcases h3 with h3 | ⟨o2, j, b, p, u, hr⟩
  · have w := hd.symm.trans h3
    rw [jx_m1 (by omega)] at w
    exact w.elim
  · have w := hd.symm.trans hr.2.1
    rw [jx_eqnn (by omega) (by have := hr.1; omega)] at w
    subst w
    exact ⟨R, j, b, p, u, h1, h2, hr⟩
theorem sh1_p : ∀ s, s < 7 → (1 : Int32) <<< (nI s &&& 31) = nI (2 ^ s) := by decide +kernel
theorem bs_sh1 {s : Nat} (h : s < 7) : bs ((1 : Int32) <<< (nI s &&& 31)) 7 := ⟨2 ^ s, Nat.pow_lt_pow_right (by decide) h, sh1_p s h⟩
theorem mo_b_o {J : Nat → Nat → Int32} {c r a j : Nat} {t v : Int32} (h : ¬ ((a = 136 ∨ a = 137) ∧ j = 3 * c + r)) : mo_b J c r t v a j = J a j := by
  unfold mo_b
  split
  · rw [jx_u_no (by omega), jx_u_no (by omega)]
  · rfl
theorem mo_b_v {J : Nat → Nat → Int32} {c : Nat} {t v : Int32} : (mo_b J c 0 t v 136 (3 * c) = J 136 (3 * c) ∧ mo_b J c 0 t v 137 (3 * c) = J 137 (3 * c)) ∨ (J 136 (3 * c) < t ∧ mo_b J c 0 t v 136 (3 * c) = t ∧ mo_b J c 0 t v 137 (3 * c) = v) := by
  unfold mo_b
  simp only [Nat.add_zero]
  split
  · rename_i w
    exact Or.inr ⟨w, by rw [jx_u_na (by omega), jx_u_eq], by rw [jx_u_eq]⟩
  · exact Or.inl ⟨rfl, rfl⟩
theorem mo_C1_o {J : Nat → Nat → Int32} {c a j : Nat} (h : ¬ (a = 131 ∧ j = c)) (h2 : ¬ ((a = 136 ∨ a = 137) ∧ 3 * c ≤ j ∧ j < 3 * c + 3)) : mo_C1 J c a j = J a j := by
  unfold mo_C1 mo_ct
  split
  · rw [mo_b_o (by omega), mo_b_o (by omega), mo_b_o (by omega), jx_u_no h]
  · rw [jx_u_no h]
theorem mo_C1_131 {J : Nat → Nat → Int32} {c : Nat} : mo_C1 J c 131 c = J 131 c ||| 1 <<< (J 98 48 &&& 31) := by
  unfold mo_C1 mo_ct
  split
  · rw [mo_b_o (by omega), mo_b_o (by omega), mo_b_o (by omega), jx_u_eq]
  · rw [jx_u_eq]
theorem mo_C1_b {J : Nat → Nat → Int32} {c : Nat} : (mo_C1 J c 136 (3 * c) = J 136 (3 * c) ∧ mo_C1 J c 137 (3 * c) = J 137 (3 * c)) ∨ (J 136 (3 * c) < J 98 52 ∧ mo_C1 J c 136 (3 * c) = J 98 52 ∧ mo_C1 J c 137 (3 * c) = J 98 53) := by
  unfold mo_C1
  split
  · rw [mo_b_o (by omega), mo_b_o (by omega), mo_b_o (a := 137) (by omega), mo_b_o (a := 137) (by omega)]
    have w := @mo_b_v (mo_ct J c) c (J 98 52) (J 98 53)
    unfold mo_ct at w ⊢
    rw [jx_u_na (a := 131) (b := 136) (by omega), jx_u_na (a := 131) (b := 137) (by omega)] at w
    exact w
  · left
    unfold mo_ct
    exact ⟨jx_u_na (by omega), jx_u_na (by omega)⟩
theorem iv_own_c {c o a j : Nat} (h : (128 ≤ a ∧ a ≤ 135 ∧ j = c) ∨ ((a = 136 ∨ a = 137) ∧ 3 * c ≤ j ∧ j < 3 * c + 3)) : iv_own c o a j := by
  unfold iv_own jc_own
  omega
/-- only cells of client c's own change, nor its map, nor what it does, nor its round -/
theorem Iv_same {J J2 : Nat → Nat → Int32} {q x B e c o j b p u R : Nat} (h : Iv J q x B e) (hc : c < 4) (h129 : J 129 c = nI R) (hR : R ≤ 18 * B) (hr : iv_r J q B c e o j b p u R) (hJ : ∀ a i, 98 ≤ a → a < 140 → ¬ ((a = 130 ∨ a = 131 ∨ a = 133) ∧ i = c ∨ (a = 136 ∨ a = 137) ∧ 3 * c ≤ i ∧ i < 3 * c + 3) → J2 a i = J a i) {u2 : Nat} (h130 : J2 130 c = nI u2) (hu : u2 < 128) (h131 : bs (J2 131 c) 7) (h2 : J 119 o = 2 → bs (J2 137 (3 * c)) q ∧ 0 ≤ J2 136 (3 * c)) : Iv J2 q x B e := by
  obtain ⟨a0, a1, a2, a3, a4, a5, a6, a7, a8, a9, a10, a11, a12, a13, a14, a15, a16, a17⟩ := hr
  have f : ∀ a i, 98 ≤ a → a < 130 → J2 a i = J a i := fun a i w1 w2 => hJ a i w1 (by omega) (by omega)
  refine Iv_cl h hc a0 a2 (fun a i w1 w2 w3 => hJ a i w1 w2 (fun w => w3 (iv_own_c (by omega)))) (fun _ _ _ w => w) (iv_m_to (h.2.1 (7 + c) (by omega)) (fun k _ => f _ _ (by omega) (by omega))) ?_ (fun k r _ w => iv_t_to w (f _ _ (by omega) (by omega)) (f _ _ (by omega) (by omega)) (fun _ _ => f _ _ (by omega) (by omega))) (iv_l_to h.2.2.2.2.1 (f _ _ (by omega) (by omega)) (fun a i _ w => f _ _ (by omega) (by omega)) (fun d _ => f _ _ (by omega) (by omega)))
  refine ⟨R, by rw [f _ _ (by omega) (by omega), h129], hR, Or.inr ⟨o, j, b, p, u2, a0, ?_⟩⟩
  rw [f 128 _ (by omega) (by omega), f 120 _ (by omega) (by omega), f 123 _ (by omega) (by omega), f 126 _ (by omega) (by omega), f 119 _ (by omega) (by omega), hJ 132 c (by omega) (by omega) (by omega), f 127 _ (by omega) (by omega), f 121 _ (by omega) (by omega), hJ 134 c (by omega) (by omega) (by omega), hJ 135 c (by omega) (by omega) (by omega), f 99 _ (by omega) (by omega), f 99 _ (by omega) (by omega)]
  refine ⟨a1, a2, a3, a4, a5, a6, a7, a8, a9, a10, h130, hu, h131, a14, a15, a16, fun s => ?_⟩
  obtain ⟨b1, b2, b3, b4⟩ := a17 s
  exact ⟨b1, (h2 s).1, (h2 s).2, b4⟩
theorem iv_q_run {J : Nat → Nat → Int32} {q B c e o j b p u R : Nat} (hr : iv_r J q B c e o j b p u R) (hB : B ≤ 60) : iv_q J c = (7 - pcn u) + (if p = 1 then 7 else 0) + 14 * (8 - b) + 7 := by
  obtain ⟨a0, a1, a2, a3, a4, a5, a6, a7, a8, a9, a10, a11, a12, -⟩ := hr
  have e1 : ¬ J 128 c = -1 := fun w => by
    rw [a1, jx_m1 (by omega)] at w
    exact w
  have e2 : (J 132 c = 1) = (p = 1) := by
    rw [a6]
    exact jx_eqnl (by omega) (by decide)
  unfold iv_q
  rw [if_neg e1, a11, jx_xn (by omega), a1, jx_xn (by omega), a8, jx_xn (by omega)]
  simp only [e2]
/-- an answer counts -/
theorem Iv_C1 {J : Nat → Nat → Int32} {q x B c o k s r R : Nat} (h : Iv J q x B c) (hc : c < 4) (ho : o < B) (hd : J 128 c = nI o) (hh : iv_h J q B k s c r) (hk : 10 ≤ k) (hR1 : J 129 c = nI R) (hR : r = R) : Iv (mo_C1 J c) q x B c ∧ iv_p (mo_C1 J c) = iv_p J := by
  obtain ⟨R2, j, b, p, u, h129, hR2, hr⟩ := iv_run h hc ho hd
  obtain ⟨g1, g2, g3, g4, g5, g6, g7, g8, g9, g10, g11, g12, g13⟩ := hh
  have hB := h.1.2.2.2.2.2.2
  obtain ⟨a0, a1, a2, a3, a4, a5, a6, a7, a8, a9, a10, a11, a12, a13, a14, a15, a16, a17⟩ := id hr
  have hfit : J 119 o = 2 → bs (J 98 53) q := fun s2 => by
    have hRb : R2 = R := by
      have w := h129.symm.trans hR1
      subst hR
      rw [jx_eqnn (by omega) (by omega)] at w
      exact w
    have w := (g13 R (by omega) hR1).2 hR o ho hd
    refine g11 ?_
    rw [s2] at w
    unfold iv_f at w
    rcases w with w | ⟨-, w⟩ | ⟨w, -⟩ | ⟨-, w⟩
    · omega
    · exact absurd w (by decide)
    · omega
    · exact absurd w (by decide)
  have hfr : ∀ a i, 98 ≤ a → a < 140 → ¬ ((a = 130 ∨ a = 131 ∨ a = 133) ∧ i = c ∨ (a = 136 ∨ a = 137) ∧ 3 * c ≤ i ∧ i < 3 * c + 3) → mo_C1 J c a i = J a i := fun a i _ _ w => mo_C1_o (by omega) (by omega)
  refine ⟨Iv_same h hc h129 hR2 hr hfr (by rw [mo_C1_o (by omega) (by omega)]; exact a11) a12 (by rw [mo_C1_131, g3]; exact bs_or a13 (bs_sh1 g4)) (fun s2 => ?_), ?_⟩
  · obtain ⟨b1, b2, b3, b4⟩ := a17 s2
    rcases @mo_C1_b J c with ⟨w1, w2⟩ | ⟨w0, w1, w2⟩
    · rw [w1, w2]
      exact ⟨b2, b3⟩
    · rw [w1, w2]
      exact ⟨hfit s2, Int32.le_of_lt (Int32.lt_of_le_of_lt b3 w0)⟩
  · have hq : ∀ d, iv_q (mo_C1 J c) d = iv_q J d := fun d => iv_q_eq (mo_C1_o (by omega) (by omega)) (mo_C1_o (by omega) (by omega)) (mo_C1_o (by omega) (by omega)) (fun _ => mo_C1_o (by omega) (by omega))
    unfold iv_p
    rw [hq, hq, hq, hq]
theorem mo_ov_o {J : Nat → Nat → Int32} {c o a j : Nat} {v : Int32} (h : ¬ (a = 98 ∧ (j = 26 ∨ j = 27))) (h2 : ¬ ((a = 123 ∨ a = 124 ∨ a = 126) ∧ j = o)) (h3 : ¬ ((a = 128 ∨ a = 132) ∧ j = c)) : mo_ov J c o v a j = J a j := by
  unfold mo_ov
  rw [jx_u_no (by omega), jx_u_no (by omega), jx_u_no (by omega), jx_u_no (by omega), jx_u_no (by omega), jx_u_no (by omega), jx_u_no (by omega)]
theorem mo_ov_v {J : Nat → Nat → Int32} {c o : Nat} {v : Int32} : mo_ov J c o v 98 27 = J 98 27 + 1 ∧ mo_ov J c o v 123 o = 1 ∧ mo_ov J c o v 126 o = J 98 27 + 1 ∧ mo_ov J c o v 128 c = -1 := by
  refine ⟨?_, ?_, ?_, ?_⟩ <;> (unfold mo_ov; simp (disch := omega) only [jx_u_eq, jx_u_na, jx_u_ni])
/-- an operation ends -/
theorem Iv_ov {J : Nat → Nat → Int32} {q x B e c o : Nat} {v : Int32} (h : Iv J q x B e) (hc : c < 4) (ho : o < B) (hd : J 128 c = nI o) (he : e = c ∨ e = 4) : Iv (mo_ov J c o v) q x B 4 ∧ iv_p (mo_ov J c o v) + 7 ≤ iv_p J := by
  obtain ⟨R, j, b, p, u, h129, hR, hr⟩ := iv_run h hc ho hd
  have hB := h.1.2.2.2.2.2.2
  obtain ⟨a0, a1, a2, a3, a4, -⟩ := id hr
  obtain ⟨v1, v2, v3, v4⟩ := @mo_ov_v J c o v
  have hfr : ∀ a i, 98 ≤ a → a < 140 → ¬ iv_own c o a i → mo_ov J c o v a i = J a i := fun a i _ _ w => mo_ov_o (fun w2 => w (by unfold iv_own; omega)) (fun w2 => w (by unfold iv_own; omega)) (fun w2 => w (iv_own_c (by omega)))
  have f119 : ∀ a i, a = 119 ∨ a = 120 ∨ a = 125 → mo_ov J c o v a i = J a i := fun a i w => mo_ov_o (by omega) (by omega) (by omega)
  have p0 := iv_p_cl h hc ho a2 hfr
  have e0 : iv_q (mo_ov J c o v) c = 0 := by
    unfold iv_q
    rw [if_pos v4]
  have e1 := iv_q_run hr hB
  refine ⟨Iv_cl h hc ho a2 hfr (fun d _ w _ => by omega) (iv_m_to (h.2.1 (7 + c) (by omega)) (fun k _ => mo_ov_o (by omega) (by omega) (by omega))) ⟨R, by rw [mo_ov_o (by omega) (by omega) (by omega), h129], hR, Or.inl v4⟩ (fun k r _ w => ?_) ?_, by omega⟩
  · intro R2 h2 h3
    rw [mo_ov_o (by omega) (by omega) (by omega)] at h3
    obtain ⟨w1, -⟩ := w R2 h2 h3
    refine ⟨w1, fun _ o2 ho2 w2 => ?_⟩
    have w3 := v4.symm.trans w2
    have w4 := jx_m1 (a := o2) (by omega)
    rw [← w3] at w4
    exact absurd rfl (of_eq_false w4)
  · obtain ⟨M, m1, m2, m3⟩ := h.2.2.2.2.1
    have aa := iv_a_one (J := J) (J2 := mo_ov J c o v) hc (fun d _ hdc => iv_a_eq (mo_ov_o (by omega) (by omega) (by omega)))
    have ac : iv_a (mo_ov J c o v) c = 0 := by
      unfold iv_a
      rw [if_pos v4]
    have ac2 : iv_a J c = 1 := by
      unfold iv_a
      rw [if_neg (fun w => by rw [hd, jx_m1 (by omega)] at w; exact w)]
    refine ⟨M + 1, by rw [v1, m1, nI_1], by omega, fun o2 ho2 => ?_⟩
    obtain ⟨c2, f, t, b0, b1, b2, b3, b4, b5, b6, b7, b8, b9⟩ := m3 o2 ho2
    by_cases ho3 : o2 = o
    · subst ho3
      have hcc : c2 = c := by
        have w := b1.symm.trans a2
        rw [jx_eqnn (by omega) (by omega)] at w
        exact w
      refine ⟨c2, f, M + 1, by rw [f119 _ _ (by omega)]; exact b0, by rw [f119 _ _ (by omega), b1], b2, by rw [f119 _ _ (by omega), b3], by rw [v3, m1, nI_1], b5, by omega, by omega, Or.inl ⟨v2, by omega⟩, fun o4 q1 q2 => ?_⟩
      rw [f119 _ _ (by omega)] at q2
      rw [mo_ov_o (by omega) (by omega) (by omega), mo_ov_o (by omega) (by omega) (by omega)]
      exact b9 o4 q1 q2
    · refine ⟨c2, f, t, by rw [f119 _ _ (by omega)]; exact b0, by rw [f119 _ _ (by omega), b1], b2, by rw [f119 _ _ (by omega), b3], by rw [mo_ov_o (by omega) (by omega) (by omega), b4], b5, by omega, by omega, ?_, fun o4 q1 q2 => ?_⟩
      · rw [mo_ov_o (a := 123) (by omega) (by omega) (by omega)]
        rcases b8 with w | ⟨w1, w2, w3⟩
        · exact Or.inl w
        · refine Or.inr ⟨w1, w2, ?_⟩
          by_cases hcc : c2 = c
          · subst hcc
            have w := w3.symm.trans hd
            rw [jx_eqnn (by omega) (by omega)] at w
            exact absurd w ho3
          · rw [mo_ov_o (by omega) (by omega) (by omega), w3]
      · rw [f119 _ _ (by omega)] at q2
        obtain ⟨t2, w1, w2, w3⟩ := b9 o4 q1 q2
        have : o4 ≠ o := fun w => by
          subst w
          rw [a3] at w2
          exact absurd w2 (by decide)
        rw [mo_ov_o (by omega) (by omega) (by omega), mo_ov_o (by omega) (by omega) (by omega)]
        exact ⟨t2, w1, w2, w3⟩
theorem br_o {J : Nat → Nat → Int32} {c a j : Nat} {p : Int32} (h : ¬ ((a = 129 ∨ a = 130 ∨ a = 131 ∨ a = 132) ∧ j = c)) : mo_br J c p a j = J a j := by
  unfold mo_br
  rw [jx_u_no (by omega), jx_u_no (by omega), jx_u_no (by omega), jx_u_no (by omega)]
theorem br_v {J : Nat → Nat → Int32} {c : Nat} {p : Int32} : mo_br J c p 129 c = J 129 c + 1 ∧ mo_br J c p 130 c = 0 ∧ mo_br J c p 131 c = 0 ∧ mo_br J c p 132 c = p := by
  refine ⟨?_, ?_, ?_, ?_⟩ <;> (unfold mo_br; simp (disch := omega) only [jx_u_eq, jx_u_na])
theorem pcn_0 : pcn 0 = 0 := by decide
/-- a round begins -/
theorem Iv_br {J : Nat → Nat → Int32} {q x B e c o j b p u R p2 : Nat} (h : Iv J q x B e) (hc : c < 4) (h129 : J 129 c = nI R) (hr : iv_r J q B c e o j b p u R) (hp2 : p2 = 1 ∨ p2 = 2) (hR2 : R + 19 ≤ 18 * B + 2 * b + p2) : Iv (mo_br J c (nI p2)) q x B e ∧ iv_r (mo_br J c (nI p2)) q B c e o j b p2 0 (R + 1) ∧ iv_p (mo_br J c (nI p2)) + iv_q J c = iv_p J + (7 + (if p2 = 1 then 7 else 0) + 14 * (8 - b) + 7) := by
  have hB := h.1.2.2.2.2.2.2
  obtain ⟨a0, a1, a2, a3, a4, a5, a6, a7, a8, a9, a10, a11, a12, a13, a14, a15, a16, a17⟩ := id hr
  obtain ⟨v1, v2, v3, v4⟩ := @br_v J c (nI p2)
  have hfr : ∀ a i, 98 ≤ a → a < 140 → ¬ iv_own c o a i → mo_br J c (nI p2) a i = J a i := fun a i _ _ w => br_o (fun w2 => w (iv_own_c (by omega)))
  have f : ∀ a i, ¬ (129 ≤ a ∧ a ≤ 132) → mo_br J c (nI p2) a i = J a i := fun a i w => br_o (by omega)
  have hr2 : iv_r (mo_br J c (nI p2)) q B c e o j b p2 0 (R + 1) := by
    refine ⟨a0, ?_⟩
    rw [f 128 _ (by omega), f 120 _ (by omega), f 123 _ (by omega), f 126 _ (by omega), f 119 _ (by omega), v4, f 127 _ (by omega), v2, v3, f 121 _ (by omega), f 134 _ (by omega), f 135 _ (by omega), f 137 _ (by omega), f 136 _ (by omega), f 99 _ (by omega), f 99 _ (by omega)]
    exact ⟨a1, a2, a3, a4, a5, rfl, hp2, a8, a9, by omega, rfl, by omega, bs_0, a14, a15, a16, a17⟩
  refine ⟨Iv_cl h hc a0 a2 hfr (fun _ _ _ w => w) (iv_m_to (h.2.1 (7 + c) (by omega)) (fun k _ => f _ _ (by omega))) ⟨R + 1, by rw [v1, h129, nI_1], by omega, Or.inr ⟨o, j, b, p2, 0, hr2⟩⟩ (fun k r hr9 w => ?_) (iv_l_to h.2.2.2.2.1 (f _ _ (by omega)) (fun a i _ w => f _ _ (by omega)) (fun d _ => f _ _ (by omega))), hr2, ?_⟩
  · obtain ⟨w1, -⟩ := w R (by omega) h129
    intro R3 h2 h3
    rw [v1, h129, nI_1, jx_eqnn (by omega) (by omega)] at h3
    exact ⟨by omega, fun w => by omega⟩
  · have w := iv_p_cl h hc a0 a2 hfr
    rw [iv_q_run hr2 hB, pcn_0] at w
    omega
