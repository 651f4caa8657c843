theorem tb_bit : ∀ s, s < 7 → ∀ u, u < 128 → ((nI u >>> (nI s &&& 31) &&& 1 = 0) ↔ u.testBit s = false) := by decide +kernel
theorem am_bits : ∀ u, u < 128 → ∀ v, v < 128 → nI v &&& (nI u ^^^ -1) = nI (v &&& (127 ^^^ u)) ∧ nI u ||| nI (v &&& (127 ^^^ u)) = nI (u ||| v) ∧ v &&& (127 ^^^ u) < 128 ∧ u ||| v < 128 ∧ pcn (u ||| v) = pcn u + pcn (v &&& (127 ^^^ u)) ∧ pcn (u ||| v) ≤ 7 := by decide +kernel
/-- bits of m below k -/
def pck (m : Nat) : Nat → Nat
  | 0 => 0
  | k + 1 => pck m k + (m.testBit k).toNat
theorem pck_7 (m : Nat) : pck m 7 = pcn m := by
  simp only [pck, pcn, Nat.zero_add]
theorem pck_le (m : Nat) : ∀ k, pck m k ≤ k
  | 0 => Nat.le_refl _
  | k + 1 => by
    have := pck_le m k
    have : (m.testBit k).toNat ≤ 1 := Bool.toNat_le _
    show pck m k + _ ≤ k + 1
    omega
theorem fi_o {J Z : Nat → Nat → Int32} {c o x a j : Nat} (h : ¬ ((a = 111 ∨ a = 112 ∨ a = 113 ∨ a = 114 ∨ a = 115 ∨ a = 116) ∧ j = x)) : mo_fi J Z c o x a j = Z a j := by
  unfold mo_fi
  repeat' split
  all_goals (first | rfl | (repeat rw [jx_u_no (by omega)]))
theorem kd_v {J : Nat → Nat → Int32} {c o p : Nat} (hs : J 119 o = 0 ∨ J 119 o = 1 ∨ J 119 o = 2 ∨ J 119 o = 3) (hp : J 132 c = nI p) (hp2 : p = 1 ∨ p = 2) : ∃ k, mo_kd J c o = nI k ∧ k ≤ 5 ∧ iv_f k (J 119 o) ∧ ((k = 0 ∨ k = 1) → J 119 o = 0 ∨ J 119 o = 1) ∧ ((k = 2 ∨ k = 3) → J 119 o = 2) ∧ (k = 3 → p = 2) := by
  unfold mo_kd
  have e1 : (J 132 c = 1) = (p = 1) := by
    rw [hp]
    exact jx_eqnl (by omega) (by decide)
  simp only [e1]
  by_cases h01 : J 119 o = 0 ∨ J 119 o = 1
  · rw [if_pos h01]
    by_cases hp1 : p = 1
    · rw [if_pos hp1]
      exact ⟨0, rfl, by omega, Or.inr (Or.inl ⟨by omega, h01⟩), fun _ => h01, fun w => by omega, fun w => by omega⟩
    · rw [if_neg hp1]
      exact ⟨1, rfl, by omega, Or.inr (Or.inl ⟨by omega, h01⟩), fun _ => h01, fun w => by omega, fun w => by omega⟩
  · rw [if_neg h01]
    by_cases h2 : J 119 o = 2
    · rw [if_pos h2]
      by_cases hp1 : p = 1
      · rw [if_pos hp1]
        exact ⟨2, rfl, by omega, Or.inr (Or.inr (Or.inl ⟨by omega, h2⟩)), fun w => by omega, fun _ => h2, fun w => by omega⟩
      · rw [if_neg hp1]
        exact ⟨3, rfl, by omega, Or.inr (Or.inr (Or.inl ⟨by omega, h2⟩)), fun w => by omega, fun _ => h2, fun w => by omega⟩
    · rw [if_neg h2]
      have h3 : J 119 o = 3 := by
        rcases hs with w | w | w | w
        · exact absurd (Or.inl w) h01
        · exact absurd (Or.inr w) h01
        · exact absurd w h2
        · exact w
      by_cases hp1 : p = 1
      · rw [if_pos hp1]
        exact ⟨4, rfl, by omega, Or.inr (Or.inr (Or.inr ⟨by omega, h3⟩)), fun w => by omega, fun w => by omega, fun w => by omega⟩
      · rw [if_neg hp1]
        exact ⟨5, rfl, by omega, Or.inr (Or.inr (Or.inr ⟨by omega, h3⟩)), fun w => by omega, fun w => by omega, fun w => by omega⟩
theorem of_bs {J : Nat → Nat → Int32} {q c o : Nat} (h1 : bs (J 121 o) q) (h2 : bs (J 137 (3 * c)) q) : bs (mo_of J c o) q := by
  unfold mo_of
  split
  · exact h1
  · exact h2
theorem iv_r_F {J J2 : Nat → Nat → Int32} {q B c e o j b p u R : Nat} (hr : iv_r J q B c e o j b p u R) (hF : ∀ a i, 99 ≤ a → a < 140 → ¬ (106 ≤ a ∧ a ≤ 118) → J2 a i = J a i) : iv_r J2 q B c e o j b p u R := by
  obtain ⟨a0, hr2⟩ := hr
  refine ⟨a0, ?_⟩
  rw [hF 128 _ (by omega) (by omega) (by omega), hF 120 _ (by omega) (by omega) (by omega), hF 123 _ (by omega) (by omega) (by omega), hF 126 _ (by omega) (by omega) (by omega), hF 119 _ (by omega) (by omega) (by omega), hF 132 _ (by omega) (by omega) (by omega), hF 127 _ (by omega) (by omega) (by omega), hF 130 _ (by omega) (by omega) (by omega), hF 131 _ (by omega) (by omega) (by omega), hF 121 _ (by omega) (by omega) (by omega), hF 134 _ (by omega) (by omega) (by omega), hF 135 _ (by omega) (by omega) (by omega), hF 137 _ (by omega) (by omega) (by omega), hF 136 _ (by omega) (by omega) (by omega), hF 99 _ (by omega) (by omega) (by omega), hF 99 _ (by omega) (by omega) (by omega)]
  exact hr2
/-- a server is asked -/
theorem Iv_a1 {J : Nat → Nat → Int32} {q x B e c o j b p u R s : Nat} (h : Iv J q x B e) (hc : c < 4) (h129 : J 129 c = nI R) (hR : R ≤ 18 * B) (hr : iv_r J q B c e o j b p u R) (hs : s < 7) (hx : x < 20000) : Iv (mo_fi J (mo_ly J x (mo_kd J c o) (nI s) (nI c) (J 129 c) (mo_sb J c o) (7 + c)) c o x) q (x + 1) B e ∧ iv_p (mo_fi J (mo_ly J x (mo_kd J c o) (nI s) (nI c) (J 129 c) (mo_sb J c o) (7 + c)) c o x) = iv_p J := by
  have hB := h.1.2.2.2.2.2.2
  obtain ⟨a0, a1, a2, a3, a4, a5, a6, a7, a8, a9, a10, a11, a12, a13, a14, a15, a16, a17⟩ := id hr
  obtain ⟨k, k1, k2, k3, k4, k5, k6⟩ := kd_v a5 a6 a7
  obtain ⟨z1, z2, z3, z4, z5⟩ := @mo_fi_fr J x s c (7 + c) o (mo_kd J c o) (J 129 c) (mo_sb J c o)
  obtain ⟨v1, v2, v3, v4, v5, v6, v7⟩ := @ly_v J x (7 + c) (mo_kd J c o) (nI s) (nI c) (J 129 c) (mo_sb J c o)
  generalize hZ : mo_fi J (mo_ly J x (mo_kd J c o) (nI s) (nI c) (J 129 c) (mo_sb J c o) (7 + c)) c o x = Z at z1 z2 z3 z4 z5 ⊢
  have fz : ∀ a i, ¬ ((a = 111 ∨ a = 112 ∨ a = 113 ∨ a = 114 ∨ a = 115 ∨ a = 116) ∧ i = x) → Z a i = mo_ly J x (mo_kd J c o) (nI s) (nI c) (J 129 c) (mo_sb J c o) (7 + c) a i := fun a i w => by
    rw [← hZ]
    exact fi_o w
  have hF2 : ∀ a j, 99 ≤ a → a < 140 → ¬ (106 ≤ a ∧ a ≤ 118) → Z a j = J a j := fun a j h1 h2 h3 => z5 a j (by omega) h2 h3 (by omega)
  have sb01 : J 119 o = 0 ∨ J 119 o = 1 → mo_sb J c o = J 121 o := fun w => if_pos w
  have sb2 : J 119 o = 2 ∨ J 119 o = 3 → mo_sb J c o = J 134 c := fun w => if_neg (fun w2 => by
    rcases w with w | w <;> rcases w2 with w2 | w2 <;> (rw [w] at w2; exact absurd w2 (by decide)))
  refine Iv_ly h z5 z1 z3 z4 ⟨k, s, c, R, by rw [fz _ _ (by omega), v1, k1], by omega, by rw [fz _ _ (by omega), v2], hs, by rw [fz _ _ (by omega), v3], hc, by rw [fz _ _ (by omega), v4, h129], by omega, fun w => ?_, fun w => ?_, fun w => ?_, fun w => ?_, ?_, ?_⟩ (fun i => ?_)
  · rw [fz _ _ (by omega), v5, sb01 (k4 (by omega))]
    exact a14 (k4 (by omega))
  · rw [fz _ _ (by omega), v5, sb2 (Or.inl (k5 w))]
    obtain ⟨b1, b2, -⟩ := a15 (Or.inl (k5 w))
    exact ⟨j, b1, b2⟩
  · have k33 : k = 3 := by omega
    have s2 := k5 (by omega)
    have p2 : J 132 c = 2 := by
      rw [a6, k6 k33]
      rfl
    obtain ⟨b1, b2, -⟩ := a17 s2
    have : Z 112 x = mo_of J c o := by
      rw [← hZ]
      unfold mo_fi
      rw [if_neg (fun w => by rw [s2] at w; exact absurd w (by decide)), if_pos s2, if_pos p2, jx_u_eq]
    rw [this]
    exact of_bs b1 b2
  · rw [fz _ _ (by omega), v7] at w
    exact absurd rfl w
  · exact iv_m_to (h.2.1 (7 + c) (by omega)) (fun m hm => by rw [fz _ _ (by omega), ly_m hm])
  · intro R3 h2 h3
    rw [hF2 _ _ (by omega) (by omega) (by omega), h129, jx_eqnn (by omega) (by omega)] at h3
    refine ⟨by omega, fun _ o2 ho2 d => ?_⟩
    rw [hF2 _ _ (by omega) (by omega) (by omega), a1, jx_eqnn (by omega) (by omega)] at d
    subst d
    rw [hF2 _ _ (by omega) (by omega) (by omega)]
    exact k3
  · rw [fz _ _ (by omega)]
    exact ly_b
theorem Iv_ak {J : Nat → Nat → Int32} {q x B e c o j b p u R m : Nat} (h : Iv J q x B e) (hc : c < 4) (h129 : J 129 c = nI R) (hR : R ≤ 18 * B) (hr : iv_r J q B c e o j b p u R) (hm : m < 128) (hx : x + 10 < 20000) : ∀ k, k ≤ 7 → Iv (mo_ak J c o (nI m) k) q (x + pck m k) B e ∧ iv_p (mo_ak J c o (nI m) k) = iv_p J ∧ (∀ a i, 99 ≤ a → a < 140 → ¬ (106 ≤ a ∧ a ≤ 118) → mo_ak J c o (nI m) k a i = J a i)
  | 0, _ => ⟨h, rfl, fun _ _ _ _ _ => rfl⟩
  | k + 1, hk => by
    obtain ⟨i1, i2, i3⟩ := Iv_ak h hc h129 hR hr hm hx k (by omega)
    show Iv (mo_a1 (mo_ak J c o (nI m) k) c o (nI m) k) q (x + (pck m k + (m.testBit k).toNat)) B e ∧ iv_p (mo_a1 (mo_ak J c o (nI m) k) c o (nI m) k) = _ ∧ ∀ a i, 99 ≤ a → a < 140 → ¬ (106 ≤ a ∧ a ≤ 118) → mo_a1 (mo_ak J c o (nI m) k) c o (nI m) k a i = J a i
    unfold mo_a1
    have hb := tb_bit k (by omega) m hm
    have hle := pck_le m k
    by_cases hz : nI m >>> (nI k &&& 31) &&& 1 = 0
    · rw [if_pos hz, hb.mp hz]
      exact ⟨i1, i2, i3⟩
    · rw [if_neg hz]
      have ht : m.testBit k = true := by
        cases w : m.testBit k
        · exact absurd (hb.mpr w) hz
        · rfl
      have hx9 : mo_ak J c o (nI m) k 98 9 = nI (x + pck m k) := i1.1.2.2.2.2.1
      rw [ht, hx9, jx_xn (by omega)]
      have hr2 := iv_r_F hr i3
      have h129b : mo_ak J c o (nI m) k 129 c = nI R := by rw [i3 _ _ (by omega) (by omega) (by omega), h129]
      obtain ⟨w1, w2⟩ := Iv_a1 i1 hc h129b hR hr2 (s := k) (by omega) (by omega)
      refine ⟨w1, w2.trans i2, fun a i q1 q2 q3 => ?_⟩
      rw [← i3 a i q1 q2 q3]
      exact (@mo_fi_fr (mo_ak J c o (nI m) k) (x + pck m k) k c (7 + c) o (mo_kd (mo_ak J c o (nI m) k) c o) (mo_ak J c o (nI m) k 129 c) (mo_sb (mo_ak J c o (nI m) k) c o)).2.2.2.2 a i (by omega) q2 q3 (by omega)
theorem al_bs {J : Nat → Nat → Int32} {q c : Nat} (hq : q ≤ 7) (h : ∀ k, k < 6 → mp (J 99 (6 * (7 + c) + k)) q) : bs (mo_al J c) q := by
  rw [← sm_al_mo]
  exact sm_al_bs hq 6 h
theorem bs_7 {v : Int32} {q : Nat} (hq : q ≤ 7) (h : bs v q) : ∃ u, u < 128 ∧ v = nI u := by
  obtain ⟨u, h1, h2⟩ := h
  have : 2 ^ q ≤ 2 ^ 7 := Nat.pow_le_pow_right (by decide) hq
  exact ⟨u, by omega, h2⟩
theorem W_bs {J : Nat → Nat → Int32} {q x B e c o j b p u R : Nat} (h : Iv J q x B e) (hc : c < 4) (hr : iv_r J q B c e o j b p u R) : bs (mo_W J c o) q := by
  obtain ⟨a0, a1, a2, a3, a4, a5, a6, a7, a8, a9, a10, a11, a12, a13, a14, a15, a16, a17⟩ := id hr
  have hq := h.1.2.2.2.1
  have hm := (h.2.1 (7 + c) (by omega)).1
  unfold mo_W
  by_cases h01 : J 119 o = 0 ∨ J 119 o = 1
  · rw [if_pos h01]
    exact al_bs hq hm
  · rw [if_neg h01]
    by_cases h3 : J 119 o = 3 ∧ J 132 c = 2
    · rw [if_pos h3]
      exact (a16 h3.1).2.1
    · rw [if_neg h3]
      split
      · exact bs_0
      · rename_i hw
        have h23 : J 119 o = 2 ∨ J 119 o = 3 := by
          rcases a5 with w | w | w | w
          · exact absurd (Or.inl w) h01
          · exact absurd (Or.inr w) h01
          · exact Or.inl w
          · exact Or.inr w
        obtain ⟨b1, b2, -⟩ := a15 h23
        rw [b2, jx_xn (by omega)] at hw ⊢
        exact mp_ne hq (hm j (by omega)) hw
/-- more servers are asked -/
theorem Iv_BA {J : Nat → Nat → Int32} {q x B e c o j b p u R : Nat} (h : Iv J q x B e) (hc : c < 4) (h129 : J 129 c = nI R) (hR : R ≤ 18 * B) (hr : iv_r J q B c e o j b p u R) (hx : x + 10 < 20000) : ∃ x2 u2, Iv (mo_BA J c o) q x2 B e ∧ x2 + iv_p (mo_BA J c o) = x + iv_p J ∧ x2 ≤ x + 7 ∧ iv_r (mo_BA J c o) q B c e o j b p u2 R ∧ mo_BA J c o 129 c = nI R ∧ (∀ a i, 99 ≤ a → a < 140 → ¬ (106 ≤ a ∧ a ≤ 118) → ¬ (a = 130 ∧ i = c) → mo_BA J c o a i = J a i) := by
  have hq := h.1.2.2.2.1
  have hB := h.1.2.2.2.2.2.2
  obtain ⟨a0, a1, a2, a3, a4, a5, a6, a7, a8, a9, a10, a11, a12, a13, a14, a15, a16, a17⟩ := id hr
  obtain ⟨v, hv, ev⟩ := bs_7 hq (W_bs h hc hr)
  obtain ⟨m1, m2, m3, m4, m5, m6⟩ := am_bits u a12 v hv
  have e1 : mo_W J c o &&& (J 130 c ^^^ -1) = nI (v &&& (127 ^^^ u)) := by rw [ev, a11, m1]
  have e2 : J 130 c ||| (mo_W J c o &&& (J 130 c ^^^ -1)) = nI (u ||| v) := by rw [e1, a11, m2]
  unfold mo_BA mo_am
  rw [e2, e1]
  obtain ⟨i1, i2, i3⟩ := Iv_ak h hc h129 hR hr m3 hx 7 (by omega)
  rw [pck_7] at i1
  have hle : pcn (v &&& (127 ^^^ u)) ≤ 7 := by
    rw [← pck_7]
    exact pck_le _ _
  generalize mo_ak J c o (nI (v &&& (127 ^^^ u))) 7 = Z at i1 i2 i3 ⊢
  have hr2 := iv_r_F hr i3
  have z129 : Z 129 c = nI R := by rw [i3 _ _ (by omega) (by omega) (by omega), h129]
  have hI : Iv (jx_u Z 130 c (nI (u ||| v))) q (x + pcn (v &&& (127 ^^^ u))) B e := by
    refine Iv_same i1 hc z129 hR hr2 (fun a i _ _ w => jx_u_no (by omega)) (jx_u_eq _ _ _ _) m4 ?_ (fun s2 => ?_)
    · rw [jx_u_na (by omega), i3 _ _ (by omega) (by omega) (by omega)]
      exact a13
    · rw [jx_u_na (by omega), jx_u_na (by omega), i3 _ _ (by omega) (by omega) (by omega), i3 _ _ (by omega) (by omega) (by omega)]
      rw [i3 _ _ (by omega) (by omega) (by omega)] at s2
      exact ⟨(a17 s2).2.1, (a17 s2).2.2.1⟩
  have hr3 : iv_r (jx_u Z 130 c (nI (u ||| v))) q B c e o j b p (u ||| v) R := by
    obtain ⟨b0, b1, b2, b3, b4, b5, b6, b7, b8, b9, b10, b11, b12, b13⟩ := hr2
    refine ⟨b0, ?_⟩
    rw [jx_u_eq]
    simp (disch := omega) only [jx_u_na]
    exact ⟨b1, b2, b3, b4, b5, b6, b7, b8, b9, b10, trivial, m4, b13⟩
  refine ⟨_, _, hI, ?_, by omega, hr3, by rw [jx_u_na (by omega), z129], fun a i q1 q2 q3 q4 => by rw [jx_u_no q4, i3 a i q1 q2 q3]⟩
  have w := iv_p_cl (J2 := jx_u Z 130 c (nI (u ||| v))) i1 hc a0 hr2.2.2.1 (fun a i _ _ w => jx_u_no (fun w2 => w (iv_own_c (by omega))))
  rw [iv_q_run hr3 hB, iv_q_run hr2 hB] at w
  omega
