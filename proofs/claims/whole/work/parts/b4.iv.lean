theorem Iv_rest {J : Nat → Nat → Int32} {q x B c : Nat} (h : Iv J q x B c) (hc : c < 4) (hrest : ∀ o, o < B → J 128 c = nI o → ∀ j, j < 5 → J 134 c = nI j → (J 119 o = 2 ∨ J 119 o = 3 → J 99 (6 * (7 + c) + j) ≠ -1) ∧ (J 119 o = 2 → J 99 (6 * (7 + c) + (j + 1)) = 0)) : Iv J q x B 4 := by
  obtain ⟨a, b, g, cl, l, v, bb⟩ := h
  refine ⟨a, b, g, fun d hd => ?_, l, v, bb⟩
  by_cases hdc : d = c
  · subst hdc
    obtain ⟨R, h1, h2, h3⟩ := cl d hd
    refine ⟨R, h1, h2, ?_⟩
    rcases h3 with h3 | ⟨o, j, b, p, u, a0, a1, a2, a3, a4, a5, a6, a7, a8, a9, a10, a11, a12, a13, a14, a15, a16, a17⟩
    · exact Or.inl h3
    · refine Or.inr ⟨o, j, b, p, u, a0, a1, a2, a3, a4, a5, a6, a7, a8, a9, a10, a11, a12, a13, a14, fun s => ?_, a16, fun s => ?_⟩
      · obtain ⟨b1, b2, b3, b4⟩ := a15 s
        exact ⟨b1, b2, b3, fun _ => (hrest o a0 a1 j b1 b2).1 s⟩
      · obtain ⟨b1, b2, b3, b4⟩ := a17 s
        obtain ⟨c1, c2, -⟩ := a15 (Or.inl s)
        exact ⟨b1, b2, b3, fun _ => (hrest o a0 a1 j c1 c2).2 s⟩
  · exact iv_c_to (cl d hd) (fun _ => hdc) (fun _ _ => rfl) (fun _ _ _ => rfl) ⟨rfl, rfl⟩ (fun _ _ _ _ _ _ _ => rfl)
theorem fb_o {J : Nat → Nat → Int32} {c a j : Nat} (h : ¬ ((a = 136 ∨ a = 137) ∧ 3 * c ≤ j ∧ j < 3 * c + 3)) : mo_fb J c a j = J a j := by
  unfold mo_fb
  rw [jx_u_no (by omega), jx_u_no (by omega), jx_u_no (by omega), jx_u_no (by omega), jx_u_no (by omega), jx_u_no (by omega)]
theorem fb_z {J : Nat → Nat → Int32} {c : Nat} : mo_fb J c 136 (3 * c) = 0 ∧ mo_fb J c 137 (3 * c) = 0 := by
  constructor <;> (unfold mo_fb; simp (disch := omega) only [Nat.add_zero, jx_u_eq, jx_u_na, jx_u_ni])
theorem rt_o {J : Nat → Nat → Int32} {c o a j : Nat} (h : ¬ ((a = 136 ∨ a = 137) ∧ 3 * c ≤ j ∧ j < 3 * c + 3)) (h2 : ¬ (a = 133 ∧ j = c)) (h3 : ¬ (a = 127 ∧ j = o)) : mo_rt J c o a j = J a j := by
  unfold mo_rt mo_bu
  rw [fb_o h, jx_u_no h2, jx_u_no h3]
/-- a bad answer -/
theorem Iv_rt {J : Nat → Nat → Int32} {q x B e c o j b p u R : Nat} (h : Iv J q x B e) (hc : c < 4) (h129 : J 129 c = nI R) (hR : R ≤ 18 * B) (hr : iv_r J q B c e o j b p u R) (hb : b ≤ 7) : Iv (mo_rt J c o) q x B e ∧ iv_r (mo_rt J c o) q B c e o j (b + 1) p u R ∧ iv_p (mo_rt J c o) + 14 = iv_p J ∧ mo_rt J c o 129 c = nI R := by
  have hB := h.1.2.2.2.2.2.2
  obtain ⟨a0, a1, a2, a3, a4, a5, a6, a7, a8, a9, a10, a11, a12, a13, a14, a15, a16, a17⟩ := id hr
  have f : ∀ a i, ¬ (a = 136 ∨ a = 137 ∨ a = 133 ∨ a = 127) → mo_rt J c o a i = J a i := fun a i w => rt_o (by omega) (by omega) (by omega)
  have f127 : mo_rt J c o 127 o = nI (b + 1) := by
    unfold mo_rt mo_bu
    rw [fb_o (by omega), jx_u_na (by omega), jx_u_eq, a8, nI_1]
  have hr2 : iv_r (mo_rt J c o) q B c e o j (b + 1) p u R := by
    refine ⟨a0, ?_⟩
    rw [f 128 _ (by omega), f 120 _ (by omega), f 123 _ (by omega), f 126 _ (by omega), f 119 _ (by omega), f 132 _ (by omega), f127, f 130 _ (by omega), f 131 _ (by omega), f 121 _ (by omega), f 134 _ (by omega), f 135 _ (by omega), f 99 _ (by omega), f 99 _ (by omega), show mo_rt J c o 137 (3 * c) = 0 from fb_z.2, show mo_rt J c o 136 (3 * c) = 0 from fb_z.1]
    exact ⟨a1, a2, a3, a4, a5, a6, a7, rfl, by omega, by omega, a11, a12, a13, a14, a15, a16, fun s => ⟨(a17 s).1, bs_0, by decide, (a17 s).2.2.2⟩⟩
  have hfr : ∀ a i, 98 ≤ a → a < 140 → ¬ iv_own c o a i → mo_rt J c o a i = J a i := fun a i _ _ w => rt_o (fun w2 => w (iv_own_c (by omega))) (fun w2 => w (iv_own_c (by omega))) (fun w2 => w (by unfold iv_own; omega))
  refine ⟨Iv_cl h hc a0 a2 hfr (fun _ _ _ w => w) (iv_m_to (h.2.1 (7 + c) (by omega)) (fun k _ => f _ _ (by omega))) ⟨R, by rw [f _ _ (by omega), h129], hR, Or.inr ⟨o, j, b + 1, p, u, hr2⟩⟩ (fun k r _ w => iv_t_to w (f _ _ (by omega)) (f _ _ (by omega)) (fun _ _ => f _ _ (by omega))) (iv_l_to h.2.2.2.2.1 (f _ _ (by omega)) (fun a i _ w => f _ _ (by omega)) (fun d _ => f _ _ (by omega))), hr2, ?_, by rw [f _ _ (by omega), h129]⟩
  have w := iv_p_cl h hc a0 a2 hfr
  rw [iv_q_run hr2 hB, iv_q_run hr hB] at w
  omega
theorem wb_o {J : Nat → Nat → Int32} {c o a j : Nat} (h : ¬ ((a = 136 ∨ a = 137) ∧ j = 3 * c)) : mo_wb J c o a j = J a j := by
  unfold mo_wb
  rw [jx_u_no (by omega), jx_u_no (by omega)]
theorem Iv_wb {J : Nat → Nat → Int32} {q x B e c o j b p u R : Nat} (h : Iv J q x B e) (hc : c < 4) (h129 : J 129 c = nI R) (hR : R ≤ 18 * B) (hr : iv_r J q B c e o j b p u R) (hs : J 119 o = 1) : Iv (mo_wb J c o) q x B e ∧ iv_r (mo_wb J c o) q B c e o j b p u R ∧ iv_p (mo_wb J c o) = iv_p J ∧ mo_wb J c o 129 c = nI R := by
  have hB := h.1.2.2.2.2.2.2
  obtain ⟨a0, a1, a2, a3, a4, a5, a6, a7, a8, a9, a10, a11, a12, a13, a14, a15, a16, a17⟩ := id hr
  have f : ∀ a i, ¬ (a = 136 ∨ a = 137) → mo_wb J c o a i = J a i := fun a i w => wb_o (by omega)
  have n2 : J 119 o ≠ 2 := fun w => by
    rw [hs] at w
    exact absurd w (by decide)
  have hr2 : iv_r (mo_wb J c o) q B c e o j b p u R := by
    refine ⟨a0, ?_⟩
    rw [f 128 _ (by omega), f 120 _ (by omega), f 123 _ (by omega), f 126 _ (by omega), f 119 _ (by omega), f 132 _ (by omega), f 127 _ (by omega), f 130 _ (by omega), f 131 _ (by omega), f 121 _ (by omega), f 134 _ (by omega), f 135 _ (by omega), f 99 _ (by omega), f 99 _ (by omega)]
    exact ⟨a1, a2, a3, a4, a5, a6, a7, a8, a9, a10, a11, a12, a13, a14, a15, a16, fun s => absurd s n2⟩
  refine ⟨Iv_same h hc h129 hR hr (fun a i _ _ w => wb_o (by omega)) (by rw [f _ _ (by omega)]; exact a11) a12 (by rw [f _ _ (by omega)]; exact a13) (fun s => absurd s n2), hr2, ?_, by rw [f _ _ (by omega), h129]⟩
  have hq : ∀ d, iv_q (mo_wb J c o) d = iv_q J d := fun d => iv_q_eq (f _ _ (by omega)) (f _ _ (by omega)) (f _ _ (by omega)) (fun _ => f _ _ (by omega))
  unfold iv_p
  rw [hq, hq, hq, hq]
theorem Iv_nk {J : Nat → Nat → Int32} {q x B e c : Nat} {y : Int32} (h : Iv J q x B e) (hc : c < 4) (hx : x + 10 < 20000) : ∀ k, k ≤ 7 → ∃ x2, x2 ≤ x + k ∧ Iv (mo_nk J c y k) q x2 B e ∧ iv_p (mo_nk J c y k) = iv_p J ∧ (∀ a i, 99 ≤ a → a < 140 → ¬ (106 ≤ a ∧ a ≤ 118) → mo_nk J c y k a i = J a i)
  | 0, _ => ⟨x, by omega, h, rfl, fun _ _ _ _ _ => rfl⟩
  | k + 1, hk => by
    obtain ⟨x2, i0, i1, i2, i3⟩ := Iv_nk (y := y) h hc hx k (by omega)
    show ∃ x2, x2 ≤ x + (k + 1) ∧ Iv (mo_n1 (mo_nk J c y k) c y k) q x2 B e ∧ iv_p (mo_n1 (mo_nk J c y k) c y k) = iv_p J ∧ ∀ a i, 99 ≤ a → a < 140 → ¬ (106 ≤ a ∧ a ≤ 118) → mo_n1 (mo_nk J c y k) c y k a i = J a i
    unfold mo_n1
    split
    · have hx9 : mo_nk J c y k 98 9 = nI x2 := i1.1.2.2.2.2.1
      rw [hx9, jx_xn (by omega)]
      generalize mo_nk J c y k = Y at i1 i2 i3 ⊢
      obtain ⟨v1, v2, v3, v4, v5, v6, v7⟩ := @ly_v Y x2 (7 + c) 6 (nI k) (nI c) 0 0
      have hF2 : ∀ a j, 99 ≤ a → a < 140 → ¬ (106 ≤ a ∧ a ≤ 118) → mo_ly Y x2 6 (nI k) (nI c) 0 0 (7 + c) a j = Y a j := fun a j h1 h2 h3 => mo_ly_F a j (by omega) h2 h3 (by omega)
      obtain ⟨w1, w2⟩ := Iv_ly (J2 := mo_ly Y x2 6 (nI k) (nI c) 0 0 (7 + c)) i1 mo_ly_F mo_ly_many (fun a i h1 h2 h3 => mo_ly_lt h1 h2 h3) (fun i h1 => mo_ly_m h1) ⟨6, k, c, 0, v1, by omega, v2, by omega, v3, hc, v4, by omega, fun w => by omega, fun w => by omega, fun w => by omega, fun w => absurd v7 w, iv_m_to (i1.2.1 (7 + c) (by omega)) (fun m hm => ly_m hm), fun R _ _ => ⟨by omega, fun _ _ _ _ => Or.inl rfl⟩⟩ (fun i => ly_b)
      exact ⟨x2 + 1, by omega, w1, w2.trans i2, fun a i q1 q2 q3 => by rw [hF2 a i q1 q2 q3, i3 a i q1 q2 q3]⟩
    · exact ⟨x2, by omega, i1, i2, i3⟩
/-- client c learns one entry of its map itself -/
theorem Iv_mp {J : Nat → Nat → Int32} {q x B e c o j b p u R k : Nat} {v : Int32} (h : Iv J q x B e) (hc : c < 4) (he : e = c ∨ e = 4) (h129 : J 129 c = nI R) (hR : R ≤ 18 * B) (hr : iv_r J q B c e o j b p u R) (hk : k < 6) (hm : iv_m (fun m => if m = k then v else J 99 (6 * (7 + c) + m)) q) (hz : v ≠ 0 ∨ J 119 o = 2 ∧ k = j + 1) : Iv (jx_u J 99 (6 * (7 + c) + k) v) q x B c ∧ iv_p (jx_u J 99 (6 * (7 + c) + k) v) = iv_p J := by
  have hB := h.1.2.2.2.2.2.2
  obtain ⟨a0, a1, a2, a3, a4, a5, a6, a7, a8, a9, a10, a11, a12, a13, a14, a15, a16, a17⟩ := id hr
  have f : ∀ a i, a ≠ 99 → jx_u J 99 (6 * (7 + c) + k) v a i = J a i := fun a i w => jx_u_na w
  have fm : ∀ m, jx_u J 99 (6 * (7 + c) + k) v 99 (6 * (7 + c) + m) = if m = k then v else J 99 (6 * (7 + c) + m) := fun m => by
    split
    · rename_i w
      rw [w, jx_u_eq]
    · exact jx_u_ni (by omega)
  have hfr : ∀ a i, 98 ≤ a → a < 140 → ¬ iv_own c o a i → jx_u J 99 (6 * (7 + c) + k) v a i = J a i := fun a i _ _ w => jx_u_no (fun w2 => w (by unfold iv_own jc_own; omega))
  refine ⟨Iv_cl h hc a0 a2 hfr (fun d _ w _ => by omega) (iv_m_to hm (fun m _ => fm m)) ⟨R, by rw [f _ _ (by omega), h129], hR, Or.inr ⟨o, j, b, p, u, a0, ?_⟩⟩ (fun k r _ w => iv_t_to w (f _ _ (by omega)) (f _ _ (by omega)) (fun _ _ => f _ _ (by omega))) (iv_l_to h.2.2.2.2.1 (f _ _ (by omega)) (fun a i _ w => f _ _ (by omega)) (fun d _ => f _ _ (by omega))), ?_⟩
  · rw [f 128 _ (by omega), f 120 _ (by omega), f 123 _ (by omega), f 126 _ (by omega), f 119 _ (by omega), f 132 _ (by omega), f 127 _ (by omega), f 130 _ (by omega), f 131 _ (by omega), f 121 _ (by omega), f 134 _ (by omega), f 135 _ (by omega), f 136 _ (by omega), f 137 _ (by omega), fm, fm]
    refine ⟨a1, a2, a3, a4, a5, a6, a7, a8, a9, a10, a11, a12, a13, a14, fun s => ?_, fun s => ?_, fun s => ?_⟩
    · obtain ⟨b1, b2, b3, b4⟩ := a15 s
      refine ⟨b1, b2, ?_, fun w => absurd rfl w⟩
      split
      · rcases hz with hz | hz
        · exact hz
        · omega
      · exact b3
    · obtain ⟨b1, b2, b3⟩ := a16 s
      refine ⟨b1, b2, ?_⟩
      split
      · rcases hz with hz | hz
        · exact hz
        · rw [s] at hz
          exact absurd hz.1 (by decide)
      · exact b3
    · obtain ⟨b1, b2, b3, b4⟩ := a17 s
      exact ⟨b1, b2, b3, fun w => absurd rfl w⟩
  · have hq : ∀ d, iv_q (jx_u J 99 (6 * (7 + c) + k) v) d = iv_q J d := fun d => iv_q_eq (f _ _ (by omega)) (f _ _ (by omega)) (f _ _ (by omega)) (fun _ => f _ _ (by omega))
    unfold iv_p
    rw [hq, hq, hq, hq]
theorem ck_of {J : Nat → Nat → Int32} {q x B e c o j b p u R : Nat} (h : Iv J q x B e) (hc : c < 4) (hr : iv_r J q B c e o j b p u R) : ck_h J B c o q := by
  obtain ⟨a0, a1, a2, a3, a4, a5, a6, a7, a8, a9, a10, a11, a12, a13, a14, a15, a16, a17⟩ := hr
  refine ⟨hc, a0, a1, h.1.2.1, h.1.2.2.2.1, a5, ?_, fun s => (a16 s).1, (h.2.1 (7 + c) (by omega)).1, fun s => ⟨j, (a15 s).1, (a15 s).2.1, (a15 s).2.2.1⟩, fun s => (a16 s).2.1, fun s => ⟨(a17 s).1, (a17 s).2.1, (a17 s).2.2.1⟩, a13⟩
  rw [a6]
  rcases a7 with w | w
  · exact Or.inl (by rw [w]; rfl)
  · exact Or.inr (by rw [w]; rfl)
theorem bs_m1 {v : Int32} {q : Nat} (hq : q ≤ 7) (h : bs v q) : v ≠ -1 := fun w => by
  obtain ⟨u, h1, h2⟩ := bs_7 hq h
  rw [h2, jx_m1 (by omega)] at w
  exact w
theorem ph_v {J : Nat → Nat → Int32} {c p : Nat} (hp : J 132 c = nI p) (hp2 : p = 1 ∨ p = 2) (n : Nat) (hn : n < 10) : J 132 c = nI n ↔ p = n := by
  rw [hp]
  exact ⟨fun w => by rw [jx_eqnn (by omega) (by omega)] at w; exact w, fun w => by rw [w]⟩
/-- a round's end -/
theorem Iv_EN {J : Nat → Nat → Int32} {q x B c o : Nat} (h : Iv J q x B 4) (hc : c < 4) (ho : o < B) (hd : J 128 c = nI o) (hx : x + 20 < 20000) : ∃ x2, Iv (mo_EN J c o) q x2 B 4 ∧ x2 + iv_p (mo_EN J c o) ≤ x + iv_p J := by
  have hq := h.1.2.2.2.1
  have hB := h.1.2.2.2.2.2.2
  obtain ⟨R, j, b, p, u, h129, hR, hr⟩ := iv_run h hc ho hd
  obtain ⟨a0, a1, a2, a3, a4, a5, a6, a7, a8, a9, a10, a11, a12, a13, a14, a15, a16, a17⟩ := id hr
  have e1 := ph_v a6 a7 1 (by omega)
  have e2 := ph_v a6 a7 2 (by omega)
  have ba : ∀ Y : Nat → Nat → Int32, Iv Y q x B 4 → iv_r Y q B c 4 o j b p u R → iv_p Y = iv_p J → Y 129 c = nI R → p = 1 → ∃ x2, Iv (mo_BA (mo_br Y c 2) c o) q x2 B 4 ∧ x2 + iv_p (mo_BA (mo_br Y c 2) c o) ≤ x + iv_p J := fun Y y1 y2 y3 y4 y5 => by
    obtain ⟨w1, w2, w3⟩ := Iv_br (p2 := 2) y1 hc y4 y2 (Or.inr rfl) (by omega)
    obtain ⟨x2, u2, z1, z2, -⟩ := Iv_BA w1 hc (show mo_br Y c (nI 2) 129 c = nI (R + 1) by rw [br_v.1, y4, nI_1]) (by omega) w2 (by omega)
    refine ⟨x2, z1, ?_⟩
    have z2' : x2 + iv_p (mo_BA (mo_br Y c 2) c o) = x + iv_p (mo_br Y c (nI 2)) := z2
    rw [iv_q_run y2 hB, if_pos y5, y3, if_neg (by omega)] at w3
    omega
  unfold mo_EN
  by_cases h01 : J 119 o = 0 ∨ J 119 o = 1
  · rw [if_pos h01]
    by_cases p2 : J 132 c = 2
    · rw [if_pos p2]
      obtain ⟨w1, w2⟩ := Iv_ov (v := J 137 (3 * c)) h hc ho hd (Or.inr rfl)
      exact ⟨x, w1, by omega⟩
    · rw [if_neg p2]
      have p1 : p = 1 := a7.resolve_right (fun w => p2 (e2.mpr w))
      by_cases h1 : J 119 o = 1
      · rw [if_pos h1]
        obtain ⟨w1, w2, w3, w4⟩ := Iv_wb h hc h129 hR hr h1
        exact ba _ w1 w2 w3 w4 p1
      · rw [if_neg h1]
        exact ba _ h hr rfl h129 p1
  · rw [if_neg h01]
    by_cases p1 : J 132 c = 1
    · rw [if_pos p1]
      exact ba _ h hr rfl h129 (e1.mp p1)
    · rw [if_neg p1]
      have h23 : J 119 o = 2 ∨ J 119 o = 3 := by
        rcases a5 with w | w | w | w
        · exact absurd (Or.inl w) h01
        · exact absurd (Or.inr w) h01
        · exact Or.inl w
        · exact Or.inr w
      obtain ⟨b1, b2, b3, b4⟩ := a15 h23
      obtain ⟨m1, m2, m3⟩ := h.2.1 (7 + c) (by omega)
      rw [b2, jx_xn (by omega)]
      by_cases h2 : J 119 o = 2
      · rw [if_pos h2]
        obtain ⟨c1, c2, c3, c4⟩ := a17 h2
        have hof := of_bs (c := c) c1 c2
        have n1 := b4 (by omega)
        have hmm : iv_m (fun m => if m = j + 1 then mo_of J c o else J 99 (6 * (7 + c) + m)) q := by
          refine ⟨fun k hk => ?_, ?_, fun k hk hw => ?_⟩
          · by_cases e : k = j + 1
            · show mp (if k = j + 1 then _ else _) q
              rw [if_pos e]
              exact Or.inr hof
            · show mp (if k = j + 1 then _ else _) q
              rw [if_neg e]
              exact m1 k hk
          · show (if 0 = j + 1 then _ else _) ≠ _
            rw [if_neg (by omega)]
            exact m2
          · have hw2 : (if k = j + 1 then mo_of J c o else J 99 (6 * (7 + c) + k)) = -1 := hw
            by_cases e : k = j + 1
            · rw [if_pos e] at hw2
              exact absurd hw2 (bs_m1 hq hof)
            · rw [if_neg e] at hw2
              obtain ⟨d1, d2⟩ := m3 k hk hw2
              refine ⟨d1, ?_⟩
              show (if k + 1 = j + 1 then _ else _) ≠ _
              have : k ≠ j := fun w => by
                subst w
                exact n1 hw2
              rw [if_neg (by omega)]
              exact d2
        obtain ⟨w1, w2⟩ := Iv_mp (k := j + 1) (v := mo_of J c o) h hc (Or.inr rfl) h129 hR hr (by omega) hmm (Or.inr ⟨h2, rfl⟩)
        obtain ⟨x2, z0, z1, z2, z3⟩ := Iv_nk (y := J 99 (6 * (7 + c) + j) ||| mo_of J c o) w1 hc (by omega) 7 (by omega)
        have hd2 : mo_nk (jx_u J 99 (6 * (7 + c) + (j + 1)) (mo_of J c o)) c (J 99 (6 * (7 + c) + j) ||| mo_of J c o) 7 128 c = nI o := by
          rw [z3 _ _ (by omega) (by omega) (by omega), jx_u_na (by omega), hd]
        obtain ⟨y1, y2⟩ := Iv_ov (v := jx_b (mo_of J c o = J 121 o)) z1 hc ho hd2 (Or.inl rfl)
        exact ⟨x2, y1, by
          show x2 + iv_p (mo_ov (mo_nk (jx_u J 99 (6 * (7 + c) + (j + 1)) (mo_of J c o)) c (J 99 (6 * (7 + c) + j) ||| mo_of J c o) 7) c o (jx_b (mo_of J c o = J 121 o))) ≤ _
          omega⟩
      · rw [if_neg h2]
        have h3 := h23.resolve_left h2
        obtain ⟨c1, c2, c3⟩ := a16 h3
        have hmm : iv_m (fun m => if m = j then (-1 : Int32) else J 99 (6 * (7 + c) + m)) q := by
          refine ⟨fun k hk => ?_, ?_, fun k hk hw => ?_⟩
          · show mp (if k = j then _ else _) q
            split
            · exact Or.inl rfl
            · exact m1 k hk
          · show (if 0 = j then _ else _) ≠ _
            split
            · decide
            · exact m2
          · show k < 5 ∧ (if k + 1 = j then _ else _) ≠ _
            have hw2 : (if k = j then (-1 : Int32) else J 99 (6 * (7 + c) + k)) = -1 := hw
            by_cases e : k = j
            · refine ⟨by omega, ?_⟩
              rw [if_neg (by omega), e]
              exact c3
            · rw [if_neg e] at hw2
              obtain ⟨d1, d2⟩ := m3 k hk hw2
              refine ⟨d1, ?_⟩
              split
              · decide
              · exact d2
        obtain ⟨w1, w2⟩ := Iv_mp (k := j) (v := -1) h hc (Or.inr rfl) h129 hR hr (by omega) hmm (Or.inl (by decide))
        obtain ⟨x2, z0, z1, z2, z3⟩ := Iv_nk (y := J 99 (6 * (7 + c) + j) ||| J 135 c) w1 hc (by omega) 7 (by omega)
        have hd2 : mo_nk (jx_u J 99 (6 * (7 + c) + j) (-1)) c (J 99 (6 * (7 + c) + j) ||| J 135 c) 7 128 c = nI o := by
          rw [z3 _ _ (by omega) (by omega) (by omega), jx_u_na (by omega), hd]
        obtain ⟨y1, y2⟩ := Iv_ov (v := nI j) z1 hc ho hd2 (Or.inl rfl)
        exact ⟨x2, y1, by
          show x2 + iv_p (mo_ov (mo_nk (jx_u J 99 (6 * (7 + c) + j) (-1)) c (J 99 (6 * (7 + c) + j) ||| J 135 c) 7) c o (nI j)) ≤ _
          omega⟩
theorem Iv_TL {J : Nat → Nat → Int32} {q x B c o : Nat} (h : Iv J q x B 4) (hc : c < 4) (ho : o < B) (hd : J 128 c = nI o) (hx : x + 30 < 20000) : ∃ x2, Iv (mo_TL J c o) q x2 B 4 ∧ x2 + iv_p (mo_TL J c o) ≤ x + iv_p J := by
  obtain ⟨R, j, b, p, u, h129, hR, hr⟩ := iv_run h hc ho hd
  obtain ⟨x2, u2, z1, z2, z3, z4, z5, z6⟩ := Iv_BA h hc h129 hR hr (by omega)
  unfold mo_TL
  split
  · obtain ⟨x3, y1, y2⟩ := Iv_EN z1 hc ho (by rw [z6 _ _ (by omega) (by omega) (by omega) (by omega), hd]) (by omega)
    exact ⟨x3, y1, by omega⟩
  · exact ⟨x2, z1, by omega⟩
/-- a client gets an answer -/
theorem Iv_CX {J : Nat → Nat → Int32} {q x B c o k s r : Nat} (h : Iv J q x B c) (hc : c < 4) (ho : o < B) (hd : J 128 c = nI o) (hh : iv_h J q B k s c r) (hk : 10 ≤ k) (hx : x + 30 < 20000) : ∃ x2, Iv (mo_CX J c o) q x2 B 4 ∧ x2 + iv_p (mo_CX J c o) ≤ x + iv_p J := by
  have hB := h.1.2.2.2.2.2.2
  obtain ⟨R0, j0, b0, p0, u0, h1290, hR0, hr0⟩ := iv_run h hc ho hd
  have hr50 : J 98 50 = nI r := hh.2.2.2.2.2.2.1
  have hr1080 : r ≤ 1080 := hh.2.2.2.2.2.2.2.1
  have step : ∃ Y : Nat → Nat → Int32, Y = (if J 98 50 = J 129 c ∧ J 98 58 = 0 then mo_C1 J c else J) ∧ Iv Y q x B c ∧ iv_p Y = iv_p J ∧ (∀ a i, a ≠ 131 → a ≠ 136 → a ≠ 137 → Y a i = J a i) := by
    by_cases w : J 98 50 = J 129 c ∧ J 98 58 = 0
    · obtain ⟨y1, y2⟩ := Iv_C1 (R := r) h hc ho hd hh hk (by rw [← w.1, hr50]) rfl
      exact ⟨mo_C1 J c, by rw [if_pos w], y1, y2, fun a i n1 n2 n3 => mo_C1_o (by omega) (by omega)⟩
    · exact ⟨J, by rw [if_neg w], h, rfl, fun _ _ _ _ _ => rfl⟩
  obtain ⟨Y, eY, hY, pY, fY⟩ := step
  unfold mo_CX
  rw [← eY]
  have hdY : Y 128 c = nI o := by rw [fY _ _ (by omega) (by omega) (by omega), hd]
  obtain ⟨R, j, b, p, u, h129, hR, hr⟩ := iv_run hY hc ho hdY
  obtain ⟨a0, a1, a2, a3, a4, a5, a6, a7, a8, a9, a10, a11, a12, a13, a14, a15, a16, a17⟩ := id hr
  unfold mo_C2
  by_cases h2 : Y 119 o = 2
  · rw [if_pos h2]
    obtain ⟨b1, b2, b3, b4⟩ := a15 (Or.inl h2)
    rw [b2, jx_xn (by omega)]
    by_cases hov : Y 99 (6 * (7 + c) + j) = -1 ∨ ¬ Y 99 (6 * (7 + c) + (j + 1)) = 0
    · rw [if_pos hov]
      obtain ⟨w1, w2⟩ := Iv_ov (v := jx_b (Y 99 (6 * (7 + c) + (j + 1)) = Y 121 o)) hY hc ho hdY (Or.inl rfl)
      exact ⟨x, w1, by omega⟩
    · rw [if_neg hov]
      have hY4 : Iv Y q x B 4 := Iv_rest hY hc (fun o2 q1 q2 j2 q3 q4 => by
        rw [b2, jx_eqnn (by omega) (by omega)] at q4
        subst q4
        exact ⟨fun _ w => hov (Or.inl w), fun _ => Decidable.byContradiction (fun w => hov (Or.inr w))⟩)
      by_cases hbad : Y 98 50 = Y 129 c ∧ ¬ Y 98 58 = 0
      · rw [if_pos hbad]
        by_cases h9 : Y 127 o + 1 = 9
        · rw [if_pos h9]
          have hbu : ∀ a i, ¬ (a = 127 ∧ i = o) → mo_bu Y o a i = Y a i := fun a i w => jx_u_no w
          -- the ninth bad answer
          obtain ⟨w1, w2⟩ := Iv_ov (v := 0) hY4 hc ho hdY (Or.inr rfl)
          refine ⟨x, ?_, ?_⟩
          · -- the count of bad answers of an operation that is over isn't looked at
            have e3 : ∀ a i, 98 ≤ a → a < 140 → ¬ (a = 127 ∧ i = o) → mo_ov (mo_bu Y o) c o 0 a i = mo_ov Y c o 0 a i := fun a i _ _ w => by
              unfold mo_ov
              rw [hbu 98 27 (by omega), hbu 98 26 (by omega)]
              unfold jx_u
              repeat' split
              all_goals (first | rfl | exact hbu a i w)
            have hi : mo_ov Y c o 0 128 c = -1 := mo_ov_v.2.2.2
            obtain ⟨g1, g2, g3, g4, g5, g6, g7⟩ := id w1
            refine ⟨?_, fun y hy => iv_m_to (g2 y hy) (fun k _ => e3 _ _ (by omega) (by omega) (by omega)), fun i hi2 => iv_g_to (g3 i hi2) (fun a q1 q2 => e3 _ _ (by omega) (by omega) (by omega)) (fun m _ => e3 _ _ (by omega) (by omega) (by omega)) (fun k c r _ _ w => iv_t_to w (e3 _ _ (by omega) (by omega) (by omega)) (e3 _ _ (by omega) (by omega) (by omega)) (fun _ _ => e3 _ _ (by omega) (by omega) (by omega))), fun d hd2 => ?_, iv_l_to g5 (e3 _ _ (by omega) (by omega) (by omega)) (fun a i _ q1 => e3 _ _ (by omega) (by omega) (by omega)) (fun d _ => e3 _ _ (by omega) (by omega) (by omega)), fun s k q1 q2 => by rw [e3 _ _ (by omega) (by omega) (by omega)]; exact g6 s k q1 q2, fun i => by rw [e3 _ _ (by omega) (by omega) (by omega)]; exact g7 i⟩
            · rw [e3 98 0 (by omega) (by omega) (by omega), e3 98 1 (by omega) (by omega) (by omega), e3 98 9 (by omega) (by omega) (by omega), e3 98 25 (by omega) (by omega) (by omega)]
              exact g1
            · by_cases hdc : d = c
              · subst hdc
                obtain ⟨R3, r1, r2, -⟩ := g4 d hd2
                exact ⟨R3, by rw [e3 _ _ (by omega) (by omega) (by omega), r1], r2, Or.inl (by rw [e3 _ _ (by omega) (by omega) (by omega), hi])⟩
              · refine iv_c_to (g4 d hd2) id (fun k _ => e3 _ _ (by omega) (by omega) (by omega)) (fun a q1 q2 => e3 _ _ (by omega) (by omega) (by omega)) ⟨e3 _ _ (by omega) (by omega) (by omega), e3 _ _ (by omega) (by omega) (by omega)⟩ (fun o2 q1 q2 a q3 q4 q5 => e3 _ _ (by omega) (by omega) ?_)
                have : o2 ≠ o := fun w => by
                  subst w
                  rw [mo_ov_o (by omega) (by omega) (by omega)] at q2
                  have w := a2.symm.trans q2
                  rw [jx_eqnn (by omega) (by omega)] at w
                  exact hdc w.symm
                omega
          · have hq : ∀ d, d < 4 → iv_q (mo_ov (mo_bu Y o) c o 0) d = iv_q (mo_ov Y c o 0) d := fun d hd2 => by
              have e3 : ∀ a i, ¬ (a = 127 ∧ i = o) → mo_ov (mo_bu Y o) c o 0 a i = mo_ov Y c o 0 a i := fun a i w => by
                unfold mo_ov
                rw [hbu 98 27 (by omega), hbu 98 26 (by omega)]
                unfold jx_u
                repeat' split
                all_goals (first | rfl | exact hbu a i w)
              refine iv_q_eq (e3 _ _ (by omega)) (e3 _ _ (by omega)) (e3 _ _ (by omega)) (fun hn => e3 _ _ ?_)
              have hdc : d ≠ c := fun w => by
                subst w
                exact hn mo_ov_v.2.2.2
              rw [mo_ov_o (by omega) (by omega) (by omega)] at hn ⊢
              rcases iv_does hY4 hd2 with w | ⟨o2, q1, q2⟩
              · exact absurd w hn
              · have := iv_ne hY4 hd2 hdc hc ho a2 q2 q1
                rw [q2, jx_xn (by omega)]
                omega
            have : iv_p (mo_ov (mo_bu Y o) c o 0) = iv_p (mo_ov Y c o 0) := by
              unfold iv_p
              rw [hq 0 (by omega), hq 1 (by omega), hq 2 (by omega), hq 3 (by omega)]
            omega
        · rw [if_neg h9]
          have hb7 : b ≤ 7 := by
            have : b ≠ 8 := fun w => by
              rw [a8, w] at h9
              exact h9 rfl
            omega
          obtain ⟨R4, j4, b4', p4, u4, h1294, hR4, hr4⟩ := iv_run hY4 hc ho hdY
          have hb7' : b4' ≤ 7 := by
            have : b4' ≠ 8 := fun w => by
              rw [hr4.2.2.2.2.2.2.2.2.1, w] at h9
              exact h9 rfl
            have := hr4.2.2.2.2.2.2.2.2.2.1
            omega
          obtain ⟨w1, w2, w3, w4⟩ := Iv_rt hY4 hc h1294 hR4 hr4 hb7'
          have hp4 := hr4.2.2.2.2.2.2.2.1
          have hRR := hr4.2.2.2.2.2.2.2.2.2.2.1
          obtain ⟨y1, y2, y3⟩ := Iv_br (p2 := 1) w1 hc w4 w2 (Or.inl rfl) (by omega)
          obtain ⟨x2, u2, z1, z2, -⟩ := Iv_BA y1 hc (show mo_br (mo_rt Y c o) c (nI 1) 129 c = nI (R4 + 1) by rw [br_v.1, w4, nI_1]) (by omega) y2 (by omega)
          refine ⟨x2, z1, ?_⟩
          have z2' : x2 + iv_p (mo_BA (mo_br (mo_rt Y c o) c 1) c o) = x + iv_p (mo_br (mo_rt Y c o) c (nI 1)) := z2
          rw [iv_q_run w2 hB, if_pos rfl] at y3
          omega
      · rw [if_neg hbad]
        obtain ⟨x2, w1, w2⟩ := Iv_TL hY4 hc ho hdY hx
        exact ⟨x2, w1, by omega⟩
  · rw [if_neg h2]
    by_cases h3 : Y 119 o = 3 ∧ Y 99 (6 * (7 + c) + jx_x (Y 134 c)) = -1
    · rw [if_pos h3]
      obtain ⟨w1, w2⟩ := Iv_ov (v := nI (jx_x (Y 134 c))) hY hc ho hdY (Or.inl rfl)
      exact ⟨x, w1, by omega⟩
    · rw [if_neg h3]
      have hY4 : Iv Y q x B 4 := Iv_rest hY hc (fun o2 q1 q2 j2 q3 q4 => by
        rw [hdY, jx_eqnn (by omega) (by omega)] at q2
        subst q2
        refine ⟨fun s w => ?_, fun s => absurd s h2⟩
        have s3 := s.resolve_left h2
        rw [q4, jx_xn (by omega)] at h3
        exact h3 ⟨s3, w⟩)
      obtain ⟨x2, w1, w2⟩ := Iv_TL hY4 hc ho hdY hx
      exact ⟨x2, w1, by omega⟩
/-- a message is delivered -/
theorem Iv_D {J : Nat → Nat → Int32} {q x B i : Nat} (h : Iv J q x B 4) (hi : i < x) (hx : x + 30 < 20000) : ∃ x2, Iv (mo_D J i (x - 1)) q x2 B 4 ∧ x2 + iv_p (mo_D J i (x - 1)) ≤ x + iv_p J := by
  have hB := h.1.2.2.2.2.2.2
  have hst : ∃ x2, Iv (mo_sh (mo_tk J i) i (x - 1)) q x2 B 4 ∧ x2 + iv_p (mo_sh (mo_tk J i) i (x - 1)) ≤ x + iv_p J := by
    obtain ⟨w1, w2⟩ := Iv_98 (J2 := mo_tk J i) h (fun a j _ _ => mo_tk_na (by omega)) (fun j _ => mo_tk_lo (by omega))
    obtain ⟨w3, w4⟩ := Iv_sh w1 hi
    exact ⟨x - 1, w3, by omega⟩
  have hcl : ∀ w e2, (w < 7 ∧ e2 = 4 ∨ w = 7 + e2 ∧ e2 < 4) → Iv (mo_dl J w i (x - 1)) q (x - 1) B e2 ∧ iv_p (mo_dl J w i (x - 1)) = iv_p J := fun w e2 hw => Iv_dl h hi hw
  unfold mo_D
  split
  · split
    · obtain ⟨k, s, c, r, m1, m2, m3, m4, hh⟩ := iv_hand (w := jx_x (J 107 i)) h hi
      have g2 := hh.2.1
      have g4 := hh.2.2.2.1
      rw [m2, jx_xn (by omega)] at hh ⊢
      obtain ⟨w1, w2⟩ := hcl s 4 (Or.inl ⟨g4, rfl⟩)
      rename_i hk _
      rw [m1, jx_ltnl (by omega) (by decide)] at hk
      have hk2 : k < 10 := hk
      obtain ⟨x2, y1, y2, y3⟩ := Iv_SG w1 hh (by omega)
      exact ⟨x2, y2, by omega⟩
    · exact hst
  · split
    · obtain ⟨k, s, c, r, m1, m2, m3, m4, hh⟩ := iv_hand (w := 7 + jx_x (J 108 i)) h hi
      have g2 := hh.2.1
      have g6 := hh.2.2.2.2.2.1
      rw [m3, jx_xn (by omega)] at hh ⊢
      obtain ⟨w1, w2⟩ := hcl (7 + c) c (Or.inr ⟨rfl, g6⟩)
      rename_i hk _
      rw [m1, jx_ltnl (by omega) (by decide)] at hk
      have hk2 : ¬ k < 10 := hk
      unfold mo_CG
      by_cases hd : mo_dl J (7 + c) i (x - 1) 128 c = -1
      · rw [if_pos hd]
        refine ⟨x - 1, Iv_rest w1 g6 (fun o q1 q2 => ?_), by omega⟩
        have w := q2.symm.trans hd
        rw [jx_m1 (by omega)] at w
        exact w.elim
      · rw [if_neg hd]
        rcases iv_does w1 g6 with w | ⟨o, q1, q2⟩
        · exact absurd w hd
        · rw [q2, jx_xn (by omega)]
          obtain ⟨x2, y1, y2⟩ := Iv_CX w1 g6 q1 q2 hh (by omega) (by omega)
          exact ⟨x2, y1, by omega⟩
    · exact hst
