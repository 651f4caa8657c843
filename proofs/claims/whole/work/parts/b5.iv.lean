theorem iv_c_mono {J : Nat → Nat → Int32} {q B B2 c e : Nat} (h : iv_c J q B c e) (hB : B ≤ B2) : iv_c J q B2 c e := by
  obtain ⟨R, h1, h2, h3⟩ := h
  refine ⟨R, h1, by omega, ?_⟩
  rcases h3 with h3 | ⟨o, j, b, p, u, a0, a1, a2, a3, a4, a5, a6, a7, a8, a9, a10, a11⟩
  · exact Or.inl h3
  · exact Or.inr ⟨o, j, b, p, u, by omega, a1, a2, a3, a4, a5, a6, a7, a8, a9, by omega, a11⟩
/-- an operation begins -/
theorem Iv_S1 {J : Nat → Nat → Int32} {q x B c j : Nat} {kd s v : Int32} (h : Iv J q x B 4) (hc : c < 4) (hd : J 128 c = -1) (hB59 : B < 60) (hkd : kd = 0 ∨ kd = 1 ∨ kd = 2 ∨ kd = 3) (h01 : kd = 0 ∨ kd = 1 → ∃ r, r < 3 ∧ s = nI r) (h23 : kd = 2 ∨ kd = 3 → j < 5 ∧ J 134 c = nI j ∧ J 99 (6 * (7 + c) + j) ≠ 0 ∧ J 99 (6 * (7 + c) + j) ≠ -1) (h3 : kd = 3 → s = J 134 c ∧ bs (J 135 c) q ∧ J 99 (6 * (7 + c) + (j + 1)) ≠ 0) (h2 : kd = 2 → bs s q ∧ J 99 (6 * (7 + c) + (j + 1)) = 0) : ∃ R, Iv (mo_S1 J B kd c s v) q x (B + 1) 4 ∧ iv_r (mo_S1 J B kd c s v) q (B + 1) c 4 B j 0 1 0 R ∧ mo_S1 J B kd c s v 129 c = nI R ∧ R ≤ 18 * (B + 1) ∧ iv_p (mo_S1 J B kd c s v) = iv_p J + 133 := by
  obtain ⟨⟨a0, a1, a2, a3, a4, a5, a6⟩, b, g, cl, l, vv, bb⟩ := id h
  obtain ⟨w1, w2, w3, w4, w5, w6, w7, w8, w9, w10, w11, w12, w13, w14, w15⟩ := @S1_v J B c kd s v
  obtain ⟨z1, z2⟩ := @S1_z J B c 0 kd s v (by omega)
  rw [Nat.add_zero] at z1 z2
  have f98 : ∀ i, i ≠ 25 → i ≠ 27 → mo_S1 J B kd c s v 98 i = J 98 i := fun i q1 q2 => S1_F (by omega) (by omega) (by omega) (by omega)
  have flo : ∀ a i, 99 ≤ a → a < 119 → mo_S1 J B kd c s v a i = J a i := fun a i q1 q2 => S1_F (by omega) (by omega) (by omega) (by omega)
  have fop : ∀ a i, 119 ≤ a → a ≤ 127 → i ≠ B → mo_S1 J B kd c s v a i = J a i := fun a i q1 q2 q3 => S1_F (by omega) (by omega) (by omega) (by omega)
  have fcl : ∀ a d, 128 ≤ a → a ≤ 135 → d ≠ c ∨ 133 ≤ a → mo_S1 J B kd c s v a d = J a d := fun a d q1 q2 q3 => S1_F (by omega) (by omega) (by omega) (by omega)
  obtain ⟨R, r1, r2, -⟩ := cl c hc
  have h123 : mo_S1 J B kd c s v 123 B = 0 := by
    unfold mo_S1 mo_o1 mo_br mo_fb mo_o0
    simp (disch := omega) only [jx_u_eq, jx_u_na]
  have hr : iv_r (mo_S1 J B kd c s v) q (B + 1) c 4 B j 0 1 0 (R + 1) := by
    refine ⟨by omega, w3, w9, h123, w14, by rw [w8]; exact hkd, w7, Or.inl rfl, w15, by omega, by omega, w5, by omega, by rw [w6]; exact bs_0, ?_, ?_, ?_, ?_⟩
    · rw [w8, w10]
      exact h01
    · rw [w8, fcl 134 c (by omega) (by omega) (by omega), flo 99 _ (by omega) (by omega)]
      exact fun s2 => ⟨(h23 s2).1, (h23 s2).2.1, (h23 s2).2.2.1, fun _ => (h23 s2).2.2.2⟩
    · rw [w8, w10, fcl 134 c (by omega) (by omega) (by omega), fcl 135 c (by omega) (by omega) (by omega), flo 99 _ (by omega) (by omega)]
      exact h3
    · rw [w8, w10, z1, z2, flo 99 _ (by omega) (by omega)]
      exact fun s2 => ⟨(h2 s2).1, bs_0, by decide, fun _ => (h2 s2).2⟩
  have h129 : mo_S1 J B kd c s v 129 c = nI (R + 1) := by rw [w4, r1, nI_1]
  refine ⟨R + 1, ⟨⟨by rw [f98 0 (by omega) (by omega), a0], by rw [f98 1 (by omega) (by omega), a1], a2, a3, by rw [f98 9 (by omega) (by omega), a4], w1, by omega⟩, fun y hy => iv_m_to (b y hy) (fun k _ => flo _ _ (by omega) (by omega)), fun i hi => ?_, fun d hd2 => ?_, ?_, fun s k q1 q2 => by rw [flo _ _ (by omega) (by omega)]; exact vv s k q1 q2, fun i => by rw [flo _ _ (by omega) (by omega)]; exact bb i⟩, hr, h129, by omega, ?_⟩
  · refine iv_g_to (g i hi) (fun a q1 q2 => flo _ _ (by omega) (by omega)) (fun m _ => flo _ _ (by omega) (by omega)) (fun k d r q1 q2 t => ?_)
    by_cases hdc : d = c
    · subst hdc
      obtain ⟨t1, -⟩ := t R (by omega) r1
      intro R3 q3 q4
      rw [h129, jx_eqnn (by omega) (by omega)] at q4
      exact ⟨by omega, fun w => by omega⟩
    · intro R3 q3 q4
      rw [fcl 129 d (by omega) (by omega) (by omega)] at q4
      obtain ⟨t1, t2⟩ := t R3 q3 q4
      refine ⟨t1, fun e1 o q5 q6 => ?_⟩
      rw [fcl 128 d (by omega) (by omega) (by omega)] at q6
      have ho : o < B := by
        rcases iv_does h q1 with w | ⟨o2, p1, p2⟩
        · rw [w] at q6
          have w4 := jx_m1 (a := o) (by omega)
          rw [← q6] at w4
          exact absurd rfl (of_eq_false w4)
        · rw [p2, jx_eqnn (by omega) (by omega)] at q6
          omega
      rw [fop 119 o (by omega) (by omega) (by omega)]
      exact t2 e1 o ho q6
  · by_cases hdc : d = c
    · subst hdc
      exact ⟨R + 1, h129, by omega, Or.inr ⟨B, j, 0, 1, 0, hr⟩⟩
    · refine iv_c_mono (B := B) (iv_c_to (cl d hd2) id (fun k _ => flo _ _ (by omega) (by omega)) (fun a q1 q2 => fcl a d q1 q2 (Or.inl hdc)) ⟨S1_F (by omega) (by omega) (by omega) (by omega), S1_F (by omega) (by omega) (by omega) (by omega)⟩ (fun o2 q1 q2 a q3 q4 q5 => fop a o2 q3 q4 (by omega))) (by omega)
  · obtain ⟨M, m1, m2, m3⟩ := l
    have aa := iv_a_one (J := J) (J2 := mo_S1 J B kd c s v) hc (fun d _ hdc => iv_a_eq (fcl 128 d (by omega) (by omega) (Or.inl hdc)))
    have ac : iv_a (mo_S1 J B kd c s v) c = 1 := by
      unfold iv_a
      rw [if_neg (fun w => by rw [w3, jx_m1 (by omega)] at w; exact w)]
    have ac2 : iv_a J c = 0 := by
      unfold iv_a
      rw [if_pos hd]
    refine ⟨M + 1, by rw [w2, m1, nI_1], by omega, fun o ho => ?_⟩
    by_cases hoB : o = B
    · subst hoB
      refine ⟨c, M + 1, 0, by rw [w8]; exact hkd, w9, hc, by rw [w13, m1, nI_1], w14, by omega, by omega, by omega, Or.inr ⟨h123, rfl, w3⟩, fun o2 q1 q2 => ?_⟩
      rw [fop 120 o2 (by omega) (by omega) (by omega)] at q2
      rw [fop 126 o2 (by omega) (by omega) (by omega), fop 123 o2 (by omega) (by omega) (by omega)]
      obtain ⟨c2, f, t, b0, b1, b2, b3, b4, b5, b6, b7, b8, b9⟩ := m3 o2 (by omega)
      have hcc : c2 = c := by
        have w := b1.symm.trans q2
        rw [jx_eqnn (by omega) (by omega)] at w
        exact w
      subst hcc
      rcases b8 with ⟨e1, e2⟩ | ⟨e1, e2, e3⟩
      · exact ⟨t, b4, e1, by omega⟩
      · have w := e3.symm.trans hd
        rw [jx_m1 (by omega)] at w
        exact w.elim
    · obtain ⟨c2, f, t, b0, b1, b2, b3, b4, b5, b6, b7, b8, b9⟩ := m3 o (by omega)
      refine ⟨c2, f, t, by rw [fop 119 o (by omega) (by omega) hoB]; exact b0, by rw [fop 120 o (by omega) (by omega) hoB, b1], b2, by rw [fop 125 o (by omega) (by omega) hoB, b3], by rw [fop 126 o (by omega) (by omega) hoB, b4], b5, by omega, by omega, ?_, fun o4 q1 q2 => ?_⟩
      · rw [fop 123 o (by omega) (by omega) hoB]
        rcases b8 with w | ⟨e1, e2, e3⟩
        · exact Or.inl w
        · refine Or.inr ⟨e1, e2, ?_⟩
          have hcc : c2 ≠ c := fun w => by
            subst w
            have w := e3.symm.trans hd
            rw [jx_m1 (by omega)] at w
            exact w
          rw [fcl 128 c2 (by omega) (by omega) (Or.inl hcc), e3]
      · rw [fop 120 o4 (by omega) (by omega) (by omega)] at q2
        rw [fop 126 o4 (by omega) (by omega) (by omega), fop 123 o4 (by omega) (by omega) (by omega)]
        exact b9 o4 q1 q2
  · have hq : ∀ d, d < 4 → d ≠ c → iv_q (mo_S1 J B kd c s v) d = iv_q J d := fun d hd2 hdc => by
      refine iv_q_eq (fcl 128 d (by omega) (by omega) (Or.inl hdc)) (fcl 130 d (by omega) (by omega) (Or.inl hdc)) (fcl 132 d (by omega) (by omega) (Or.inl hdc)) (fun hn => ?_)
      rcases iv_does h hd2 with w | ⟨o2, q1, q2⟩
      · exact absurd w hn
      · rw [q2, jx_xn (by omega)]
        exact fop 127 o2 (by omega) (by omega) (by omega)
    have p1 := iv_p_one hc hq
    have p2 : iv_q J c = 0 := by
      unfold iv_q
      rw [if_pos hd]
    rw [iv_q_run hr (by omega), if_pos rfl, pcn_0] at p1
    omega
/-- the operation has begun, the servers are asked -/
theorem Iv_begin {J : Nat → Nat → Int32} {q x B c j : Nat} {kd s v : Int32} (h : Iv J q x B 4) (hc : c < 4) (hd : J 128 c = -1) (hB59 : B < 60) (hx : x + 20 < 20000) (hkd : kd = 0 ∨ kd = 1 ∨ kd = 2 ∨ kd = 3) (h01 : kd = 0 ∨ kd = 1 → ∃ r, r < 3 ∧ s = nI r) (h23 : kd = 2 ∨ kd = 3 → j < 5 ∧ J 134 c = nI j ∧ J 99 (6 * (7 + c) + j) ≠ 0 ∧ J 99 (6 * (7 + c) + j) ≠ -1) (h3 : kd = 3 → s = J 134 c ∧ bs (J 135 c) q ∧ J 99 (6 * (7 + c) + (j + 1)) ≠ 0) (h2 : kd = 2 → bs s q ∧ J 99 (6 * (7 + c) + (j + 1)) = 0) : ck_h (mo_S1 J B kd c s v) (B + 1) c B q ∧ ∃ x2, Iv (mo_BA (mo_S1 J B kd c s v) c B) q x2 (B + 1) 4 ∧ x2 + iv_p (mo_BA (mo_S1 J B kd c s v) c B) = x + iv_p J + 133 := by
  obtain ⟨R, i1, i2, i3, i4, i5⟩ := Iv_S1 (v := v) h hc hd hB59 hkd h01 h23 h3 h2
  obtain ⟨x2, u2, z1, z2, -⟩ := Iv_BA i1 hc i3 i4 i2 (by omega)
  exact ⟨ck_of i1 hc i2, x2, z1, by omega⟩
/-- cells of an idle client -/
theorem Iv_idle {J J2 : Nat → Nat → Int32} {q x B c : Nat} (h : Iv J q x B 4) (hc : c < 4) (hd : J 128 c = -1) (hF : ∀ a i, 98 ≤ a → a < 140 → ¬ (133 ≤ a ∧ a ≤ 135 ∧ i = c) → J2 a i = J a i) : Iv J2 q x B 4 ∧ iv_p J2 = iv_p J := by
  obtain ⟨⟨a0, a1, a2, a3, a4, a5, a6⟩, b, g, cl, l, v, bb⟩ := id h
  have f : ∀ a i, 98 ≤ a → a < 133 → J2 a i = J a i := fun a i q1 q2 => hF a i q1 (by omega) (by omega)
  refine ⟨⟨⟨by rw [f _ _ (by omega) (by omega), a0], by rw [f _ _ (by omega) (by omega), a1], a2, a3, by rw [f _ _ (by omega) (by omega), a4], by rw [f _ _ (by omega) (by omega), a5], a6⟩, fun y hy => iv_m_to (b y hy) (fun k _ => f _ _ (by omega) (by omega)), fun i hi => iv_g_to (g i hi) (fun a q1 q2 => f _ _ (by omega) (by omega)) (fun m _ => f _ _ (by omega) (by omega)) (fun k d r _ _ w => iv_t_to w (f _ _ (by omega) (by omega)) (f _ _ (by omega) (by omega)) (fun _ _ => f _ _ (by omega) (by omega))), fun d hd2 => ?_, iv_l_to l (f _ _ (by omega) (by omega)) (fun a i _ q1 => f _ _ (by omega) (by omega)) (fun d _ => f _ _ (by omega) (by omega)), fun s k q1 q2 => by rw [f _ _ (by omega) (by omega)]; exact v s k q1 q2, fun i => by rw [f _ _ (by omega) (by omega)]; exact bb i⟩, ?_⟩
  · by_cases hdc : d = c
    · subst hdc
      obtain ⟨R, r1, r2, -⟩ := cl d hd2
      exact ⟨R, by rw [f _ _ (by omega) (by omega), r1], r2, Or.inl (by rw [f _ _ (by omega) (by omega), hd])⟩
    · exact iv_c_to (cl d hd2) id (fun k _ => f _ _ (by omega) (by omega)) (fun a q1 q2 => hF a d (by omega) (by omega) (by omega)) ⟨hF _ _ (by omega) (by omega) (by omega), hF _ _ (by omega) (by omega) (by omega)⟩ (fun o2 q1 q2 a q3 q4 q5 => f _ _ (by omega) (by omega))
  · have hq : ∀ d, iv_q J2 d = iv_q J d := fun d => iv_q_eq (f _ _ (by omega) (by omega)) (f _ _ (by omega) (by omega)) (f _ _ (by omega) (by omega)) (fun _ => f _ _ (by omega) (by omega))
    unfold iv_p
    rw [hq, hq, hq, hq]
/-- somebody stops -/
theorem Iv_stop {J : Nat → Nat → Int32} {q x B w : Nat} (h : Iv J q x B 4) : Iv (jx_u J 100 w 1) q x B 4 ∧ iv_p (jx_u J 100 w 1) = iv_p J := by
  obtain ⟨⟨a0, a1, a2, a3, a4, a5, a6⟩, b, g, cl, l, v, bb⟩ := id h
  have f : ∀ a i, a ≠ 100 → jx_u J 100 w 1 a i = J a i := fun a i q1 => jx_u_na q1
  refine ⟨⟨⟨by rw [f _ _ (by omega), a0], by rw [f _ _ (by omega), a1], a2, a3, by rw [f _ _ (by omega), a4], by rw [f _ _ (by omega), a5], a6⟩, fun y hy => iv_m_to (b y hy) (fun k _ => f _ _ (by omega)), fun i hi => iv_g_to (g i hi) (fun a q1 q2 => f _ _ (by omega)) (fun m _ => f _ _ (by omega)) (fun k d r _ _ w => iv_t_to w (f _ _ (by omega)) (f _ _ (by omega)) (fun _ _ => f _ _ (by omega))), fun d hd2 => iv_c_to (cl d hd2) id (fun k _ => f _ _ (by omega)) (fun a q1 q2 => f _ _ (by omega)) ⟨f _ _ (by omega), f _ _ (by omega)⟩ (fun o2 q1 q2 a q3 q4 q5 => f _ _ (by omega)), iv_l_to l (f _ _ (by omega)) (fun a i _ q1 => f _ _ (by omega)) (fun d _ => f _ _ (by omega)), fun s k q1 q2 => by rw [f _ _ (by omega)]; exact v s k q1 q2, fun i => by rw [f _ _ (by omega)]; exact bb i⟩, ?_⟩
  have hq : ∀ d, iv_q (jx_u J 100 w 1) d = iv_q J d := fun d => iv_q_eq (f _ _ (by omega)) (f _ _ (by omega)) (f _ _ (by omega)) (fun _ => f _ _ (by omega))
  unfold iv_p
  rw [hq, hq, hq, hq]
/-- delivering as the reference does, and as the class: what the call answers -/
def mo_DV (J : Nat → Nat → Int32) (i : Nat) : Int32 := if J 106 i < 10 then (if J 100 (jx_x (J 107 i)) = 0 then 1 else 0) else (if J 100 (7 + jx_x (J 108 i)) = 0 then 1 else 0)
theorem mo_DV_01 {J : Nat → Nat → Int32} {i : Nat} : mo_DV J i = 0 ∨ mo_DV J i = 1 := by
  unfold mo_DV
  repeat' split
  all_goals simp
/-- the class hands a message over as mo_D says -/
theorem rl_hand {G : jx_G} {n ms : Nat} {K : Nat → Nat × Nat} {I : Nat → Nat → Int32} {P : Nat → Nat → Option Nat} {J : Nat → Nat → Int32} {q B : Nat} {A : Nat → Nat} {i x : Nat} (hR : rl0 n ms K I P J B A) (h : Iv J q x B 4) (hi : i < x) (hx2 : x + 30 ≤ 15999) : jx_C G yX8_handOver cX8_handOver 5 (some FieldType.boolean) 11 [.inr (some 3), .inl (nI i)] (n, ms, K, I, P) (rl_C (mo_DV J i) (mo_D J i (x - 1)) B A I (mo_DV J i)) := by
  have hB := h.1.2.2.2.2.2.2
  have hx : J 98 9 = nI x := h.1.2.2.2.2.1
  obtain ⟨k, s, c, r, h1, h2, h3, h4, h5, h6, h7, h8, h9, h10, h11, h12, h13, h14⟩ := h.2.2.1 i hi
  have n15 : k < 100 := by clear h9 h10; omega
  have nI31 : k < 2147483648 := by clear h9 h10; omega
  have n6 : k < 10 → k ≤ 6 := by clear h9 h10; omega
  have n10 : ¬ k < 10 → 10 ≤ k := by clear h9 h10; omega
  unfold mo_D mo_DV
  by_cases hk : k < 10
  · have hk2 : J 106 i < 10 := by
      rw [h1, jx_ltnl nI31 (by decide)]
      exact hk
    rw [if_pos hk2, if_pos hk2, h3, jx_xn (by omega)]
    by_cases hst : J 100 s = 0
    · rw [if_pos hst, if_pos hst]
      exact rl_handS1 hR hx (by omega) hi h1 (n6 hk) h3 h4 hst h9 h10 hx2
    · rw [if_neg hst, if_neg hst]
      exact rl_handS0 hR hx (by omega) hi h1 hk h3 h4 hst
  · have hk2 : ¬ J 106 i < 10 := by
      rw [h1, jx_ltnl nI31 (by decide)]
      exact hk
    rw [if_neg hk2, if_neg hk2, h5, jx_xn (by omega)]
    by_cases hst : J 100 (7 + c) = 0
    · rw [if_pos hst, if_pos hst]
      have hnz : ∀ o, o < B → J 128 c = nI o → J 119 o = 2 ∨ J 119 o = 3 → ∀ j, J 134 c = nI j → j < 5 → J 99 (6 * (7 + c) + j) ≠ 0 := fun o q1 q2 q3 j q4 q5 => by
        obtain ⟨R, j2, b, p, u, -, -, hr⟩ := iv_run h h6 q1 q2
        obtain ⟨b1, b2, b3, b4⟩ := hr.2.2.2.2.2.2.2.2.2.2.2.2.2.2.2.1 q3
        rw [b2, jx_eqnn (by omega) (by omega)] at q4
        subst q4
        exact b3
      obtain ⟨i1, i2⟩ := Iv_dl (w := 7 + c) (e2 := c) h hi (Or.inr ⟨rfl, h6⟩)
      have f128 : ∀ a j, 119 ≤ a → mo_dl J (7 + c) i (x - 1) a j = J a j := fun a j ha => by
        rw [mo_dl_o (by omega), rl0_tk (by omega)]
      unfold mo_CG
      rw [f128 128 c (by omega)]
      rcases iv_does h h6 with hd | ⟨o, ho, hd⟩
      · rw [if_pos hd]
        exact rl_handC1 hR hx (by omega) hi h1 (n10 hk) n15 h5 h6 hst hnz hd
      · rw [if_neg (fun w => by rw [hd, jx_m1 (by omega)] at w; exact w), hd, jx_xn (by omega)]
        obtain ⟨R, j, b, p, u, h129, hRR, hr⟩ := iv_run i1 h6 ho (by rw [f128 128 c (by omega), hd])
        obtain ⟨R0, j0, b0, p0, u0, h1290, hRR0, hr0⟩ := iv_run h h6 ho hd
        have fit : J 109 i = J 129 c → iv_f k (J 119 o) := fun e1 => by
          rw [h7, h1290, jx_eqnn (by omega) (by omega)] at e1
          exact (h14 R0 (by omega) h1290).2 e1 o ho hd
        refine rl_handC2 hR hx (by omega) hi h1 (n10 hk) n15 h5 h6 hst hnz (o := o) (q := q) (s := s) (ck_of i1 h6 hr) h3 h4 (fun s2 e1 => ?_) (fun e1 e2 => ?_) (fun s2 => ⟨b0, hr0.2.2.2.2.2.2.2.2.2.1, hr0.2.2.2.2.2.2.2.2.1⟩) hx2
        · have w := fit e1
          rw [s2] at w
          refine h11 ?_
          unfold iv_f at w
          clear h9 h10
          rcases w with w | ⟨-, w⟩ | ⟨w, -⟩ | ⟨-, w⟩
          · omega
          · exact absurd w (by decide)
          · omega
          · exact absurd w (by decide)
        · have w := fit e1
          have kk := h12 e2
          unfold iv_f at w
          clear h9 h10
          rcases w with w | ⟨w, -⟩ | ⟨-, w⟩ | ⟨w, -⟩
          · omega
          · omega
          · exact w
          · omega
    · rw [if_neg hst, if_neg hst]
      exact rl_handC0 hR hx (by omega) hi h1 (n10 hk) n15 h5 h6 hst
