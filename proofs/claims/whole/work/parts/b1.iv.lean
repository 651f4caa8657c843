/-- a map of w is joined -/
theorem Iv_join {J J2 : Nat → Nat → Int32} {q x B w e2 : Nat} (h : Iv J q x B 4) (hw : w < 7 ∧ e2 = 4 ∨ w = 7 + e2 ∧ e2 < 4) (hF : ∀ a j, 98 ≤ a → a < 140 → ¬ (a = 99 ∧ 6 * w ≤ j ∧ j < 6 * w + 6) → J2 a j = J a j) (hm : iv_m (fun k => J2 99 (6 * w + k)) q) (hz : ∀ k, k < 6 → J 99 (6 * w + k) ≠ 0 → J2 99 (6 * w + k) ≠ 0) : Iv J2 q x B e2 ∧ iv_p J2 = iv_p J := by
  obtain ⟨⟨a0, a1, a2, a3, a4, a5, a6⟩, b, g, cl, l, v, bb⟩ := id h
  have hF2 : ∀ a j, a ≠ 99 → 98 ≤ a → a < 140 → J2 a j = J a j := fun a j h1 h2 h3 => hF a j h2 h3 (by omega)
  refine ⟨⟨⟨by rw [hF2 _ _ (by omega) (by omega) (by omega), a0], by rw [hF2 _ _ (by omega) (by omega) (by omega), a1], a2, a3, by rw [hF2 _ _ (by omega) (by omega) (by omega), a4], by rw [hF2 _ _ (by omega) (by omega) (by omega), a5], a6⟩, fun y hy => ?_, fun i hi => ?_, fun d hd => ?_, iv_l_to l (hF2 _ _ (by omega) (by omega) (by omega)) (fun a o _ h1 => hF2 _ _ (by omega) (by omega) (by omega)) (fun c _ => hF2 _ _ (by omega) (by omega) (by omega)), fun s k hs hk => ?_, fun j => ?_⟩, ?_⟩
  · by_cases hyw : y = w
    · subst hyw
      exact hm
    · exact iv_m_to (b y hy) (fun k hk => hF _ _ (by omega) (by omega) (by omega))
  · exact iv_g_to (g i hi) (fun a h1 h2 => hF2 _ _ (by omega) (by omega) (by omega)) (fun m _ => hF2 _ _ (by omega) (by omega) (by omega)) (fun k c r _ _ t => iv_t_to t (hF2 _ _ (by omega) (by omega) (by omega)) (hF2 _ _ (by omega) (by omega) (by omega)) (fun _ _ => hF2 _ _ (by omega) (by omega) (by omega)))
  · by_cases hdw : w = 7 + d
    · obtain ⟨R, h1, h2, h3⟩ := cl d hd
      have hed : e2 = d := by omega
      refine ⟨R, by rw [hF2 _ _ (by omega) (by omega) (by omega), h1], h2, ?_⟩
      rcases h3 with h3 | ⟨o, j, b, p, u, a0, a1, a2, a3, a4, a5, a6, a7, a8, a9, a10, a11, a12, a13, a14, a15, a16, a17⟩
      · exact Or.inl (by rw [hF2 _ _ (by omega) (by omega) (by omega), h3])
      · have f : ∀ a j, 119 ≤ a → a < 140 → J2 a j = J a j := fun a j h1 h2 => hF2 a j (by omega) (by omega) h2
        refine Or.inr ⟨o, j, b, p, u, a0, ?_⟩
        rw [f 128 _ (by omega) (by omega), f 120 _ (by omega) (by omega), f 123 _ (by omega) (by omega), f 126 _ (by omega) (by omega), f 119 _ (by omega) (by omega), f 132 _ (by omega) (by omega), f 127 _ (by omega) (by omega), f 130 _ (by omega) (by omega), f 131 _ (by omega) (by omega), f 121 _ (by omega) (by omega), f 134 _ (by omega) (by omega), f 135 _ (by omega) (by omega), f 137 _ (by omega) (by omega), f 136 _ (by omega) (by omega)]
        subst hdw
        refine ⟨a1, a2, a3, a4, a5, a6, a7, a8, a9, a10, a11, a12, a13, a14, fun s => ?_, fun s => ?_, fun s => ?_⟩
        · obtain ⟨b1, b2, b3, b4⟩ := a15 s
          exact ⟨b1, b2, hz j (by omega) b3, fun s2 => absurd hed.symm s2⟩
        · obtain ⟨b1, b2, b3⟩ := a16 s
          have := (a15 (Or.inr s)).1
          exact ⟨b1, b2, hz (j + 1) (by omega) b3⟩
        · obtain ⟨b1, b2, b3, b4⟩ := a17 s
          exact ⟨b1, b2, b3, fun s2 => absurd hed.symm s2⟩
    · exact iv_c_to (cl d hd) (fun _ => by omega) (fun k hk => hF _ _ (by omega) (by omega) (by omega)) (fun a h1 h2 => hF2 _ _ (by omega) (by omega) (by omega)) ⟨hF2 _ _ (by omega) (by omega) (by omega), hF2 _ _ (by omega) (by omega) (by omega)⟩ (fun o2 h1 h2 a h3 h4 h5 => hF2 _ _ (by omega) (by omega) (by omega))
  · rw [hF2 _ _ (by omega) (by omega) (by omega)]
    exact v s k hs hk
  · rw [hF2 _ _ (by omega) (by omega) (by omega)]
    exact bb j
  · have hq : ∀ c, iv_q J2 c = iv_q J c := fun c => iv_q_eq (hF2 _ _ (by omega) (by omega) (by omega)) (hF2 _ _ (by omega) (by omega) (by omega)) (hF2 _ _ (by omega) (by omega) (by omega)) (fun _ => hF2 _ _ (by omega) (by omega) (by omega))
    unfold iv_p
    rw [hq, hq, hq, hq]
/-- servers' cells change -/
theorem Iv_sv {J J2 : Nat → Nat → Int32} {q x B e : Nat} (h : Iv J q x B e) (hF : ∀ a j, 98 ≤ a → a < 140 → ¬ (101 ≤ a ∧ a ≤ 105) → J2 a j = J a j) (hv : ∀ j, J2 105 j = J 105 j ∨ bs (J2 105 j) q) : Iv J2 q x B e ∧ iv_p J2 = iv_p J := by
  obtain ⟨⟨a0, a1, a2, a3, a4, a5, a6⟩, b, g, cl, l, v, bb⟩ := id h
  refine ⟨⟨⟨by rw [hF _ _ (by omega) (by omega) (by omega), a0], by rw [hF _ _ (by omega) (by omega) (by omega), a1], a2, a3, by rw [hF _ _ (by omega) (by omega) (by omega), a4], by rw [hF _ _ (by omega) (by omega) (by omega), a5], a6⟩, fun y hy => ?_, fun i hi => ?_, fun d hd => ?_, iv_l_to l (hF _ _ (by omega) (by omega) (by omega)) (fun a o _ h1 => hF _ _ (by omega) (by omega) (by omega)) (fun c _ => hF _ _ (by omega) (by omega) (by omega)), fun s k hs hk => ?_, fun j => ?_⟩, ?_⟩
  · exact iv_m_to (b y hy) (fun k hk => hF _ _ (by omega) (by omega) (by omega))
  · exact iv_g_to (g i hi) (fun a h1 h2 => hF _ _ (by omega) (by omega) (by omega)) (fun m _ => hF _ _ (by omega) (by omega) (by omega)) (fun k c r _ _ t => iv_t_to t (hF _ _ (by omega) (by omega) (by omega)) (hF _ _ (by omega) (by omega) (by omega)) (fun _ _ => hF _ _ (by omega) (by omega) (by omega)))
  · exact iv_c_to (cl d hd) id (fun k hk => hF _ _ (by omega) (by omega) (by omega)) (fun a h1 h2 => hF _ _ (by omega) (by omega) (by omega)) ⟨hF _ _ (by omega) (by omega) (by omega), hF _ _ (by omega) (by omega) (by omega)⟩ (fun o2 h1 h2 a h3 h4 h5 => hF _ _ (by omega) (by omega) (by omega))
  · rcases hv (5 * s + k) with w | w
    · rw [w]
      exact v s k hs hk
    · exact w
  · rw [hF _ _ (by omega) (by omega) (by omega)]
    exact bb j
  · have hq : ∀ c, iv_q J2 c = iv_q J c := fun c => iv_q_eq (hF _ _ (by omega) (by omega) (by omega)) (hF _ _ (by omega) (by omega) (by omega)) (hF _ _ (by omega) (by omega) (by omega)) (fun _ => hF _ _ (by omega) (by omega) (by omega))
    unfold iv_p
    rw [hq, hq, hq, hq]
/-- the message in hand -/
def iv_h (J : Nat → Nat → Int32) (q B k s c r : Nat) : Prop := J 98 47 = nI k ∧ (k ≤ 6 ∨ 10 ≤ k ∧ k ≤ 15) ∧ J 98 48 = nI s ∧ s < 7 ∧ J 98 49 = nI c ∧ c < 4 ∧ J 98 50 = nI r ∧ r ≤ 1080 ∧ (k ≤ 1 → ∃ j, j < 3 ∧ J 98 51 = nI j) ∧ (k = 2 ∨ k = 3 → ∃ j, j < 5 ∧ J 98 51 = nI j) ∧ (k = 3 ∨ k = 12 ∨ k = 13 → bs (J 98 53) q) ∧ (¬ J 98 58 = 0 → k = 12 ∨ k = 13) ∧ iv_t J B k c r
theorem mo_dl_h {J : Nat → Nat → Int32} {w i q j : Nat} (hj : 47 ≤ j) : mo_dl J w i q 98 j = mo_tk J i 98 j := by
  rw [mo_dl_o (by omega), jx_u_ni (by omega), mo_sh_f (by omega)]
/-- a message is taken, its map joined -/
theorem Iv_dl {J : Nat → Nat → Int32} {q x B i w e2 : Nat} (h : Iv J q x B 4) (hi : i < x) (hw : w < 7 ∧ e2 = 4 ∨ w = 7 + e2 ∧ e2 < 4) : Iv (mo_dl J w i (x - 1)) q (x - 1) B e2 ∧ iv_p (mo_dl J w i (x - 1)) = iv_p J := by
  obtain ⟨h1, p1⟩ := Iv_sh h hi
  have hfr : ∀ a j, ¬ (a = 98 ∧ (j = 11 ∨ 47 ≤ j)) → ¬ (a = 99 ∧ 6 * w ≤ j ∧ j < 6 * w + 6) → mo_dl J w i (x - 1) a j = mo_sh J i (x - 1) a j := fun a j n1 n2 => by
    rw [mo_dl_o n2, jx_u_no (by omega)]
    by_cases h98 : a = 98
    · subst h98
      by_cases h9 : j = 9
      · subst h9
        rw [mo_sh_9, mo_sh_9]
      · rw [mo_sh_f h9, mo_sh_f h9, mo_tk_lo (by omega)]
    · exact mo_sh_c (fun j => mo_tk_na h98) j
  obtain ⟨k, s, c, r, -, -, -, -, -, -, -, -, -, -, -, -, hm, -⟩ := h.2.2.1 i hi
  have hr : ∀ k, k < 6 → mo_dl J w i (x - 1) 99 (6 * w + k) = if J 118 (6 * i + k) = -1 ∨ J 99 (6 * w + k) = 0 then J 118 (6 * i + k) else J 99 (6 * w + k) := fun k hk => mo_dl_e hk
  have hmw := h.2.1 w (by omega)
  have hmr : iv_m (fun k => mo_dl J w i (x - 1) 99 (6 * w + k)) q := iv_m_jn hmw hm hr
  -- the hand first, then the map
  have step : ∃ J3 : Nat → Nat → Int32, (∀ a j, ¬ (a = 98 ∧ (j = 11 ∨ 47 ≤ j)) → J3 a j = mo_sh J i (x - 1) a j) ∧ (∀ a j, ¬ (a = 99 ∧ 6 * w ≤ j ∧ j < 6 * w + 6) → mo_dl J w i (x - 1) a j = J3 a j) := by
    refine ⟨fun a j => if a = 98 ∧ (j = 11 ∨ 47 ≤ j) then mo_dl J w i (x - 1) a j else mo_sh J i (x - 1) a j, fun a j n1 => if_neg n1, fun a j n2 => ?_⟩
    show _ = if a = 98 ∧ (j = 11 ∨ 47 ≤ j) then mo_dl J w i (x - 1) a j else mo_sh J i (x - 1) a j
    split
    · rfl
    · rename_i n1
      exact hfr a j n1 n2
  obtain ⟨J3, s1, s2⟩ := step
  obtain ⟨h3, p3⟩ := Iv_98 (J2 := J3) h1 (fun a j q1 q2 => s1 a j (by omega)) (fun j hj => s1 98 j (by omega))
  have s99 : ∀ j, J3 99 j = J 99 j := fun j => by rw [s1 99 j (by omega), mo_sh_na (by omega)]
  obtain ⟨h4, p4⟩ := Iv_join (J2 := mo_dl J w i (x - 1)) h3 hw (fun a j _ _ n2 => s2 a j n2) hmr (fun k hk hz => by
    rw [s99] at hz
    rw [hr k hk]
    split
    · rename_i o
      rcases o with o | o
      · rw [o]
        decide
      · exact absurd o hz
    · exact hz)
  exact ⟨h4, by rw [p4, p3, p1]⟩
theorem iv_hand {J : Nat → Nat → Int32} {q x B i w : Nat} (h : Iv J q x B 4) (hi : i < x) : ∃ k s c r, J 106 i = nI k ∧ J 107 i = nI s ∧ J 108 i = nI c ∧ J 109 i = nI r ∧ iv_h (mo_dl J w i (x - 1)) q B k s c r := by
  obtain ⟨k, s, c, r, h1, h2, h3, h4, h5, h6, h7, h8, h9, h10, h11, h12, h13, h14⟩ := h.2.2.1 i hi
  have e0 : ∀ a j, 119 ≤ a → mo_dl J w i (x - 1) a j = J a j := fun a j ha => by
    rw [mo_dl_o (by omega), rl0_tk (by omega)]
  have e51 : mo_dl J w i (x - 1) 98 51 = J 110 i := by rw [mo_dl_h (by omega)]; simp (disch := omega) only [mo_tk, jx_u_eq, jx_u_ni]
  have e53 : mo_dl J w i (x - 1) 98 53 = J 112 i := by rw [mo_dl_h (by omega)]; simp (disch := omega) only [mo_tk, jx_u_eq, jx_u_ni]
  have e58 : mo_dl J w i (x - 1) 98 58 = J 117 i := by rw [mo_dl_h (by omega)]; simp (disch := omega) only [mo_tk, jx_u_eq, jx_u_ni]
  refine ⟨k, s, c, r, h1, h3, h5, h7, ?_, h2, ?_, h4, ?_, h6, ?_, h8, by rw [e51]; exact h9, by rw [e51]; exact h10, by rw [e53]; exact h11, by rw [e58]; exact h12, iv_t_to h14 (e0 _ _ (by omega)) (e0 _ _ (by omega)) (fun _ _ => e0 _ _ (by omega))⟩
  · rw [mo_dl_h (by omega), mo_tk_kind, h1]
  · rw [mo_dl_h (by omega), mo_tk_server, h3]
  · rw [mo_dl_h (by omega), mo_tk_client, h5]
  · rw [mo_dl_h (by omega), ← h7]
    simp (disch := omega) only [mo_tk, jx_u_eq, jx_u_ni]
theorem ly_v {J : Nat → Nat → Int32} {x w : Nat} {what s c wh k : Int32} : mo_ly J x what s c wh k w 106 x = what ∧ mo_ly J x what s c wh k w 107 x = s ∧ mo_ly J x what s c wh k w 108 x = c ∧ mo_ly J x what s c wh k w 109 x = wh ∧ mo_ly J x what s c wh k w 110 x = k ∧ mo_ly J x what s c wh k w 112 x = 0 ∧ mo_ly J x what s c wh k w 117 x = 0 := by
  refine ⟨?_, ?_, ?_, ?_, ?_, ?_, ?_⟩ <;> (unfold mo_ly; simp (disch := omega) only [jx_u_eq, jx_u_na])
theorem ly_m {J : Nat → Nat → Int32} {x w m : Nat} {what s c wh k : Int32} (hm : m < 6) : mo_ly J x what s c wh k w 118 (6 * x + m) = J 99 (6 * w + m) := by
  have : m = 0 ∨ m = 1 ∨ m = 2 ∨ m = 3 ∨ m = 4 ∨ m = 5 := by omega
  rcases this with r | r | r | r | r | r <;> subst r <;> (unfold mo_ly; simp (disch := omega) only [Nat.add_zero, jx_u_eq, jx_u_na, jx_u_ni])
theorem ly_b {J : Nat → Nat → Int32} {x w j : Nat} {what s c wh k : Int32} : mo_ly J x what s c wh k w 117 j = J 117 j ∨ mo_ly J x what s c wh k w 117 j = 0 ∨ mo_ly J x what s c wh k w 117 j = 1 := by
  by_cases h : j = x
  · subst h
    exact Or.inr (Or.inl ly_v.2.2.2.2.2.2)
  · left
    unfold mo_ly
    simp (disch := omega) only [jx_u_na, jx_u_ni]
theorem iv_f10 {k : Nat} {t : Int32} (h : iv_f k t) (hk : k ≤ 5) : iv_f (10 + k) t := by
  rcases h with h | ⟨h, w⟩ | ⟨h, w⟩ | ⟨h, w⟩
  · omega
  · exact Or.inr (Or.inl ⟨by omega, w⟩)
  · exact Or.inr (Or.inr (Or.inl ⟨by omega, w⟩))
  · exact Or.inr (Or.inr (Or.inr ⟨by omega, w⟩))
/-- an answer; Z: the numbers with it, at most the marks set -/
theorem Iv_an {J Z : Nat → Nat → Int32} {q x B k s c r : Nat} {nu : Int32} (h : Iv J q x B 4) (hh : iv_h J q B k s c r) (hk : k ≤ 5) (hs : s < 7) (hZ : ∀ a j, ¬ ((a = 111 ∨ a = 112 ∨ a = 113 ∨ a = 114 ∨ a = 115 ∨ a = 116 ∨ a = 117) ∧ j = x) → Z a j = mo_ly J x (nI (10 + k)) (nI s) (J 98 49) (J 98 50) nu s a j) (hv : k = 2 ∨ k = 3 → bs (Z 112 x) q) (hb : Z 117 x = 0 ∨ Z 117 x = 1 ∧ (k = 2 ∨ k = 3)) : Iv Z q (x + 1) B 4 ∧ iv_p Z = iv_p J := by
  obtain ⟨g1, g2, g3, g4, g5, g6, g7, g8, g9, g10, g11, g12, g13⟩ := hh
  obtain ⟨v1, v2, v3, v4, v5, v6, v7⟩ := @ly_v J x s (nI (10 + k)) (nI s) (J 98 49) (J 98 50) nu
  have hF : jb_F J Z := fun a j q1 q2 q3 q4 => by rw [hZ a j (by omega)]; exact mo_ly_F a j q1 q2 q3 q4
  have hF2 : ∀ a j, 99 ≤ a → a < 140 → ¬ (106 ≤ a ∧ a ≤ 118) → Z a j = J a j := fun a j h1 h2 h3 => hF a j (by omega) h2 h3 (by omega)
  refine Iv_ly h hF (by rw [hZ _ _ (by omega), mo_ly_many]) (fun a i q1 q2 q3 => by rw [hZ _ _ (by omega), mo_ly_lt q1 q2 q3]) (fun i q1 => by rw [hZ _ _ (by omega), mo_ly_m q1]) ⟨10 + k, s, c, r, by rw [hZ _ _ (by omega), v1], by omega, by rw [hZ _ _ (by omega), v2], hs, by rw [hZ _ _ (by omega), v3, g5], g6, by rw [hZ _ _ (by omega), v4, g7], g8, fun w => by omega, fun w => by omega, fun w => hv (by omega), fun w => ?_, ?_, ?_⟩ (fun j => ?_)
  · rcases hb with hb | ⟨-, hb⟩
    · exact absurd hb w
    · omega
  · exact iv_m_to (h.2.1 s (by omega)) (fun m hm => by rw [hZ _ _ (by omega), ly_m hm])
  · refine iv_t_to (fun R hR e => ?_) (hF2 _ _ (by omega) (by omega) (by omega)) (hF2 _ _ (by omega) (by omega) (by omega)) (fun _ _ => hF2 _ _ (by omega) (by omega) (by omega))
    obtain ⟨w1, w2⟩ := g13 R hR e
    exact ⟨w1, fun w3 o ho d => iv_f10 (w2 w3 o ho d) hk⟩
  · by_cases hj : j = x
    · subst hj
      rcases hb with hb | ⟨hb, -⟩
      · exact Or.inr (Or.inl hb)
      · exact Or.inr (Or.inr hb)
    · rw [hZ _ _ (by omega)]
      exact ly_b
theorem iv_h_to {J J2 : Nat → Nat → Int32} {q B k s c r : Nat} (h : iv_h J q B k s c r) (h98 : ∀ j, 47 ≤ j → J2 98 j = J 98 j) (hF : ∀ a j, 119 ≤ a → a < 140 → J2 a j = J a j) : iv_h J2 q B k s c r := by
  obtain ⟨g1, g2, g3, g4, g5, g6, g7, g8, g9, g10, g11, g12, g13⟩ := h
  refine ⟨by rw [h98 _ (by omega), g1], g2, by rw [h98 _ (by omega), g3], g4, by rw [h98 _ (by omega), g5], g6, by rw [h98 _ (by omega), g7], g8, by rw [h98 _ (by omega)]; exact g9, by rw [h98 _ (by omega)]; exact g10, by rw [h98 _ (by omega)]; exact g11, by rw [h98 _ (by omega)]; exact g12, iv_t_to g13 (hF _ _ (by omega) (by omega)) (hF _ _ (by omega) (by omega)) (fun _ _ => hF _ _ (by omega) (by omega))⟩
theorem g0_o {J : Nat → Nat → Int32} {x s j a i : Nat} (n : ¬ ((a = 111 ∨ a = 112 ∨ a = 113 ∨ a = 114 ∨ a = 115 ∨ a = 116 ∨ a = 117) ∧ i = x)) : mo_g0 J x s j a i = mo_ly J x 10 (nI s) (J 98 49) (J 98 50) (nI j) s a i := by
  unfold mo_g0 mo_an
  rw [jx_u_no (by omega), jx_u_no (by omega), jx_u_no (by omega)]
theorem g1_o {J : Nat → Nat → Int32} {x s j a i : Nat} (n : ¬ ((a = 111 ∨ a = 112 ∨ a = 113 ∨ a = 114 ∨ a = 115 ∨ a = 116 ∨ a = 117) ∧ i = x)) : mo_g1 J x s j a i = mo_ly (mo_h J s j (J 98 52) (J 98 53)) x 11 (nI s) ((mo_h J s j (J 98 52) (J 98 53)) 98 49) ((mo_h J s j (J 98 52) (J 98 53)) 98 50) (nI j) s a i := by
  unfold mo_g1 mo_an
  rw [jx_u_no (by omega)]
theorem g2_o {J : Nat → Nat → Int32} {x s j a i : Nat} (n : ¬ ((a = 111 ∨ a = 112 ∨ a = 113 ∨ a = 114 ∨ a = 115 ∨ a = 116 ∨ a = 117) ∧ i = x)) : mo_g2 J x s j a i = mo_ly (jx_u J 103 (5 * s + j) (J 98 52)) x 12 (nI s) ((jx_u J 103 (5 * s + j) (J 98 52)) 98 49) ((jx_u J 103 (5 * s + j) (J 98 52)) 98 50) (nI j) s a i := by
  unfold mo_g2 mo_an
  rw [jx_u_no (by omega), jx_u_no (by omega), jx_u_no (by omega)]
theorem g3_o {J : Nat → Nat → Int32} {x s j a i : Nat} (n : ¬ ((a = 111 ∨ a = 112 ∨ a = 113 ∨ a = 114 ∨ a = 115 ∨ a = 116 ∨ a = 117) ∧ i = x)) : mo_g3 J x s j a i = mo_ly (jx_u (jx_u (jx_u J 103 (5 * s + j) (J 98 52)) 104 (5 * s + j) (J 98 52)) 105 (5 * s + j) (J 98 53)) x 13 (nI s) ((jx_u (jx_u (jx_u J 103 (5 * s + j) (J 98 52)) 104 (5 * s + j) (J 98 52)) 105 (5 * s + j) (J 98 53)) 98 49) ((jx_u (jx_u (jx_u J 103 (5 * s + j) (J 98 52)) 104 (5 * s + j) (J 98 52)) 105 (5 * s + j) (J 98 53)) 98 50) (nI j) s a i := by
  unfold mo_g3 mo_an
  rw [jx_u_no (by omega)]
theorem bd_o2 {J : Nat → Nat → Int32} {x s j a i : Nat} (n : ¬ ((a = 111 ∨ a = 112 ∨ a = 113 ∨ a = 114 ∨ a = 115 ∨ a = 116 ∨ a = 117) ∧ i = x)) : mo_bd J x 12 s j a i = mo_ly J x 12 (nI s) (J 98 49) (J 98 50) (nI j) s a i := by
  unfold mo_bd
  rw [jx_u_no (by omega), jx_u_no (by omega)]
theorem bd_o3 {J : Nat → Nat → Int32} {x s j a i : Nat} (n : ¬ ((a = 111 ∨ a = 112 ∨ a = 113 ∨ a = 114 ∨ a = 115 ∨ a = 116 ∨ a = 117) ∧ i = x)) : mo_bd J x 13 s j a i = mo_ly J x 13 (nI s) (J 98 49) (J 98 50) (nI j) s a i := by
  unfold mo_bd
  rw [jx_u_no (by omega), jx_u_no (by omega)]
theorem g4_o {J : Nat → Nat → Int32} {x s a i : Nat} (n : ¬ ((a = 111 ∨ a = 112 ∨ a = 113 ∨ a = 114 ∨ a = 115 ∨ a = 116 ∨ a = 117) ∧ i = x)) : mo_g4 J x s a i = mo_ly J x 14 (nI s) (J 98 49) (J 98 50) (J 98 51) s a i := by
  unfold mo_g4 mo_an
  rw [jx_u_no (by omega), jx_u_no (by omega), jx_u_no (by omega), jx_u_no (by omega), jx_u_no (by omega), jx_u_no (by omega), jx_u_no (by omega)]
theorem g5_o {J : Nat → Nat → Int32} {x s a i : Nat} (n : ¬ ((a = 111 ∨ a = 112 ∨ a = 113 ∨ a = 114 ∨ a = 115 ∨ a = 116 ∨ a = 117) ∧ i = x)) : mo_g5 J x s a i = mo_ly (mo_h3 J s) x 15 (nI s) ((mo_h3 J s) 98 49) ((mo_h3 J s) 98 50) (J 98 51) s a i := by
  unfold mo_g5 mo_an
  rw [jx_u_no (by omega)]
/-- a server gets a message -/
theorem Iv_SG {J : Nat → Nat → Int32} {q x B k s c r : Nat} (h : Iv J q x B 4) (hh : iv_h J q B k s c r) (hk : k ≤ 6) : ∃ x2, x2 ≤ x + 1 ∧ Iv (mo_SG J x s) q x2 B 4 ∧ iv_p (mo_SG J x s) = iv_p J := by
  obtain ⟨g1, g2, g3, g4, g5, g6, g7, g8, g9, g10, g11, g12, g13⟩ := id hh
  have ek : ∀ n : Nat, n < 100 → (J 98 47 = nI n ↔ k = n) := fun n hn => by
    rw [g1]
    exact ⟨fun w => by rw [jx_eqnn (by omega) (by omega)] at w; exact w, fun w => by rw [w]⟩
  have e6 : J 98 47 = 6 ↔ k = 6 := ek 6 (by omega)
  have e0 : J 98 47 = 0 ↔ k = 0 := ek 0 (by omega)
  have e1 : J 98 47 = 1 ↔ k = 1 := ek 1 (by omega)
  have e2 : J 98 47 = 2 ↔ k = 2 := ek 2 (by omega)
  have e3 : J 98 47 = 3 ↔ k = 3 := ek 3 (by omega)
  have e4 : J 98 47 = 4 ↔ k = 4 := ek 4 (by omega)
  unfold mo_SG
  by_cases k6 : k = 6
  · rw [if_pos (e6.mpr k6)]
    exact ⟨x, by omega, h, rfl⟩
  rw [if_neg (fun w => k6 (e6.mp w))]
  by_cases k0 : k = 0
  · rw [if_pos (e0.mpr k0)]
    refine ⟨x + 1, by omega, Iv_an (nu := nI (jx_x (J 98 51))) h hh (by omega) g4 (fun a j n => ?_) (fun w => by omega) (Or.inl ?_)⟩
    · subst k0
      exact g0_o n
    · unfold mo_g0 mo_an
      simp (disch := omega) only [jx_u_na, jx_u_eq]
  rw [if_neg (fun w => k0 (e0.mp w))]
  by_cases k1 : k = 1
  · rw [if_pos (e1.mpr k1)]
    have f98 : ∀ j, mo_h J s (jx_x (J 98 51)) (J 98 52) (J 98 53) 98 j = J 98 j := fun j => mo_h_na (by omega) (by omega)
    obtain ⟨h2, p2⟩ := Iv_sv (J2 := mo_h J s (jx_x (J 98 51)) (J 98 52) (J 98 53)) h (fun a j q1 q2 q3 => mo_h_na (by omega) (by omega)) (fun j => Or.inl (mo_h_na (by omega) (by omega)))
    have hh2 := iv_h_to (J2 := mo_h J s (jx_x (J 98 51)) (J 98 52) (J 98 53)) hh (fun j _ => f98 j) (fun a j q1 q2 => mo_h_na (by omega) (by omega))
    obtain ⟨h3, p3⟩ := Iv_an (Z := mo_g1 J x s (jx_x (J 98 51))) (nu := nI (jx_x (J 98 51))) h2 hh2 (by omega) g4 (fun a j n => by
      subst k1
      exact g1_o n) (fun w => by omega) (Or.inl (by unfold mo_g1 mo_an; rw [jx_u_eq]))
    exact ⟨x + 1, by omega, h3, p3.trans p2⟩
  rw [if_neg (fun w => k1 (e1.mp w))]
  by_cases k2 : k = 2
  · rw [if_pos (e2.mpr k2)]
    obtain ⟨j5, hj5, ej5⟩ := g10 (Or.inl k2)
    rw [ej5, jx_xn (by omega)]
    split
    · obtain ⟨h2, p2⟩ := Iv_sv (J2 := jx_u J 103 (5 * s + j5) (J 98 52)) h (fun a j q1 q2 q3 => jx_u_na (by omega)) (fun j => Or.inl (jx_u_na (by omega)))
      have hh2 := iv_h_to (J2 := jx_u J 103 (5 * s + j5) (J 98 52)) hh (fun j _ => jx_u_na (by omega)) (fun a j q1 q2 => jx_u_na (by omega))
      obtain ⟨h3, p3⟩ := Iv_an (Z := mo_g2 J x s j5) (nu := nI j5) h2 hh2 (by omega) g4 (fun a j n => by
        subst k2
        exact g2_o n) (fun w => by
        unfold mo_g2
        rw [jx_u_eq]
        exact h.2.2.2.2.2.1 s j5 g4 hj5) (Or.inl (by unfold mo_g2 mo_an; simp (disch := omega) only [jx_u_na, jx_u_eq]))
      exact ⟨x + 1, by omega, h3, p3.trans p2⟩
    · obtain ⟨h3, p3⟩ := Iv_an (Z := mo_bd J x 12 s j5) (nu := nI j5) h hh (by omega) g4 (fun a j n => by
        subst k2
        exact bd_o2 n) (fun w => by
        unfold mo_bd
        rw [jx_u_na (by omega), jx_u_na (by omega), ly_v.2.2.2.2.2.1]
        exact bs_0) (Or.inr ⟨by unfold mo_bd; simp (disch := omega) only [jx_u_na, jx_u_eq], by omega⟩)
      exact ⟨x + 1, by omega, h3, p3⟩
  rw [if_neg (fun w => k2 (e2.mp w))]
  by_cases k3 : k = 3
  · rw [if_pos (e3.mpr k3)]
    obtain ⟨j5, hj5, ej5⟩ := g10 (Or.inr k3)
    rw [ej5, jx_xn (by omega)]
    split
    · obtain ⟨h2, p2⟩ := Iv_sv (J2 := jx_u (jx_u (jx_u J 103 (5 * s + j5) (J 98 52)) 104 (5 * s + j5) (J 98 52)) 105 (5 * s + j5) (J 98 53)) h (fun a j q1 q2 q3 => by rw [jx_u_na (by omega), jx_u_na (by omega), jx_u_na (by omega)]) (fun j => by
        by_cases hj : j = 5 * s + j5
        · subst hj
          right
          rw [jx_u_eq]
          exact g11 (Or.inl k3)
        · left
          rw [jx_u_ni hj, jx_u_na (by omega), jx_u_na (by omega)])
      have hh2 := iv_h_to (J2 := jx_u (jx_u (jx_u J 103 (5 * s + j5) (J 98 52)) 104 (5 * s + j5) (J 98 52)) 105 (5 * s + j5) (J 98 53)) hh (fun j _ => by rw [jx_u_na (by omega), jx_u_na (by omega), jx_u_na (by omega)]) (fun a j q1 q2 => by rw [jx_u_na (by omega), jx_u_na (by omega), jx_u_na (by omega)])
      obtain ⟨h3, p3⟩ := Iv_an (Z := mo_g3 J x s j5) (nu := nI j5) h2 hh2 (by omega) g4 (fun a j n => by
        subst k3
        exact g3_o n) (fun w => by
        unfold mo_g3 mo_an
        rw [jx_u_na (by omega), ly_v.2.2.2.2.2.1]
        exact bs_0) (Or.inl (by unfold mo_g3 mo_an; rw [jx_u_eq]))
      exact ⟨x + 1, by omega, h3, p3.trans p2⟩
    · obtain ⟨h3, p3⟩ := Iv_an (Z := mo_bd J x 13 s j5) (nu := nI j5) h hh (by omega) g4 (fun a j n => by
        subst k3
        exact bd_o3 n) (fun w => by
        unfold mo_bd
        rw [jx_u_na (by omega), jx_u_na (by omega), ly_v.2.2.2.2.2.1]
        exact bs_0) (Or.inr ⟨by unfold mo_bd; simp (disch := omega) only [jx_u_na, jx_u_eq], by omega⟩)
      exact ⟨x + 1, by omega, h3, p3⟩
  rw [if_neg (fun w => k3 (e3.mp w))]
  by_cases k4 : k = 4
  · rw [if_pos (e4.mpr k4)]
    refine ⟨x + 1, by omega, Iv_an (nu := J 98 51) h hh (by omega) g4 (fun a j n => ?_) (fun w => by omega) (Or.inl ?_)⟩
    · subst k4
      exact g4_o n
    · unfold mo_g4 mo_an
      simp (disch := omega) only [jx_u_na, jx_u_eq]
  rw [if_neg (fun w => k4 (e4.mp w))]
  have k5 : k = 5 := by omega
  have f3 : ∀ a j, a ≠ 101 → a ≠ 102 → mo_h3 J s a j = J a j := fun a j n1 n2 => by
    unfold mo_h3
    rw [mo_h_na n1 n2, mo_h_na n1 n2, mo_h_na n1 n2]
  obtain ⟨h2, p2⟩ := Iv_sv (J2 := mo_h3 J s) h (fun a j q1 q2 q3 => f3 a j (by omega) (by omega)) (fun j => Or.inl (f3 _ _ (by omega) (by omega)))
  have hh2 := iv_h_to (J2 := mo_h3 J s) hh (fun j _ => f3 _ _ (by omega) (by omega)) (fun a j q1 q2 => f3 _ _ (by omega) (by omega))
  obtain ⟨h3, p3⟩ := Iv_an (Z := mo_g5 J x s) (nu := J 98 51) h2 hh2 (by omega) g4 (fun a j n => by
    subst k5
    exact g5_o n) (fun w => by omega) (Or.inl (by unfold mo_g5 mo_an; rw [jx_u_eq]))
  exact ⟨x + 1, by omega, h3, p3.trans p2⟩
