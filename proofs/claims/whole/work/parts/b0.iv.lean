/-- a map: entries are nothing, sets or gone; beyond one that is gone something is known -/
def iv_m (f : Nat → Int32) (q : Nat) : Prop := (∀ k, k < 6 → mp (f k) q) ∧ f 0 ≠ 0 ∧ ∀ k, k < 6 → f k = -1 → k < 5 ∧ f (k + 1) ≠ 0
theorem iv_m_to {f g : Nat → Int32} {q : Nat} (h : iv_m f q) (e : ∀ k, k < 6 → g k = f k) : iv_m g q := by
  obtain ⟨a, b, c⟩ := h
  refine ⟨fun k hk => by rw [e k hk]; exact a k hk, by rw [e 0 (by omega)]; exact b, fun k hk h1 => ?_⟩
  rw [e k hk] at h1
  obtain ⟨c1, c2⟩ := c k hk h1
  exact ⟨c1, by rw [e (k + 1) (by omega)]; exact c2⟩
theorem iv_m_jn {f g r : Nat → Int32} {q : Nat} (hf : iv_m f q) (hg : iv_m g q) (hr : ∀ k, k < 6 → r k = if g k = -1 ∨ f k = 0 then g k else f k) : iv_m r q := by
  obtain ⟨a, b, c⟩ := hf
  obtain ⟨a2, b2, c2⟩ := hg
  have nz : ∀ k, k < 6 → f k ≠ 0 ∨ g k ≠ 0 → r k ≠ 0 := fun k hk h1 h2 => by
    rw [hr k hk] at h2
    split at h2
    · rename_i h3
      rcases h3 with h3 | h3
      · rw [h3] at h2
        exact absurd h2 (by decide)
      · exact h1.elim (fun w => w h3) (fun w => w h2)
    · rename_i h3
      exact h3 (Or.inr h2)
  refine ⟨fun k hk => ?_, nz 0 (by omega) (Or.inl b), fun k hk h1 => ?_⟩
  · rw [hr k hk]
    split
    · exact a2 k hk
    · exact a k hk
  · have h2 : f k = -1 ∨ g k = -1 := by
      rw [hr k hk] at h1
      split at h1
      · exact Or.inr h1
      · exact Or.inl h1
    rcases h2 with h2 | h2
    · obtain ⟨h3, h4⟩ := c k hk h2
      exact ⟨h3, nz (k + 1) (by omega) (Or.inl h4)⟩
    · obtain ⟨h3, h4⟩ := c2 k hk h2
      exact ⟨h3, nz (k + 1) (by omega) (Or.inr h4)⟩
/-- a message's kind belongs to an operation's sort -/
def iv_f (k : Nat) (t : Int32) : Prop := k = 6 ∨ ((k = 0 ∨ k = 1 ∨ k = 10 ∨ k = 11) ∧ (t = 0 ∨ t = 1)) ∨ ((k = 2 ∨ k = 3 ∨ k = 12 ∨ k = 13) ∧ t = 2) ∨ ((k = 4 ∨ k = 5 ∨ k = 14 ∨ k = 15) ∧ t = 3)
/-- a message of round r for client c -/
def iv_t (J : Nat → Nat → Int32) (B k c r : Nat) : Prop := ∀ R, R ≤ 1080 → J 129 c = nI R → r ≤ R ∧ (r = R → ∀ o, o < B → J 128 c = nI o → iv_f k (J 119 o))
/-- message i -/
def iv_g (J : Nat → Nat → Int32) (i q B : Nat) : Prop := ∃ k s c r, J 106 i = nI k ∧ (k ≤ 6 ∨ 10 ≤ k ∧ k ≤ 15) ∧ J 107 i = nI s ∧ s < 7 ∧ J 108 i = nI c ∧ c < 4 ∧ J 109 i = nI r ∧ r ≤ 1080 ∧ (k ≤ 1 → ∃ j, j < 3 ∧ J 110 i = nI j) ∧ (k = 2 ∨ k = 3 → ∃ j, j < 5 ∧ J 110 i = nI j) ∧ (k = 3 ∨ k = 12 ∨ k = 13 → bs (J 112 i) q) ∧ (¬ J 117 i = 0 → k = 12 ∨ k = 13) ∧ iv_m (fun m => J 118 (6 * i + m)) q ∧ iv_t J B k c r
theorem iv_g_to {J J2 : Nat → Nat → Int32} {i i2 q B B2 : Nat} (h : iv_g J i q B) (hJ : ∀ a, 106 ≤ a → a ≤ 117 → J2 a i2 = J a i) (hm : ∀ m, m < 6 → J2 118 (6 * i2 + m) = J 118 (6 * i + m)) (ht : ∀ k c r, c < 4 → r ≤ 1080 → iv_t J B k c r → iv_t J2 B2 k c r) : iv_g J2 i2 q B2 := by
  obtain ⟨k, s, c, r, h1, h2, h3, h4, h5, h6, h7, h8, h9, h10, h11, h12, h13, h14⟩ := h
  refine ⟨k, s, c, r, by rw [hJ _ (by omega) (by omega), h1], h2, by rw [hJ _ (by omega) (by omega), h3], h4, by rw [hJ _ (by omega) (by omega), h5], h6, by rw [hJ _ (by omega) (by omega), h7], h8, fun w => ?_, fun w => ?_, fun w => ?_, fun w => ?_, iv_m_to h13 hm, ht k c r h6 h8 h14⟩
  · rw [hJ _ (by omega) (by omega)]
    exact h9 w
  · rw [hJ _ (by omega) (by omega)]
    exact h10 w
  · rw [hJ _ (by omega) (by omega)]
    exact h11 w
  · rw [hJ _ (by omega) (by omega)] at w
    exact h12 w
/-- client c at operation o -/
def iv_r (J : Nat → Nat → Int32) (q B c e o j b p u R : Nat) : Prop := o < B ∧ J 128 c = nI o ∧ J 120 o = nI c ∧ J 123 o = 0 ∧ J 126 o = 0 ∧ (J 119 o = 0 ∨ J 119 o = 1 ∨ J 119 o = 2 ∨ J 119 o = 3) ∧ J 132 c = nI p ∧ (p = 1 ∨ p = 2) ∧ J 127 o = nI b ∧ b ≤ 8 ∧ R + 18 ≤ 18 * B + 2 * b + p ∧ J 130 c = nI u ∧ u < 128 ∧ bs (J 131 c) 7 ∧ (J 119 o = 0 ∨ J 119 o = 1 → ∃ r, r < 3 ∧ J 121 o = nI r) ∧ (J 119 o = 2 ∨ J 119 o = 3 → j < 5 ∧ J 134 c = nI j ∧ J 99 (6 * (7 + c) + j) ≠ 0 ∧ (c ≠ e → J 99 (6 * (7 + c) + j) ≠ -1)) ∧ (J 119 o = 3 → J 121 o = J 134 c ∧ bs (J 135 c) q ∧ J 99 (6 * (7 + c) + (j + 1)) ≠ 0) ∧ (J 119 o = 2 → bs (J 121 o) q ∧ bs (J 137 (3 * c)) q ∧ 0 ≤ J 136 (3 * c) ∧ (c ≠ e → J 99 (6 * (7 + c) + (j + 1)) = 0))
/-- client c; e: the one whose map has just been joined -/
def iv_c (J : Nat → Nat → Int32) (q B c e : Nat) : Prop := ∃ R, J 129 c = nI R ∧ R ≤ 18 * B ∧ (J 128 c = -1 ∨ ∃ o j b p u, iv_r J q B c e o j b p u R)
/-- whether client c is at an operation -/
def iv_a (J : Nat → Nat → Int32) (c : Nat) : Nat := if J 128 c = -1 then 0 else 1
/-- bits below 7 -/
def pcn (u : Nat) : Nat := (u.testBit 0).toNat + (u.testBit 1).toNat + (u.testBit 2).toNat + (u.testBit 3).toNat + (u.testBit 4).toNat + (u.testBit 5).toNat + (u.testBit 6).toNat
/-- how many messages client c may still lay -/
def iv_q (J : Nat → Nat → Int32) (c : Nat) : Nat := if J 128 c = -1 then 0 else (7 - pcn (jx_x (J 130 c))) + (if J 132 c = 1 then 7 else 0) + 14 * (8 - jx_x (J 127 (jx_x (J 128 c)))) + 7
def iv_p (J : Nat → Nat → Int32) : Nat := iv_q J 0 + iv_q J 1 + iv_q J 2 + iv_q J 3
/-- operation o in the log; M moments -/
def iv_o (J : Nat → Nat → Int32) (M o : Nat) : Prop := ∃ c f t, (J 119 o = 0 ∨ J 119 o = 1 ∨ J 119 o = 2 ∨ J 119 o = 3) ∧ J 120 o = nI c ∧ c < 4 ∧ J 125 o = nI f ∧ J 126 o = nI t ∧ 1 ≤ f ∧ f ≤ M ∧ t ≤ M ∧ ((J 123 o = 1 ∧ f < t) ∨ (J 123 o = 0 ∧ t = 0 ∧ J 128 c = nI o)) ∧ ∀ o2, o2 < o → J 120 o2 = nI c → ∃ t2, J 126 o2 = nI t2 ∧ J 123 o2 = 1 ∧ t2 < f
def iv_l (J : Nat → Nat → Int32) (B : Nat) : Prop := ∃ M, J 98 27 = nI M ∧ M + (iv_a J 0 + iv_a J 1 + iv_a J 2 + iv_a J 3) ≤ 2 * B ∧ ∀ o, o < B → iv_o J M o
/-- what holds of the reference's numbers -/
def Iv (J : Nat → Nat → Int32) (q x B e : Nat) : Prop := (J 98 0 = 0 ∧ J 98 1 = nI q ∧ 3 ≤ q ∧ q ≤ 7 ∧ J 98 9 = nI x ∧ J 98 25 = nI B ∧ B ≤ 60) ∧ (∀ w, w < 11 → iv_m (fun k => J 99 (6 * w + k)) q) ∧ (∀ i, i < x → iv_g J i q B) ∧ (∀ c, c < 4 → iv_c J q B c e) ∧ iv_l J B ∧ (∀ s k, s < 7 → k < 5 → bs (J 105 (5 * s + k)) q) ∧ ∀ j, J 117 j &&& 1 = J 117 j
theorem iv_a_eq {J J2 : Nat → Nat → Int32} {c : Nat} (h : J2 128 c = J 128 c) : iv_a J2 c = iv_a J c := by
  unfold iv_a
  rw [h]
theorem iv_l_to {J J2 : Nat → Nat → Int32} {B : Nat} (h : iv_l J B) (h27 : J2 98 27 = J 98 27) (ho : ∀ a o, o < B → a = 119 ∨ a = 120 ∨ a = 123 ∨ a = 125 ∨ a = 126 → J2 a o = J a o) (hd : ∀ c, c < 4 → J2 128 c = J 128 c) : iv_l J2 B := by
  obtain ⟨M, h1, h2, h3⟩ := h
  refine ⟨M, by rw [h27, h1], by rw [iv_a_eq (hd 0 (by omega)), iv_a_eq (hd 1 (by omega)), iv_a_eq (hd 2 (by omega)), iv_a_eq (hd 3 (by omega))]; exact h2, fun o hB => ?_⟩
  obtain ⟨c, f, t, a0, a1, a2, a3, a4, a5, a6, a7, a8, a9⟩ := h3 o hB
  refine ⟨c, f, t, by rw [ho 119 o hB (by omega)]; exact a0, by rw [ho 120 o hB (by omega)]; exact a1, a2, by rw [ho 125 o hB (by omega)]; exact a3, by rw [ho 126 o hB (by omega)]; exact a4, a5, a6, a7, by rw [ho 123 o hB (by omega), hd c a2]; exact a8, fun o2 q1 q2 => ?_⟩
  rw [ho 120 o2 (by omega) (by omega)] at q2
  rw [ho 126 o2 (by omega) (by omega), ho 123 o2 (by omega) (by omega)]
  exact a9 o2 q1 q2
/-- client d, nothing of whose own has changed -/
theorem iv_c_to {J J2 : Nat → Nat → Int32} {q B c e e2 : Nat} (h : iv_c J q B c e) (he : c ≠ e2 → c ≠ e) (hm : ∀ k, k < 6 → J2 99 (6 * (7 + c) + k) = J 99 (6 * (7 + c) + k)) (hc : ∀ a, 128 ≤ a → a ≤ 135 → J2 a c = J a c) (hb : J2 136 (3 * c) = J 136 (3 * c) ∧ J2 137 (3 * c) = J 137 (3 * c)) (ho : ∀ o, o < B → J 120 o = nI c → ∀ a, 119 ≤ a → a ≤ 127 → a ≠ 124 → J2 a o = J a o) : iv_c J2 q B c e2 := by
  obtain ⟨R, h1, h2, h3⟩ := h
  refine ⟨R, by rw [hc 129 (by omega) (by omega), h1], h2, ?_⟩
  rcases h3 with h3 | ⟨o, j, b, p, u, a0, a1, a2, a3, a4, a5, a6, a7, a8, a9, a10, a11, a12, a13, a14, a15, a16, a17⟩
  · exact Or.inl (by rw [hc 128 (by omega) (by omega), h3])
  · have w := ho o a0 a2
    have w9 := w 119 (by omega) (by omega) (by omega)
    have w1 := w 121 (by omega) (by omega) (by omega)
    refine Or.inr ⟨o, j, b, p, u, a0, by rw [hc 128 (by omega) (by omega), a1], by rw [w 120 (by omega) (by omega) (by omega), a2], by rw [w 123 (by omega) (by omega) (by omega), a3], by rw [w 126 (by omega) (by omega) (by omega), a4], by rw [w9]; exact a5, by rw [hc 132 (by omega) (by omega), a6], a7, by rw [w 127 (by omega) (by omega) (by omega), a8], a9, a10, by rw [hc 130 (by omega) (by omega), a11], a12, by rw [hc 131 (by omega) (by omega)]; exact a13, ?_, ?_, ?_, ?_⟩
    · rw [w9, w1]
      exact a14
    · rw [w9, hc 134 (by omega) (by omega)]
      intro s
      obtain ⟨b1, b2, b3, b4⟩ := a15 s
      exact ⟨b1, b2, by rw [hm j (by omega)]; exact b3, fun s2 => by rw [hm j (by omega)]; exact b4 (he s2)⟩
    · rw [w9, w1, hc 134 (by omega) (by omega), hc 135 (by omega) (by omega)]
      intro s
      obtain ⟨b1, b2, b3⟩ := a16 s
      have := (a15 (Or.inr s)).1
      exact ⟨b1, b2, by rw [hm (j + 1) (by omega)]; exact b3⟩
    · rw [w9, w1, hb.1, hb.2]
      intro s
      obtain ⟨b1, b2, b3, b4⟩ := a17 s
      have := (a15 (Or.inl s)).1
      exact ⟨b1, b2, b3, fun s2 => by rw [hm (j + 1) (by omega)]; exact b4 (he s2)⟩
theorem iv_t_to {J J2 : Nat → Nat → Int32} {B k c r : Nat} (h : iv_t J B k c r) (h1 : J2 129 c = J 129 c) (h2 : J2 128 c = J 128 c) (h3 : ∀ o, o < B → J2 119 o = J 119 o) : iv_t J2 B k c r := by
  intro R hR e
  rw [h1] at e
  obtain ⟨a, b⟩ := h R hR e
  refine ⟨a, fun w o ho d => ?_⟩
  rw [h2] at d
  rw [h3 o ho]
  exact b w o ho d
/-- an idle or a new round's client: a message of an older round -/
theorem iv_q_eq {J J2 : Nat → Nat → Int32} {c : Nat} (h1 : J2 128 c = J 128 c) (h2 : J2 130 c = J 130 c) (h3 : J2 132 c = J 132 c) (h4 : J 128 c ≠ -1 → J2 127 (jx_x (J 128 c)) = J 127 (jx_x (J 128 c))) : iv_q J2 c = iv_q J c := by
  unfold iv_q
  rw [h1, h2, h3]
  by_cases h : J 128 c = -1
  · rw [if_pos h, if_pos h]
  · rw [h4 h]
theorem iv_p_one {J J2 : Nat → Nat → Int32} {c : Nat} (hc : c < 4) (h : ∀ d, d < 4 → d ≠ c → iv_q J2 d = iv_q J d) : iv_p J2 + iv_q J c = iv_p J + iv_q J2 c := by
  unfold iv_p
  have : c = 0 ∨ c = 1 ∨ c = 2 ∨ c = 3 := by omega
  rcases this with r | r | r | r
  · subst r
    rw [h 1 (by omega) (by omega), h 2 (by omega) (by omega), h 3 (by omega) (by omega)]
    omega
  · subst r
    rw [h 0 (by omega) (by omega), h 2 (by omega) (by omega), h 3 (by omega) (by omega)]
    omega
  · subst r
    rw [h 0 (by omega) (by omega), h 1 (by omega) (by omega), h 3 (by omega) (by omega)]
    omega
  · subst r
    rw [h 0 (by omega) (by omega), h 1 (by omega) (by omega), h 2 (by omega) (by omega)]
    omega
theorem iv_a_one {J J2 : Nat → Nat → Int32} {c : Nat} (hc : c < 4) (h : ∀ d, d < 4 → d ≠ c → iv_a J2 d = iv_a J d) : (iv_a J2 0 + iv_a J2 1 + iv_a J2 2 + iv_a J2 3) + iv_a J c = (iv_a J 0 + iv_a J 1 + iv_a J 2 + iv_a J 3) + iv_a J2 c := by
  have : c = 0 ∨ c = 1 ∨ c = 2 ∨ c = 3 := by omega
  rcases this with r | r | r | r
  · subst r
    rw [h 1 (by omega) (by omega), h 2 (by omega) (by omega), h 3 (by omega) (by omega)]
    omega
  · subst r
    rw [h 0 (by omega) (by omega), h 2 (by omega) (by omega), h 3 (by omega) (by omega)]
    omega
  · subst r
    rw [h 0 (by omega) (by omega), h 1 (by omega) (by omega), h 3 (by omega) (by omega)]
    omega
  · subst r
    rw [h 0 (by omega) (by omega), h 1 (by omega) (by omega), h 2 (by omega) (by omega)]
    omega
/-- what client c's step may touch -/
def iv_own (c o a j : Nat) : Prop := jc_own c a j ∨ ((a = 123 ∨ a = 124 ∨ a = 126 ∨ a = 127) ∧ j = o) ∨ (a = 98 ∧ (j = 26 ∨ j = 27))
/-- a client that isn't c has another operation -/
theorem iv_ne {J : Nat → Nat → Int32} {q x B e c d o o2 : Nat} (h : Iv J q x B e) (hd : d < 4) (hdc : d ≠ c) (hc : c < 4) (ho : o < B) (h120 : J 120 o = nI c) (hdo : J 128 d = nI o2) (ho2 : o2 < B) : o2 ≠ o := by
  intro w
  subst w
  obtain ⟨R, -, -, h3⟩ := h.2.2.2.1 d hd
  have hB := h.1.2.2.2.2.2.2
  rcases h3 with h3 | ⟨o3, j, b, p, u, a0, a1, a2, -⟩
  · have w := hdo.symm.trans h3
    rw [jx_m1 (by omega)] at w
    exact w
  · have w := hdo.symm.trans a1
    rw [jx_eqnn (by omega) (by omega)] at w
    subst w
    have w := h120.symm.trans a2
    rw [jx_eqnn (by omega) (by omega)] at w
    exact hdc w.symm
theorem iv_does {J : Nat → Nat → Int32} {q x B e c : Nat} (h : Iv J q x B e) (hc : c < 4) : J 128 c = -1 ∨ ∃ o, o < B ∧ J 128 c = nI o := by
  obtain ⟨R, -, -, h3⟩ := h.2.2.2.1 c hc
  rcases h3 with h3 | ⟨o, j, b, p, u, a0, a1, -⟩
  · exact Or.inl h3
  · exact Or.inr ⟨o, a0, a1⟩
theorem iv_p_cl {J J2 : Nat → Nat → Int32} {q x B e c o : Nat} (h : Iv J q x B e) (hc : c < 4) (ho : o < B) (h120 : J 120 o = nI c) (hJ : ∀ a j, 98 ≤ a → a < 140 → ¬ iv_own c o a j → J2 a j = J a j) : iv_p J2 + iv_q J c = iv_p J + iv_q J2 c := by
  refine iv_p_one hc (fun d hd hdc => iv_q_eq (hJ _ _ (by omega) (by omega) (by unfold iv_own jc_own; omega)) (hJ _ _ (by omega) (by omega) (by unfold iv_own jc_own; omega)) (hJ _ _ (by omega) (by omega) (by unfold iv_own jc_own; omega)) (fun hn => ?_))
  rcases iv_does h hd with w | ⟨o2, w1, w2⟩
  · exact absurd w hn
  · have hB := h.1.2.2.2.2.2.2
    have := iv_ne h hd hdc hc ho h120 w2 w1
    rw [w2, jx_xn (by omega)]
    exact hJ _ _ (by omega) (by omega) (by unfold iv_own jc_own; omega)
theorem Iv_cl {J J2 : Nat → Nat → Int32} {q x B e e2 c o : Nat} (h : Iv J q x B e) (hc : c < 4) (ho : o < B) (h120 : J 120 o = nI c) (hJ : ∀ a j, 98 ≤ a → a < 140 → ¬ iv_own c o a j → J2 a j = J a j) (he : ∀ d, d < 4 → d ≠ c → d ≠ e2 → d ≠ e) (hm : iv_m (fun k => J2 99 (6 * (7 + c) + k)) q) (hcl : iv_c J2 q B c e2) (ht : ∀ k r, r ≤ 1080 → iv_t J B k c r → iv_t J2 B k c r) (hl : iv_l J2 B) : Iv J2 q x B e2 := by
  obtain ⟨⟨a0, a1, a2, a3, a4, a5, a6⟩, b, g, cl, l, v, bb⟩ := id h
  have h98 : ∀ j, j ≠ 26 → j ≠ 27 → J2 98 j = J 98 j := fun j h1 h2 => hJ _ _ (by omega) (by omega) (by unfold iv_own jc_own; omega)
  have hbag : ∀ a j, 106 ≤ a → a ≤ 118 → J2 a j = J a j := fun a j h1 h2 => hJ _ _ (by omega) (by omega) (by unfold iv_own jc_own; omega)
  have h119 : ∀ j, J2 119 j = J 119 j := fun j => hJ _ _ (by omega) (by omega) (by unfold iv_own jc_own; omega)
  refine ⟨⟨by rw [h98 0 (by omega) (by omega), a0], by rw [h98 1 (by omega) (by omega), a1], a2, a3, by rw [h98 9 (by omega) (by omega), a4], by rw [h98 25 (by omega) (by omega), a5], a6⟩, fun w hw => ?_, fun i hi => ?_, fun d hd => ?_, hl, fun s k hs hk => ?_, fun j => ?_⟩
  · by_cases hwc : w = 7 + c
    · subst hwc
      exact hm
    · exact iv_m_to (b w hw) (fun k hk => hJ _ _ (by omega) (by omega) (by unfold iv_own jc_own; omega))
  · refine iv_g_to (g i hi) (fun a h1 h2 => hbag a i h1 (by omega)) (fun m hm => hbag 118 _ (by omega) (by omega)) (fun k d r hd hr w => ?_)
    by_cases hdc : d = c
    · subst hdc
      exact ht k r hr w
    · exact iv_t_to w (hJ _ _ (by omega) (by omega) (by unfold iv_own jc_own; omega)) (hJ _ _ (by omega) (by omega) (by unfold iv_own jc_own; omega)) (fun o _ => h119 o)
  · by_cases hdc : d = c
    · subst hdc
      exact hcl
    · refine iv_c_to (cl d hd) (he d hd hdc) (fun k hk => hJ _ _ (by omega) (by omega) (by unfold iv_own jc_own; omega)) (fun a h1 h2 => hJ _ _ (by omega) (by omega) (by unfold iv_own jc_own; omega)) ⟨hJ _ _ (by omega) (by omega) (by unfold iv_own jc_own; omega), hJ _ _ (by omega) (by omega) (by unfold iv_own jc_own; omega)⟩ (fun o2 h1 h2 a h3 h4 h5 => hJ _ _ (by omega) (by omega) ?_)
      have : o2 ≠ o := fun w => by
        subst w
        have w := h120.symm.trans h2
        rw [jx_eqnn (by omega) (by omega)] at w
        exact hdc w.symm
      unfold iv_own jc_own
      omega
  · rw [hJ _ _ (by omega) (by omega) (by unfold iv_own jc_own; omega)]
    exact v s k hs hk
  · rw [hbag 117 j (by omega) (by omega)]
    exact bb j
/-- the bag changes, nothing else that counts -/
theorem Iv_bag {J J2 : Nat → Nat → Int32} {q x x2 B e : Nat} (h : Iv J q x B e) (hF : ∀ a j, 99 ≤ a → a < 140 → ¬ (106 ≤ a ∧ a ≤ 118) → J2 a j = J a j) (h98 : ∀ j, j = 0 ∨ j = 1 ∨ j = 25 ∨ j = 27 → J2 98 j = J 98 j) (h9 : J2 98 9 = nI x2) (hg : ∀ i, i < x2 → iv_g J2 i q B) (hb : ∀ j, J2 117 j &&& 1 = J2 117 j) : Iv J2 q x2 B e ∧ iv_p J2 = iv_p J := by
  obtain ⟨⟨a0, a1, a2, a3, a4, a5, a6⟩, b, g, cl, l, v, bb⟩ := id h
  refine ⟨⟨⟨by rw [h98 0 (by omega), a0], by rw [h98 1 (by omega), a1], a2, a3, h9, by rw [h98 25 (by omega), a5], a6⟩, fun w hw => iv_m_to (b w hw) (fun k hk => hF _ _ (by omega) (by omega) (by omega)), hg, fun d hd => ?_, iv_l_to l (h98 27 (by omega)) (fun a o _ h1 => hF _ _ (by omega) (by omega) (by omega)) (fun c _ => hF _ _ (by omega) (by omega) (by omega)), fun s k hs hk => ?_, hb⟩, ?_⟩
  · exact iv_c_to (cl d hd) id (fun k hk => hF _ _ (by omega) (by omega) (by omega)) (fun a h1 h2 => hF _ _ (by omega) (by omega) (by omega)) ⟨hF _ _ (by omega) (by omega) (by omega), hF _ _ (by omega) (by omega) (by omega)⟩ (fun o2 h1 h2 a h3 h4 h5 => hF _ _ (by omega) (by omega) (by omega))
  · rw [hF _ _ (by omega) (by omega) (by omega)]
    exact v s k hs hk
  · have hq : ∀ c, iv_q J2 c = iv_q J c := fun c => iv_q_eq (hF _ _ (by omega) (by omega) (by omega)) (hF _ _ (by omega) (by omega) (by omega)) (hF _ _ (by omega) (by omega) (by omega)) (fun _ => hF _ _ (by omega) (by omega) (by omega))
    unfold iv_p
    rw [hq, hq, hq, hq]
theorem iv_t_F {J J2 : Nat → Nat → Int32} {B k c r : Nat} (h : iv_t J B k c r) (hF : ∀ a j, 99 ≤ a → a < 140 → ¬ (106 ≤ a ∧ a ≤ 118) → J2 a j = J a j) : iv_t J2 B k c r := iv_t_to h (hF _ _ (by omega) (by omega) (by omega)) (hF _ _ (by omega) (by omega) (by omega)) (fun _ _ => hF _ _ (by omega) (by omega) (by omega))
/-- a message more -/
theorem Iv_ly {J J2 : Nat → Nat → Int32} {q x B e : Nat} (h : Iv J q x B e) (hF : jb_F J J2) (h9 : J2 98 9 = nI (x + 1)) (hl : ∀ a i, 106 ≤ a → a < 118 → i < x → J2 a i = J a i) (hm : ∀ i, i < 6 * x → J2 118 i = J 118 i) (hg : iv_g J2 x q B) (hb : ∀ j, J2 117 j = J 117 j ∨ J2 117 j = 0 ∨ J2 117 j = 1) : Iv J2 q (x + 1) B e ∧ iv_p J2 = iv_p J := by
  have hF2 : ∀ a j, 99 ≤ a → a < 140 → ¬ (106 ≤ a ∧ a ≤ 118) → J2 a j = J a j := fun a j h1 h2 h3 => hF a j (by omega) h2 h3 (by omega)
  refine Iv_bag h hF2 (fun j hj => hF 98 j (by omega) (by omega) (by omega) (by omega)) h9 (fun i hi => ?_) (fun j => ?_)
  · by_cases e1 : i = x
    · subst e1
      exact hg
    · exact iv_g_to (h.2.2.1 i (by omega)) (fun a h1 h2 => hl a i h1 (by omega) (by omega)) (fun m hm2 => hm _ (by omega)) (fun k c r _ _ w => iv_t_F w hF2)
  · rcases hb j with w | w | w
    · rw [w]
      exact h.2.2.2.2.2.2 j
    · rw [w]
      decide
    · rw [w]
      decide
/-- a message less -/
theorem Iv_sh {J : Nat → Nat → Int32} {q x B e i : Nat} (h : Iv J q x B e) (hi : i < x) : Iv (mo_sh J i (x - 1)) q (x - 1) B e ∧ iv_p (mo_sh J i (x - 1)) = iv_p J := by
  have hF2 : ∀ a j, 99 ≤ a → a < 140 → ¬ (106 ≤ a ∧ a ≤ 118) → mo_sh J i (x - 1) a j = J a j := fun a j h1 h2 h3 => mo_sh_na (by omega)
  refine Iv_bag h hF2 (fun j hj => mo_sh_f (by omega)) mo_sh_9 (fun k hk => ?_) (fun j => ?_)
  · by_cases h1 : k < i
    · refine iv_g_to (h.2.2.1 k (by omega)) (fun a h2 h3 => by rw [mo_sh_b h2 (by omega) hk, if_pos h1]) (fun m hm => by rw [mo_sh_m (by omega), if_pos (by omega)]) (fun k c r _ _ w => iv_t_F w hF2)
    · refine iv_g_to (h.2.2.1 (k + 1) (by omega)) (fun a h2 h3 => by rw [mo_sh_b h2 (by omega) hk, if_neg h1]) (fun m hm => by rw [mo_sh_m (by omega), if_neg (by omega)]; congr 1; omega) (fun k c r _ _ w => iv_t_F w hF2)
  · have w : mo_sh J i (x - 1) 117 j = J 117 j ∨ mo_sh J i (x - 1) 117 j = J 117 (j + 1) := by
      unfold mo_sh
      rw [mo_s2_na (by omega)]
      unfold mo_s1
      split
      · right
        rw [jx_u_na (by omega)]
      · left
        rw [jx_u_na (by omega)]
    rcases w with w | w
    · rw [w]
      exact h.2.2.2.2.2.2 j
    · rw [w]
      exact h.2.2.2.2.2.2 (j + 1)
/-- cells of no account -/
theorem Iv_98 {J J2 : Nat → Nat → Int32} {q x B e : Nat} (h : Iv J q x B e) (hF : ∀ a j, 99 ≤ a → a < 140 → J2 a j = J a j) (h98 : ∀ j, j = 0 ∨ j = 1 ∨ j = 9 ∨ j = 25 ∨ j = 27 → J2 98 j = J 98 j) : Iv J2 q x B e ∧ iv_p J2 = iv_p J :=
  Iv_bag h (fun a j h1 h2 _ => hF a j h1 h2) (fun j hj => h98 j (by omega)) (by rw [h98 9 (by omega)]; exact h.1.2.2.2.2.1) (fun i hi => iv_g_to (h.2.2.1 i hi) (fun a h1 h2 => hF a i (by omega) (by omega)) (fun m _ => hF _ _ (by omega) (by omega)) (fun k c r _ _ w => iv_t_F w (fun a j h1 h2 _ => hF a j h1 h2))) (fun j => by rw [hF 117 j (by omega) (by omega)]; exact h.2.2.2.2.2.2 j)
