/-- t is a message that lies nowhere -/
def hd_ok (n : Nat) (K : Nat → Nat × Nat) (P : Nat → Nat → Option Nat) (L : Nat → Nat) (x : Nat) (S : Nat → Nat) (z t : Nat) : Prop := ob_M K P t ∧ 140 ≤ t ∧ t + 5 ≤ n ∧ (∀ i, i < x → L i ≠ t) ∧ ∀ i, i < z → S i ≠ t
/-- such messages stay as they are -/
def hd_k (n : Nat) (K : Nat → Nat × Nat) (I : Nat → Nat → Int32) (P : Nat → Nat → Option Nat) (L : Nat → Nat) (x : Nat) (S : Nat → Nat) (z n2 : Nat) (K2 : Nat → Nat × Nat) (I2 : Nat → Nat → Int32) (P2 : Nat → Nat → Option Nat) (L2 : Nat → Nat) (x2 : Nat) (S2 : Nat → Nat) (z2 : Nat) : Prop := ∀ t, hd_ok n K P L x S z t → hd_ok n2 K2 P2 L2 x2 S2 z2 t ∧ ∀ b j, t ≤ b → b < t + 5 → I2 b j = I b j
theorem hd_k.refl {n : Nat} {K : Nat → Nat × Nat} {I : Nat → Nat → Int32} {P : Nat → Nat → Option Nat} {L S : Nat → Nat} {x z : Nat} : hd_k n K I P L x S z n K I P L x S z := fun _ h => ⟨h, fun _ _ _ _ => rfl⟩
theorem hd_k.trans {n n2 n3 : Nat} {K K2 K3 : Nat → Nat × Nat} {I I2 I3 : Nat → Nat → Int32} {P P2 P3 : Nat → Nat → Option Nat} {L S L2 S2 L3 S3 : Nat → Nat} {x z x2 z2 x3 z3 : Nat} (h : hd_k n K I P L x S z n2 K2 I2 P2 L2 x2 S2 z2) (g : hd_k n2 K2 I2 P2 L2 x2 S2 z2 n3 K3 I3 P3 L3 x3 S3 z3) : hd_k n K I P L x S z n3 K3 I3 P3 L3 x3 S3 z3 := fun t ht => by
  obtain ⟨a1, a2⟩ := h t ht
  obtain ⟨b1, b2⟩ := g t a1
  exact ⟨b1, fun b j x y => (b2 b j x y).trans (a2 b j x y)⟩
theorem rs_ok_to {K K2 : Nat → Nat × Nat} {P P2 : Nat → Nat → Option Nat} (h : rs_ok K P) (hK : ∀ b, 11 ≤ b → b < 22 → K2 b = K b) (hP : ∀ b j, b = 11 ∨ b = 13 → P2 b j = P b j) : rs_ok K2 P2 := by
  obtain ⟨a0, a1, a2, a3, a4, a5, a6, a7, a8, a9, a10, a11, a12, a13⟩ := h
  refine ⟨by rw [hK _ (by omega) (by omega), a0], by rw [hK _ (by omega) (by omega), a1], by rw [hK _ (by omega) (by omega), a2], fun c hc => ⟨by rw [hP _ _ (by omega)]; exact (a3 c hc).1, by rw [hK _ (by omega) (by omega)]; exact (a3 c hc).2⟩, by rw [hK _ (by omega) (by omega), a4], by rw [hK _ (by omega) (by omega), a5], by rw [hK _ (by omega) (by omega), a6], by rw [hK _ (by omega) (by omega), a7], by rw [hP _ _ (by omega), a8], by rw [hP _ _ (by omega), a9], by rw [hP _ _ (by omega), a10], by rw [hP _ _ (by omega), a11], by rw [hP _ _ (by omega), a12], by rw [hP _ _ (by omega), a13]⟩
theorem mo_ok_to {K K2 : Nat → Nat × Nat} {P P2 : Nat → Nat → Option Nat} (h : mo_ok K P) (hK : ∀ b, 98 ≤ b → b < 140 → K2 b = K b) (hP : ∀ j, P2 98 j = P 98 j) : mo_ok K2 P2 := ⟨fun a h1 h2 => by rw [hK a h1 h2]; exact h.1 a h1 h2, fun k => by rw [hP]; exact h.2 k⟩
/-- J2 is J but for the bag -/
def jb_F (J J2 : Nat → Nat → Int32) : Prop := ∀ a j, 98 ≤ a → a < 140 → ¬ (106 ≤ a ∧ a ≤ 118) → ¬ (a = 98 ∧ (j = 9 ∨ j = 10)) → J2 a j = J a j
theorem jb_F.refl {J : Nat → Nat → Int32} : jb_F J J := fun _ _ _ _ _ _ => rfl
theorem jb_F.trans {J J2 J3 : Nat → Nat → Int32} (h : jb_F J J2) (g : jb_F J2 J3) : jb_F J J3 := fun a j p q r s => (g a j p q r s).trans (h a j p q r s)

theorem sv_r_to {I I2 J J2 : Nat → Nat → Int32} {s : Nat} (hs : s < 7) (h : sv_r I J s) (hI : ∀ b j, 22 ≤ b → b < 78 → I2 b j = I b j) (hJ : ∀ a j, 99 ≤ a → a < 106 → J2 a j = J a j) : sv_r I2 J2 s := by
  obtain ⟨a0, a1, a2, a3⟩ := h
  refine ⟨by rw [hI _ _ (by omega) (by omega), hJ _ _ (by omega) (by omega), a0], fun k hk => by rw [hI _ _ (by omega) (by omega), hJ _ _ (by omega) (by omega), a1 k hk], fun r hr => ⟨by rw [hI _ _ (by omega) (by omega), hJ _ _ (by omega) (by omega), (a2 r hr).1], by rw [hI _ _ (by omega) (by omega), hJ _ _ (by omega) (by omega), (a2 r hr).2]⟩, fun k hk => ⟨?_, ?_, ?_⟩⟩
  · rw [hI _ _ (by omega) (by omega), hJ _ _ (by omega) (by omega), (a3 k hk).1]
  · rw [hI _ _ (by omega) (by omega), hJ _ _ (by omega) (by omega), (a3 k hk).2.1]
  · rw [hI _ _ (by omega) (by omega), hJ _ _ (by omega) (by omega), (a3 k hk).2.2]
theorem cn_s_to {I I2 J J2 : Nat → Nat → Int32} {c : Nat} (hc : c < 4) (h : cn_s I J c) (hI : ∀ b j, 78 ≤ b → b < 98 → I2 b j = I b j) (hJ : ∀ a j, 99 ≤ a → a < 140 → ¬ (106 ≤ a ∧ a ≤ 118) → J2 a j = J a j) : cn_s I2 J2 c := by
  obtain ⟨a0, a1, a2, a3⟩ := h
  exact ⟨by rw [hI _ _ (by omega) (by omega), a0], by rw [hI _ _ (by omega) (by omega), hJ _ _ (by omega) (by omega) (by omega), a1], by rw [hI _ _ (by omega) (by omega), hJ _ _ (by omega) (by omega) (by omega), a2], fun k hk => by rw [hI _ _ (by omega) (by omega), hJ _ _ (by omega) (by omega) (by omega), a3 k hk]⟩
theorem cn_o_to {I I2 J J2 : Nat → Nat → Int32} {c o : Nat} (hc : c < 4) (h : cn_o I J c o) (hI : ∀ b j, 78 ≤ b → b < 98 → I2 b j = I b j) (hJ : ∀ a j, 99 ≤ a → a < 140 → ¬ (106 ≤ a ∧ a ≤ 118) → J2 a j = J a j) : cn_o I2 J2 c o := by
  obtain ⟨a0, a1, a2, a3, a4, a5, a6, a7, a8⟩ := h
  have r99 : ∀ j, J2 99 j = J 99 j := fun j => hJ 99 j (by decide) (by decide) (by decide)
  have r119 : ∀ j, J2 119 j = J 119 j := fun j => hJ 119 j (by decide) (by decide) (by decide)
  have r121 : ∀ j, J2 121 j = J 121 j := fun j => hJ 121 j (by decide) (by decide) (by decide)
  have r130 : ∀ j, J2 130 j = J 130 j := fun j => hJ 130 j (by decide) (by decide) (by decide)
  have r131 : ∀ j, J2 131 j = J 131 j := fun j => hJ 131 j (by decide) (by decide) (by decide)
  have r132 : ∀ j, J2 132 j = J 132 j := fun j => hJ 132 j (by decide) (by decide) (by decide)
  have r133 : ∀ j, J2 133 j = J 133 j := fun j => hJ 133 j (by decide) (by decide) (by decide)
  have r134 : ∀ j, J2 134 j = J 134 j := fun j => hJ 134 j (by decide) (by decide) (by decide)
  have r135 : ∀ j, J2 135 j = J 135 j := fun j => hJ 135 j (by decide) (by decide) (by decide)
  have r136 : ∀ j, J2 136 j = J 136 j := fun j => hJ 136 j (by decide) (by decide) (by decide)
  have r137 : ∀ j, J2 137 j = J 137 j := fun j => hJ 137 j (by decide) (by decide) (by decide)
  have ro : mo_of J2 c o = mo_of J c o := by
    unfold mo_of
    simp only [r136, r121, r137]
  unfold cn_o
  simp only [r99, r119, r121, r130, r131, r132, r133, r134, r135, r136, r137, ro]
  refine ⟨by rw [hI _ _ (by omega) (by omega), a0], by rw [hI _ _ (by omega) (by omega), a1], by rw [hI _ _ (by omega) (by omega), a2], fun r hr => by rw [hI _ _ (by omega) (by omega), a3 r hr], fun r hr hq => by rw [hI _ _ (by omega) (by omega), a4 r hr hq], fun h1 h2 => by rw [hI _ _ (by omega) (by omega), a5 h1 h2], fun h1 => ?_, fun h1 => ?_, fun h1 j h2 h3 => ?_⟩
  · rw [hI _ _ (by omega) (by omega), hI _ _ (by omega) (by omega), hI _ _ (by omega) (by omega)]
    exact a6 h1
  · rw [hI _ _ (by omega) (by omega), hI _ _ (by omega) (by omega)]
    exact a7 h1
  · rw [hI _ _ (by omega) (by omega)]
    exact a8 h1 j h2 h3
theorem op_r_to {I I2 J J2 : Nat → Nat → Int32} {a o : Nat} (h : op_r I J a o) (hI : ∀ j, I2 a j = I a j) (hJ : ∀ b j, 119 ≤ b → b < 128 → J2 b j = J b j) : op_r I2 J2 a o := by
  obtain ⟨a0, a1, a2, a3, a4, a5, a6, a7⟩ := h
  exact ⟨by rw [hI, hJ _ _ (by omega) (by omega), a0], by rw [hI, hJ _ _ (by omega) (by omega), a1], by rw [hI, hJ _ _ (by omega) (by omega), a2], by rw [hI, hJ _ _ (by omega) (by omega), a3], by rw [hI, hJ _ _ (by omega) (by omega), a4], by rw [hI, hJ _ _ (by omega) (by omega), a5], by rw [hI, hJ _ _ (by omega) (by omega), a6], by rw [hI, hJ _ _ (by omega) (by omega), a7]⟩
theorem rl_N_F {n n2 : Nat} {K K2 : Nat → Nat × Nat} {I I2 : Nat → Nat → Int32} {P P2 : Nat → Nat → Option Nat} {J J2 : Nat → Nat → Int32} {B : Nat} {A : Nat → Nat} (h : rl_N n K I P J B A) (g : bg_F n K I P n2 K2 I2 P2) (hJ : jb_F J J2) (h140 : 140 ≤ n) : rl_N n2 K2 I2 P2 J2 B A := by
  obtain ⟨a0, a1, a2, a3, a4, a5, a6⟩ := h
  obtain ⟨g1, g2, g3, g4, g5⟩ := g
  have hJ2 : ∀ a j, 99 ≤ a → a < 140 → ¬ (106 ≤ a ∧ a ≤ 118) → J2 a j = J a j := fun a j h1 h2 h3 => hJ a j (by omega) h2 h3 (by omega)
  refine ⟨cl_ok_to a0 (fun b h1 h2 => g2 b (by omega)) (fun b j h1 h2 h3 h4 _ _ _ => g4 b j h1 (by omega) h3 h4), rs_ok_to a1 (fun b h1 h2 => g2 b (by omega)) (fun b j h1 => g4 b j (by omega) (by omega) (by omega) (by omega)), mo_ok_to a2 (fun b h1 h2 => g2 b (by omega)) (fun j => g4 98 j (by omega) (by omega) (by omega) (by omega)), fun s hs => sv_r_to hs (a3 s hs) (fun b j h1 h2 => g3 b j (by omega) (by omega) (by omega) (by omega) (by omega)) (fun a j h1 h2 => hJ2 a j h1 (by omega) (by omega)), fun c hc => ?_, ?_, ?_⟩
  · obtain ⟨b0, b1⟩ := a4 c hc
    refine ⟨cn_s_to hc b0 (fun b j h1 h2 => g3 b j (by omega) (by omega) (by omega) (by omega) (by omega)) hJ2, ?_⟩
    rw [hJ2 128 c (by omega) (by omega) (by omega), g4 (78 + 5 * c) 4 (by omega) (by omega) (by omega) (by omega)]
    rcases b1 with b1 | ⟨o, h1, h2, h3, h5⟩
    · exact Or.inl b1
    · exact Or.inr ⟨o, h1, h2, h3, cn_o_to hc h5 (fun b j h1 h2 => g3 b j (by omega) (by omega) (by omega) (by omega) (by omega)) hJ2⟩
  · obtain ⟨b0, b1, b2, b3, b4, b5, b6⟩ := a5
    refine ⟨b0, by rw [hJ 98 25 (by omega) (by omega) (by omega) (by omega), b1], by rw [g3 9 1 (by omega) (by omega) (by omega) (by omega) (by omega), b2], by rw [g3 9 2 (by omega) (by omega) (by omega) (by omega) (by omega), hJ 98 26 (by omega) (by omega) (by omega) (by omega), b3], by rw [g3 9 3 (by omega) (by omega) (by omega) (by omega) (by omega), hJ 98 27 (by omega) (by omega) (by omega) (by omega), b4], fun o a ho hp => ?_, fun o ho => ?_⟩
    · rw [g4 10 o (by omega) (by omega) (by omega) (by omega)] at hp
      obtain ⟨d1, d2, d3, d4⟩ := b5 o a ho hp
      exact ⟨by rw [g2 a d3, d1], d2, by omega, by rw [(g5 a d3 d1 0).1, d4]⟩
    · obtain ⟨d1, d2⟩ := b6 o ho
      obtain ⟨e1, e2, e3, e4⟩ := b5 o _ (by omega) d1
      exact ⟨by rw [g4 10 o (by omega) (by omega) (by omega) (by omega), d1], op_r_to d2 (fun j => (g5 _ e3 e1 j).1) (fun b j h1 h2 => hJ2 b j (by omega) (by omega) (by omega))⟩
  · rw [g3 3 5 (by omega) (by omega) (by omega) (by omega) (by omega), hJ 98 1 (by omega) (by omega) (by omega) (by omega), a6]
/-- J2 is J but for the bag and the hand -/
def jb_W (J J2 : Nat → Nat → Int32) : Prop := ∀ a j, 98 ≤ a → a < 140 → ¬ (106 ≤ a ∧ a ≤ 118) → (a = 98 → j = 1 ∨ j = 25 ∨ j = 26 ∨ j = 27) → J2 a j = J a j
theorem rl_N_W {n n2 : Nat} {K K2 : Nat → Nat × Nat} {I I2 : Nat → Nat → Int32} {P P2 : Nat → Nat → Option Nat} {J J2 : Nat → Nat → Int32} {B : Nat} {A : Nat → Nat} (h : rl_N n K I P J B A) (g : bg_F n K I P n2 K2 I2 P2) (hJ : jb_W J J2) (h140 : 140 ≤ n) : rl_N n2 K2 I2 P2 J2 B A := by
  obtain ⟨a0, a1, a2, a3, a4, a5, a6⟩ := h
  obtain ⟨g1, g2, g3, g4, g5⟩ := g
  have hJ2 : ∀ a j, 99 ≤ a → a < 140 → ¬ (106 ≤ a ∧ a ≤ 118) → J2 a j = J a j := fun a j h1 h2 h3 => hJ a j (by omega) h2 h3 (by omega)
  refine ⟨cl_ok_to a0 (fun b h1 h2 => g2 b (by omega)) (fun b j h1 h2 h3 h4 _ _ _ => g4 b j h1 (by omega) h3 h4), rs_ok_to a1 (fun b h1 h2 => g2 b (by omega)) (fun b j h1 => g4 b j (by omega) (by omega) (by omega) (by omega)), mo_ok_to a2 (fun b h1 h2 => g2 b (by omega)) (fun j => g4 98 j (by omega) (by omega) (by omega) (by omega)), fun s hs => sv_r_to hs (a3 s hs) (fun b j h1 h2 => g3 b j (by omega) (by omega) (by omega) (by omega) (by omega)) (fun a j h1 h2 => hJ2 a j h1 (by omega) (by omega)), fun c hc => ?_, ?_, ?_⟩
  · obtain ⟨b0, b1⟩ := a4 c hc
    refine ⟨cn_s_to hc b0 (fun b j h1 h2 => g3 b j (by omega) (by omega) (by omega) (by omega) (by omega)) hJ2, ?_⟩
    rw [hJ2 128 c (by omega) (by omega) (by omega), g4 (78 + 5 * c) 4 (by omega) (by omega) (by omega) (by omega)]
    rcases b1 with b1 | ⟨o, h1, h2, h3, h5⟩
    · exact Or.inl b1
    · exact Or.inr ⟨o, h1, h2, h3, cn_o_to hc h5 (fun b j h1 h2 => g3 b j (by omega) (by omega) (by omega) (by omega) (by omega)) hJ2⟩
  · obtain ⟨b0, b1, b2, b3, b4, b5, b6⟩ := a5
    refine ⟨b0, by rw [hJ 98 25 (by omega) (by omega) (by omega) (by omega), b1], by rw [g3 9 1 (by omega) (by omega) (by omega) (by omega) (by omega), b2], by rw [g3 9 2 (by omega) (by omega) (by omega) (by omega) (by omega), hJ 98 26 (by omega) (by omega) (by omega) (by omega), b3], by rw [g3 9 3 (by omega) (by omega) (by omega) (by omega) (by omega), hJ 98 27 (by omega) (by omega) (by omega) (by omega), b4], fun o a ho hp => ?_, fun o ho => ?_⟩
    · rw [g4 10 o (by omega) (by omega) (by omega) (by omega)] at hp
      obtain ⟨d1, d2, d3, d4⟩ := b5 o a ho hp
      exact ⟨by rw [g2 a d3, d1], d2, by omega, by rw [(g5 a d3 d1 0).1, d4]⟩
    · obtain ⟨d1, d2⟩ := b6 o ho
      obtain ⟨e1, e2, e3, e4⟩ := b5 o _ (by omega) d1
      exact ⟨by rw [g4 10 o (by omega) (by omega) (by omega) (by omega), d1], op_r_to d2 (fun j => (g5 _ e3 e1 j).1) (fun b j h1 h2 => hJ2 b j (by omega) (by omega) (by omega))⟩
  · rw [g3 3 5 (by omega) (by omega) (by omega) (by omega) (by omega), hJ 98 1 (by omega) (by omega) (by omega) (by omega), a6]
/-- a message more -/
theorem rl_new {n ms : Nat} {K : Nat → Nat × Nat} {I : Nat → Nat → Int32} {P : Nat → Nat → Option Nat} {J J2 : Nat → Nat → Int32} {L S : Nat → Nat} {x z e c e2 c2 h : Nat} (hB : rl_B n ms K I P J L x S z e c e2 c2 h) (hx : x + h + 1 ≤ 16000) {kd s cl : Int32} {g q z2 n2 ms2 e3 c3 : Nat} {K2 : Nat → Nat × Nat} {I2 I3 : Nat → Nat → Int32} {P2 : Nat → Nat → Option Nat} (hK2 : bg_ok n2 K2 I2 P2 (ls_up L x q) (x + 1) S z2 e3 c3 e2 c2) (hz : (z = z2 + 1 ∧ q = S z2) ∨ (z = 0 ∧ z2 = 0 ∧ q = n)) (h6 : I2 6 2 = I 6 2 + 1) (hK : ∀ b, b < n → K2 b = K b) (hI : ∀ b j, b < n → b ≠ 6 → b ≠ 7 → b ≠ 8 → (b < q ∨ q + 5 ≤ b) → I2 b j = I b j) (hP : ∀ b j, b < n → b ≠ 7 → b ≠ 8 → b ≠ e → b ≠ e2 → P2 b j = P b j) (hn : n2 + 5 * (x + z) + c ≤ n + 5 * (x + 1 + z2) + c3) (hm : ms2 + 22 * (x + z) + 4 * c ≤ ms + 22 * (x + 1 + z2) + 4 * c3) (hI3 : ∀ b j, b < q ∨ q + 5 ≤ b → I3 b j = I2 b j) (hq : mgs I3 q J2 x) (hj9 : J2 98 9 = nI (x + 1)) (hj10 : J2 98 10 = J 98 10 + 1) (hJ : ∀ a i, 106 ≤ a → a < 118 → i < x → J2 a i = J a i) (hJm : ∀ i, i < 6 * x → J2 118 i = J 118 i) (hnn : n ≤ n2) :
    rl_B n2 ms2 K2 I3 P2 J2 (ls_up L x q) (x + 1) S z2 e3 c3 e2 c2 h ∧ bg_F n K I P n2 K2 I3 P2 ∧ hd_k n K I P L x S z n2 K2 I3 P2 (ls_up L x q) (x + 1) S z2 := by
  obtain ⟨b0, b1, b2, b3, b4, b5, b6⟩ := hB
  obtain ⟨f0, l1, l2, ee, m1, m2, dj, n140⟩ := id b0
  obtain ⟨u0, v1, v2, ee2, w1, w2, dj2, nn2⟩ := id hK2
  have hqo : ob_M K2 P2 q ∧ 140 ≤ q ∧ q + 5 ≤ n2 := by
    have := w1 x (by omega)
    rw [ls_up_eq] at this
    exact this
  have hLq : ∀ i, i < x → L i ≠ q := fun i hi h => by
    have := dj2.1 i x (by omega) (by omega) (by rw [ls_up_eq, ls_up_lt hi, h])
    omega
  have hfar : ∀ t, ob_M K P t → 140 ≤ t → t + 5 ≤ n → t ≠ q → t + 5 ≤ q ∨ q + 5 ≤ t := fun t h1 h2 h3 h4 => by
    have t1 := ob_M_e h1 l1.2.1
    have t2 := ob_M_e h1 l2.2.1
    exact ob_M_far (ob_M_fr h1 (fun b h5 h6 => hK b (by omega)) (fun b j h5 h6 => hP b j (by omega) (by omega) (by omega) (by omega) (by omega))) hqo.1 h4
  have hblk : ∀ t, ob_M K P t → 140 ≤ t → t + 5 ≤ n → t ≠ q → ∀ b j, t ≤ b → b < t + 5 → I3 b j = I b j := fun t h1 h2 h3 h4 b j h5 h6 => by
    have := hfar t h1 h2 h3 h4
    rw [hI3 b j (by omega), hI b j (by omega) (by omega) (by omega) (by omega) (by omega)]
  have e140 : (e = 1 ∨ 140 ≤ e) ∧ (e2 = 1 ∨ 140 ≤ e2) := by
    have := l1.2.2.2.2.2.2.2
    have := l2.2.2.2.2.2.2.2
    omega
  have hom : om P2 = om P := om_eq (fun o => hP 10 o (by omega) (by omega) (by omega) (by omega) (by omega))
  refine ⟨⟨?_, hj9, ?_, fun i hi => ?_, ?_, ?_, ?_⟩, ⟨hnn, hK, fun b j h1 h2 h3 h4 h5 => ?_, fun b j h1 h2 h3 h4 => hP b j (by omega) h3 h4 (by omega) (by omega), fun b h1 h2 j => ?_⟩, fun t ht => ?_⟩
  · refine ⟨u0, ls_ok_I v1 (hI3 7 2 (by omega)), ls_ok_I v2 (hI3 8 2 (by omega)), ee2, w1, w2, dj2, nn2⟩
  · rw [hI3 6 2 (by omega), h6, hj10, b2]
  · by_cases hix : i = x
    · subst hix
      rw [ls_up_eq]
      exact hq
    · rw [ls_up_lt (by omega)]
      obtain ⟨o1, o2, o3⟩ := m1 i (by omega)
      exact mgs_to (b3 i (by omega)) (hblk (L i) o1 o2 o3 (hLq i (by omega))) (fun a h1 h2 => hJ a i h1 h2 (by omega)) (fun k hk => hJm _ (by omega))
  · omega
  · omega
  · omega
  · rw [hI3 b j (by omega), hI b j (by omega) h3 h4 h5 (by omega)]
  · have hb6 : b ≠ 6 := fun h => by rw [h, f0.1] at h2; simp at h2
    have hb7 : b ≠ 7 := fun h => by rw [h, f0.2.2.2.1] at h2; simp at h2
    have hb8 : b ≠ 8 := fun h => by rw [h, f0.2.2.2.2.1] at h2; simp at h2
    have hbe : b ≠ e := fun h => by rw [h, l1.2.1] at h2; simp at h2
    have hbe2 : b ≠ e2 := fun h => by rw [h, l2.2.1] at h2; simp at h2
    have hbq : b < q ∨ q + 5 ≤ b := by
      obtain ⟨k0, k1, k2, k3, k4, -⟩ := hqo.1
      have kb : K2 b = (5, 9) := by rw [hK b h1, h2]
      have r0 : b ≠ q := fun h => by rw [h, k0] at kb; simp at kb
      have r1 : b ≠ q + 1 := fun h => by rw [h, k1] at kb; simp at kb
      have r2 : b ≠ q + 2 := fun h => by rw [h, k2] at kb; simp at kb
      have r3 : b ≠ q + 3 := fun h => by rw [h, k3] at kb; simp at kb
      have r4 : b ≠ q + 4 := fun h => by rw [h, k4] at kb; simp at kb
      omega
    exact ⟨by rw [hI3 b j hbq, hI b j h1 hb6 hb7 hb8 hbq], hP b j h1 hb7 hb8 hbe hbe2⟩
  · obtain ⟨t0, t1, t2, t3, t4⟩ := ht
    have htq : t ≠ q := by
      rcases hz with ⟨h1, h2⟩ | ⟨h1, h2, h3⟩
      · rw [h2]
        exact (t4 z2 (by omega)).symm
      · omega
    have t5 := ob_M_e t0 l1.2.1
    have t6 := ob_M_e t0 l2.2.1
    refine ⟨⟨ob_M_fr t0 (fun b h5 h6 => hK b (by omega)) (fun b j h5 h6 => hP b j (by omega) (by omega) (by omega) (by omega) (by omega)), t1, by omega, fun i hi => ?_, fun i hi => t4 i (by omega)⟩, hblk t t0 t1 t2 htq⟩
    by_cases hix : i = x
    · subst hix
      rw [ls_up_eq]
      exact htq.symm
    · rw [ls_up_lt (by omega)]
      exact t3 i (by omega)
/-- the class stands for J; T: messages in hand, as in X -/
def rl (n ms : Nat) (K : Nat → Nat × Nat) (I : Nat → Nat → Int32) (P : Nat → Nat → Option Nat) (J : Nat → Nat → Int32) (B : Nat) (A : Nat → Nat) (h : Nat) (T : Nat → Prop) (X : Nat → Nat → Int32) : Prop := rl_N n K I P J B A ∧ (∃ L x S z e c e2 c2, rl_B n ms K I P J L x S z e c e2 c2 h ∧ ∀ t, T t → hd_ok n K P L x S z t) ∧ (∀ t, T t → ∀ b j, t ≤ b → b < t + 5 → I b j = X b j) ∧ ag I X ∧ I 3 6 = X 3 6
def rl_Q (W : Option jx_V) (J : Nat → Nat → Int32) (B : Nat) (A : Nat → Nat) (h : Nat) (T : Nat → Prop) (X : Nat → Nat → Int32) (w : Option jx_V) (M : jx_M) : Prop := w = W ∧ ∃ n ms K I P, M = (n, ms, K, I, P) ∧ rl n ms K I P J B A h T X
