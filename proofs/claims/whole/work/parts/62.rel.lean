/-- what stands fixed of the class's cells -/
def cl_ok (K : Nat → Nat × Nat) (P : Nat → Nat → Option Nat) : Prop := K 3 = (9, 7) ∧ K 4 = (15, 7) ∧ K 5 = (13, 4) ∧ P 3 0 = some 4 ∧ P 3 1 = some 5 ∧ P 3 2 = some 6 ∧ P 3 3 = some 9 ∧ P 3 4 = some 11 ∧ (∀ s, s < 7 → P 4 s = some (22 + 8 * s) ∧ ob_S K P (22 + 8 * s)) ∧ (∀ c, c < 4 → P 5 c = some (78 + 5 * c) ∧ ob_C K P (78 + 5 * c)) ∧ ob_L K P
/-- the rows of the search -/
def rs_ok (K : Nat → Nat × Nat) (P : Nat → Nat → Option Nat) : Prop := K 11 = (6, 7) ∧ K 12 = (14, 14) ∧ K 13 = (17, 4) ∧ (∀ c, c < 4 → P 13 c = some (14 + c) ∧ K (14 + c) = (11, 14)) ∧ K 18 = (11, 4) ∧ K 19 = (11, 4) ∧ K 20 = (11, 4) ∧ K 21 = (11, 400) ∧ P 11 0 = some 12 ∧ P 11 1 = some 13 ∧ P 11 2 = some 18 ∧ P 11 3 = some 19 ∧ P 11 4 = some 20 ∧ P 11 5 = some 21
/-- a change that leaves the cells below 140, but for the bag's, and the operations as they are -/
def bg_F (n : Nat) (K : Nat → Nat × Nat) (I : Nat → Nat → Int32) (P : Nat → Nat → Option Nat) (n2 : Nat) (K2 : Nat → Nat × Nat) (I2 : Nat → Nat → Int32) (P2 : Nat → Nat → Option Nat) : Prop := n ≤ n2 ∧ (∀ b, b < n → K2 b = K b) ∧ (∀ b j, 3 ≤ b → b < 140 → b ≠ 6 → b ≠ 7 → b ≠ 8 → I2 b j = I b j) ∧ (∀ b j, 3 ≤ b → b < 140 → b ≠ 7 → b ≠ 8 → P2 b j = P b j) ∧ ∀ b, b < n → K b = (5, 9) → ∀ j, I2 b j = I b j ∧ P2 b j = P b j
theorem bg_F.refl {n : Nat} {K : Nat → Nat × Nat} {I : Nat → Nat → Int32} {P : Nat → Nat → Option Nat} : bg_F n K I P n K I P := ⟨Nat.le_refl _, fun _ _ => rfl, fun _ _ _ _ _ _ _ => rfl, fun _ _ _ _ _ _ => rfl, fun _ _ _ _ => ⟨rfl, rfl⟩⟩
theorem bg_F.trans {n n2 n3 : Nat} {K K2 K3 : Nat → Nat × Nat} {I I2 I3 : Nat → Nat → Int32} {P P2 P3 : Nat → Nat → Option Nat} (h : bg_F n K I P n2 K2 I2 P2) (g : bg_F n2 K2 I2 P2 n3 K3 I3 P3) : bg_F n K I P n3 K3 I3 P3 := by
  obtain ⟨h1, h2, h3, h4, h5⟩ := h
  obtain ⟨g1, g2, g3, g4, g5⟩ := g
  refine ⟨by omega, fun b hb => by rw [g2 b (by omega), h2 b hb], fun b j a1 a2 a3 a4 a5 => by rw [g3 b j a1 a2 a3 a4 a5, h3 b j a1 a2 a3 a4 a5], fun b j a1 a2 a3 a4 => by rw [g4 b j a1 a2 a3 a4, h4 b j a1 a2 a3 a4], fun b hb hk j => ?_⟩
  have q := g5 b (by omega) (by rw [h2 b hb, hk]) j
  have r := h5 b hb hk j
  exact ⟨q.1.trans r.1, q.2.trans r.2⟩
theorem ob_S_to {K K2 : Nat → Nat × Nat} {P P2 : Nat → Nat → Option Nat} {b : Nat} (h : ob_S K P b) (hK : ∀ a, b ≤ a → a < b + 8 → K2 a = K a) (hP : ∀ a j, b ≤ a → a < b + 2 → P2 a j = P a j) : ob_S K2 P2 b := by
  obtain ⟨a0, a1, a2, a3, a4, a5, a6, a7, b0, b1, b2, b3, b4, b5, b6⟩ := h
  exact ⟨by rw [hK _ (by omega) (by omega), a0], by rw [hK _ (by omega) (by omega), a1], by rw [hK _ (by omega) (by omega), a2], by rw [hK _ (by omega) (by omega), a3], by rw [hK _ (by omega) (by omega), a4], by rw [hK _ (by omega) (by omega), a5], by rw [hK _ (by omega) (by omega), a6], by rw [hK _ (by omega) (by omega), a7], by rw [hP _ _ (by omega) (by omega), b0], by rw [hP _ _ (by omega) (by omega), b1], by rw [hP _ _ (by omega) (by omega), b2], by rw [hP _ _ (by omega) (by omega), b3], by rw [hP _ _ (by omega) (by omega), b4], by rw [hP _ _ (by omega) (by omega), b5], by rw [hP _ _ (by omega) (by omega), b6]⟩
theorem ob_C_to {K K2 : Nat → Nat × Nat} {P P2 : Nat → Nat → Option Nat} {b : Nat} (h : ob_C K P b) (hK : ∀ a, b ≤ a → a < b + 5 → K2 a = K a) (hP : ∀ a j, b ≤ a → a < b + 2 → j < 4 → P2 a j = P a j) : ob_C K2 P2 b := by
  obtain ⟨a0, a1, a2, a3, a4, b0, b1, b2, b3⟩ := h
  exact ⟨by rw [hK _ (by omega) (by omega), a0], by rw [hK _ (by omega) (by omega), a1], by rw [hK _ (by omega) (by omega), a2], by rw [hK _ (by omega) (by omega), a3], by rw [hK _ (by omega) (by omega), a4], by rw [hP _ _ (by omega) (by omega) (by omega), b0], by rw [hP _ _ (by omega) (by omega) (by omega), b1], by rw [hP _ _ (by omega) (by omega) (by omega), b2], by rw [hP _ _ (by omega) (by omega) (by omega), b3]⟩
theorem cl_ok_to {K K2 : Nat → Nat × Nat} {P P2 : Nat → Nat → Option Nat} (h : cl_ok K P) (hK : ∀ b, 3 ≤ b → b < 98 → K2 b = K b) (hP : ∀ b j, 3 ≤ b → b < 98 → b ≠ 7 → b ≠ 8 → b ≠ 10 → b ≠ 12 → ¬ (78 ≤ b ∧ j = 4) → P2 b j = P b j) : cl_ok K2 P2 := by
  obtain ⟨a0, a1, a2, a3, a4, a5, a6, a7, a8, a9, a10, a11, a12⟩ := h
  refine ⟨by rw [hK _ (by omega) (by omega), a0], by rw [hK _ (by omega) (by omega), a1], by rw [hK _ (by omega) (by omega), a2], ?_, ?_, ?_, ?_, ?_, fun s hs => ⟨?_, ?_⟩, fun c hc => ⟨?_, ?_⟩, ?_, ?_, ?_⟩
  · rw [hP _ _ (by omega) (by omega) (by omega) (by omega) (by omega) (by omega) (by omega), a3]
  · rw [hP _ _ (by omega) (by omega) (by omega) (by omega) (by omega) (by omega) (by omega), a4]
  · rw [hP _ _ (by omega) (by omega) (by omega) (by omega) (by omega) (by omega) (by omega), a5]
  · rw [hP _ _ (by omega) (by omega) (by omega) (by omega) (by omega) (by omega) (by omega), a6]
  · rw [hP _ _ (by omega) (by omega) (by omega) (by omega) (by omega) (by omega) (by omega), a7]
  · rw [hP _ _ (by omega) (by omega) (by omega) (by omega) (by omega) (by omega) (by omega)]
    exact (a8 s hs).1
  · exact ob_S_to (a8 s hs).2 (fun a h1 h2 => hK a (by omega) (by omega)) (fun a j h1 h2 => hP a j (by omega) (by omega) (by omega) (by omega) (by omega) (by omega) (by omega))
  · rw [hP _ _ (by omega) (by omega) (by omega) (by omega) (by omega) (by omega) (by omega)]
    exact (a9 c hc).1
  · exact ob_C_to (a9 c hc).2 (fun a h1 h2 => hK a (by omega) (by omega)) (fun a j h1 h2 h3 => hP a j (by omega) (by omega) (by omega) (by omega) (by omega) (by omega) (by omega))
  · rw [hK _ (by omega) (by omega), a10]
  · rw [hK _ (by omega) (by omega), a11]
  · rw [hP _ _ (by omega) (by omega) (by omega) (by omega) (by omega) (by omega) (by omega), a12]
/-- message at q, number i of the bag -/
def mgs (I : Nat → Nat → Int32) (q : Nat) (J : Nat → Nat → Int32) (i : Nat) : Prop := I q 3 = J 106 i ∧ I q 4 = J 107 i ∧ I q 5 = J 108 i ∧ I q 6 = J 109 i ∧ I q 7 = J 110 i ∧ I (q + 3) 0 = J 111 i ∧ I (q + 4) 0 = J 112 i ∧ I (q + 3) 1 = J 113 i ∧ I (q + 4) 1 = J 114 i ∧ I (q + 3) 2 = J 115 i ∧ I (q + 4) 2 = J 116 i ∧ I q 8 = J 117 i ∧ ∀ k, k < 6 → I (q + 2) k = J 118 (6 * i + k)
theorem mgs_to {I I2 J J2 : Nat → Nat → Int32} {q i i2 : Nat} (h : mgs I q J i) (hI : ∀ b j, q ≤ b → b < q + 5 → I2 b j = I b j) (hJ : ∀ a, 106 ≤ a → a < 118 → J2 a i2 = J a i) (hm : ∀ k, k < 6 → J2 118 (6 * i2 + k) = J 118 (6 * i + k)) : mgs I2 q J2 i2 := by
  obtain ⟨a0, a1, a2, a3, a4, a5, a6, a7, a8, a9, a10, a11, a12⟩ := h
  refine ⟨?_, ?_, ?_, ?_, ?_, ?_, ?_, ?_, ?_, ?_, ?_, ?_, fun k hk => ?_⟩
  · rw [hI _ _ (by omega) (by omega), hJ _ (by omega) (by omega), a0]
  · rw [hI _ _ (by omega) (by omega), hJ _ (by omega) (by omega), a1]
  · rw [hI _ _ (by omega) (by omega), hJ _ (by omega) (by omega), a2]
  · rw [hI _ _ (by omega) (by omega), hJ _ (by omega) (by omega), a3]
  · rw [hI _ _ (by omega) (by omega), hJ _ (by omega) (by omega), a4]
  · rw [hI _ _ (by omega) (by omega), hJ _ (by omega) (by omega), a5]
  · rw [hI _ _ (by omega) (by omega), hJ _ (by omega) (by omega), a6]
  · rw [hI _ _ (by omega) (by omega), hJ _ (by omega) (by omega), a7]
  · rw [hI _ _ (by omega) (by omega), hJ _ (by omega) (by omega), a8]
  · rw [hI _ _ (by omega) (by omega), hJ _ (by omega) (by omega), a9]
  · rw [hI _ _ (by omega) (by omega), hJ _ (by omega) (by omega), a10]
  · rw [hI _ _ (by omega) (by omega), hJ _ (by omega) (by omega), a11]
  · rw [hI _ _ (by omega) (by omega), hm k hk, a12 k hk]
/-- server s -/
def sv_r (I J : Nat → Nat → Int32) (s : Nat) : Prop := I (22 + 8 * s) 6 = J 100 s ∧ (∀ k, k < 6 → I (22 + 8 * s + 2) k = J 99 (6 * s + k)) ∧ (∀ r, r < 3 → I (22 + 8 * s + 3) r = J 101 (3 * s + r) ∧ I (22 + 8 * s + 4) r = J 102 (3 * s + r)) ∧ ∀ k, k < 5 → I (22 + 8 * s + 5) k = J 103 (5 * s + k) ∧ I (22 + 8 * s + 6) k = J 104 (5 * s + k) ∧ I (22 + 8 * s + 7) k = J 105 (5 * s + k)
/-- what client c knows always -/
def cn_s (I J : Nat → Nat → Int32) (c : Nat) : Prop := I (78 + 5 * c) 0 = nI c ∧ I (78 + 5 * c) 5 = J 100 (7 + c) ∧ I (78 + 5 * c) 6 = J 129 c ∧ ∀ k, k < 6 → I (78 + 5 * c + 2) k = J 99 (6 * (7 + c) + k)
/-- client c at its operation o -/
def cn_o (I J : Nat → Nat → Int32) (c o : Nat) : Prop := I (78 + 5 * c) 7 = J 132 c ∧ I (78 + 5 * c) 8 = J 130 c ∧ I (78 + 5 * c) 9 = J 131 c ∧ (∀ r, r < 3 → I (78 + 5 * c + 3) r = J 136 (3 * c + r)) ∧ (∀ r, r < 3 → (J 119 o = 2 ∧ J 132 c = 2 → 0 < r) → I (78 + 5 * c + 4) r = J 137 (3 * c + r)) ∧ (J 119 o = 2 → J 132 c = 2 → I (78 + 5 * c + 4) 0 = mo_of J c o) ∧ (J 119 o = 2 → I (78 + 5 * c) 10 = J 133 c ∧ I (78 + 5 * c) 11 = J 134 c ∧ I (78 + 5 * c) 13 = J 121 o) ∧ (J 119 o = 3 → I (78 + 5 * c) 11 = J 134 c ∧ I (78 + 5 * c) 13 = J 135 c) ∧ (J 119 o = 2 ∨ J 119 o = 3 → ∀ j, J 134 c = nI j → j < 5 → J 99 (6 * (7 + c) + j) = -1 ∨ I (78 + 5 * c) 12 = J 99 (6 * (7 + c) + j))
/-- client c and its task -/
def cn_r (I : Nat → Nat → Int32) (P : Nat → Nat → Option Nat) (J : Nat → Nat → Int32) (B : Nat) (A : Nat → Nat) (c : Nat) : Prop := cn_s I J c ∧ ((J 128 c = -1 ∧ P (78 + 5 * c) 4 = none) ∨ ∃ o, o < B ∧ J 128 c = nI o ∧ P (78 + 5 * c) 4 = some (A o) ∧ cn_o I J c o)
/-- operation number o at a -/
def op_r (I J : Nat → Nat → Int32) (a o : Nat) : Prop := I a 1 = J 119 o ∧ I a 2 = J 120 o ∧ I a 3 = J 121 o ∧ I a 4 = J 122 o ∧ I a 5 = J 124 o ∧ I a 6 = J 125 o ∧ I a 7 = J 126 o ∧ I a 8 = J 127 o
/-- the log -/
def lg_r (n : Nat) (K : Nat → Nat × Nat) (I : Nat → Nat → Int32) (P : Nat → Nat → Option Nat) (J : Nat → Nat → Int32) (B : Nat) (A : Nat → Nat) : Prop := B ≤ 60 ∧ J 98 25 = nI B ∧ I 9 1 = nI B ∧ I 9 2 = J 98 26 ∧ I 9 3 = J 98 27 ∧ (∀ o a, o < 60 → P 10 o = some a → K a = (5, 9) ∧ 140 ≤ a ∧ a < n ∧ I a 0 = nI o) ∧ ∀ o, o < B → P 10 o = some (A o) ∧ op_r I J (A o) o
/-- all but the bag -/
def rl_N (n : Nat) (K : Nat → Nat × Nat) (I : Nat → Nat → Int32) (P : Nat → Nat → Option Nat) (J : Nat → Nat → Int32) (B : Nat) (A : Nat → Nat) : Prop := cl_ok K P ∧ rs_ok K P ∧ mo_ok K P ∧ (∀ s, s < 7 → sv_r I J s) ∧ (∀ c, c < 4 → cn_r I P J B A c) ∧ lg_r n K I P J B A ∧ I 3 5 = J 98 1
/-- the operations that have been made -/
def om (P : Nat → Nat → Option Nat) : Nat := (List.range 60).countP (fun o => (P 10 o).isSome)
theorem om_eq {P P2 : Nat → Nat → Option Nat} (h : ∀ o, P2 10 o = P 10 o) : om P2 = om P := by
  unfold om
  simp only [h]
theorem om_le (P : Nat → Nat → Option Nat) : om P ≤ 60 := by
  have := List.countP_le_length (p := fun o => (P 10 o).isSome) (l := List.range 60)
  rw [List.length_range] at this
  exact this
/-- the bag -/
def rl_B (n ms : Nat) (K : Nat → Nat × Nat) (I : Nat → Nat → Int32) (P : Nat → Nat → Option Nat) (J : Nat → Nat → Int32) (L : Nat → Nat) (x : Nat) (S : Nat → Nat) (z e c e2 c2 h : Nat) : Prop := bg_ok n K I P L x S z e c e2 c2 ∧ J 98 9 = nI x ∧ I 6 2 = J 98 10 ∧ (∀ i, i < x → mgs I (L i) J i) ∧ x + z + h ≤ 16000 ∧ n ≤ 240 + 5 * (x + z + h) + c + c2 ∧ ms ≤ 900000 + 22 * (x + z + h) + 4 * c + 4 * c2 ∧ n ≤ 140 + om P + 5 * (x + z + h) + c + c2 ∧ ms ≤ 890000 + 9 * om P + 22 * (x + z + h) + 4 * c + 4 * c2
