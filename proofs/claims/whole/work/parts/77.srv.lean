/-- an answer more, and server s changed -/
theorem rl_srv {n ms : Nat} {K : Nat → Nat × Nat} {I : Nat → Nat → Int32} {P : Nat → Nat → Option Nat} {J J3 : Nat → Nat → Int32} {B s : Nat} {A : Nat → Nat} {T : Nat → Prop} {X : Nat → Nat → Int32} {L S : Nat → Nat} {x z e c e2 c2 h : Nat} (hN : rl_N n K I P J B A) (hB : rl_B n ms K I P J L x S z e c e2 c2 h) (hT : ∀ t, T t → hd_ok n K P L x S z t) (hX : ∀ t, T t → ∀ b j, t ≤ b → b < t + 5 → I b j = X b j) (hag : ag I X ∧ I 3 6 = X 3 6) (hx : x + h + 1 ≤ 16000) {q z2 n2 ms2 e3 c3 : Nat} {K2 : Nat → Nat × Nat} {I2 I4 : Nat → Nat → Int32} {P2 : Nat → Nat → Option Nat} (hK2 : bg_ok n2 K2 I2 P2 (ls_up L x q) (x + 1) S z2 e3 c3 e2 c2) (hz : (z = z2 + 1 ∧ q = S z2) ∨ (z = 0 ∧ z2 = 0 ∧ q = n)) (h6 : I2 6 2 = I 6 2 + 1) (hK : ∀ b, b < n → K2 b = K b) (hI : ∀ b j, b < n → b ≠ 6 → b ≠ 7 → b ≠ 8 → (b < q ∨ q + 5 ≤ b) → I2 b j = I b j) (hP : ∀ b j, b < n → b ≠ 7 → b ≠ 8 → b ≠ e → b ≠ e2 → P2 b j = P b j) (hn : n2 + 5 * (x + z) + c ≤ n + 5 * (x + 1 + z2) + c3) (hm : ms2 + 22 * (x + z) + 4 * c ≤ ms + 22 * (x + 1 + z2) + 4 * c3) (hnn : n ≤ n2) (hq140 : 140 ≤ q) (hs : s < 7)
    (hI4 : ∀ b j, (b < q ∨ q + 5 ≤ b) → (b < 22 + 8 * s ∨ 22 + 8 * s + 8 ≤ b) → I4 b j = I2 b j) (hq : mgs I4 q J3 x) (hsv : sv_r I4 J3 s) (hj9 : J3 98 9 = nI (x + 1)) (hj10 : J3 98 10 = J 98 10 + 1) (hJ : ∀ a i, 106 ≤ a → a < 118 → i < x → J3 a i = J a i) (hJm : ∀ i, i < 6 * x → J3 118 i = J 118 i) (hF : ∀ a j, 98 ≤ a → a < 140 → ¬ (101 ≤ a ∧ a ≤ 118) → ¬ (a = 98 ∧ (j = 9 ∨ j = 10)) → J3 a j = J a j) (hso : ∀ r, r < 7 → r ≠ s → (∀ i, i < 3 → J3 101 (3 * r + i) = J 101 (3 * r + i) ∧ J3 102 (3 * r + i) = J 102 (3 * r + i)) ∧ ∀ k, k < 5 → J3 103 (5 * r + k) = J 103 (5 * r + k) ∧ J3 104 (5 * r + k) = J 104 (5 * r + k) ∧ J3 105 (5 * r + k) = J 105 (5 * r + k)) : rl n2 ms2 K2 I4 P2 J3 B A h T X := by
  have q1 : rl n2 ms2 K2 (fun b j => if 22 + 8 * s ≤ b ∧ b < 22 + 8 * s + 8 then I2 b j else I4 b j) P2 (fun a j => if 101 ≤ a ∧ a ≤ 105 then J a j else J3 a j) B A h T X := by
    refine rl_put hN hB hT hX hag hx hK2 hz h6 hK hI hP hn hm (fun b j hb => ?_) (mgs_to hq (fun b j h1 h2 => if_neg (by omega)) (fun a h1 h2 => if_neg (by omega)) (fun k hk => if_neg (by omega))) ?_ ?_ (fun a i h1 h2 h3 => ?_) (fun i hi => ?_) (fun a j h1 h2 h3 h4 => ?_) hnn
    · show (if _ then _ else _) = _
      split
      · rfl
      · exact hI4 b j hb (by omega)
    · show (if _ then _ else _) = _
      rw [if_neg (by omega), hj9]
    · show (if _ then _ else _) = _
      rw [if_neg (by omega), hj10]
    · show (if _ then _ else _) = _
      rw [if_neg (by omega), hJ a i h1 h2 h3]
    · show (if _ then _ else _) = _
      rw [if_neg (by omega), hJm i hi]
    · show (if _ then _ else _) = _
      split
      · rfl
      · exact hF a j h1 h2 (by omega) h4
  have eI : ∀ b j, ¬ (22 + 8 * s ≤ b ∧ b < 22 + 8 * s + 8) → I4 b j = (fun b j => if 22 + 8 * s ≤ b ∧ b < 22 + 8 * s + 8 then I2 b j else I4 b j) b j := fun b j w => (if_neg w).symm
  have eJ : ∀ a j, ¬ (101 ≤ a ∧ a ≤ 105) → J3 a j = (fun a j => if 101 ≤ a ∧ a ≤ 105 then J a j else J3 a j) a j := fun a j w => (if_neg w).symm
  obtain ⟨a0, a1, a2, a3, a4, a5, a6⟩ := id q1.1
  refine rl_chg q1 ⟨a0, a1, a2, fun r hr => ?_, fun d hd => ?_, ?_, ?_⟩ (fun b j hb => eI b j (by omega)) (fun _ _ _ => rfl) (fun a j h1 h2 => eJ a j (by omega)) (eJ _ _ (by omega)) (eJ _ _ (by omega))
  · by_cases w : r = s
    · subst w
      exact hsv
    · obtain ⟨b0, b1, b2, b3⟩ := a3 r hr
      obtain ⟨o1, o2⟩ := hso r hr w
      refine ⟨by rw [eI _ _ (by omega), eJ _ _ (by omega), b0], fun k hk => by rw [eI _ _ (by omega), eJ _ _ (by omega), b1 k hk], fun i hi => ?_, fun k hk => ?_⟩
      · rw [eI _ _ (by omega), eI _ _ (by omega), (o1 i hi).1, (o1 i hi).2]
        exact b2 i hi
      · rw [eI _ _ (by omega), eI _ _ (by omega), eI _ _ (by omega), (o2 k hk).1, (o2 k hk).2.1, (o2 k hk).2.2]
        exact b3 k hk
  · exact cn_r_to (a4 d hd) (fun b j h1 h2 => eI b j (by omega)) rfl ⟨fun k hk => eJ _ _ (by omega), eJ _ _ (by omega), fun a h1 h2 => eJ _ _ (by omega), fun r hr => ⟨eJ _ _ (by omega), eJ _ _ (by omega)⟩, fun o _ => ⟨eJ _ _ (by omega), eJ _ _ (by omega)⟩⟩ (Nat.le_refl _) (fun _ _ => rfl)
  · obtain ⟨b0, b1, b2, b3, b4, b5, b6⟩ := a5
    refine ⟨b0, by rw [eJ _ _ (by omega), b1], by rw [eI _ _ (by omega), b2], by rw [eI _ _ (by omega), eJ _ _ (by omega), b3], by rw [eI _ _ (by omega), eJ _ _ (by omega), b4], fun o a ho hp => ?_, fun o ho => ⟨(b6 o ho).1, ?_⟩⟩
    · obtain ⟨d1, d2, d3, d4⟩ := b5 o a ho hp
      exact ⟨d1, d2, d3, by rw [eI _ _ (by omega), d4]⟩
    · obtain ⟨d1, d2, d3, d4⟩ := b5 o _ (by omega) (b6 o ho).1
      exact op_r_to (b6 o ho).2 (fun j => eI _ j (by omega)) (fun b j h1 h2 => eJ b j (by omega))
  · rw [eI _ _ (by omega), eJ _ _ (by omega), a6]
