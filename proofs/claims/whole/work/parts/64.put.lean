theorem mgs_ly {I J : Nat → Nat → Int32} {q x w : Nat} {what s c wh k : Int32} (h3 : I q 3 = what) (h4 : I q 4 = s) (h5 : I q 5 = c) (h6 : I q 6 = wh) (h7 : I q 7 = k) (h8 : I q 8 = 0) (hz : ∀ j, j < 3 → I (q + 3) j = 0 ∧ I (q + 4) j = 0) (hm : ∀ j, j < 6 → I (q + 2) j = J 99 (6 * w + j)) : mgs I q (mo_ly J x what s c wh k w) x := by
  unfold mgs mo_ly
  refine ⟨?_, ?_, ?_, ?_, ?_, ?_, ?_, ?_, ?_, ?_, ?_, ?_, fun k hk => ?_⟩
  · simp (disch := omega) only [jx_u_na, jx_u_ni, jx_u_eq, h3]
  · simp (disch := omega) only [jx_u_na, jx_u_ni, jx_u_eq, h4]
  · simp (disch := omega) only [jx_u_na, jx_u_ni, jx_u_eq, h5]
  · simp (disch := omega) only [jx_u_na, jx_u_ni, jx_u_eq, h6]
  · simp (disch := omega) only [jx_u_na, jx_u_ni, jx_u_eq, h7]
  · simp (disch := omega) only [jx_u_na, jx_u_ni, jx_u_eq, (hz 0 (by omega)).1]
  · simp (disch := omega) only [jx_u_na, jx_u_ni, jx_u_eq, (hz 0 (by omega)).2]
  · simp (disch := omega) only [jx_u_na, jx_u_ni, jx_u_eq, (hz 1 (by omega)).1]
  · simp (disch := omega) only [jx_u_na, jx_u_ni, jx_u_eq, (hz 1 (by omega)).2]
  · simp (disch := omega) only [jx_u_na, jx_u_ni, jx_u_eq, (hz 2 (by omega)).1]
  · simp (disch := omega) only [jx_u_na, jx_u_ni, jx_u_eq, (hz 2 (by omega)).2]
  · simp (disch := omega) only [jx_u_na, jx_u_ni, jx_u_eq, h8]
  · rw [hm k hk]
    rcases (show k = 0 ∨ k = 1 ∨ k = 2 ∨ k = 3 ∨ k = 4 ∨ k = 5 by omega) with rfl | rfl | rfl | rfl | rfl | rfl
    · simp (disch := omega) only [jx_u_na, jx_u_ni, jx_u_eq, Nat.add_zero]
    · simp (disch := omega) only [jx_u_na, jx_u_ni, jx_u_eq]
    · simp (disch := omega) only [jx_u_na, jx_u_ni, jx_u_eq]
    · simp (disch := omega) only [jx_u_na, jx_u_ni, jx_u_eq]
    · simp (disch := omega) only [jx_u_na, jx_u_ni, jx_u_eq]
    · simp (disch := omega) only [jx_u_na, jx_u_ni, jx_u_eq]
theorem mo_ly_lt {J : Nat → Nat → Int32} {x w a i : Nat} {what s c wh k : Int32} (h1 : 106 ≤ a) (h2 : a < 118) (hi : i < x) : mo_ly J x what s c wh k w a i = J a i := by
  unfold mo_ly
  rw [jx_u_na (by omega), jx_u_na (by omega)]
  simp (disch := omega) only [jx_u_ni]
theorem mo_ly_m {J : Nat → Nat → Int32} {x w i : Nat} {what s c wh k : Int32} (hi : i < 6 * x) : mo_ly J x what s c wh k w 118 i = J 118 i := by
  unfold mo_ly
  simp (disch := omega) only [jx_u_na, jx_u_ni]
theorem mo_ly_ev {J : Nat → Nat → Int32} {x w : Nat} {what s c wh k : Int32} : mo_ly J x what s c wh k w 98 10 = J 98 10 + 1 := by
  unfold mo_ly
  simp (disch := omega) only [jx_u_na, jx_u_ni, jx_u_eq]
theorem mo_ly_F {J : Nat → Nat → Int32} {x w : Nat} {what s c wh k : Int32} : jb_F J (mo_ly J x what s c wh k w) := by
  intro a j h1 h2 h3 h4
  unfold mo_ly
  by_cases e : a = 98
  · subst e
    simp (disch := omega) only [jx_u_na, jx_u_ni]
  · simp (disch := omega) only [jx_u_na]
theorem jb_u {J J2 : Nat → Nat → Int32} {a i : Nat} {v : Int32} (h : jb_F J J2) (ha : 106 ≤ a) (hb : a ≤ 118) : jb_F J (jx_u J2 a i v) := by
  intro b j h1 h2 h3 h4
  rw [jx_u_na (by omega)]
  exact h b j h1 h2 h3 h4
theorem mgs_u0 {I J : Nat → Nat → Int32} {q i : Nat} {t v : Int32} (h : mgs I q J i) : mgs (cn_f1 I q 0 t v) q (jx_u (jx_u J 111 i t) 112 i v) i := by
  obtain ⟨a0, a1, a2, a3, a4, a5, a6, a7, a8, a9, a10, a11, a12⟩ := h
  unfold mgs cn_f1
  refine ⟨?_, ?_, ?_, ?_, ?_, ?_, ?_, ?_, ?_, ?_, ?_, ?_, fun k hk => ?_⟩
  all_goals simp (disch := omega) only [jx_u_na, jx_u_ni, jx_u_eq, a0, a1, a2, a3, a4, a5, a6, a7, a8, a9, a10, a11]
  exact a12 k hk
theorem mgs_u1 {I J : Nat → Nat → Int32} {q i : Nat} {t v : Int32} (h : mgs I q J i) : mgs (cn_f1 I q 1 t v) q (jx_u (jx_u J 113 i t) 114 i v) i := by
  obtain ⟨a0, a1, a2, a3, a4, a5, a6, a7, a8, a9, a10, a11, a12⟩ := h
  unfold mgs cn_f1
  refine ⟨?_, ?_, ?_, ?_, ?_, ?_, ?_, ?_, ?_, ?_, ?_, ?_, fun k hk => ?_⟩
  all_goals simp (disch := omega) only [jx_u_na, jx_u_ni, jx_u_eq, a0, a1, a2, a3, a4, a5, a6, a7, a8, a9, a10, a11]
  exact a12 k hk
theorem mgs_u2 {I J : Nat → Nat → Int32} {q i : Nat} {t v : Int32} (h : mgs I q J i) : mgs (cn_f1 I q 2 t v) q (jx_u (jx_u J 115 i t) 116 i v) i := by
  obtain ⟨a0, a1, a2, a3, a4, a5, a6, a7, a8, a9, a10, a11, a12⟩ := h
  unfold mgs cn_f1
  refine ⟨?_, ?_, ?_, ?_, ?_, ?_, ?_, ?_, ?_, ?_, ?_, ?_, fun k hk => ?_⟩
  all_goals simp (disch := omega) only [jx_u_na, jx_u_ni, jx_u_eq, a0, a1, a2, a3, a4, a5, a6, a7, a8, a9, a10, a11]
  exact a12 k hk
theorem cn_f1_na {I : Nat → Nat → Int32} {q r b j : Nat} {t v : Int32} (h : b < q ∨ q + 5 ≤ b) : cn_f1 I q r t v b j = I b j := by
  unfold cn_f1
  simp (disch := omega) only [jx_u_na]
theorem cn_f0_na {I : Nat → Nat → Int32} {a q b j : Nat} {s : Int32} (h : b < q ∨ q + 5 ≤ b) : cn_f0 I a q s b j = I b j := by
  unfold cn_f0
  simp (disch := omega) only [jx_u_na]
/-- one message more, all told -/
theorem rl_put {n ms : Nat} {K : Nat → Nat × Nat} {I : Nat → Nat → Int32} {P : Nat → Nat → Option Nat} {J J2 : Nat → Nat → Int32} {B : Nat} {A : Nat → Nat} {T : Nat → Prop} {X : Nat → Nat → Int32} {L S : Nat → Nat} {x z e c e2 c2 h : Nat} (hN : rl_N n K I P J B A) (hB : rl_B n ms K I P J L x S z e c e2 c2 h) (hT : ∀ t, T t → hd_ok n K P L x S z t) (hX : ∀ t, T t → ∀ b j, t ≤ b → b < t + 5 → I b j = X b j) (hag : ag I X ∧ I 3 6 = X 3 6) (hx : x + h + 1 ≤ 16000) {q z2 n2 ms2 e3 c3 : Nat} {K2 : Nat → Nat × Nat} {I2 I3 : Nat → Nat → Int32} {P2 : Nat → Nat → Option Nat} (hK2 : bg_ok n2 K2 I2 P2 (ls_up L x q) (x + 1) S z2 e3 c3 e2 c2) (hz : (z = z2 + 1 ∧ q = S z2) ∨ (z = 0 ∧ z2 = 0 ∧ q = n)) (h6 : I2 6 2 = I 6 2 + 1) (hK : ∀ b, b < n → K2 b = K b) (hI : ∀ b j, b < n → b ≠ 6 → b ≠ 7 → b ≠ 8 → (b < q ∨ q + 5 ≤ b) → I2 b j = I b j) (hP : ∀ b j, b < n → b ≠ 7 → b ≠ 8 → b ≠ e → b ≠ e2 → P2 b j = P b j) (hn : n2 + 5 * (x + z) + c ≤ n + 5 * (x + 1 + z2) + c3) (hm : ms2 + 22 * (x + z) + 4 * c ≤ ms + 22 * (x + 1 + z2) + 4 * c3) (hI3 : ∀ b j, b < q ∨ q + 5 ≤ b → I3 b j = I2 b j) (hq : mgs I3 q J2 x) (hj9 : J2 98 9 = nI (x + 1)) (hj10 : J2 98 10 = J 98 10 + 1) (hJ : ∀ a i, 106 ≤ a → a < 118 → i < x → J2 a i = J a i) (hJm : ∀ i, i < 6 * x → J2 118 i = J 118 i) (hF : jb_F J J2) (hnn : n ≤ n2) : rl n2 ms2 K2 I3 P2 J2 B A h T X := by
  obtain ⟨r1, r2, r3⟩ := rl_new hB hx (kd := 0) (s := 0) (cl := 0) (g := 0) hK2 hz h6 hK hI hP hn hm hI3 hq hj9 hj10 hJ hJm hnn
  have h140 : 140 ≤ n := hB.1.2.2.2.2.2.2.2
  refine ⟨rl_N_F hN r2 hF h140, ⟨_, _, _, _, _, _, _, _, r1, fun t ht => (r3 t (hT t ht)).1⟩, fun t ht b j h1 h2 => ?_, fun a j h1 h2 => ?_, ?_⟩
  · rw [(r3 t (hT t ht)).2 b j h1 h2, hX t ht b j h1 h2]
  · rw [r2.2.2.1 a j (by omega) h2 (by omega) (by omega) (by omega), hag.1 a j h1 h2]
  · rw [r2.2.2.1 3 6 (by omega) (by omega) (by omega) (by omega) (by omega), hag.2]
theorem mo_fi_fr {J : Nat → Nat → Int32} {x s c w o : Nat} {kd wh sb : Int32} : let J2 := mo_fi J (mo_ly J x kd (nI s) (nI c) wh sb w) c o x
    J2 98 9 = nI (x + 1) ∧ J2 98 10 = J 98 10 + 1 ∧ (∀ a i, 106 ≤ a → a < 118 → i < x → J2 a i = J a i) ∧ (∀ i, i < 6 * x → J2 118 i = J 118 i) ∧ jb_F J J2 := by
  intro J2
  have e1 : ∀ a i, ¬ (a = 111 ∨ a = 112 ∨ a = 113 ∨ a = 114 ∨ a = 115 ∨ a = 116) ∨ i ≠ x → J2 a i = mo_ly J x kd (nI s) (nI c) wh sb w a i := fun a i h => by
    show mo_fi J _ c o x a i = _
    unfold mo_fi
    rcases h with h | h
    · (repeat' split) <;> simp (disch := omega) only [jx_u_na]
    · (repeat' split) <;> simp (disch := omega) only [jx_u_ni]
  refine ⟨?_, ?_, fun a i h1 h2 h3 => ?_, fun i hi => ?_, fun a j h1 h2 h3 h4 => ?_⟩
  · rw [e1 _ _ (Or.inl (by omega)), mo_ly_many]
  · rw [e1 _ _ (Or.inl (by omega)), mo_ly_ev]
  · rw [e1 _ _ (Or.inr (by omega)), mo_ly_lt h1 h2 h3]
  · rw [e1 _ _ (Or.inl (by omega)), mo_ly_m hi]
  · rw [e1 _ _ (Or.inl (by omega)), mo_ly_F a j h1 h2 h3 h4]
