/-- how many below k belong to client c -/
def cn (cl : Nat → Nat) (c : Nat) : Nat → Nat
  | 0 => 0
  | k + 1 => if cl k = c then cn cl c k + 1 else cn cl c k
theorem cn_s1 {cl : Nat → Nat} {c k : Nat} (h : cl k = c) : cn cl c (k + 1) = cn cl c k + 1 := if_pos h
theorem cn_s0 {cl : Nat → Nat} {c k : Nat} (h : cl k ≠ c) : cn cl c (k + 1) = cn cl c k := if_neg h
theorem cn_le {cl : Nat → Nat} {c i : Nat} : ∀ j, i ≤ j → cn cl c i ≤ cn cl c j
  | 0, h => by
    have : i = 0 := by omega
    subst this
    exact Nat.le_refl _
  | j + 1, h => by
    by_cases e : i = j + 1
    · subst e
      exact Nat.le_refl _
    · have := cn_le (cl := cl) (c := c) j (show i ≤ j by omega)
      by_cases g : cl j = c
      · rw [cn_s1 g]
        omega
      · rw [cn_s0 g]
        exact this
theorem cn_lt {cl : Nat → Nat} {c i j : Nat} (h : i < j) (hc : cl i = c) : cn cl c i < cn cl c j := by
  have := cn_le (cl := cl) (c := c) j (show i + 1 ≤ j by omega)
  rw [cn_s1 hc] at this
  omega
theorem cn_inj {cl : Nat → Nat} {c i j : Nat} (hi : cl i = c) (hj : cl j = c) (h : cn cl c i = cn cl c j) : i = j := by
  rcases Nat.lt_trichotomy i j with w | w | w
  · have := cn_lt w hi
    omega
  · exact w
  · have := cn_lt w hj
    omega
theorem cn_ex {cl : Nat → Nat} {c m : Nat} : ∀ k, m < cn cl c k → ∃ i, i < k ∧ cl i = c ∧ cn cl c i = m
  | 0, h => absurd h (Nat.not_lt_zero _)
  | k + 1, h => by
    by_cases g : cl k = c
    · rw [cn_s1 g] at h
      by_cases e : m = cn cl c k
      · exact ⟨k, by omega, g, e.symm⟩
      · obtain ⟨i, h1, h2⟩ := cn_ex k (show m < cn cl c k by omega)
        exact ⟨i, by omega, h2⟩
    · rw [cn_s0 g] at h
      obtain ⟨i, h1, h2⟩ := cn_ex k h
      exact ⟨i, by omega, h2⟩
theorem cn_sum {cl : Nat → Nat} : ∀ k, (∀ i, i < k → cl i < 4) → cn cl 0 k + cn cl 1 k + cn cl 2 k + cn cl 3 k = k
  | 0, _ => rfl
  | k + 1, h => by
    have ih := cn_sum k (fun i hi => h i (by omega))
    have hk := h k (by omega)
    rcases (show cl k = 0 ∨ cl k = 1 ∨ cl k = 2 ∨ cl k = 3 by omega) with e | e | e | e
    · rw [cn_s1 e, cn_s0 (c := 1) (by omega), cn_s0 (c := 2) (by omega), cn_s0 (c := 3) (by omega)]
      omega
    · rw [cn_s1 e, cn_s0 (c := 0) (by omega), cn_s0 (c := 2) (by omega), cn_s0 (c := 3) (by omega)]
      omega
    · rw [cn_s1 e, cn_s0 (c := 0) (by omega), cn_s0 (c := 1) (by omega), cn_s0 (c := 3) (by omega)]
      omega
    · rw [cn_s1 e, cn_s0 (c := 0) (by omega), cn_s0 (c := 1) (by omega), cn_s0 (c := 2) (by omega)]
      omega
/-- what is told of the N operations: whose, over, from, till -/
def rw_h (N : Nat) (cl fr tl : Nat → Nat) (ov : Nat → Prop) : Prop := (∀ i, i < N → cl i < 4) ∧ (∀ i, i < N → ov i → fr i < tl i) ∧ ∀ i j, i < j → j < N → cl i = cl j → ov i ∧ tl i < fr j
/-- k may stand behind the set v with l the latest write -/
def rw_go (N : Nat) (fr tl : Nat → Nat) (ov wr : Nat → Prop) (va re : Nat → Int32) (v l k : Nat) : Prop := ¬ v.testBit k = true ∧ (∀ j, j < N → ¬ v.testBit j = true → j ≠ k → ov j → ¬ tl j < fr k) ∧ (wr k ∨ re k = if l = 14 then 0 else va l)
/-- the sets and latest writes that rows lead to -/
def rw_R (N : Nat) (fr tl : Nat → Nat) (ov wr : Nat → Prop) [DecidablePred wr] (va re : Nat → Int32) (v l : Nat) : Prop := ∀ S : Nat → Nat → Prop, S 0 14 → (∀ v l k, S v l → k < N → rw_go N fr tl ov wr va re v l k → S (v ||| 2 ^ k) (if wr k then k else l)) → S v l
theorem rw_R0 {N : Nat} {fr tl : Nat → Nat} {ov wr : Nat → Prop} [DecidablePred wr] {va re : Nat → Int32} : rw_R N fr tl ov wr va re 0 14 := fun _ h _ => h
theorem rw_RS {N : Nat} {fr tl : Nat → Nat} {ov wr : Nat → Prop} [DecidablePred wr] {va re : Nat → Int32} {v l k : Nat} (h : rw_R N fr tl ov wr va re v l) (hk : k < N) (hg : rw_go N fr tl ov wr va re v l k) : rw_R N fr tl ov wr va re (v ||| 2 ^ k) (if wr k then k else l) := fun S h0 h1 => h1 v l k (h S h0 h1) hk hg
/-- v holds the first p c of each client -/
def rw_set (N : Nat) (cl p : Nat → Nat) (v : Nat) : Prop := ∀ i, v.testBit i = true ↔ i < N ∧ cn cl (cl i) i < p (cl i)
/-- i is client c's next -/
def rw_nx (N : Nat) (cl p : Nat → Nat) (c i : Nat) : Prop := i < N ∧ cl i = c ∧ cn cl c i = p c
def rw_may (N : Nat) (cl fr tl : Nat → Nat) (ov : Nat → Prop) (p : Nat → Nat) (k : Nat) : Prop := ∀ d i, d < 4 → rw_nx N cl p d i → ov i → ¬ tl i < fr k
theorem rw_first {N : Nat} {cl p : Nat → Nat} {j : Nat} (hj : j < N) (h : ¬ cn cl (cl j) j < p (cl j)) : ∃ i, rw_nx N cl p (cl j) i ∧ (i = j ∨ i < j) := by
  obtain ⟨i, h1, h2, h3⟩ := cn_ex (cl := cl) (c := cl j) (m := p (cl j)) (j + 1) (by
    rw [cn_s1 rfl]
    omega)
  exact ⟨i, ⟨by omega, h2, h3⟩, by omega⟩
theorem rw_A {N : Nat} {cl fr tl : Nat → Nat} {ov wr : Nat → Prop} {va re : Nat → Int32} {p : Nat → Nat} {v l k : Nat} (hh : rw_h N cl fr tl ov) (hs : rw_set N cl p v) (hk : k < N) (hg : rw_go N fr tl ov wr va re v l k) : rw_nx N cl p (cl k) k ∧ rw_may N cl fr tl ov p k := by
  obtain ⟨h1, h2, h3⟩ := hh
  obtain ⟨g1, g2, g3⟩ := hg
  have e1 : ¬ cn cl (cl k) k < p (cl k) := fun w => g1 ((hs k).mpr ⟨hk, w⟩)
  have hn : rw_nx N cl p (cl k) k := by
    obtain ⟨i, ⟨q1, q2, q3⟩, q4⟩ := rw_first hk e1
    rcases q4 with q4 | q4
    · subst q4
      exact ⟨q1, q2, q3⟩
    · have ni : ¬ v.testBit i = true := fun w => by
        have := ((hs i).mp w).2
        rw [q2] at this
        omega
      obtain ⟨o1, o2⟩ := h3 i k q4 hk q2
      exact absurd o2 (g2 i q1 ni (by omega) o1)
  refine ⟨hn, fun d i hd hi ho => ?_⟩
  by_cases e : i = k
  · subst e
    have := h2 i hk ho
    omega
  · obtain ⟨q1, q2, q3⟩ := hi
    refine g2 i q1 (fun w => ?_) e ho
    have := ((hs i).mp w).2
    rw [q2] at this
    omega
theorem rw_B {N : Nat} {cl fr tl : Nat → Nat} {ov wr : Nat → Prop} {va re : Nat → Int32} {p : Nat → Nat} {v l k c : Nat} (hh : rw_h N cl fr tl ov) (hs : rw_set N cl p v) (hk : rw_nx N cl p c k) (hm : rw_may N cl fr tl ov p k) (hv : wr k ∨ re k = if l = 14 then 0 else va l) : rw_go N fr tl ov wr va re v l k := by
  obtain ⟨h1, h2, h3⟩ := hh
  obtain ⟨k1, k2, k3⟩ := hk
  refine ⟨fun w => ?_, fun j hj nj ne ho hlt => ?_, hv⟩
  · have := ((hs k).mp w).2
    rw [k2] at this
    omega
  · have e1 : ¬ cn cl (cl j) j < p (cl j) := fun w => nj ((hs j).mpr ⟨hj, w⟩)
    obtain ⟨i, q1, q2⟩ := rw_first hj e1
    rcases q2 with q2 | q2
    · subst q2
      exact hm _ _ (h1 i hj) q1 ho hlt
    · obtain ⟨o1, o2⟩ := h3 i j q2 hj q1.2.1
      have := h2 j hj ho
      exact hm _ _ (h1 j hj) q1 o1 (by omega)
theorem rw_C {N : Nat} {cl fr tl : Nat → Nat} {ov : Nat → Prop} {p : Nat → Nat} {v : Nat} (hh : rw_h N cl fr tl ov) (hs : rw_set N cl p v) : (∀ c i, c < 4 → rw_nx N cl p c i → ¬ ov i) ↔ ∀ i, i < N → ov i → v.testBit i = true := by
  obtain ⟨h1, h2, h3⟩ := hh
  refine ⟨fun h i hi ho => ?_, fun h c i hc hn ho => ?_⟩
  · refine Decidable.byContradiction (fun nb => ?_)
    have e1 : ¬ cn cl (cl i) i < p (cl i) := fun w => nb ((hs i).mpr ⟨hi, w⟩)
    obtain ⟨j, q1, q2⟩ := rw_first hi e1
    rcases q2 with q2 | q2
    · subst q2
      exact h _ _ (h1 j hi) q1 ho
    · exact h _ _ (h1 i hi) q1 (h3 j i q2 hi q1.2.1).1
  · have := ((hs i).mp (h i hn.1 ho)).2
    rw [hn.2.1] at this
    have := hn.2.2
    omega
/-- one more of client c -/
def rw_up (p : Nat → Nat) (c : Nat) : Nat → Nat := fun d => if d = c then p c + 1 else p d
theorem rw_D {N : Nat} {cl p : Nat → Nat} {v k c : Nat} (hs : rw_set N cl p v) (hk : rw_nx N cl p c k) : rw_set N cl (rw_up p c) (v ||| 2 ^ k) := by
  obtain ⟨k1, k2, k3⟩ := hk
  intro i
  rw [Nat.testBit_or, Bool.or_eq_true, Nat.testBit_two_pow]
  have hsi := hs i
  unfold rw_up
  by_cases e : cl i = c
  · rw [if_pos e]
    rw [e] at hsi ⊢
    refine ⟨fun w => ?_, fun w => ?_⟩
    · rcases w with w | w
      · have := hsi.mp w
        exact ⟨this.1, by omega⟩
      · have : k = i := by simpa using w
        subst this
        exact ⟨k1, by omega⟩
    · by_cases g : cn cl c i < p c
      · exact Or.inl (hsi.mpr ⟨w.1, g⟩)
      · right
        have : i = k := cn_inj (c := c) e k2 (by omega)
        simp [this]
  · rw [if_neg e]
    refine ⟨fun w => ?_, fun w => Or.inl (hsi.mpr w)⟩
    rcases w with w | w
    · exact hsi.mp w
    · have : k = i := by simpa using w
      subst this
      exact absurd k2 e
theorem rw_set0 {N : Nat} {cl : Nat → Nat} : rw_set N cl (fun _ => 0) 0 := fun i => by
  simp
theorem rw_up_le {N : Nat} {cl p : Nat → Nat} {c k : Nat} (hk : rw_nx N cl p c k) : p c < cn cl c N := by
  have := cn_lt (cl := cl) hk.1 hk.2.1
  have := hk.2.2
  omega
/-- mixed radix -/
theorem rx_lt {x y s n : Nat} (hx : x < s) (hy : y ≤ n) : x + y * s < s * (n + 1) := by
  have : y * s ≤ n * s := Nat.mul_le_mul_right s hy
  have e : s * (n + 1) = n * s + s := by rw [Nat.mul_add, Nat.mul_one, Nat.mul_comm]
  omega
theorem rx_inj {x y x2 y2 s : Nat} (hx : x < s) (hx2 : x2 < s) (h : x + y * s = x2 + y2 * s) : x = x2 ∧ y = y2 := by
  have e1 : (x + y * s) / s = y := by
    rw [Nat.add_mul_div_right _ _ (by omega), Nat.div_eq_of_lt hx, Nat.zero_add]
  have e2 : (x2 + y2 * s) / s = y2 := by
    rw [Nat.add_mul_div_right _ _ (by omega), Nat.div_eq_of_lt hx2, Nat.zero_add]
  have e3 : y = y2 := by rw [← e1, h, e2]
  subst e3
  exact ⟨by omega, rfl⟩
/-- strides -/
def rx_s (ln : Nat → Nat) : Nat → Nat
  | 0 => 1
  | c + 1 => rx_s ln c * (ln c + 1)
theorem rx_pos (ln : Nat → Nat) : ∀ c, 1 ≤ rx_s ln c
  | 0 => Nat.le_refl _
  | c + 1 => Nat.mul_pos (rx_pos ln c) (Nat.succ_pos _)
def rx_n (ln p : Nat → Nat) : Nat := p 0 * rx_s ln 0 + p 1 * rx_s ln 1 + p 2 * rx_s ln 2 + p 3 * rx_s ln 3
def rx_le (ln p : Nat → Nat) : Prop := p 0 ≤ ln 0 ∧ p 1 ≤ ln 1 ∧ p 2 ≤ ln 2 ∧ p 3 ≤ ln 3
theorem rx_b {ln p : Nat → Nat} (h : rx_le ln p) : p 0 * rx_s ln 0 < rx_s ln 1 ∧ p 0 * rx_s ln 0 + p 1 * rx_s ln 1 < rx_s ln 2 ∧ p 0 * rx_s ln 0 + p 1 * rx_s ln 1 + p 2 * rx_s ln 2 < rx_s ln 3 ∧ rx_n ln p < rx_s ln 4 := by
  obtain ⟨h0, h1, h2, h3⟩ := h
  have a0 : p 0 * rx_s ln 0 < rx_s ln 1 := by
    have := rx_lt (x := 0) (y := p 0) (s := rx_s ln 0) (rx_pos ln 0) h0
    rw [Nat.zero_add] at this
    exact this
  have a1 := rx_lt a0 h1
  have a2 := rx_lt a1 h2
  exact ⟨a0, a1, a2, rx_lt a2 h3⟩
theorem rx_injn {ln p p2 : Nat → Nat} (h : rx_le ln p) (h2 : rx_le ln p2) (e : rx_n ln p = rx_n ln p2) : p 0 = p2 0 ∧ p 1 = p2 1 ∧ p 2 = p2 2 ∧ p 3 = p2 3 := by
  obtain ⟨a0, a1, a2, a3⟩ := rx_b h
  obtain ⟨b0, b1, b2, b3⟩ := rx_b h2
  obtain ⟨e1, e2⟩ := rx_inj a2 b2 e
  obtain ⟨e3, e4⟩ := rx_inj a1 b1 e1
  obtain ⟨e5, e6⟩ := rx_inj a0 b0 e3
  refine ⟨?_, e6, e4, e2⟩
  have : rx_s ln 0 = 1 := rfl
  rw [this, Nat.mul_one, Nat.mul_one] at e5
  exact e5
theorem rx_up {ln p : Nat → Nat} {c : Nat} (hc : c < 4) : rx_n ln (rw_up p c) = rx_n ln p + rx_s ln c := by
  unfold rx_n rw_up
  rcases (show c = 0 ∨ c = 1 ∨ c = 2 ∨ c = 3 by omega) with e | e | e | e <;> subst e <;> simp [Nat.add_mul] <;> omega
theorem rx_upl {ln p : Nat → Nat} {c : Nat} (hc : c < 4) (h : rx_le ln p) (hl : p c < ln c) : rx_le ln (rw_up p c) := by
  obtain ⟨h0, h1, h2, h3⟩ := h
  unfold rw_up
  rcases (show c = 0 ∨ c = 1 ∨ c = 2 ∨ c = 3 by omega) with e | e | e | e <;> subst e <;> refine ⟨?_, ?_, ?_, ?_⟩ <;> simp <;> omega
theorem rx_2 : ∀ a, a < 15 → ∀ b, b < 15 → a + b ≤ 14 → (a + 1) * (b + 1) ≤ (a + b + 2) * (a + b + 2) / 4 := by decide +kernel
theorem rx_3 : ∀ s, s < 15 → ∀ t, t < 15 → s + t ≤ 14 → ((s + 2) * (s + 2) / 4) * ((t + 2) * (t + 2) / 4) ≤ 400 := by decide +kernel
theorem rx_400 {ln : Nat → Nat} (h : ln 0 + ln 1 + ln 2 + ln 3 ≤ 14) : rx_s ln 4 ≤ 400 := by
  have e : rx_s ln 4 = ((ln 0 + 1) * (ln 1 + 1)) * ((ln 2 + 1) * (ln 3 + 1)) := by
    simp only [rx_s, Nat.one_mul, Nat.mul_assoc]
  rw [e]
  have h1 := rx_2 (ln 0) (by omega) (ln 1) (by omega) (by omega)
  have h2 := rx_2 (ln 2) (by omega) (ln 3) (by omega) (by omega)
  exact Nat.le_trans (Nat.mul_le_mul h1 h2) (rx_3 (ln 0 + ln 1) (by omega) (ln 2 + ln 3) (by omega) (by omega))
