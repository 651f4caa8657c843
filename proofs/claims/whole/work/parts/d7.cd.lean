def rx_L (ln p : Nat → Nat) : Prop := rx_le ln p ∧ ∀ d, 4 ≤ d → p d = 0
theorem rx_Li {ln p p2 : Nat → Nat} (h : rx_L ln p) (h2 : rx_L ln p2) (e : rx_n ln p = rx_n ln p2) : p = p2 := by
  obtain ⟨e0, e1, e2, e3⟩ := rx_injn h.1 h2.1 e
  funext d
  by_cases hd : 4 ≤ d
  · rw [h.2 d hd, h2.2 d hd]
  · rcases (show d = 0 ∨ d = 1 ∨ d = 2 ∨ d = 3 by omega) with q | q | q | q <;> subst q <;> assumption
theorem rx_Lu {ln p : Nat → Nat} {c : Nat} (hc : c < 4) (h : rx_L ln p) (hl : p c < ln c) : rx_L ln (rw_up p c) := ⟨rx_upl hc h.1 hl, fun d hd => by
  unfold rw_up
  rw [if_neg (by omega)]
  exact h.2 d hd⟩
theorem rx_L0 {ln : Nat → Nat} : rx_L ln (fun _ => 0) := ⟨⟨Nat.zero_le _, Nat.zero_le _, Nat.zero_le _, Nat.zero_le _⟩, fun _ _ => rfl⟩
theorem rx_n0 {ln : Nat → Nat} : rx_n ln (fun _ => 0) = 0 := by
  unfold rx_n
  simp
/-- the set of p -/
def rw_v (cl p : Nat → Nat) : Nat → Nat
  | 0 => 0
  | i + 1 => if cn cl (cl i) i < p (cl i) then rw_v cl p i ||| 2 ^ i else rw_v cl p i
theorem rw_v_b {cl p : Nat → Nat} {i : Nat} : ∀ m, (rw_v cl p m).testBit i = true ↔ i < m ∧ cn cl (cl i) i < p (cl i)
  | 0 => by
    unfold rw_v
    rw [Nat.zero_testBit]
    exact ⟨fun w => absurd w (by decide), fun w => absurd w.1 (by omega)⟩
  | m + 1 => by
    have ih := rw_v_b (cl := cl) (p := p) (i := i) m
    unfold rw_v
    split
    · rename_i hw
      rw [Nat.testBit_or, Bool.or_eq_true, ih, Nat.testBit_two_pow]
      refine ⟨fun w => ?_, fun w => ?_⟩
      · rcases w with w | w
        · exact ⟨by omega, w.2⟩
        · have : m = i := by simpa using w
          subst this
          exact ⟨by omega, hw⟩
      · by_cases e : i = m
        · exact Or.inr (by simp [e])
        · exact Or.inl ⟨by omega, w.2⟩
    · rename_i hw
      rw [ih]
      refine ⟨fun w => ⟨by omega, w.2⟩, fun w => ⟨?_, w.2⟩⟩
      by_cases e : i = m
      · subst e
        exact absurd w.2 hw
      · omega
theorem rw_ex {N : Nat} {cl p : Nat → Nat} : rw_set N cl p (rw_v cl p N) := fun _ => rw_v_b N
theorem rw_un {N : Nat} {cl p : Nat → Nat} {v v2 : Nat} (h : rw_set N cl p v) (h2 : rw_set N cl p v2) : v = v2 := by
  apply Nat.eq_of_testBit_eq
  intro i
  have a := h i
  have b := h2 i
  cases hv : v.testBit i
  · cases hv2 : v2.testBit i
    · rfl
    · rw [hv] at a
      exact absurd (a.mpr (b.mp hv2)) (by decide)
  · exact (b.mpr (a.mp hv)).symm
theorem rw_nxu {N : Nat} {cl p : Nat → Nat} {c i j : Nat} (h : rw_nx N cl p c i) (h2 : rw_nx N cl p c j) : i = j := cn_inj h.2.1 h2.2.1 (by rw [h.2.2, h2.2.2])
/-- the latest writes la of the spots: sound -/
def cd_S (J : Nat → Nat → Int32) (f : Nat → Nat) (N : Nat) (cl ln la : Nat → Nat) : Prop := (la 0).testBit 14 = true ∧ ∀ p, rx_L ln p → ∀ l, (la (rx_n ln p)).testBit l = true → (l = 14 ∨ l < N ∧ at_wr J f l) ∧ ∀ v, rw_set N cl p v → at_R J f N v l
def cd_1 (J : Nat → Nat → Int32) (f : Nat → Nat) (N : Nat) (cl ln la p : Nat → Nat) (l cc : Nat) : Prop := ∀ c k, c < cc → rw_nx N cl p c k → rw_may N cl (at_fr J f) (at_tl J f) (at_ov J f) p k → (at_wr J f k ∨ at_re J f k = if l = 14 then 0 else at_va J f l) → (la (rx_n ln (rw_up p c))).testBit (at_nl J f l k) = true
/-- closed below t -/
def cd_C (J : Nat → Nat → Int32) (f : Nat → Nat) (N : Nat) (cl ln la : Nat → Nat) (t : Nat) : Prop := ∀ p, rx_L ln p → rx_n ln p < t → ∀ l, (la (rx_n ln p)).testBit l = true → (¬ ∀ c i, c < 4 → rw_nx N cl p c i → ¬ at_ov J f i) ∧ cd_1 J f N cl ln la p l 4
def cd_P (J : Nat → Nat → Int32) (f : Nat → Nat) (N : Nat) (cl ln la p : Nat → Nat) (cc : Nat) : Prop := ∀ l, (la (rx_n ln p)).testBit l = true → cd_1 J f N cl ln la p l cc
theorem cd_step {J : Nat → Nat → Int32} {f : Nat → Nat} {N : Nat} {cl ln la la2 p : Nat → Nat} {c k W : Nat} (hh : rw_h N cl (at_fr J f) (at_tl J f) (at_ov J f)) (hL : rx_L ln p) (hln : ∀ c, c < 4 → ln c = cn cl c N) (hc : c < 4) (hk : rw_nx N cl p c k) (hm : rw_may N cl (at_fr J f) (at_tl J f) (at_ov J f) p k) (hS : cd_S J f N cl ln la) (hC : cd_C J f N cl ln la (rx_n ln p)) (hP : cd_P J f N cl ln la p c) (hW : ∀ l2, W.testBit l2 = true ↔ ∃ l, (la (rx_n ln p)).testBit l = true ∧ (at_wr J f k ∨ at_re J f k = if l = 14 then 0 else at_va J f l) ∧ l2 = at_nl J f l k) (h2 : la2 (rx_n ln p + rx_s ln c) = la (rx_n ln p + rx_s ln c) ||| W) (h3 : ∀ j, j ≠ rx_n ln p + rx_s ln c → la2 j = la j) : cd_S J f N cl ln la2 ∧ cd_C J f N cl ln la2 (rx_n ln p) ∧ cd_P J f N cl ln la2 p (c + 1) := by
  have hpos := rx_pos ln c
  have hup := rx_up (ln := ln) (p := p) hc
  have hpl : p c < ln c := by
    rw [hln c hc]
    exact rw_up_le hk
  have hLu := rx_Lu hc hL hpl
  have mono : ∀ j l, (la j).testBit l = true → (la2 j).testBit l = true := fun j l hb => by
    by_cases e : j = rx_n ln p + rx_s ln c
    · subst e
      rw [h2, Nat.testBit_or, hb, Bool.true_or]
    · rw [h3 j e]
      exact hb
  refine ⟨⟨mono 0 14 hS.1, fun q hq l hb => ?_⟩, fun q hq hlt l hb => ?_, fun l hb c2 k2 hc2 hk2 hm2 hv2 => ?_⟩
  · by_cases e : rx_n ln q = rx_n ln p + rx_s ln c
    · have eq : q = rw_up p c := rx_Li hq hLu (by rw [e, hup])
      subst eq
      rw [e, h2, Nat.testBit_or, Bool.or_eq_true] at hb
      rcases hb with hb | hb
      · exact hS.2 _ hLu l (by rw [hup]; exact hb)
      · obtain ⟨l0, w1, w2, w3⟩ := (hW l).mp hb
        obtain ⟨s1, s2⟩ := hS.2 p hL l0 w1
        refine ⟨?_, fun v hv => ?_⟩
        · rw [w3]
          unfold at_nl
          split
          · rename_i hw
            exact Or.inr ⟨hk.1, hw⟩
          · exact s1
        · have e2 : v = rw_v cl p N ||| 2 ^ k := rw_un hv (rw_D rw_ex hk)
          rw [e2, w3]
          exact at_RS (s2 _ rw_ex) hk.1 (rw_B hh rw_ex hk hm w2)
    · rw [h3 _ e] at hb
      exact hS.2 q hq l hb
  · rw [h3 _ (by omega)] at hb
    obtain ⟨d1, d2⟩ := hC q hq hlt l hb
    exact ⟨d1, fun c2 k2 q1 q2 q3 q4 => mono _ _ (d2 c2 k2 q1 q2 q3 q4)⟩
  · rw [h3 _ (by omega)] at hb
    by_cases e : c2 = c
    · subst e
      have ek := rw_nxu hk2 hk
      subst ek
      rw [hup, h2, Nat.testBit_or, Bool.or_eq_true]
      exact Or.inr ((hW _).mpr ⟨l, hb, hv2, rfl⟩)
    · exact mono _ _ (hP l hb c2 k2 (by omega) hk2 hm2 hv2)
theorem cd_skip {J : Nat → Nat → Int32} {f : Nat → Nat} {N : Nat} {cl ln la p : Nat → Nat} {c : Nat} (hP : cd_P J f N cl ln la p c) (h : ∀ k, rw_nx N cl p c k → ¬ rw_may N cl (at_fr J f) (at_tl J f) (at_ov J f) p k) : cd_P J f N cl ln la p (c + 1) := fun l hb c2 k2 hc2 hk2 hm2 hv2 => by
  by_cases e : c2 = c
  · subst e
    exact absurd hm2 (h k2 hk2)
  · exact hP l hb c2 k2 (by omega) hk2 hm2 hv2
theorem cd_next {J : Nat → Nat → Int32} {f : Nat → Nat} {N : Nat} {cl ln la p : Nat → Nat} (hL : rx_L ln p) (hC : cd_C J f N cl ln la (rx_n ln p)) (h : ∀ l, (la (rx_n ln p)).testBit l = true → (¬ ∀ c i, c < 4 → rw_nx N cl p c i → ¬ at_ov J f i) ∧ cd_1 J f N cl ln la p l 4) : cd_C J f N cl ln la (rx_n ln p + 1) := fun q hq hlt l hb => by
  by_cases e : rx_n ln q = rx_n ln p
  · have eq : q = p := rx_Li hq hL e
    subst eq
    exact h l hb
  · exact hC q hq (by omega) l hb
theorem cd_no {J : Nat → Nat → Int32} {f : Nat → Nat} {N : Nat} {cl ln la : Nat → Nat} (hh : rw_h N cl (at_fr J f) (at_tl J f) (at_ov J f)) (hln : ∀ c, c < 4 → ln c = cn cl c N) (hS : cd_S J f N cl ln la) (hC : cd_C J f N cl ln la (rx_s ln 4)) : ¬ at_Y J f N := by
  rintro ⟨v, l, hR, hall⟩
  obtain ⟨p, hL, hs, hb⟩ := hR (fun v l => ∃ p, rx_L ln p ∧ rw_set N cl p v ∧ (la (rx_n ln p)).testBit l = true) ⟨fun _ => 0, rx_L0, rw_set0, by rw [rx_n0]; exact hS.1⟩ (fun v l k hX hk hg => by
    obtain ⟨p, hL, hs, hb⟩ := hX
    obtain ⟨a1, a2⟩ := rw_A hh hs hk hg
    have h4 := hh.1 k hk
    have hpl : p (cl k) < ln (cl k) := by
      rw [hln _ h4]
      exact rw_up_le a1
    exact ⟨rw_up p (cl k), rx_Lu h4 hL hpl, rw_D hs a1, (hC p hL (rx_b hL.1).2.2.2 l hb).2 (cl k) k h4 a1 a2 hg.2.2⟩)
  exact (hC p hL (rx_b hL.1).2.2.2 l hb).1 ((rw_C hh hs).mpr hall)
theorem cd_yes {J : Nat → Nat → Int32} {f : Nat → Nat} {N : Nat} {cl ln la p : Nat → Nat} (hh : rw_h N cl (at_fr J f) (at_tl J f) (at_ov J f)) (hS : cd_S J f N cl ln la) (hL : rx_L ln p) (hz : la (rx_n ln p) ≠ 0) (hall : ∀ c i, c < 4 → rw_nx N cl p c i → ¬ at_ov J f i) : at_Y J f N := by
  obtain ⟨l, hb⟩ := Nat.exists_testBit_of_ne_zero hz
  exact ⟨rw_v cl p N, l, (hS.2 p hL l hb).2 _ rw_ex, (rw_C hh rw_ex).mp hall⟩
/-- the next spot's p -/
def rx_z (p : Nat → Nat) (c : Nat) : Nat → Nat := fun d => if d < c then 0 else p d
def rx_nx (ln p : Nat → Nat) : Nat → Nat := if p 0 < ln 0 then rw_up p 0 else if p 1 < ln 1 then rw_up (rx_z p 1) 1 else if p 2 < ln 2 then rw_up (rx_z p 2) 2 else if p 3 < ln 3 then rw_up (rx_z p 3) 3 else rx_z p 4
theorem rx_sv (ln : Nat → Nat) : rx_s ln 0 = 1 ∧ rx_s ln 1 = ln 0 + 1 ∧ rx_s ln 2 = ln 1 * rx_s ln 1 + rx_s ln 1 ∧ rx_s ln 3 = ln 2 * rx_s ln 2 + rx_s ln 2 ∧ rx_s ln 4 = ln 3 * rx_s ln 3 + rx_s ln 3 := by
  refine ⟨rfl, ?_, ?_, ?_, ?_⟩
  · show 1 * (ln 0 + 1) = _
    omega
  · show rx_s ln 1 * (ln 1 + 1) = _
    rw [Nat.mul_add, Nat.mul_one, Nat.mul_comm]
  · show rx_s ln 2 * (ln 2 + 1) = _
    rw [Nat.mul_add, Nat.mul_one, Nat.mul_comm]
  · show rx_s ln 3 * (ln 3 + 1) = _
    rw [Nat.mul_add, Nat.mul_one, Nat.mul_comm]
theorem rx_nx_v {ln p : Nat → Nat} (hL : rx_L ln p) (ht : rx_n ln p + 1 < rx_s ln 4) : rx_L ln (rx_nx ln p) ∧ rx_n ln (rx_nx ln p) = rx_n ln p + 1 := by
  obtain ⟨⟨h0, h1, h2, h3⟩, h4⟩ := id hL
  obtain ⟨s0, s1, s2, s3, s4⟩ := rx_sv ln
  unfold rx_nx
  by_cases c0 : p 0 < ln 0
  · rw [if_pos c0]
    refine ⟨rx_Lu (by omega) hL c0, ?_⟩
    rw [rx_up (by omega), s0]
  · have e0 : p 0 = ln 0 := by omega
    rw [if_neg c0]
    have z : ∀ c, 1 ≤ c → c ≤ 4 → rx_L ln (rx_z p c) := fun c hc1 hc4 => by
      refine ⟨⟨?_, ?_, ?_, ?_⟩, fun d hd => ?_⟩ <;> unfold rx_z <;> split <;> first | omega | exact h4 d hd
    by_cases c1 : p 1 < ln 1
    · rw [if_pos c1]
      refine ⟨rx_Lu (by omega) (z 1 (by omega) (by omega)) (by show (if 1 < 1 then 0 else p 1) < ln 1; rw [if_neg (by omega)]; exact c1), ?_⟩
      rw [rx_up (by omega)]
      unfold rx_n rx_z
      rw [if_pos (by omega), if_neg (by omega), if_neg (by omega), if_neg (by omega), e0, s0, Nat.zero_mul, Nat.mul_one]
      omega
    · have e1 : p 1 = ln 1 := by omega
      rw [if_neg c1]
      by_cases c2 : p 2 < ln 2
      · rw [if_pos c2]
        refine ⟨rx_Lu (by omega) (z 2 (by omega) (by omega)) (by show (if 2 < 2 then 0 else p 2) < ln 2; rw [if_neg (by omega)]; exact c2), ?_⟩
        rw [rx_up (by omega)]
        unfold rx_n rx_z
        rw [if_pos (by omega), if_pos (by omega), if_neg (by omega), if_neg (by omega), e0, e1, s0, Nat.zero_mul, Nat.zero_mul, Nat.mul_one]
        omega
      · have e2 : p 2 = ln 2 := by omega
        rw [if_neg c2]
        by_cases c3 : p 3 < ln 3
        · rw [if_pos c3]
          refine ⟨rx_Lu (by omega) (z 3 (by omega) (by omega)) (by show (if 3 < 3 then 0 else p 3) < ln 3; rw [if_neg (by omega)]; exact c3), ?_⟩
          rw [rx_up (by omega)]
          unfold rx_n rx_z
          rw [if_pos (by omega), if_pos (by omega), if_pos (by omega), if_neg (by omega), e0, e1, e2, s0, Nat.zero_mul, Nat.zero_mul, Nat.zero_mul, Nat.mul_one]
          omega
        · exfalso
          have e3 : p 3 = ln 3 := by omega
          unfold rx_n at ht
          rw [e0, e1, e2, e3, s0, Nat.mul_one] at ht
          omega
