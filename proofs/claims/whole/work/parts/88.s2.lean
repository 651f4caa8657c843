/-- the class's numbers when an operation at a begins -/
def cl_S1 (I : Nat → Nat → Int32) (a B : Nat) (kd : Int32) (c : Nat) (s v : Int32) : Nat → Nat → Int32 := cn_o1 (jx_u (lg_op I a B kd (nI c) s v) (78 + 5 * c) 10 (4 * (0 / 4 + 1) + lg_op I a B kd (nI c) s v (78 + 5 * c) 0)) (78 + 5 * c)
theorem cS_F {I : Nat → Nat → Int32} {a B c b j : Nat} {kd s v : Int32} (h9 : b ≠ 9) (ha : b ≠ a) (h : ¬ (b = 78 + 5 * c ∧ 6 ≤ j ∧ j ≤ 10)) (h3 : b ≠ 78 + 5 * c + 3) (h4 : b ≠ 78 + 5 * c + 4) : cl_S1 I a B kd c s v b j = I b j := by
  unfold cl_S1 cn_o1 cn_or
  rw [jx_u_no (by omega), jx_u_no (by omega), jx_u_no (by omega), jx_u_no (by omega), jd_fi_na h4, jd_fi_na h3, jx_u_no (by omega)]
  unfold lg_op
  simp (disch := omega) only [jx_u_na]
theorem cS_v {I : Nat → Nat → Int32} {a B c : Nat} {kd s v : Int32} (ha : 140 ≤ a) (hc : c < 4) : cl_S1 I a B kd c s v 9 1 = nI (B + 1) ∧ cl_S1 I a B kd c s v 9 2 = I 9 2 ∧ cl_S1 I a B kd c s v 9 3 = I 9 3 + 1 ∧ cl_S1 I a B kd c s v a 0 = I a 0 ∧ cl_S1 I a B kd c s v a 1 = kd ∧ cl_S1 I a B kd c s v a 2 = nI c ∧ cl_S1 I a B kd c s v a 3 = s ∧ cl_S1 I a B kd c s v a 4 = v ∧ cl_S1 I a B kd c s v a 5 = 0 ∧ cl_S1 I a B kd c s v a 6 = I 9 3 + 1 ∧ cl_S1 I a B kd c s v a 7 = 0 ∧ cl_S1 I a B kd c s v a 8 = 0 ∧ cl_S1 I a B kd c s v (78 + 5 * c) 6 = I (78 + 5 * c) 6 + 1 ∧ cl_S1 I a B kd c s v (78 + 5 * c) 7 = 1 ∧ cl_S1 I a B kd c s v (78 + 5 * c) 8 = 0 ∧ cl_S1 I a B kd c s v (78 + 5 * c) 9 = 0 ∧ cl_S1 I a B kd c s v (78 + 5 * c) 10 = 4 * (0 / 4 + 1) + I (78 + 5 * c) 0 := by
  unfold cl_S1 cn_o1 cn_or lg_op
  refine ⟨?_, ?_, ?_, ?_, ?_, ?_, ?_, ?_, ?_, ?_, ?_, ?_, ?_, ?_, ?_, ?_, ?_⟩
  all_goals simp (disch := omega) only [jx_u_na, jx_u_ni, jx_u_eq, jd_fi_na]
theorem cS_z {I : Nat → Nat → Int32} {a B c r : Nat} {kd s v : Int32} (hr : r < 3) : cl_S1 I a B kd c s v (78 + 5 * c + 3) r = 0 ∧ cl_S1 I a B kd c s v (78 + 5 * c + 4) r = 0 := by
  unfold cl_S1 cn_o1 cn_or
  exact ⟨by simp (disch := omega) only [jx_u_na, jd_fi_na, jd_fi_lt], by simp (disch := omega) only [jx_u_na, jd_fi_na, jd_fi_lt]⟩
theorem cS_b (c : Nat) (h : c < 4) : 4 * ((0 : Int32) / 4 + 1) + nI c = nI (4 + c) := by
  have q : ∀ c, c < 4 → 4 * ((0 : Int32) / 4 + 1) + nI c = nI (4 + c) := by decide +kernel
  exact q c h
