/-- the reference's numbers when an operation begins -/
def mo_S1 (J : Nat → Nat → Int32) (B : Nat) (kd : Int32) (c : Nat) (s v : Int32) : Nat → Nat → Int32 := mo_br (mo_o1 J B kd c s v) c 1
theorem S1_F {J : Nat → Nat → Int32} {B c a j : Nat} {kd s v : Int32} (h : ¬ (128 ≤ a ∧ a ≤ 132 ∧ j = c)) (h2 : ¬ ((a = 136 ∨ a = 137) ∧ 3 * c ≤ j ∧ j < 3 * c + 3)) (h3 : ¬ (119 ≤ a ∧ a ≤ 127 ∧ j = B)) (h4 : ¬ (a = 98 ∧ (j = 25 ∨ j = 27))) : mo_S1 J B kd c s v a j = J a j := by
  unfold mo_S1 mo_br mo_o1 mo_fb mo_o0
  rw [jx_u_no (by omega), jx_u_no (by omega), jx_u_no (by omega), jx_u_no (by omega), jx_u_no (by omega), jx_u_no (by omega), jx_u_no (by omega), jx_u_no (by omega), jx_u_no (by omega), jx_u_no (by omega), jx_u_no (by omega), jx_u_no (by omega), jx_u_no (by omega), jx_u_no (by omega), jx_u_no (by omega), jx_u_no (by omega), jx_u_no (by omega), jx_u_no (by omega), jx_u_no (by omega), jx_u_no (by omega), jx_u_no (by omega), jx_u_no (by omega)]
theorem S1_v {J : Nat → Nat → Int32} {B c : Nat} {kd s v : Int32} : mo_S1 J B kd c s v 98 25 = nI (B + 1) ∧ mo_S1 J B kd c s v 98 27 = J 98 27 + 1 ∧ mo_S1 J B kd c s v 128 c = nI B ∧ mo_S1 J B kd c s v 129 c = J 129 c + 1 ∧ mo_S1 J B kd c s v 130 c = 0 ∧ mo_S1 J B kd c s v 131 c = 0 ∧ mo_S1 J B kd c s v 132 c = 1 ∧ mo_S1 J B kd c s v 119 B = kd ∧ mo_S1 J B kd c s v 120 B = nI c ∧ mo_S1 J B kd c s v 121 B = s ∧ mo_S1 J B kd c s v 122 B = v ∧ mo_S1 J B kd c s v 124 B = 0 ∧ mo_S1 J B kd c s v 125 B = J 98 27 + 1 ∧ mo_S1 J B kd c s v 126 B = 0 ∧ mo_S1 J B kd c s v 127 B = 0 := by
  unfold mo_S1 mo_br mo_o1 mo_fb mo_o0
  refine ⟨?_, ?_, ?_, ?_, ?_, ?_, ?_, ?_, ?_, ?_, ?_, ?_, ?_, ?_, ?_⟩
  all_goals simp (disch := omega) only [jx_u_na, jx_u_ni, jx_u_eq]
theorem S1_z {J : Nat → Nat → Int32} {B c r : Nat} {kd s v : Int32} (hr : r < 3) : mo_S1 J B kd c s v 136 (3 * c + r) = 0 ∧ mo_S1 J B kd c s v 137 (3 * c + r) = 0 := by
  unfold mo_S1 mo_br mo_o1 mo_fb
  rcases (show r = 0 ∨ r = 1 ∨ r = 2 by omega) with rfl | rfl | rfl
  · exact ⟨by simp (disch := omega) only [jx_u_na, jx_u_ni, jx_u_eq], by simp (disch := omega) only [jx_u_na, jx_u_ni, jx_u_eq]⟩
  · exact ⟨by simp (disch := omega) only [jx_u_na, jx_u_ni, jx_u_eq], by simp (disch := omega) only [jx_u_na, jx_u_ni, jx_u_eq]⟩
  · exact ⟨by simp (disch := omega) only [jx_u_na, jx_u_ni, jx_u_eq], by simp (disch := omega) only [jx_u_na, jx_u_ni, jx_u_eq]⟩
