/-- both stand for the same numbers of the reference -/
def ag (I J : Nat → Nat → Int32) : Prop := ∀ a j, 98 ≤ a → a < 140 → I a j = J a j
theorem ag_refl {I : Nat → Nat → Int32} : ag I I := fun _ _ _ _ => rfl
theorem ag_symm {I J : Nat → Nat → Int32} (h : ag I J) : ag J I := fun a j x y => (h a j x y).symm
theorem ag_trans {I J L : Nat → Nat → Int32} (h : ag I J) (g : ag J L) : ag I L := fun a j x y => (h a j x y).trans (g a j x y)
theorem ag_u {I J : Nat → Nat → Int32} (h : ag I J) {a i : Nat} {v z : Int32} (e : v = z) : ag (jx_u I a i v) (jx_u J a i z) := by
  intro b j x y
  unfold jx_u
  split
  · exact e
  · exact h b j x y
theorem ag_ite {p : Prop} [Decidable p] {A B C D : Nat → Nat → Int32} (h : ag A C) (g : ag B D) : ag (if p then A else B) (if p then C else D) := by
  split
  · exact h
  · exact g
theorem ag_tk {I J : Nat → Nat → Int32} (h : ag I J) {i : Nat} : ag (mo_tk I i) (mo_tk J i) := by
  have r98 : ∀ j, I 98 j = J 98 j := fun j => h 98 j (by decide) (by decide)
  have r106 : ∀ j, I 106 j = J 106 j := fun j => h 106 j (by decide) (by decide)
  have r107 : ∀ j, I 107 j = J 107 j := fun j => h 107 j (by decide) (by decide)
  have r108 : ∀ j, I 108 j = J 108 j := fun j => h 108 j (by decide) (by decide)
  have r109 : ∀ j, I 109 j = J 109 j := fun j => h 109 j (by decide) (by decide)
  have r110 : ∀ j, I 110 j = J 110 j := fun j => h 110 j (by decide) (by decide)
  have r111 : ∀ j, I 111 j = J 111 j := fun j => h 111 j (by decide) (by decide)
  have r112 : ∀ j, I 112 j = J 112 j := fun j => h 112 j (by decide) (by decide)
  have r113 : ∀ j, I 113 j = J 113 j := fun j => h 113 j (by decide) (by decide)
  have r114 : ∀ j, I 114 j = J 114 j := fun j => h 114 j (by decide) (by decide)
  have r115 : ∀ j, I 115 j = J 115 j := fun j => h 115 j (by decide) (by decide)
  have r116 : ∀ j, I 116 j = J 116 j := fun j => h 116 j (by decide) (by decide)
  have r117 : ∀ j, I 117 j = J 117 j := fun j => h 117 j (by decide) (by decide)
  unfold mo_tk
  try simp only [r98, r106, r107, r108, r109, r110, r111, r112, r113, r114, r115, r116, r117]
  repeat' (with_reducible (first | exact h | rfl | assumption | refine ag_ite ?_ ?_  | (refine ag_u ?_ rfl)))
theorem ag_h {I J : Nat → Nat → Int32} (h : ag I J) {s r : Nat} {t v : Int32} : ag (mo_h I s r t v) (mo_h J s r t v) := by
  have r101 : ∀ j, I 101 j = J 101 j := fun j => h 101 j (by decide) (by decide)
  unfold mo_h
  try simp only [r101]
  repeat' (with_reducible (first | exact h | rfl | assumption | refine ag_ite ?_ ?_  | (refine ag_u ?_ rfl)))
theorem ag_b {I J : Nat → Nat → Int32} (h : ag I J) {c r : Nat} {t v : Int32} : ag (mo_b I c r t v) (mo_b J c r t v) := by
  have r136 : ∀ j, I 136 j = J 136 j := fun j => h 136 j (by decide) (by decide)
  unfold mo_b
  try simp only [r136]
  repeat' (with_reducible (first | exact h | rfl | assumption | refine ag_ite ?_ ?_  | (refine ag_u ?_ rfl)))
theorem ag_fb {I J : Nat → Nat → Int32} (h : ag I J) {c : Nat} : ag (mo_fb I c) (mo_fb J c) := by
  have r136 : ∀ j, I 136 j = J 136 j := fun j => h 136 j (by decide) (by decide)
  unfold mo_fb
  try simp only [r136]
  repeat' (with_reducible (first | exact h | rfl | assumption | refine ag_ite ?_ ?_  | (refine ag_u ?_ rfl)))
theorem ag_ov {I J : Nat → Nat → Int32} (h : ag I J) {c o : Nat} {v : Int32} : ag (mo_ov I c o v) (mo_ov J c o v) := by
  have r98 : ∀ j, I 98 j = J 98 j := fun j => h 98 j (by decide) (by decide)
  unfold mo_ov
  try simp only [r98]
  repeat' (with_reducible (first | exact h | rfl | assumption | refine ag_ite ?_ ?_  | (refine ag_u ?_ rfl)))
theorem ag_ct {I J : Nat → Nat → Int32} (h : ag I J) {c : Nat} : ag (mo_ct I c) (mo_ct J c) := by
  have r98 : ∀ j, I 98 j = J 98 j := fun j => h 98 j (by decide) (by decide)
  have r131 : ∀ j, I 131 j = J 131 j := fun j => h 131 j (by decide) (by decide)
  unfold mo_ct
  try simp only [r98, r131]
  repeat' (with_reducible (first | exact h | rfl | assumption | refine ag_ite ?_ ?_  | (refine ag_u ?_ rfl)))
theorem ag_ly {I J : Nat → Nat → Int32} (h : ag I J) {q w : Nat} {what s c wh k : Int32} : ag (mo_ly I q what s c wh k w) (mo_ly J q what s c wh k w) := by
  have r98 : ∀ j, I 98 j = J 98 j := fun j => h 98 j (by decide) (by decide)
  have r99 : ∀ j, I 99 j = J 99 j := fun j => h 99 j (by decide) (by decide)
  have r106 : ∀ j, I 106 j = J 106 j := fun j => h 106 j (by decide) (by decide)
  unfold mo_ly
  try simp only [r98, r99, r106]
  repeat' (with_reducible (first | exact h | rfl | assumption | refine ag_ite ?_ ?_  | (refine ag_u ?_ rfl)))
theorem ag_j1 {I J : Nat → Nat → Int32} (h : ag I J) {w i m : Nat} : ag (mo_j1 I w i m) (mo_j1 J w i m) := by
  have r99 : ∀ j, I 99 j = J 99 j := fun j => h 99 j (by decide) (by decide)
  have r118 : ∀ j, I 118 j = J 118 j := fun j => h 118 j (by decide) (by decide)
  unfold mo_j1
  try simp only [r99, r118]
  repeat' (with_reducible (first | exact h | rfl | assumption | refine ag_ite ?_ ?_  | (refine ag_u ?_ rfl)))
theorem ag_jn {I J : Nat → Nat → Int32} (h : ag I J) {w i : Nat} : ag (mo_jn I w i) (mo_jn J w i) := by
  unfold mo_jn
  exact ag_j1 (ag_j1 (ag_j1 (ag_j1 (ag_j1 (ag_j1 h)))))
theorem ag_s1 {I J : Nat → Nat → Int32} (h : ag I J) {i k : Nat} : ag (mo_s1 I i k) (mo_s1 J i k) := by
  intro a j x y
  unfold mo_s1
  split
  · exact h a _ x y
  · exact h a _ x y
theorem ag_s2 {I J : Nat → Nat → Int32} (h : ag I J) {i k : Nat} : ag (mo_s2 I i k) (mo_s2 J i k) := by
  intro a j x y
  unfold mo_s2
  split
  · exact h 118 _ (by decide) (by decide)
  · exact h a _ x y
theorem ag_sh {I J : Nat → Nat → Int32} (h : ag I J) {i q : Nat} : ag (mo_sh I i q) (mo_sh J i q) := by
  unfold mo_sh
  exact ag_s2 (ag_s1 (ag_u h rfl))
theorem ag_dl {I J : Nat → Nat → Int32} (h : ag I J) {w i q : Nat} : ag (mo_dl I w i q) (mo_dl J w i q) := by
  unfold mo_dl
  rw [h 98 11 (by decide) (by decide)]
  exact ag_u (ag_sh (ag_jn (ag_tk h))) rfl
theorem ag_n1 {I J : Nat → Nat → Int32} (h : ag I J) {c s : Nat} {x : Int32} : ag (mo_n1 I c x s) (mo_n1 J c x s) := by
  unfold mo_n1
  rw [h 98 9 (by decide) (by decide)]
  exact ag_ite (ag_ly h) h
theorem ag_nk {I J : Nat → Nat → Int32} (h : ag I J) {c : Nat} {x : Int32} : ∀ k, ag (mo_nk I c x k) (mo_nk J c x k)
  | 0 => h
  | k + 1 => ag_n1 (ag_nk h k)
theorem ae_of {I J : Nat → Nat → Int32} (h : ag I J) {c o : Nat} : mo_of I c o = mo_of J c o := by
  have r121 : ∀ j, I 121 j = J 121 j := fun j => h 121 j (by decide) (by decide)
  have r136 : ∀ j, I 136 j = J 136 j := fun j => h 136 j (by decide) (by decide)
  have r137 : ∀ j, I 137 j = J 137 j := fun j => h 137 j (by decide) (by decide)
  unfold mo_of
  simp only [r121, r136, r137]
theorem ae_kd {I J : Nat → Nat → Int32} (h : ag I J) {c o : Nat} : mo_kd I c o = mo_kd J c o := by
  have r119 : ∀ j, I 119 j = J 119 j := fun j => h 119 j (by decide) (by decide)
  have r132 : ∀ j, I 132 j = J 132 j := fun j => h 132 j (by decide) (by decide)
  unfold mo_kd
  simp only [r119, r132]
theorem ae_sb {I J : Nat → Nat → Int32} (h : ag I J) {c o : Nat} : mo_sb I c o = mo_sb J c o := by
  have r119 : ∀ j, I 119 j = J 119 j := fun j => h 119 j (by decide) (by decide)
  have r121 : ∀ j, I 121 j = J 121 j := fun j => h 121 j (by decide) (by decide)
  have r134 : ∀ j, I 134 j = J 134 j := fun j => h 134 j (by decide) (by decide)
  unfold mo_sb
  simp only [r119, r121, r134]
theorem ae_or {I J : Nat → Nat → Int32} (h : ag I J) {c k : Nat} {a : Int32} : mo_or I c a k = mo_or J c a k := by
  have r99 : ∀ j, I 99 j = J 99 j := fun j => h 99 j (by decide) (by decide)
  unfold mo_or
  simp only [r99]
theorem ae_al {I J : Nat → Nat → Int32} (h : ag I J) {c : Nat} : mo_al I c = mo_al J c := by
  unfold mo_al
  simp only [ae_or h]
theorem ae_fk {I J : Nat → Nat → Int32} (h : ag I J) {c k : Nat} : mo_fk I c k = mo_fk J c k := by
  have r99 : ∀ j, I 99 j = J 99 j := fun j => h 99 j (by decide) (by decide)
  have r131 : ∀ j, I 131 j = J 131 j := fun j => h 131 j (by decide) (by decide)
  unfold mo_fk
  simp only [r99, r131]
theorem ae_fu {I J : Nat → Nat → Int32} (h : ag I J) {c : Nat} : mo_fu I c = mo_fu J c := by
  unfold mo_fu
  simp only [ae_fk h]
theorem ag_fi {I J A B : Nat → Nat → Int32} (h : ag I J) (g : ag A B) {c o q : Nat} : ag (mo_fi I A c o q) (mo_fi J B c o q) := by
  have r119 : ∀ j, I 119 j = J 119 j := fun j => h 119 j (by decide) (by decide)
  have r132 : ∀ j, I 132 j = J 132 j := fun j => h 132 j (by decide) (by decide)
  have r133 : ∀ j, I 133 j = J 133 j := fun j => h 133 j (by decide) (by decide)
  have r136 : ∀ j, I 136 j = J 136 j := fun j => h 136 j (by decide) (by decide)
  have r137 : ∀ j, I 137 j = J 137 j := fun j => h 137 j (by decide) (by decide)
  unfold mo_fi
  simp only [r119, r132, r133, r136, r137, ae_of h]
  repeat' (with_reducible (first | exact g | rfl | refine ag_ite ?_ ?_ | (refine ag_u ?_ rfl)))
theorem ag_a1 {I J : Nat → Nat → Int32} (h : ag I J) {c o s : Nat} {x : Int32} : ag (mo_a1 I c o x s) (mo_a1 J c o x s) := by
  unfold mo_a1
  rw [h 98 9 (by decide) (by decide), h 129 c (by decide) (by decide), ae_kd h, ae_sb h]
  exact ag_ite h (ag_fi h (ag_ly h))
theorem ag_ak {I J : Nat → Nat → Int32} (h : ag I J) {c o : Nat} {x : Int32} : ∀ k, ag (mo_ak I c o x k) (mo_ak J c o x k)
  | 0 => h
  | k + 1 => ag_a1 (ag_ak h k)
theorem ag_am {I J : Nat → Nat → Int32} (h : ag I J) {c o : Nat} {v : Int32} : ag (mo_am I c o v) (mo_am J c o v) := by
  unfold mo_am
  rw [h 130 c (by decide) (by decide)]
  exact ag_u (ag_ak h 7) rfl
theorem ag_br {I J : Nat → Nat → Int32} (h : ag I J) {c : Nat} {p : Int32} : ag (mo_br I c p) (mo_br J c p) := by
  have r129 : ∀ j, I 129 j = J 129 j := fun j => h 129 j (by decide) (by decide)
  unfold mo_br
  try simp only [r129]
  repeat' (with_reducible (first | exact h | rfl | assumption | refine ag_ite ?_ ?_  | (refine ag_u ?_ rfl)))
theorem ag_o0 {I J : Nat → Nat → Int32} (h : ag I J) {b c : Nat} {what wh x : Int32} : ag (mo_o0 I b what c wh x) (mo_o0 J b what c wh x) := by
  have r98 : ∀ j, I 98 j = J 98 j := fun j => h 98 j (by decide) (by decide)
  unfold mo_o0
  try simp only [r98]
  repeat' (with_reducible (first | exact h | rfl | assumption | refine ag_ite ?_ ?_  | (refine ag_u ?_ rfl)))
theorem ag_o1 {I J : Nat → Nat → Int32} (h : ag I J) {b c : Nat} {what wh x : Int32} : ag (mo_o1 I b what c wh x) (mo_o1 J b what c wh x) := by
  unfold mo_o1
  exact ag_fb (ag_o0 h)
theorem ag_ch {I J : Nat → Nat → Int32} (h : ag I J) {c g : Nat} : ag (mo_ch I c g) (mo_ch J c g) := by
  have r134 : ∀ j, I 134 j = J 134 j := fun j => h 134 j (by decide) (by decide)
  unfold mo_ch
  try simp only [r134]
  repeat' (with_reducible (first | exact h | rfl | assumption | refine ag_ite ?_ ?_  | (refine ag_u ?_ rfl)))
theorem ag_mv {I J : Nat → Nat → Int32} (h : ag I J) {c g : Nat} : ag (mo_mv I c g) (mo_mv J c g) := by
  have r99 : ∀ j, I 99 j = J 99 j := fun j => h 99 j (by decide) (by decide)
  have r134 : ∀ j, I 134 j = J 134 j := fun j => h 134 j (by decide) (by decide)
  unfold mo_mv
  try simp only [r99, r134]
  repeat' (with_reducible (first | exact h | rfl | assumption | refine ag_ite ?_ ?_  | (refine ag_u ?_ rfl)))
theorem ag_an {I J : Nat → Nat → Int32} (h : ag I J) {q s : Nat} {kd nu : Int32} : ag (mo_an I q kd s nu) (mo_an J q kd s nu) := by
  have r98 : ∀ j, I 98 j = J 98 j := fun j => h 98 j (by decide) (by decide)
  unfold mo_an
  try simp only [r98]
  repeat' (with_reducible (first | exact h | rfl | assumption | refine ag_ite ?_ ?_  | (refine ag_ly ?_) | (refine ag_u ?_ rfl)))
theorem ag_bd {I J : Nat → Nat → Int32} (h : ag I J) {q s j : Nat} {kd : Int32} : ag (mo_bd I q kd s j) (mo_bd J q kd s j) := by
  have r98 : ∀ j, I 98 j = J 98 j := fun j => h 98 j (by decide) (by decide)
  have r103 : ∀ j, I 103 j = J 103 j := fun j => h 103 j (by decide) (by decide)
  unfold mo_bd
  try simp only [r98, r103]
  repeat' (with_reducible (first | exact h | rfl | assumption | refine ag_ite ?_ ?_  | (refine ag_ly ?_) | (refine ag_u ?_ rfl)))
theorem ag_g0 {I J : Nat → Nat → Int32} (h : ag I J) {q s j : Nat} : ag (mo_g0 I q s j) (mo_g0 J q s j) := by
  have r101 : ∀ j, I 101 j = J 101 j := fun j => h 101 j (by decide) (by decide)
  have r102 : ∀ j, I 102 j = J 102 j := fun j => h 102 j (by decide) (by decide)
  unfold mo_g0
  try simp only [r101, r102]
  repeat' (with_reducible (first | exact h | rfl | assumption | refine ag_ite ?_ ?_  | (refine ag_an ?_) | (refine ag_u ?_ rfl)))
theorem ag_g1 {I J : Nat → Nat → Int32} (h : ag I J) {q s j : Nat} : ag (mo_g1 I q s j) (mo_g1 J q s j) := by
  have r98 : ∀ j, I 98 j = J 98 j := fun j => h 98 j (by decide) (by decide)
  unfold mo_g1
  try simp only [r98]
  repeat' (with_reducible (first | exact h | rfl | assumption | refine ag_ite ?_ ?_  | (refine ag_an ?_) | (refine ag_h ?_) | (refine ag_u ?_ rfl)))
theorem ag_g2 {I J : Nat → Nat → Int32} (h : ag I J) {q s j : Nat} : ag (mo_g2 I q s j) (mo_g2 J q s j) := by
  have r98 : ∀ j, I 98 j = J 98 j := fun j => h 98 j (by decide) (by decide)
  have r103 : ∀ j, I 103 j = J 103 j := fun j => h 103 j (by decide) (by decide)
  have r104 : ∀ j, I 104 j = J 104 j := fun j => h 104 j (by decide) (by decide)
  have r105 : ∀ j, I 105 j = J 105 j := fun j => h 105 j (by decide) (by decide)
  unfold mo_g2
  try simp only [r98, r103, r104, r105]
  repeat' (with_reducible (first | exact h | rfl | assumption | refine ag_ite ?_ ?_  | (refine ag_an ?_) | (refine ag_u ?_ rfl)))
theorem ag_g3 {I J : Nat → Nat → Int32} (h : ag I J) {q s j : Nat} : ag (mo_g3 I q s j) (mo_g3 J q s j) := by
  have r98 : ∀ j, I 98 j = J 98 j := fun j => h 98 j (by decide) (by decide)
  have r103 : ∀ j, I 103 j = J 103 j := fun j => h 103 j (by decide) (by decide)
  unfold mo_g3
  try simp only [r98, r103]
  repeat' (with_reducible (first | exact h | rfl | assumption | refine ag_ite ?_ ?_  | (refine ag_an ?_) | (refine ag_u ?_ rfl)))
theorem ag_g4 {I J : Nat → Nat → Int32} (h : ag I J) {q s : Nat} : ag (mo_g4 I q s) (mo_g4 J q s) := by
  have r98 : ∀ j, I 98 j = J 98 j := fun j => h 98 j (by decide) (by decide)
  have r101 : ∀ j, I 101 j = J 101 j := fun j => h 101 j (by decide) (by decide)
  have r102 : ∀ j, I 102 j = J 102 j := fun j => h 102 j (by decide) (by decide)
  unfold mo_g4
  try simp only [r98, r101, r102]
  repeat' (with_reducible (first | exact h | rfl | assumption | refine ag_ite ?_ ?_  | (refine ag_an ?_) | (refine ag_u ?_ rfl)))
theorem ag_h3 {I J : Nat → Nat → Int32} (h : ag I J) {s : Nat} : ag (mo_h3 I s) (mo_h3 J s) := by
  have r98 : ∀ j, I 98 j = J 98 j := fun j => h 98 j (by decide) (by decide)
  unfold mo_h3
  try simp only [r98]
  repeat' (with_reducible (first | exact h | rfl | assumption | refine ag_ite ?_ ?_  | (refine ag_h ?_) | (refine ag_u ?_ rfl)))
theorem ag_g5 {I J : Nat → Nat → Int32} (h : ag I J) {q s : Nat} : ag (mo_g5 I q s) (mo_g5 J q s) := by
  have r98 : ∀ j, I 98 j = J 98 j := fun j => h 98 j (by decide) (by decide)
  unfold mo_g5
  try simp only [r98]
  repeat' (with_reducible (first | exact h | rfl | assumption | refine ag_ite ?_ ?_  | (refine ag_an ?_) | (refine ag_h3 ?_) | (refine ag_u ?_ rfl)))
theorem ag_wb {I J : Nat → Nat → Int32} (h : ag I J) {c o : Nat} : ag (mo_wb I c o) (mo_wb J c o) := by
  have r122 : ∀ j, I 122 j = J 122 j := fun j => h 122 j (by decide) (by decide)
  have r136 : ∀ j, I 136 j = J 136 j := fun j => h 136 j (by decide) (by decide)
  unfold mo_wb
  try simp only [r122, r136]
  repeat' (with_reducible (first | exact h | rfl | assumption | refine ag_ite ?_ ?_  | (refine ag_u ?_ rfl)))
theorem ag_e5 {I J : Nat → Nat → Int32} (h : ag I J) {c o j : Nat} : ag (mo_e5 I c o j) (mo_e5 J c o j) := by
  unfold mo_e5
  rw [ae_of h, h 99 (6 * (7 + c) + j) (by decide) (by decide)]
  exact ag_nk (ag_u h rfl) 7
theorem ag_e6 {I J : Nat → Nat → Int32} (h : ag I J) {c j : Nat} : ag (mo_e6 I c j) (mo_e6 J c j) := by
  unfold mo_e6
  rw [h 135 c (by decide) (by decide), h 99 (6 * (7 + c) + j) (by decide) (by decide)]
  exact ag_nk (ag_u h rfl) 7
theorem ag_bu {I J : Nat → Nat → Int32} (h : ag I J) {o : Nat} : ag (mo_bu I o) (mo_bu J o) := by
  have r127 : ∀ j, I 127 j = J 127 j := fun j => h 127 j (by decide) (by decide)
  unfold mo_bu
  try simp only [r127]
  repeat' (with_reducible (first | exact h | rfl | assumption | refine ag_ite ?_ ?_  | (refine ag_u ?_ rfl)))
theorem ag_rt {I J : Nat → Nat → Int32} (h : ag I J) {c o : Nat} : ag (mo_rt I c o) (mo_rt J c o) := by
  unfold mo_rt
  rw [h 98 52 (by decide) (by decide)]
  exact ag_fb (ag_u (ag_bu h) rfl)
