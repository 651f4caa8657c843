/-! outside the reference nothing changes -/
def fo (I J : Nat → Nat → Int32) : Prop := ∀ b j, b < 98 ∨ 140 ≤ b → I b j = J b j
theorem fo_refl {I : Nat → Nat → Int32} : fo I I := fun _ _ _ => rfl
theorem fo_u {I J : Nat → Nat → Int32} (h : fo I J) {a i : Nat} {v : Int32} (e : 98 ≤ a ∧ a < 140) : fo (jx_u I a i v) J := by
  intro b j x
  rw [jx_u_na (by omega)]
  exact h b j x
theorem fo_ite {p : Prop} [Decidable p] {A B C : Nat → Nat → Int32} (h : fo A C) (g : fo B C) : fo (if p then A else B) C := by
  split
  · exact h
  · exact g
theorem fo_s1 {I J : Nat → Nat → Int32} (h : fo I J) {i k : Nat} : fo (mo_s1 I i k) J := by
  intro a j x
  unfold mo_s1
  rw [if_neg (by omega)]
  exact h a j x
theorem fo_s2 {I J : Nat → Nat → Int32} (h : fo I J) {i k : Nat} : fo (mo_s2 I i k) J := by
  intro a j x
  unfold mo_s2
  rw [if_neg (by omega)]
  exact h a j x
theorem fo_z {I J : Nat → Nat → Int32} (h : fo I J) {lo hi k : Nat} {v : Nat → Nat → Int32} (h1 : 98 ≤ lo) (h2 : hi < 140) : fo (mo_z I lo hi k v) J := by
  intro a j x
  rw [mo_z_o (by omega)]
  exact h a j x
theorem fo_tk {I J : Nat → Nat → Int32} (h : fo I J) {i : Nat} : fo (mo_tk I i) J := by
  unfold mo_tk
  repeat' (with_reducible (first | exact h | refine fo_ite ?_ ?_ | (refine fo_u ?_ (by decide))))
theorem fo_h {I J : Nat → Nat → Int32} (h : fo I J) {s r : Nat} {t v : Int32} : fo (mo_h I s r t v) J := by
  unfold mo_h
  repeat' (with_reducible (first | exact h | refine fo_ite ?_ ?_ | (refine fo_u ?_ (by decide))))
theorem fo_b {I J : Nat → Nat → Int32} (h : fo I J) {c r : Nat} {t v : Int32} : fo (mo_b I c r t v) J := by
  unfold mo_b
  repeat' (with_reducible (first | exact h | refine fo_ite ?_ ?_ | (refine fo_u ?_ (by decide))))
theorem fo_fb {I J : Nat → Nat → Int32} (h : fo I J) {c : Nat} : fo (mo_fb I c) J := by
  unfold mo_fb
  repeat' (with_reducible (first | exact h | refine fo_ite ?_ ?_ | (refine fo_u ?_ (by decide))))
theorem fo_ov {I J : Nat → Nat → Int32} (h : fo I J) {c o : Nat} {v : Int32} : fo (mo_ov I c o v) J := by
  unfold mo_ov
  repeat' (with_reducible (first | exact h | refine fo_ite ?_ ?_ | (refine fo_u ?_ (by decide))))
theorem fo_ct {I J : Nat → Nat → Int32} (h : fo I J) {c : Nat} : fo (mo_ct I c) J := by
  unfold mo_ct
  repeat' (with_reducible (first | exact h | refine fo_ite ?_ ?_ | (refine fo_u ?_ (by decide))))
theorem fo_ly {I J : Nat → Nat → Int32} (h : fo I J) {q w : Nat} {what s c wh k : Int32} : fo (mo_ly I q what s c wh k w) J := by
  unfold mo_ly
  repeat' (with_reducible (first | exact h | refine fo_ite ?_ ?_ | (refine fo_u ?_ (by decide))))
theorem fo_j1 {I J : Nat → Nat → Int32} (h : fo I J) {w i m : Nat} : fo (mo_j1 I w i m) J := by
  unfold mo_j1
  repeat' (with_reducible (first | exact h | refine fo_ite ?_ ?_ | (refine fo_u ?_ (by decide))))
theorem fo_jn {I J : Nat → Nat → Int32} (h : fo I J) {w i : Nat} : fo (mo_jn I w i) J := by
  unfold mo_jn
  exact fo_j1 (fo_j1 (fo_j1 (fo_j1 (fo_j1 (fo_j1 h)))))
theorem fo_sh {I J : Nat → Nat → Int32} (h : fo I J) {i q : Nat} : fo (mo_sh I i q) J := by
  unfold mo_sh
  exact fo_s2 (fo_s1 (fo_u h (by decide)))
theorem fo_dl {I J : Nat → Nat → Int32} (h : fo I J) {w i q : Nat} : fo (mo_dl I w i q) J := by
  unfold mo_dl
  exact fo_u (fo_sh (fo_jn (fo_tk h))) (by decide)
theorem fo_n1 {I J : Nat → Nat → Int32} (h : fo I J) {c s : Nat} {x : Int32} : fo (mo_n1 I c x s) J := by
  unfold mo_n1
  exact fo_ite (fo_ly h) h
theorem fo_nk {I J : Nat → Nat → Int32} (h : fo I J) {c : Nat} {x : Int32} : ∀ k, fo (mo_nk I c x k) J
  | 0 => h
  | k + 1 => fo_n1 (fo_nk h k)
theorem fo_fi {I A J : Nat → Nat → Int32} (g : fo A J) {c o q : Nat} : fo (mo_fi I A c o q) J := by
  unfold mo_fi
  repeat' (with_reducible (first | exact g | refine fo_ite ?_ ?_ | (refine fo_u ?_ (by decide))))
theorem fo_a1 {I J : Nat → Nat → Int32} (h : fo I J) {c o s : Nat} {x : Int32} : fo (mo_a1 I c o x s) J := by
  unfold mo_a1
  exact fo_ite h (fo_fi (fo_ly h))
theorem fo_ak {I J : Nat → Nat → Int32} (h : fo I J) {c o : Nat} {x : Int32} : ∀ k, fo (mo_ak I c o x k) J
  | 0 => h
  | k + 1 => fo_a1 (fo_ak h k)
theorem fo_am {I J : Nat → Nat → Int32} (h : fo I J){c o : Nat} {v : Int32} : fo (mo_am I c o v) J := by
  unfold mo_am
  exact fo_u (fo_ak h 7) (by decide)
theorem fo_br {I J : Nat → Nat → Int32} (h : fo I J) {c : Nat} {p : Int32} : fo (mo_br I c p) J := by
  unfold mo_br
  repeat' (with_reducible (first | exact h | refine fo_ite ?_ ?_ | (refine fo_u ?_ (by decide))))
theorem fo_o0 {I J : Nat → Nat → Int32} (h : fo I J) {b c : Nat} {what wh x : Int32} : fo (mo_o0 I b what c wh x) J := by
  unfold mo_o0
  repeat' (with_reducible (first | exact h | refine fo_ite ?_ ?_ | (refine fo_u ?_ (by decide))))
theorem fo_o1 {I J : Nat → Nat → Int32} (h : fo I J) {b c : Nat} {what wh x : Int32} : fo (mo_o1 I b what c wh x) J := by
  unfold mo_o1
  exact fo_fb (fo_o0 h)
theorem fo_ch {I J : Nat → Nat → Int32} (h : fo I J) {c g : Nat} : fo (mo_ch I c g) J := by
  unfold mo_ch
  repeat' (with_reducible (first | exact h | refine fo_ite ?_ ?_ | (refine fo_u ?_ (by decide))))
theorem fo_mv {I J : Nat → Nat → Int32} (h : fo I J) {c g : Nat} : fo (mo_mv I c g) J := by
  unfold mo_mv
  repeat' (with_reducible (first | exact h | refine fo_ite ?_ ?_ | (refine fo_u ?_ (by decide))))
theorem fo_an {I J : Nat → Nat → Int32} (h : fo I J) {q s : Nat} {kd nu : Int32} : fo (mo_an I q kd s nu) J := by
  unfold mo_an
  repeat' (with_reducible (first | exact h | refine fo_ite ?_ ?_ | (refine fo_ly ?_) | (refine fo_u ?_ (by decide))))
theorem fo_bd {I J : Nat → Nat → Int32} (h : fo I J) {q s j : Nat} {kd : Int32} : fo (mo_bd I q kd s j) J := by
  unfold mo_bd
  repeat' (with_reducible (first | exact h | refine fo_ite ?_ ?_ | (refine fo_ly ?_) | (refine fo_u ?_ (by decide))))
theorem fo_g0 {I J : Nat → Nat → Int32} (h : fo I J) {q s j : Nat} : fo (mo_g0 I q s j) J := by
  unfold mo_g0
  repeat' (with_reducible (first | exact h | refine fo_ite ?_ ?_ | (refine fo_an ?_) | (refine fo_u ?_ (by decide))))
theorem fo_g1 {I J : Nat → Nat → Int32} (h : fo I J) {q s j : Nat} : fo (mo_g1 I q s j) J := by
  unfold mo_g1
  repeat' (with_reducible (first | exact h | refine fo_ite ?_ ?_ | (refine fo_an ?_) | (refine fo_h ?_) | (refine fo_u ?_ (by decide))))
theorem fo_g2 {I J : Nat → Nat → Int32} (h : fo I J) {q s j : Nat} : fo (mo_g2 I q s j) J := by
  unfold mo_g2
  repeat' (with_reducible (first | exact h | refine fo_ite ?_ ?_ | (refine fo_an ?_) | (refine fo_u ?_ (by decide))))
theorem fo_g3 {I J : Nat → Nat → Int32} (h : fo I J) {q s j : Nat} : fo (mo_g3 I q s j) J := by
  unfold mo_g3
  repeat' (with_reducible (first | exact h | refine fo_ite ?_ ?_ | (refine fo_an ?_) | (refine fo_u ?_ (by decide))))
theorem fo_g4 {I J : Nat → Nat → Int32} (h : fo I J) {q s : Nat} : fo (mo_g4 I q s) J := by
  unfold mo_g4
  repeat' (with_reducible (first | exact h | refine fo_ite ?_ ?_ | (refine fo_an ?_) | (refine fo_u ?_ (by decide))))
theorem fo_h3 {I J : Nat → Nat → Int32} (h : fo I J) {s : Nat} : fo (mo_h3 I s) J := by
  unfold mo_h3
  repeat' (with_reducible (first | exact h | refine fo_ite ?_ ?_ | (refine fo_h ?_) | (refine fo_u ?_ (by decide))))
theorem fo_g5 {I J : Nat → Nat → Int32} (h : fo I J) {q s : Nat} : fo (mo_g5 I q s) J := by
  unfold mo_g5
  repeat' (with_reducible (first | exact h | refine fo_ite ?_ ?_ | (refine fo_an ?_) | (refine fo_h3 ?_) | (refine fo_u ?_ (by decide))))
theorem fo_wb {I J : Nat → Nat → Int32} (h : fo I J) {c o : Nat} : fo (mo_wb I c o) J := by
  unfold mo_wb
  repeat' (with_reducible (first | exact h | refine fo_ite ?_ ?_ | (refine fo_u ?_ (by decide))))
theorem fo_e5 {I J : Nat → Nat → Int32} (h : fo I J) {c o j : Nat} : fo (mo_e5 I c o j) J := by
  unfold mo_e5
  exact fo_nk (fo_u h (by decide)) 7
theorem fo_e6 {I J : Nat → Nat → Int32} (h : fo I J) {c j : Nat} : fo (mo_e6 I c j) J := by
  unfold mo_e6
  exact fo_nk (fo_u h (by decide)) 7
theorem fo_bu {I J : Nat → Nat → Int32} (h : fo I J) {o : Nat} : fo (mo_bu I o) J := by
  unfold mo_bu
  repeat' (with_reducible (first | exact h | refine fo_ite ?_ ?_ | (refine fo_u ?_ (by decide))))
theorem fo_rt {I J : Nat → Nat → Int32} (h : fo I J) {c o : Nat} : fo (mo_rt I c o) J := by
  unfold mo_rt
  exact fo_fb (fo_u (fo_bu h) (by decide))
theorem fo_BA {I J : Nat → Nat → Int32} (h : fo I J){c o : Nat} : fo (mo_BA I c o) J := by
  unfold mo_BA
  exact fo_am h
theorem fo_EN {I J : Nat → Nat → Int32} (h : fo I J){c o : Nat} : fo (mo_EN I c o) J := by
  unfold mo_EN
  exact fo_ite (fo_ite (fo_ov h) (fo_BA (fo_br (fo_ite (fo_wb h) h)))) (fo_ite (fo_BA (fo_br h)) (fo_ite (fo_ov (fo_e5 h)) (fo_ov (fo_e6 h))))
theorem fo_TL {I J : Nat → Nat → Int32} (h : fo I J){c o : Nat} : fo (mo_TL I c o) J := by
  unfold mo_TL
  exact fo_ite (fo_EN (fo_BA h)) (fo_BA h)
theorem fo_C1 {I J : Nat → Nat → Int32} (h : fo I J){c : Nat} : fo (mo_C1 I c) J := by
  unfold mo_C1
  exact fo_ite (fo_b (fo_b (fo_b (fo_ct h)))) (fo_ct h)
theorem fo_C2 {I J : Nat → Nat → Int32} (h : fo I J){c o : Nat} : fo (mo_C2 I c o) J := by
  unfold mo_C2
  exact fo_ite (fo_ite (fo_ov h) (fo_ite (fo_ite (fo_ov (fo_bu h)) (fo_BA (fo_br (fo_rt h)))) (fo_TL h))) (fo_ite (fo_ov h) (fo_TL h))
theorem fo_CX {I J : Nat → Nat → Int32} (h : fo I J){c o : Nat} : fo (mo_CX I c o) J := by
  unfold mo_CX
  exact fo_C2 (fo_ite (fo_C1 h) h)
theorem fo_SG {I J : Nat → Nat → Int32} (h : fo I J){q s : Nat} : fo (mo_SG I q s) J := by
  unfold mo_SG
  exact fo_ite h (fo_ite (fo_g0 h) (fo_ite (fo_g1 h) (fo_ite (fo_ite (fo_g2 h) (fo_bd h)) (fo_ite (fo_ite (fo_g3 h) (fo_bd h)) (fo_ite (fo_g4 h) (fo_g5 h))))))
theorem fo_CG {I J : Nat → Nat → Int32} (h : fo I J){c : Nat} : fo (mo_CG I c) J := by
  unfold mo_CG
  exact fo_ite h (fo_CX h)
theorem fo_D {I J : Nat → Nat → Int32} (h : fo I J){i q : Nat} : fo (mo_D I i q) J := by
  unfold mo_D
  exact fo_ite (fo_ite (fo_SG (fo_dl h)) (fo_sh (fo_tk h))) (fo_ite (fo_CG (fo_dl h)) (fo_sh (fo_tk h)))
theorem fo_S1 {I J : Nat → Nat → Int32} (h : fo I J){B c : Nat} {kd s v : Int32} : fo (mo_S1 I B kd c s v) J := by
  unfold mo_S1
  exact fo_br (fo_o1 h)
theorem fo_R {I J : Nat → Nat → Int32} : ∀ k s, fo I J → fo (mo_R k s I) J
  | 0, _, h => h
  | k + 1, s, h => by
    unfold mo_R
    exact fo_ite h (fo_R k _ (fo_D h))
theorem fo_bg {I : Nat → Nat → Int32} {q : Nat} {f : Int32} : fo (mo_bg I q f) I := fun b j x => bg_o (by omega) (by omega) (by omega)
/-- the reference followed -/
theorem rl_fol {n ms : Nat} {K : Nat → Nat × Nat} {I : Nat → Nat → Int32} {P : Nat → Nat → Option Nat} {J I2 : Nat → Nat → Int32} {B : Nat} {A : Nat → Nat} (hR : rl0 n ms K I P J B A) (hI : fo I2 I) (hJ : ag I2 J) : rl0 n ms K I2 P I2 B A := rl_ref hR hI (fun a j h1 h2 _ => hJ a j h1 h2)
/-- what the run knows of the script -/
theorem jx_sc {G : jx_G} {y : MethodName} {cc : ByteArray} {nL : Nat} {ret : Option FieldType} {d : Nat} {Q : Option jx_V → jx_M → Prop} {pc : Nat} {ls : List (Option jx_V)} {st : List jx_V} {M : jx_M} (k : M.2.2.1 0 = (11, jx_gL G) → (∀ j, j < jx_gL G → M.2.2.2.1 0 j = jx_gX G j) → jx_J G y cc nL ret d Q pc ls st M) : jx_J G y cc nL ret d Q pc ls st M := by
  intro p e s m args below meth c R Z n0 m0 C H lsA locs hR hL hq hn hm
  exact k hR.2.2.2.2.2.2.1.1 hR.2.2.2.2.2.2.1.2.1 p e s m args below meth c R Z n0 m0 C H lsA locs hR hL hq hn hm
