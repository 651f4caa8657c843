section J2
variable {G : jx_G} {M : jx_M} {H : Heap} {a : Nat} {s : State}
theorem jx_R.obj (h : jx_R G M H) (hk : (M.2.2.1 a).1 ≤ 10) : 3 ≤ a ∧ a < M.1 ∧ ∃ r : vw_C, jx_cl[(M.2.2.1 a).1]? = some r ∧ t_OB (jx_ga G a) (jx_gC G (M.2.2.1 a).1) r.2.2 (jx_gI G (M.2.2.1 a).1) H (fun k => jx_fv G (M.2.2.1 a).1 k (M.2.2.2.1 a k) (M.2.2.2.2 a k)) := by
  obtain ⟨-, -, -, -, -, -, ⟨h0, -, h1, h2⟩, h3⟩ := h
  have h4 : 3 ≤ a := by
    rcases a with _ | _ | _ | a
    · rw [h0] at hk; exact absurd hk (by simp)
    · rw [h1] at hk; exact absurd hk (by decide)
    · rw [h2] at hk; exact absurd hk (by decide)
    · omega
  obtain ⟨h5, h6⟩ := h3 a h4 (by omega)
  refine ⟨h4, h5, ?_⟩
  rcases h6 with h6 | ⟨h6, -⟩
  · exact h6
  · omega
theorem jx_R.arr (h : jx_R G M H) (h4 : 3 ≤ a) (hk : 11 ≤ (M.2.2.1 a).1) (hk2 : (M.2.2.1 a).1 ≤ 17) : a < M.1 ∧ H[jx_ga G a]? = some (arrV (jx_gA G (M.2.2.1 a).1) (M.2.2.1 a).2 (fun j => jx_ev G (M.2.2.1 a).1 (M.2.2.2.1 a j) (M.2.2.2.2 a j))) := by
  obtain ⟨-, -, -, -, -, -, -, h3⟩ := h
  obtain ⟨h5, h6⟩ := h3 a h4 hk2
  refine ⟨h5, ?_⟩
  rcases h6 with ⟨r, h6, -⟩ | ⟨-, h6⟩
  · have := jx_cl_lt h6
    omega
  · exact h6
theorem jx_F.arrOf (h : jx_F G s) {c : Nat} (hk : 11 ≤ c) (hk2 : c ≤ 17) : ArrOfT s (jx_gA G c) (jx_ty c) ∧ va_RA s (jx_gA G c) (jx_ty c) := by
  refine h.1.2 (c - 11) (jx_gA G c, jx_ty c) ?_
  match c, hk, hk2 with
  | 11, _, _ => rfl
  | 12, _, _ => rfl
  | 13, _, _ => rfl
  | 14, _, _ => rfl
  | 15, _, _ => rfl
  | 16, _, _ => rfl
  | 17, _, _ => rfl
  | n + 18, _, h => omega
/-- one cell has changed: its new contents, of the same size -/
theorem jx_R.set (hF : jx_F G s) (h : jx_R G M H) {H1 : Heap} {I : Nat → Nat → Int32} {P : Nat → Nat → Option Nat} (h3 : 3 ≤ a) (han : a < M.1) (hz : H1.size = H.size) (ho : ∀ q, q ≠ jx_ga G a → H1[q]? = H[q]?) (hs : jx_hs H1 = jx_hs H) (hI : ∀ b, b ≠ a → ∀ k, I b k = M.2.2.2.1 b k) (hP : ∀ b, b ≠ a → ∀ k, P b k = M.2.2.2.2 b k) (hc : jx_at G (M.1, M.2.1, M.2.2.1, I, P) a H1) : jx_R G (M.1, M.2.1, M.2.2.1, I, P) H1 := by
  obtain ⟨r1, r2, r3, r4, r5, r6, ⟨r7, r8, r9, r10⟩, r11⟩ := h
  have ga : ∀ b, 3 ≤ b → jx_ga G b = jx_gB G + (b - 3) := hF.2.2.1
  refine ⟨by rw [hz]; exact r1, r2, by rw [hs]; exact r3, r4, r5, fun q hq => ?_, ⟨r7, fun j hj => ?_, r9, r10⟩, fun b hb hk => ?_⟩
  · rw [ho q (by rw [ga a h3]; omega)]
    exact r6 q hq
  · show I 0 j = _
    rw [hI 0 (by omega)]
    exact r8 j hj
  · obtain ⟨g1, g2⟩ := r11 b hb hk
    refine ⟨g1, ?_⟩
    by_cases e : b = a
    · subst e; exact hc
    · have hne : jx_ga G b ≠ jx_ga G a := by rw [ga a h3, ga b hb]; omega
      rcases g2 with ⟨r, g2, g3⟩ | ⟨g2, g3⟩
      · refine Or.inl ⟨r, g2, (g3.kept (ho _ hne)).to fun k _ => ?_⟩
        show jx_fv G _ k _ _ = jx_fv G _ k (I b k) (P b k)
        rw [hI b e, hP b e]
      · refine Or.inr ⟨g2, ?_⟩
        rw [ho _ hne, g3]
        congr 2
        funext j
        show jx_ev G _ _ _ = jx_ev G _ (I b j) (P b j)
        rw [hI b e, hP b e]
end J2
section J3
variable {G : jx_G} {y : MethodName} {cc : ByteArray} {nL : Nat} {ret : Option FieldType} {d : Nat} {Q : Option jx_V → jx_M → Prop} {pc : Nat} {ls : List (Option jx_V)} {st : List jx_V} {M : jx_M} {a : Nat}
theorem jx_same {s : State} {args : Array Value} {ref O n dd : String} (hts : ∀ w ∈ jx_tb, w.before args s = true) (h : ref = O ∨ Cond.sameField ref O n dd ∈ jx_tb) : ∀ x, s.fieldFound? O n dd = some x → s.fieldFound? ref n dd = some x := by
  rcases h with h | h
  · subst h; exact fun _ h => h
  · exact u_same (hts _ h)
/-- getfield -/
theorem jx_getf {idx c k : Nat} (hd : decode cc pc = .ok (.getfield idx, 3)) (hf : jx_Fl y.cls idx c k) (hK : (M.2.2.1 a).1 = c)
    (kk : jx_J G y cc nL ret d Q (pc + 3) ls ((if jx_prim (jx_ft c k) = true then .inl (M.2.2.2.1 a k) else .inr (M.2.2.2.2 a k)) :: st) M) : jx_J G y cc nL ret d Q pc ls (.inr (some a) :: st) M := by
  intro p e s m args below meth c0 R Z n0 m0 C H lsA locs hR hL hq hn hm
  obtain ⟨r, ref, hc, hk, hl, hsm⟩ := hf
  have hts := C.2.2.2.2.1
  have hF := C.2.2.2.2.2.1
  have hc10 := jx_cl_lt hc
  subst hK
  obtain ⟨g1, g2, r', g3, cell, q1, q2, q3, q4⟩ := hR.obj hc10
  cases hc.symm.trans g3
  obtain ⟨hS, hfc, kC, hkC, hkind⟩ := hF.1.1 _ _ hc
  obtain ⟨cf, kf, fi, f, hi, hsl⟩ := hS k hk
  obtain ⟨o1, o2, o3⟩ := jx_ok_all _ _ hc
  refine W.getf C.1 C.2.1 C.2.2.2.1 (hts _ hl) (jx_same hts hsm _ hi) (u_facts hfc hkC (u_lays hts o1 hk) hi).1 q1 (by rw [q3]; exact fun h => by cases h) (v := jx_fv G (M.2.2.1 a).1 k (M.2.2.2.1 a k) (M.2.2.2.2 a k)) (by rw [hsl, q4 k hk]) rfl rfl hd ?_
  have h9 := kk _ _ _ _ _ _ _ _ _ _ _ _ C _ _ _ hR hL hq hn hm
  rw [List.map_cons] at h9
  have e9 : jx_cv G (if jx_prim (jx_ft (M.2.2.1 a).1 k) = true then .inl (M.2.2.2.1 a k) else .inr (M.2.2.2.2 a k)) = jx_fv G (M.2.2.1 a).1 k (M.2.2.2.1 a k) (M.2.2.2.2 a k) := by
    unfold jx_fv
    split <;> rfl
  rw [e9] at h9
  exact h9
/-- what a field's new value asks: a number that its type keeps, or a reference -/
def jx_fitv (ty : FieldType) (v : jx_V) : Prop := match v with
  | .inl x => jx_prim ty = true ∧ narrow ty (.int x) = .int x
  | .inr _ => jx_prim ty = false
theorem jx_fits {ty : FieldType} {v : jx_V} (h : jx_fitv ty v) (hty : ty = .int ∨ ty = .boolean ∨ (∃ n, ty = .object n) ∨ ∃ t, ty = .array t) : narrow ty (jx_cv G v) = jx_cv G v ∧ fits ty (jx_cv G v) = true := by
  rcases v with x | r
  · obtain ⟨h1, h2⟩ := h
    refine ⟨h2, ?_⟩
    rcases hty with rfl | rfl | ⟨n, rfl⟩ | ⟨t, rfl⟩
    · rfl
    · show fits .boolean (.int x) = true
      rw [← h2]
      simp only [narrow, fits]
      simpa using jx_and1 x
    · exact absurd h1 (by simp [jx_prim])
    · exact absurd h1 (by simp [jx_prim])
  · have h : jx_prim ty = false := h
    rcases hty with rfl | rfl | ⟨n, rfl⟩ | ⟨t, rfl⟩
    · exact absurd h (by simp [jx_prim])
    · exact absurd h (by simp [jx_prim])
    · cases r <;> exact ⟨rfl, rfl⟩
    · cases r <;> exact ⟨rfl, rfl⟩
end J3
