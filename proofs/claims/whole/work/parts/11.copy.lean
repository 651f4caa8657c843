/-- memory behind a copy between arrays -/
def jx_cpI (M : jx_M) (a b sp dp n : Nat) : jx_M := (M.1, M.2.1, M.2.2.1, fun x j => if x = b then va_cpy (M.2.2.2.1 a) (M.2.2.2.1 b) sp dp n j else M.2.2.2.1 x j, M.2.2.2.2)
def jx_cpP (M : jx_M) (a b sp dp n : Nat) : jx_M := (M.1, M.2.1, M.2.2.1, M.2.2.2.1, fun x j => if x = b then va_cpy (M.2.2.2.2 a) (M.2.2.2.2 b) sp dp n j else M.2.2.2.2 x j)
section J8
variable {G : jx_G} {y : MethodName} {cc : ByteArray} {nL : Nat} {ret : Option FieldType} {d : Nat} {Q : Option jx_V → jx_M → Prop} {pc : Nat} {ls : List (Option jx_V)} {st : List jx_V} {M : jx_M} {a b : Nat}
theorem jx_nn {z : Int32} (hz : ¬ z < 0) : z.toInt = (z.toNatClampNeg : Int) := by
  have hz0 : (0 : Int) ≤ z.toInt := by
    have := Int32.not_lt.mp hz
    simpa using Int32.le_iff_toInt_le.mp this
  show z.toInt = ((z.toInt.toNat : Nat) : Int)
  omega
theorem jx_nfw : nativeFrameWords "java/lang/System" "arraycopy" 5 + 11 ≤ 30 := by decide +kernel
theorem jx_copyI {idx : Nat} {sp dp n : Int32} (hd : decode cc pc = .ok (.invokestatic idx, 3)) (hl : Cond.methodLink y.cls idx arraycopyName ∈ jx_tb) (hw1 : Cond.native arraycopyName ∈ jx_tb) (hw2 : Cond.static arraycopyName ∈ jx_tb) (hw3 : Cond.initialized "java/lang/System" ∈ jx_tb) (hKa : (M.2.2.1 a).1 = 11) (hKb : (M.2.2.1 b).1 = 11) (ha : 3 ≤ a) (hb : 3 ≤ b) (hd1 : 1 ≤ d) (hst : st.length ≤ 8)
    (h1 : ¬ sp < 0) (h2 : ¬ dp < 0) (h3 : ¬ n < 0) (h4 : sp.toNatClampNeg + n.toNatClampNeg ≤ (M.2.2.1 a).2) (h5 : dp.toNatClampNeg + n.toNatClampNeg ≤ (M.2.2.1 b).2)
    (kk : jx_J G y cc nL ret d Q (pc + 3) ls st (jx_cpI M a b sp.toNatClampNeg dp.toNatClampNeg n.toNatClampNeg)) : jx_J G y cc nL ret d Q pc ls (.inl n :: .inl dp :: .inr (some b) :: .inl sp :: .inr (some a) :: st) M := by
  intro p e s m args below meth c0 R Z n0 m0 C H lsA locs hR hL hq hn hm
  have hF := C.2.2.2.2.2.1
  have hts := C.2.2.2.2.1
  have hfr : d ≤ R.frames := C.2.2.2.2.2.2.2.1
  have hlo : 40 * d ≤ R.locals := C.2.2.2.2.2.2.2.2.1
  obtain ⟨ga1, ga2⟩ := hR.arr ha (by omega) (by omega)
  obtain ⟨gb1, gb2⟩ := hR.arr hb (by omega) (by omega)
  rw [hKa] at ga2
  rw [hKb] at gb2
  have ga2 : H[jx_ga G a]? = some (arrV (jx_gA G 11) (M.2.2.1 a).2 (fun j => .int (M.2.2.2.1 a j))) := ga2
  have gb2 : H[jx_ga G b]? = some (arrV (jx_gA G 11) (M.2.2.1 b).2 (fun j => .int (M.2.2.2.1 b j))) := gb2
  obtain ⟨-, k0, hk0, cm0, hkk0⟩ := (hF.arrOf (c := 11) (by omega) (by omega)).1 (M.2.2.1 a).2 (fun j => .int (M.2.2.2.1 a j))
  intro T hT X
  obtain ⟨vm', X', step⟩ := X.arraycopy C.1 C.2.2.2.1 (hts _ hl) (hts _ hw1) (hts _ hw2) (hts _ hw3) (src := jx_ga G a) (dst := jx_ga G b) (cs := arrV (jx_gA G 11) (M.2.2.1 a).2 (fun j => .int (M.2.2.2.1 a j))) (cd := arrV (jx_gA G 11) (M.2.2.1 b).2 (fun j => .int (M.2.2.2.1 b j))) (srcPos := sp) (destPos := dp) (n := n) (by rw [hT]; exact ga2) (by rw [hT]; exact gb2)
    (fun _ h => by cases h) (fun _ h => by cases h) (fun h => by cases h) (fun h => by cases h) hk0 hk0 hkk0 hkk0 (by rfl) h1 h2 h3
    (by rw [jx_nn h1, jx_nn h3, arrV_size]; omega)
    (by rw [jx_nn h2, jx_nn h3, arrV_size]; omega)
    (fun vm₁ _ i hi => by
      rw [Array.getD_eq_getD_getElem?, arrV_read _ _ (by omega)]
      exact ⟨rfl, trivial⟩)
    (g := F0 m pc lsA ((.inl n :: .inl dp :: .inr (some b) :: .inl sp :: .inr (some a) :: st : List jx_V).map (jx_cv G))) rfl (by rw [C.2.2.1]; exact hL.1) (rest := st.map (jx_cv G)) rfl (by rw [C.2.1]; exact hd) (by omega) (by show 2 * 0 + _ + _ ≤ _; rw [jx_words]; have := jx_nfw; omega)
  have e1 : copied (arrV (jx_gA G 11) (M.2.2.1 a).2 (fun j => .int (M.2.2.2.1 a j))) (arrV (jx_gA G 11) (M.2.2.1 b).2 (fun j => .int (M.2.2.2.1 b j))) sp dp n = arrV (jx_gA G 11) (M.2.2.1 b).2 (fun j => Value.int (va_cpy (M.2.2.2.1 a) (M.2.2.2.1 b) sp.toNatClampNeg dp.toNatClampNeg n.toNatClampNeg j)) := va_copied (fun z => Value.int z) (jx_gA G 11) (jx_gA G 11) (M.2.2.2.1 a) (M.2.2.2.1 b) h4
  rw [e1] at X' step
  generalize hcell : arrV (jx_gA G 11) (M.2.2.1 b).2 (fun j => Value.int (va_cpy (M.2.2.2.1 a) (M.2.2.2.1 b) sp.toNatClampNeg dp.toNatClampNeg n.toNatClampNeg j)) = cell at X' step
  have hlt : jx_ga G b < H.size := (Array.getElem?_eq_some_iff.mp gb2).1
  have hheap : ((T.setVm vm').setCell (jx_ga G b) cell).heap = H.setIfInBounds (jx_ga G b) cell := by rw [← hT]; rfl
  have o1 : (H.setIfInBounds (jx_ga G b) cell)[jx_ga G b]? = some cell := by simp [Array.getElem?_setIfInBounds, hlt]
  have oq : ∀ q : Nat, q ≠ jx_ga G b → (H.setIfInBounds (jx_ga G b) cell)[q]? = H[q]? := fun q hq => by simp [Array.getElem?_setIfInBounds, Ne.symm hq]
  have hz : (H.setIfInBounds (jx_ga G b) cell).size = H.size := by simp
  have hRn : jx_R G (jx_cpI M a b sp.toNatClampNeg dp.toNatClampNeg n.toNatClampNeg) (H.setIfInBounds (jx_ga G b) cell) := by
    refine jx_R.set hF hR hb gb1 hz oq (jx_hs_set gb2 o1 (by rw [← hcell, arrV_size, arrV_size]) hz oq) (fun x hx k => if_neg hx) (fun _ _ _ => rfl) (Or.inr ?_)
    show 11 ≤ (M.2.2.1 b).1 ∧ _ = some (arrV (jx_gA G (M.2.2.1 b).1) (M.2.2.1 b).2 (fun j => jx_ev G (M.2.2.1 b).1 (if b = b then _ else _) _))
    rw [hKb]
    refine ⟨by omega, o1.trans ?_⟩
    rw [← hcell]
    congr 2
    funext j
    rw [if_pos rfl]
    rfl
  have h9 := kk _ _ _ _ _ _ _ _ _ _ _ _ C (H.setIfInBounds (jx_ga G b) cell) lsA (locs ++ ((arrV (jx_gA G 11) (M.2.2.1 a).2 (fun j => .int (M.2.2.2.1 a j))).stretch sp.toNatClampNeg n.toNatClampNeg).zipIdx.map fun q => (⟨jx_ga G b, dp.toNatClampNeg + q.2⟩ : Loc)) hRn hL (fun q hq' => by
    rcases List.mem_append.mp hq' with h | h
    · exact hq q h
    · obtain ⟨z, -, hz⟩ := List.mem_map.mp h
      rw [← hz]
      show jx_gB G ≤ jx_ga G b
      rw [hF.2.2.1 b hb]; omega) hn hm
  obtain ⟨t, a1, b1⟩ := h9 _ hheap X'
  exact ⟨t, step t a1, b1⟩
/-- the same for arrays of objects, all of one class -/
theorem jx_copyP {idx cv : Nat} {sp dp n : Int32} (hd : decode cc pc = .ok (.invokestatic idx, 3)) (hl : Cond.methodLink y.cls idx arraycopyName ∈ jx_tb) (hw1 : Cond.native arraycopyName ∈ jx_tb) (hw2 : Cond.static arraycopyName ∈ jx_tb) (hw3 : Cond.initialized "java/lang/System" ∈ jx_tb) (hKa : (M.2.2.1 a).1 = 16) (hKb : (M.2.2.1 b).1 = 16) (ha : 3 ≤ a) (hb : 3 ≤ b) (hd1 : 1 ≤ d) (hst : st.length ≤ 8) (hA : jx_asg cv "java/lang/Object")
    (h1 : ¬ sp < 0) (h2 : ¬ dp < 0) (h3 : ¬ n < 0) (h4 : sp.toNatClampNeg + n.toNatClampNeg ≤ (M.2.2.1 a).2) (h5 : dp.toNatClampNeg + n.toNatClampNeg ≤ (M.2.2.1 b).2) (hel : ∀ i, i < n.toNatClampNeg → ∀ q, M.2.2.2.2 a (sp.toNatClampNeg + i) = some q → (M.2.2.1 q).1 = cv)
    (kk : jx_J G y cc nL ret d Q (pc + 3) ls st (jx_cpP M a b sp.toNatClampNeg dp.toNatClampNeg n.toNatClampNeg)) : jx_J G y cc nL ret d Q pc ls (.inl n :: .inl dp :: .inr (some b) :: .inl sp :: .inr (some a) :: st) M := by
  intro p e s m args below meth c0 R Z n0 m0 C H lsA locs hR hL hq hn hm
  have hF := C.2.2.2.2.2.1
  have hts := C.2.2.2.2.1
  have hfr : d ≤ R.frames := C.2.2.2.2.2.2.2.1
  have hlo : 40 * d ≤ R.locals := C.2.2.2.2.2.2.2.2.1
  obtain ⟨ga1, ga2⟩ := hR.arr ha (by omega) (by omega)
  obtain ⟨gb1, gb2⟩ := hR.arr hb (by omega) (by omega)
  rw [hKa] at ga2
  rw [hKb] at gb2
  have ga2 : H[jx_ga G a]? = some (arrV (jx_gA G 16) (M.2.2.1 a).2 (fun j => jx_rv G (M.2.2.2.2 a j))) := ga2
  have gb2 : H[jx_ga G b]? = some (arrV (jx_gA G 16) (M.2.2.1 b).2 (fun j => jx_rv G (M.2.2.2.2 b j))) := gb2
  have hRA : va_RA s (jx_gA G 16) (.object "java/lang/Object") := (hF.arrOf (c := 16) (by omega) (by omega)).2
  obtain ⟨kA, comp, k1, k2, k3, -⟩ := hRA
  obtain ⟨r, hc, -⟩ := id hA
  intro T hT X
  obtain ⟨vm', X', step⟩ := X.arraycopy C.1 C.2.2.2.1 (hts _ hl) (hts _ hw1) (hts _ hw2) (hts _ hw3) (src := jx_ga G a) (dst := jx_ga G b) (cs := arrV (jx_gA G 16) (M.2.2.1 a).2 (fun j => jx_rv G (M.2.2.2.2 a j))) (cd := arrV (jx_gA G 16) (M.2.2.1 b).2 (fun j => jx_rv G (M.2.2.2.2 b j))) (srcPos := sp) (destPos := dp) (n := n) (by rw [hT]; exact ga2) (by rw [hT]; exact gb2)
    (fun _ h => by cases h) (fun _ h => by cases h) (fun h => by cases h) (fun h => by cases h) k1 k1 k2 k2 (by rfl) h1 h2 h3
    (by rw [jx_nn h1, jx_nn h3, arrV_size]; omega)
    (by rw [jx_nn h2, jx_nn h3, arrV_size]; omega)
    (fun vm₁ hal i hi => by
      rw [Array.getD_eq_getD_getElem?, arrV_read _ _ (by omega)]
      show fits _ (jx_rv G (M.2.2.2.2 a (sp.toNatClampNeg + i))) = true ∧ (T.setVm vm₁).takes comp (jx_rv G (M.2.2.2.2 a (sp.toNatClampNeg + i)))
      cases hy : M.2.2.2.2 a (sp.toNatClampNeg + i) with
      | none => exact ⟨rfl, trivial⟩
      | some q =>
        obtain ⟨cellV, g1, g2, g3, g4, g5⟩ := hR.cls hF (hel i hi q hy) hc
        obtain ⟨kC, hkC, -⟩ := Vm.findClass_spec g4
        obtain ⟨kE, hkE, -⟩ := Vm.findClass_spec k3
        obtain ⟨kC', hkC', -⟩ := hal.2.2 _ _ hkC
        obtain ⟨kE', hkE', -⟩ := hal.2.2 _ _ hkE
        refine ⟨rfl, cellV, (show T.heap[jx_ga G q]? = some cellV by rw [hT]; exact g1), (fun q h => by rw [g2] at h; cases h), ⟨kC', hkC'⟩, ?_, ?_⟩
        · exact ⟨kE', hkE'⟩
        · show vm₁.assignable _ _ = true
          rw [hal.assignable, g3]
          exact hA.use hF hts k3)
    (g := F0 m pc lsA ((.inl n :: .inl dp :: .inr (some b) :: .inl sp :: .inr (some a) :: st : List jx_V).map (jx_cv G))) rfl (by rw [C.2.2.1]; exact hL.1) (rest := st.map (jx_cv G)) rfl (by rw [C.2.1]; exact hd) (by omega) (by show 2 * 0 + _ + _ ≤ _; rw [jx_words]; have := jx_nfw; omega)
  have e1 : copied (arrV (jx_gA G 16) (M.2.2.1 a).2 (fun j => jx_rv G (M.2.2.2.2 a j))) (arrV (jx_gA G 16) (M.2.2.1 b).2 (fun j => jx_rv G (M.2.2.2.2 b j))) sp dp n = arrV (jx_gA G 16) (M.2.2.1 b).2 (fun j => jx_rv G (va_cpy (M.2.2.2.2 a) (M.2.2.2.2 b) sp.toNatClampNeg dp.toNatClampNeg n.toNatClampNeg j)) := va_copied (fun z => jx_rv G z) (jx_gA G 16) (jx_gA G 16) (M.2.2.2.2 a) (M.2.2.2.2 b) h4
  rw [e1] at X' step
  generalize hcell : arrV (jx_gA G 16) (M.2.2.1 b).2 (fun j => jx_rv G (va_cpy (M.2.2.2.2 a) (M.2.2.2.2 b) sp.toNatClampNeg dp.toNatClampNeg n.toNatClampNeg j)) = cell at X' step
  have hlt : jx_ga G b < H.size := (Array.getElem?_eq_some_iff.mp gb2).1
  have hheap : ((T.setVm vm').setCell (jx_ga G b) cell).heap = H.setIfInBounds (jx_ga G b) cell := by rw [← hT]; rfl
  have o1 : (H.setIfInBounds (jx_ga G b) cell)[jx_ga G b]? = some cell := by simp [Array.getElem?_setIfInBounds, hlt]
  have oq : ∀ q : Nat, q ≠ jx_ga G b → (H.setIfInBounds (jx_ga G b) cell)[q]? = H[q]? := fun q hq => by simp [Array.getElem?_setIfInBounds, Ne.symm hq]
  have hz : (H.setIfInBounds (jx_ga G b) cell).size = H.size := by simp
  have hRn : jx_R G (jx_cpP M a b sp.toNatClampNeg dp.toNatClampNeg n.toNatClampNeg) (H.setIfInBounds (jx_ga G b) cell) := by
    refine jx_R.set hF hR hb gb1 hz oq (jx_hs_set gb2 o1 (by rw [← hcell, arrV_size, arrV_size]) hz oq) (fun _ _ _ => rfl) (fun x hx k => if_neg hx) (Or.inr ?_)
    show 11 ≤ (M.2.2.1 b).1 ∧ _ = some (arrV (jx_gA G (M.2.2.1 b).1) (M.2.2.1 b).2 (fun j => jx_ev G (M.2.2.1 b).1 _ (if b = b then _ else _)))
    rw [hKb]
    refine ⟨by omega, o1.trans ?_⟩
    rw [← hcell]
    congr 2
    funext j
    rw [if_pos rfl]
    rfl
  have h9 := kk _ _ _ _ _ _ _ _ _ _ _ _ C (H.setIfInBounds (jx_ga G b) cell) lsA (locs ++ ((arrV (jx_gA G 16) (M.2.2.1 a).2 (fun j => jx_rv G (M.2.2.2.2 a j))).stretch sp.toNatClampNeg n.toNatClampNeg).zipIdx.map fun q => (⟨jx_ga G b, dp.toNatClampNeg + q.2⟩ : Loc)) hRn hL (fun q hq' => by
    rcases List.mem_append.mp hq' with h | h
    · exact hq q h
    · obtain ⟨z, -, hz⟩ := List.mem_map.mp h
      rw [← hz]
      show jx_gB G ≤ jx_ga G b
      rw [hF.2.2.1 b hb]; omega) hn hm
  obtain ⟨t, a1, b1⟩ := h9 _ hheap X'
  exact ⟨t, step t a1, b1⟩
end J8
