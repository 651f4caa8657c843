theorem ma_loop {Q : PUnit → Pre} {E : CtlPost} {e : Env} {d : Bool} {acts : List Action} {s : State} {cA cI cm : ClassId} {kA kC : Class} {N : Nat} {k : Int32} (hk0 : ¬ k < 0) (hkA : s.vm.classes[cA]? = some kA) (kindA : kA.kind = .array cI (.array .int)) (hkC : s.vm.classes[cI]? = some kC) (kindC : kC.kind = .array cm .int) (hl : k.toNatClampNeg ≤ e.platform.arrayLengthLimit) (hh : k.toNatClampNeg * 4 ≤ e.platform.maxHeapBytes) (h1 : s.heap.size + 1 + N ≤ e.platform.maxCells) (h2 : s.slotsUsed + N + N * k.toNatClampNeg ≤ e.platform.maxSlots)
    (f : Nat → PUnit → Sem (ForInStep PUnit)) (hf : ∀ i, f i PUnit.unit = (do
      let a ← Jvm.Op.multianewarray.make cI [k]
      Jvm.writeLoc s.heap.size i (.ref a)
      pure (ForInStep.yield PUnit.unit)))
    (kk : ∀ d' acts', Q PUnit.unit d' acts' (ma_s s cA cI N k.toNatClampNeg N)) : wp (forIn (List.range' 0 N) PUnit.unit f) Q E e d acts (ma_s s cA cI N k.toNatClampNeg 0) := by
  refine wp_forIn_inv (fun l t => ∃ i, i ≤ N ∧ l = List.range' i (N - i) ∧ t = ma_s s cA cI N k.toNatClampNeg i) f _ ⟨0, by omega, rfl, rfl⟩ ?_ ?_
  · rintro x rest t d' acts' Q' ⟨i, hi, hl2, rfl⟩ hQ
    obtain ⟨g1, g2, g3, g4, g5, g6⟩ := ma_s_f (s := s) (cA := cA) (cI := cI) (n := N) (k := k.toNatClampNeg) i
    obtain ⟨c1, c2, c3⟩ := ma_c_f (cA := cA) (n := N) (h := s.heap.size) i
    have hiN : i < N := by
      rcases Nat.lt_or_ge i N with w | w
      · exact w
      · rw [show N - i = 0 by omega] at hl2
        cases hl2
    rw [show N - i = (N - (i + 1)) + 1 by omega, List.range'_succ] at hl2
    obtain ⟨rfl, rfl⟩ := List.cons.inj hl2
    have hm : (x + 1) * k.toNatClampNeg ≤ N * k.toNatClampNeg := Nat.mul_le_mul_right _ hiN
    rw [Nat.add_mul, Nat.one_mul] at hm
    rw [hf, wp_bind']
    refine ma_in hk0 (by rw [g5]; exact hkC) kindC hl hh (by omega) (by omega) ?_
    rw [wp_bind', Jvm.W.writeLoc]
    refine ⟨ma_c cA N s.heap.size x, ?_, by rw [c2]; exact fun w => by cases w, by omega, ?_, ?_⟩
    · show ((ma_s s cA cI N k.toNatClampNeg x).heap.push _)[_]? = _
      rw [Array.getElem?_push, if_neg (by omega), g2]
    · have g5' : ((ma_s s cA cI N k.toNatClampNeg x).pushCell { cls := cI, slots := Array.replicate k.toNatClampNeg (.int 0), vm := .none }).vm = s.vm := g5
      simp [State.fitsSlot, State.slotType?, c1, c2, g5', hkA, kindA, fits]
    · rw [wp_pure']
      refine hQ _ _ _ ⟨x + 1, hiN, rfl, ?_⟩
      rw [g1]
      rfl
  · rintro t d' acts' ⟨i, hi, hl2, rfl⟩
    have : i = N := by
      rcases Nat.lt_or_ge i N with w | w
      · rw [show N - i = (N - (i + 1)) + 1 by omega, List.range'_succ] at hl2
        cases hl2
      · omega
    subst this
    exact kk _ _
theorem ma_make {Q : Addr → Pre} {E : CtlPost} {e : Env} {d : Bool} {acts : List Action} {s : State} {cA cI cm : ClassId} {kA kC : Class} {n k : Int32} (hn0 : ¬ n < 0) (hk0 : ¬ k < 0) (hkA : s.vm.classes[cA]? = some kA) (kindA : kA.kind = .array cI (.array .int)) (hkC : s.vm.classes[cI]? = some kC) (kindC : kC.kind = .array cm .int) (hl0 : n.toNatClampNeg ≤ e.platform.arrayLengthLimit) (hh0 : n.toNatClampNeg * 4 ≤ e.platform.maxHeapBytes) (hl : k.toNatClampNeg ≤ e.platform.arrayLengthLimit) (hh : k.toNatClampNeg * 4 ≤ e.platform.maxHeapBytes) (h1 : s.heap.size + 1 + n.toNatClampNeg ≤ e.platform.maxCells) (h2 : s.slotsUsed + n.toNatClampNeg + n.toNatClampNeg * k.toNatClampNeg ≤ e.platform.maxSlots)
    (kk : ∀ d' acts', Q s.heap.size d' acts' (ma_s s cA cI n.toNatClampNeg k.toNatClampNeg n.toNatClampNeg)) : wp (Jvm.Op.multianewarray.make cA [n, k]) Q E e d acts s := by
  rw [Jvm.Op.multianewarray.make]
  simp only [wp_bind', Jvm.W.ite, hn0, if_false, wp_pure', Jvm.W.theClass, hkA, Option.some.injEq, exists_eq_left', kindA]
  refine ma_new hkA kindA hl0 hh0 rfl rfl (by omega) (by omega) ?_
  have hfd : List.find? (fun x : Int32 => decide (x < 0)) [k] = none := by simp [hk0]
  simp only [hfd, wp_bind', wp_pure', ite_self, Std.Range.forIn_eq_forIn_range', Std.Range.size]
  sorry
