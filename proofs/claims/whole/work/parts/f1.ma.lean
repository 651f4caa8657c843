theorem ma_loop {Q : PUnit → Pre} {E : CtlPost} {e : Env} {d : Bool} {acts : List Action} {s : State} {cA cI cm : ClassId} {kA kC : Class} {N : Nat} {k : Int32} (hk0 : ¬ k < 0) (hkA : s.vm.classes[cA]? = some kA) (kindA : kA.kind = .array cI (.array .int)) (hkC : s.vm.classes[cI]? = some kC) (kindC : kC.kind = .array cm .int) (hl : k.toNatClampNeg ≤ e.platform.arrayLengthLimit) (hh : k.toNatClampNeg * 4 ≤ e.platform.maxHeapBytes) (h1 : s.heap.size + 1 + N ≤ e.platform.maxCells) (h2 : s.slotsUsed + N + N * k.toNatClampNeg ≤ e.platform.maxSlots)
    (f : Nat → PUnit → Sem (ForInStep PUnit)) (hf : ∀ (i : Nat) (Q' : ForInStep PUnit → Pre) (d' : Bool) (acts' : List Action) (t : State), wp (Jvm.Op.multianewarray.make cI [k]) (fun a d2 acts2 t2 => wp (Jvm.writeLoc s.heap.size i (.ref a)) (fun _ d3 acts3 t3 => Q' (ForInStep.yield PUnit.unit) d3 acts3 t3) E e d2 acts2 t2) E e d' acts' t → wp (f i PUnit.unit) Q' E e d' acts' t)
    (kk : ∀ d' acts', Q PUnit.unit d' acts' (ma_s s cA cI N k.toNatClampNeg N)) : wp (forIn (List.range' 0 N) PUnit.unit f) Q E e d acts (ma_s s cA cI N k.toNatClampNeg 0) := by
  refine wp_forIn_inv (fun l t => ∃ i, i ≤ N ∧ l = List.range' i (N - i) ∧ t = ma_s s cA cI N k.toNatClampNeg i) f _ ⟨0, by omega, rfl, rfl⟩ ?_ ?_
  · rintro x rest t d' acts' Q' ⟨i, hi, hl2, rfl⟩ hQ
    obtain ⟨g1, g2, g3, g4, g5, g6⟩ := ma_s_f (s := s) (cA := cA) (cI := cI) (n := N) (k := k.toNatClampNeg) i
    obtain ⟨c1, c2, c3⟩ := ma_c_f (cA := cA) (n := N) (h := s.heap.size) i
    have hiN : i < N := by
      rcases Nat.lt_or_ge i N with w | w
      · exact w
      · rw [show N - i = 0 by omega] at hl2
        cases hl2
    rw [show N - i = (N - (i + 1)) + 1 by omega, List.range'_succ] at hl2
    obtain ⟨rfl, rfl⟩ := List.cons.inj hl2
    have hm : (x + 1) * k.toNatClampNeg ≤ N * k.toNatClampNeg := Nat.mul_le_mul_right _ hiN
    rw [Nat.add_mul, Nat.one_mul] at hm
    refine hf x Q' d' acts' _ ?_
    refine ma_in hk0 (by rw [g5]; exact hkC) kindC hl hh (by omega) (by omega) ?_
    rw [Jvm.W.writeLoc]
    refine ⟨ma_c cA N s.heap.size x, ?_, ?_, by omega, ?_, ?_⟩
    · show ((ma_s s cA cI N k.toNatClampNeg x).heap.push _)[_]? = _
      rw [Array.getElem?_push, if_neg (by omega), g2]
    · rw [c2]
      intro w
      cases w
    · simp [State.fitsSlot, State.slotType?, c1, c2, g5, hkA, kindA, fits]
    · refine hQ _ _ _ ⟨x + 1, hiN, rfl, ?_⟩
      rw [g1]
      rfl
  · rintro t d' acts' ⟨i, hi, hl2, rfl⟩
    have : i = N := by
      rcases Nat.lt_or_ge i N with w | w
      · rw [show N - i = (N - (i + 1)) + 1 by omega, List.range'_succ] at hl2
        cases hl2
      · omega
    subst this
    exact kk _ _
theorem ma_make {Q : Addr → Pre} {E : CtlPost} {e : Env} {d : Bool} {acts : List Action} {s : State} {cA cI cm : ClassId} {kA kC : Class} {n k : Int32} (hn0 : ¬ n < 0) (hk0 : ¬ k < 0) (hkA : s.vm.classes[cA]? = some kA) (kindA : kA.kind = .array cI (.array .int)) (hkC : s.vm.classes[cI]? = some kC) (kindC : kC.kind = .array cm .int) (hl0 : n.toNatClampNeg ≤ e.platform.arrayLengthLimit) (hh0 : n.toNatClampNeg * 4 ≤ e.platform.maxHeapBytes) (hl : k.toNatClampNeg ≤ e.platform.arrayLengthLimit) (hh : k.toNatClampNeg * 4 ≤ e.platform.maxHeapBytes) (h1 : s.heap.size + 1 + n.toNatClampNeg ≤ e.platform.maxCells) (h2 : s.slotsUsed + n.toNatClampNeg + n.toNatClampNeg * k.toNatClampNeg ≤ e.platform.maxSlots)
    (kk : ∀ d' acts', Q s.heap.size d' acts' (ma_s s cA cI n.toNatClampNeg k.toNatClampNeg n.toNatClampNeg)) : wp (Jvm.Op.multianewarray.make cA [n, k]) Q E e d acts s := by
  have fin : ∀ (F : Nat → PUnit → Sem (ForInStep PUnit)) (hf : ∀ (i : Nat) (Q' : ForInStep PUnit → Pre) (d' : Bool) (acts' : List Action) (t : State), wp (Jvm.Op.multianewarray.make cI [k]) (fun a d2 acts2 t2 => wp (Jvm.writeLoc s.heap.size i (.ref a)) (fun _ d3 acts3 t3 => Q' (ForInStep.yield PUnit.unit) d3 acts3 t3) E e d2 acts2 t2) E e d' acts' t → wp (F i PUnit.unit) Q' E e d' acts' t) (d1 : Bool) (acts1 : List Action), wp (forIn [0:n.toNatClampNeg] PUnit.unit F) (fun _ d2 acts2 t2 => Q s.heap.size d2 acts2 t2) E e d1 acts1 (ma_s s cA cI n.toNatClampNeg k.toNatClampNeg 0) := by
    intro F hf d1 acts1
    rw [Std.Legacy.Range.forIn_eq_forIn_range']
    have hsz : Std.Legacy.Range.size [0:n.toNatClampNeg] = n.toNatClampNeg := by simp [Std.Legacy.Range.size]
    rw [hsz]
    exact ma_loop hk0 hkA kindA hkC kindC hl hh h1 h2 F hf kk
  rw [Jvm.Op.multianewarray.make]
  simp only [wp_bind', Jvm.W.ite, hn0, if_false, wp_pure', Jvm.W.theClass, hkA, Option.some.injEq, exists_eq_left', kindA]
  refine ma_new hkA kindA hl0 hh0 rfl rfl (by omega) (by omega) ?_
  simp only [List.find?_cons, hk0, decide_false, List.find?_nil, wp_bind', wp_pure', ite_self]
  refine fin _ (fun i Q' d' acts' t h => ?_) _ _
  rw [wp_bind']
  refine Eq.mpr (congrArg (fun R => wp (Jvm.Op.multianewarray.make cI [k]) R E e d' acts' t) (funext fun a => funext fun d2 => funext fun acts2 => funext fun t2 => ?_)) h
  rw [wp_bind']
  refine congrArg (fun R => wp (Jvm.writeLoc s.heap.size i (.ref a)) R E e d2 acts2 t2) (funext fun u => funext fun d3 => funext fun acts3 => funext fun t3 => ?_)
  exact wp_pure' _ _ _ _ _ _ _
theorem ma_s_tj {s : State} {cA cI : ClassId} {n k : Nat} : ∀ i, (ma_s s cA cI n k i).topJava? = s.topJava?
  | 0 => rfl
  | i + 1 => ma_s_tj (s := s) (cA := cA) (cI := cI) (n := n) (k := k) i
theorem ma_sem {Q : Unit → Pre} {E : CtlPost} {e : Env} {d : Bool} {acts : List Action} {s : State} {f : JFrame} {index : Nat} {rest : List Value} {cA cI cm : ClassId} {kA kC : Class} {n k : Int32} (hs : s.topJava?.isSome) (hr : s.vm.classReady f.method.cls index cA) (hstack : f.stack = .int k :: .int n :: rest) (hn0 : ¬ n < 0) (hk0 : ¬ k < 0) (hkA : s.vm.classes[cA]? = some kA) (kindA : kA.kind = .array cI (.array .int)) (hkC : s.vm.classes[cI]? = some kC) (kindC : kC.kind = .array cm .int) (hl0 : n.toNatClampNeg ≤ e.platform.arrayLengthLimit) (hh0 : n.toNatClampNeg * 4 ≤ e.platform.maxHeapBytes) (hl : k.toNatClampNeg ≤ e.platform.arrayLengthLimit) (hh : k.toNatClampNeg * 4 ≤ e.platform.maxHeapBytes) (h1 : s.heap.size + 1 + n.toNatClampNeg ≤ e.platform.maxCells) (h2 : s.slotsUsed + n.toNatClampNeg + n.toNatClampNeg * k.toNatClampNeg ≤ e.platform.maxSlots)
    (kk : ∀ acts', Q () true acts' ((ma_s s cA cI n.toNatClampNeg k.toNatClampNeg n.toNatClampNeg).setTop { f with stack := .ref s.heap.size :: rest })) : wp (Jvm.Op.multianewarray.sem index 2) Q E e d acts (s.setTop f) := by
  unfold Jvm.Op.multianewarray.sem
  rw [wp_bind', Jvm.W.resolveClassAt_ready (State.method?_setTop f hs) hr, wp_bind']
  refine (Jvm.Op.popN_top (s := s) (f := f) (args := [.int n, .int k]) (rest := rest) hs hstack).mpr ?_
  simp only [List.mapM_cons, List.mapM_nil, wp_bind', wp_pure']
  refine ma_make (s := s.setTop { f with stack := rest }) hn0 hk0 hkA kindA hkC kindC hl0 hh0 hl hh h1 h2 (fun d' acts' => ?_)
  rw [ma_s_top, wp_bind', Jvm.W.mark, Jvm.W.pushRef]
  refine ⟨_, State.topJava?_setTop' _ (by rw [ma_s_tj]; exact hs), ?_⟩
  rw [State.setTop_setTop]
  exact kk _
theorem ma_cold {Q : Unit → Pre} {E : CtlPost} {e : Env} {d : Bool} {acts : List Action} {s : State} {f : JFrame} {index c : Nat} {vm' : Vm} (hs : s.topJava?.isSome) (hg : (Jvm.resolveClass f.method.cls index).Gives e.toSetting s.vm (.ok c) vm') (hr : vm'.classReady f.method.cls index c) (hsz : vm'.classes.size ≤ s.vm.classes.size) : wp (Jvm.Op.multianewarray.sem index 2) Q E e d acts (s.setTop f) ↔ wp (Jvm.Op.multianewarray.sem index 2) Q E e d acts ((s.setVm vm').setTop f) := by
  unfold Jvm.Op.multianewarray.sem
  rw [wp_bind', wp_bind']
  exact Jvm.W.resolveClassAt_transfer (s := s.setTop f) (State.method?_setTop f hs) hg hr hsz
