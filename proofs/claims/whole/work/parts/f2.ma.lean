/-- the instruction, where a walk stands -/
theorem ma_step {p : Program} {l : Launch} {e : Env} {R : Room} {s : State} {m : MethodId} {args : Array Value} {below : List Frame} {meth : Method} {c : Code} {T : State} {locs : List Loc} {cells slots : Nat} (X : Stand p l e R s m args below meth c T locs cells slots) (hexec : p.tables.exec = Jvm.exec) {own : String} {index : Nat} (hown : s.vm.findClass own = some m.cls) (hclink : (Cond.classLink own index ("[" ++ (FieldType.array .int).toString)).before args s = true) (hover : (Cond.arrayOver (.array .int)).before args s = true) (harr : (Cond.arrayClass .int).before args s = true) {g : JFrame} (hg : g.method = m) (hdg : decode c.code g.pc = .ok (.multianewarray index 2, 4)) {n k : Int32} {rest : List Value} (hstack : g.stack = .int k :: .int n :: rest) (hn0 : ¬ n < 0) (hk0 : ¬ k < 0) (hnb : n.toNatClampNeg ≤ 1000) (hkb : k.toNatClampNeg ≤ 1000) (hcells : cells + (1 + n.toNatClampNeg) ≤ R.cells) (hslots : slots + (n.toNatClampNeg + n.toNatClampNeg * k.toNatClampNeg) ≤ R.slots) :
    ∃ (vm₁ : Vm) (cA cI : ClassId) (L : List Loc), s.vm.findClass ("[" ++ (FieldType.array .int).toString) = some cA ∧ s.vm.findClass ("[" ++ (FieldType.int).toString) = some cI ∧ (∀ q ∈ L, q.base = T.heap.size) ∧ Stand p l e R s m args below meth c (ma_s (T.setVm vm₁) cA cI n.toNatClampNeg k.toNatClampNeg n.toNatClampNeg) (locs ++ L) (cells + 1 + n.toNatClampNeg) (slots + n.toNatClampNeg + n.toNatClampNeg * k.toNatClampNeg) ∧ ∀ target, Steps p.tables e below ((ma_s (T.setVm vm₁) cA cI n.toNatClampNeg k.toNatClampNeg n.toNatClampNeg).setTop { g with pc := g.pc + 4, stack := .ref T.heap.size :: rest }) target → Steps p.tables e below (T.setTop g) target := by
  subst hg
  have hpl : e.platform.magicAccessors = ({} : Platform).magicAccessors := by rw [X.admits.platform]
  obtain ⟨cI, cA, kA, hcI, hidx, hkA, hkindA, hnameA⟩ := arrayOverA_spec hover
  obtain ⟨cI', kC, cm, f1, f2, f3⟩ := Cond.arrayClass_spec harr
  have hcI2 : s.vm.findClass ("[" ++ (FieldType.int).toString) = some cI := hcI
  obtain rfl : cI' = cI := Option.some.inj (f1.symm.trans hcI2)
  obtain ⟨cA', hfcc, hcl⟩ := Cond.classLink_spec hown hclink e.platform hpl
  obtain rfl : cA' = cA := Option.some.inj (hfcc.symm.trans hnameA)
  obtain ⟨hg₁, hwarm₁, hready₁⟩ := State.classEntry (e := e) X.warmed hcl
  generalize T.vm.noted g.method.cls index (.cls cA') = vm₁ at hg₁ hwarm₁ hready₁
  have hal : s.vm.Alike vm₁ := hwarm₁.alike
  have hal2 : T.vm.Alike vm₁ := X.warmed.alike.symm.trans hal
  obtain ⟨kA₁, hkA₁, heA⟩ := hal.2.2 _ _ hkA
  have hkindA₁ : kA₁.kind = .array cI' (.array .int) := by rw [heA]; exact hkindA
  obtain ⟨kC₁, hkC₁, heC⟩ := hal.2.2 _ _ f2
  have hkindC₁ : kC₁.kind = .array cm .int := by rw [heC]; exact f3
  have X₁ := X.noted hwarm₁
  have hX : ∀ i, i ≤ n.toNatClampNeg → ∃ L : List Loc, (∀ q ∈ L, q.base = T.heap.size) ∧ Stand p l e R s g.method args below meth c (ma_s (T.setVm vm₁) cA' cI' n.toNatClampNeg k.toNatClampNeg i) (locs ++ L) (cells + 1 + i) (slots + n.toNatClampNeg + i * k.toNatClampNeg) := by
    intro i
    induction i with
    | zero =>
      intro _
      refine ⟨[], fun q h => absurd h List.not_mem_nil, ?_⟩
      have h := X₁.pushed (ma_c cA' n.toNatClampNeg T.heap.size 0)
      have e1 : slots + (ma_c cA' n.toNatClampNeg T.heap.size 0).slots.size = slots + n.toNatClampNeg + 0 * k.toNatClampNeg := by simp [ma_c]
      rw [e1] at h
      rw [List.append_nil]
      exact h
    | succ i ih =>
      intro hi
      obtain ⟨L, hL, Xi⟩ := ih (by omega)
      obtain ⟨g1, g2, g3, g4, g5, g6⟩ := ma_s_f (s := T.setVm vm₁) (cA := cA') (cI := cI') (n := n.toNatClampNeg) (k := k.toNatClampNeg) i
      have g1 : (ma_s (T.setVm vm₁) cA' cI' n.toNatClampNeg k.toNatClampNeg i).heap.size = T.heap.size + 1 + i := g1
      have g2 : (ma_s (T.setVm vm₁) cA' cI' n.toNatClampNeg k.toNatClampNeg i).heap[T.heap.size]? = some (ma_c cA' n.toNatClampNeg T.heap.size i) := g2
      have X2 := Xi.pushed (ma_i cI' k.toNatClampNeg)
      have hc : ((ma_s (T.setVm vm₁) cA' cI' n.toNatClampNeg k.toNatClampNeg i).pushCell (ma_i cI' k.toNatClampNeg)).heap[T.heap.size]? = some (ma_c cA' n.toNatClampNeg T.heap.size i) := by
        show ((ma_s (T.setVm vm₁) cA' cI' n.toNatClampNeg k.toNatClampNeg i).heap.push _)[_]? = _
        rw [Array.getElem?_push, if_neg (by omega), g2]
      have X3 := X2.stored hc i (.ref (T.heap.size + 1 + i))
      have e1 : slots + n.toNatClampNeg + i * k.toNatClampNeg + (ma_i cI' k.toNatClampNeg).slots.size = slots + n.toNatClampNeg + (i + 1) * k.toNatClampNeg := by
        have e2 : (ma_i cI' k.toNatClampNeg).slots.size = k.toNatClampNeg := by simp [ma_i]
        rw [e2, Nat.add_mul]
        omega
      rw [e1, List.append_assoc] at X3
      refine ⟨L ++ [({ base := T.heap.size, slot := i } : Loc)], fun q hq => ?_, X3⟩
      rcases List.mem_append.mp hq with w | w
      · exact hL q w
      · rw [List.mem_singleton.mp w]
  obtain ⟨hr1, hr2⟩ := X.roomAbove hcells hslots
  obtain ⟨L, hL, X'⟩ := hX n.toNatClampNeg (Nat.le_refl _)
  have b1 := Launch.admits_arrayLengthLimit X.admits
  have b2 := Launch.admits_maxHeapBytes X.admits
  refine ⟨vm₁, cA', cI', L, hnameA, hcI2, hL, X', fun target hrest => ?_⟩
  refine Steps.instr (c := c) X.here ?_
  rw [hdg]
  show wpRun (p.tables.exec (.multianewarray index 2)) _ _ e (T.setTop g)
  rw [hexec]
  show wp (Jvm.Op.multianewarray.sem index 2) _ _ e false [] (T.setTop g)
  rw [ma_cold X.here.top hg₁ hready₁ (Vm.Alike.size_le hal2)]
  refine ma_sem (s := T.setVm vm₁) X.here.top hready₁ hstack hn0 hk0 hkA₁ hkindA₁ hkC₁ hkindC₁ (by omega) (by omega) (by omega) (by omega) (by show T.heap.size + 1 + _ ≤ _; omega) (by show T.slotsUsed + _ + _ ≤ _; omega) (fun acts' => ?_)
  intro acts
  rw [afterInstr_ok]
  exact hrest
