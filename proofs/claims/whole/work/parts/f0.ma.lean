/-! arrays of arrays: my own rule for the instruction -/
theorem ma_new {Q : Addr → Pre} {E : CtlPost} {e : Env} {d : Bool} {acts : List Action} {s : State} {c comp : ClassId} {k : Class} {ty : FieldType} {n : Nat} {v : Value} (hk : s.vm.classes[c]? = some k) (hkind : k.kind = .array comp ty) (hl : n ≤ e.platform.arrayLengthLimit) (hh : n * componentBytes ty ≤ e.platform.maxHeapBytes) (hf : fits ty v = true) (hd : v.isDefault = true) (h1 : s.heap.size < e.platform.maxCells) (h2 : s.slotsUsed + n ≤ e.platform.maxSlots) (kk : Q s.heap.size d acts (s.pushCell { cls := c, slots := Array.replicate n v, vm := .none })) : wp (Jvm.newArray c n v) Q E e d acts s := by
  have hfit : ∀ i w, (Array.replicate n v)[i]? = some w → s.fitsSlot c .none i w = true := by
    intro i w hw
    simp only [Array.getElem?_replicate] at hw
    split at hw
    · cases hw
      simp [State.fitsSlot, State.slotType?, hk, hkind, hf]
    · cases hw
  have hdef : allocActs (Array.replicate n v) s.heap.size acts = acts := by
    have hall : ((Array.replicate n v).all (·.isDefault)) = true := by
      rw [Array.all_replicate]
      split <;> simp [hd]
    unfold allocActs
    rw [if_pos hall]
  have a1 : ¬ n > e.platform.arrayLengthLimit := by omega
  have a2 : ¬ n * componentBytes ty > e.platform.maxHeapBytes := by omega
  have a3 : ¬ n > e.platform.maxSlots := by omega
  simp only [Jvm.newArray, Jvm.arrayFits, wp_bind', Jvm.W.ask, Jvm.W.ite, a1, if_false, wp_pure', Jvm.W.theClass, hk, Option.some.injEq, exists_eq_left', hkind, a2, a3, Jvm.W.alloc, Array.size_replicate, hdef]
  exact ⟨h1, h2, hfit, kk⟩
theorem ma_in {Q : Addr → Pre} {E : CtlPost} {e : Env} {d : Bool} {acts : List Action} {s : State} {c cm : ClassId} {kC : Class} {k : Int32} (hk0 : ¬ k < 0) (hk : s.vm.classes[c]? = some kC) (hkind : kC.kind = .array cm .int) (hl : k.toNatClampNeg ≤ e.platform.arrayLengthLimit) (hh : k.toNatClampNeg * 4 ≤ e.platform.maxHeapBytes) (h1 : s.heap.size < e.platform.maxCells) (h2 : s.slotsUsed + k.toNatClampNeg ≤ e.platform.maxSlots) (kk : Q s.heap.size d acts (s.pushCell { cls := c, slots := Array.replicate k.toNatClampNeg (.int 0), vm := .none })) : wp (Jvm.Op.multianewarray.make c [k]) Q E e d acts s := by
  simp only [Jvm.Op.multianewarray.make, wp_bind', Jvm.W.ite, hk0, if_false, wp_pure', Jvm.W.theClass, hk, Option.some.injEq, exists_eq_left', hkind]
  exact ma_new hk hkind hl hh rfl rfl h1 h2 kk
/-- the outer cell with i rows laid; the state then -/
def ma_c (cA : ClassId) (n h : Nat) : Nat → Cell
  | 0 => { cls := cA, slots := Array.replicate n .null, vm := .none }
  | i + 1 => (ma_c cA n h i).setSlot i (.ref (h + 1 + i))
def ma_i (cI : ClassId) (k : Nat) : Cell := { cls := cI, slots := Array.replicate k (.int 0), vm := .none }
def ma_s (s : State) (cA cI : ClassId) (n k : Nat) : Nat → State
  | 0 => s.pushCell (ma_c cA n s.heap.size 0)
  | i + 1 => ((ma_s s cA cI n k i).pushCell (ma_i cI k)).setCell s.heap.size (ma_c cA n s.heap.size (i + 1))
theorem ma_c_f {cA : ClassId} {n h : Nat} : ∀ i, (ma_c cA n h i).cls = cA ∧ (ma_c cA n h i).vm = .none ∧ (ma_c cA n h i).slots.size = n
  | 0 => ⟨rfl, rfl, by simp [ma_c]⟩
  | i + 1 => by
    obtain ⟨a, b, c⟩ := ma_c_f (cA := cA) (n := n) (h := h) i
    refine ⟨?_, ?_, ?_⟩ <;> simp [ma_c, Cell.setSlot, a, b, c]
theorem ma_s_f {s : State} {cA cI : ClassId} {n k : Nat} : ∀ i, (ma_s s cA cI n k i).heap.size = s.heap.size + 1 + i ∧ (ma_s s cA cI n k i).heap[s.heap.size]? = some (ma_c cA n s.heap.size i) ∧ (∀ x, x < s.heap.size → (ma_s s cA cI n k i).heap[x]? = s.heap[x]?) ∧ (∀ j, j < i → (ma_s s cA cI n k i).heap[s.heap.size + 1 + j]? = some (ma_i cI k)) ∧ (ma_s s cA cI n k i).vm = s.vm ∧ (ma_s s cA cI n k i).slotsUsed = s.slotsUsed + n + i * k
  | 0 => by
    refine ⟨by simp [ma_s], by simp [ma_s], fun x hx => ?_, fun j hj => absurd hj (by omega), rfl, by simp [ma_s, ma_c]⟩
    show (s.heap.push _)[x]? = _
    rw [Array.getElem?_push, if_neg (by omega)]
  | i + 1 => by
    obtain ⟨a, b, c, d, e, f⟩ := ma_s_f (s := s) (cA := cA) (cI := cI) (n := n) (k := k) i
    have hh : (ma_s s cA cI n k (i + 1)).heap = ((ma_s s cA cI n k i).heap.push (ma_i cI k)).setIfInBounds s.heap.size (ma_c cA n s.heap.size (i + 1)) := rfl
    refine ⟨?_, ?_, fun x hx => ?_, fun j hj => ?_, e, ?_⟩
    · rw [hh, Array.size_setIfInBounds, Array.size_push, a]
      omega
    · rw [hh, Array.getElem?_setIfInBounds, if_pos rfl, if_pos (by rw [Array.size_push, a]; omega)]
    · rw [hh, Array.getElem?_setIfInBounds, if_neg (by omega), Array.getElem?_push, if_neg (by omega), c x hx]
    · rw [hh, Array.getElem?_setIfInBounds, if_neg (by omega), Array.getElem?_push]
      by_cases q : j = i
      · rw [if_pos (by omega)]
      · rw [if_neg (by omega), d j (by omega)]
    · show (ma_s s cA cI n k i).slotsUsed + (Array.replicate k (Value.int 0)).size = _
      rw [f, Array.size_replicate, Nat.add_mul]
      omega
theorem ma_s_top {s : State} {g : JFrame} {cA cI : ClassId} {n k : Nat} : ∀ i, ma_s (s.setTop g) cA cI n k i = (ma_s s cA cI n k i).setTop g
  | 0 => rfl
  | i + 1 => by
    show ((ma_s (s.setTop g) cA cI n k i).pushCell _).setCell _ _ = _
    rw [ma_s_top i]
    rfl
