/-- the tables' words that a warmer state keeps -/
def jx_okw (w : Cond) : Bool := goodWord w || match w with
  | .methodLinkNest .. => true
  | .castable .. => true
  | .declares _ => true
  | .arrayOver (.object _) => true
  | _ => false
def jx_tb : List Cond := lw_tbl.filter jx_okw
theorem jx_mem {w : Cond} (h : w ∈ lw_tbl) (h2 : jx_okw w = true) : w ∈ jx_tb := List.mem_filter.mpr ⟨h, h2⟩
theorem jx_pay {args : Array Value} {s : State} (hts : ∀ w ∈ jx_tb, w.before args s = true) : ∀ w ∈ jx_tb, ∀ (a' : Array Value) (U : State), s.WarmedH U.vm → w.before a' U = true := by
  intro w hw a' U hW
  have h1 := hts w hw
  have h2 : jx_okw w = true := (List.mem_filter.mp hw).2
  by_cases hg : goodWord w = true
  · exact word_at hW (good_of_word hg) h1
  · have hg : goodWord w = false := by simpa using hg
    unfold jx_okw at h2
    rw [hg, Bool.false_or] at h2
    split at h2
    · exact va_Nw.use rfl (va_Nw.warmM hW (va_Nw.of rfl h1))
    · exact va_Nw.use rfl (va_Nw.warmC hW (va_Nw.of rfl h1))
    · exact va_Nw.use rfl (va_Nw.warmD hW (va_Nw.of rfl h1))
    · exact va_AO.use (va_AO.moved hW.alike (va_AO.of h1))
    · cases h2
/-! an abstract machine over numbered cells: values, memory, what a heap must hold -/
abbrev jx_V : Type := Int32 ⊕ Option Nat
abbrev jx_i (x : Int32) : jx_V := .inl x
abbrev jx_r (a : Nat) : jx_V := .inr (some a)
abbrev jx_n : jx_V := .inr none
/-- next address; slots in use; kind and length of each cell; numbers; references -/
abbrev jx_M : Type := Nat × Nat × (Nat → Nat × Nat) × (Nat → Nat → Int32) × (Nat → Nat → Option Nat)
/-- launch; addresses; classes; their slots; array classes; first new address; first heap; the script's length; the script -/
abbrev jx_G : Type := Launch × (Nat → Nat) × (Nat → ClassId) × (Nat → Nat → Nat) × (Nat → ClassId) × Nat × Heap × Nat × (Nat → Int32)
abbrev jx_gl (G : jx_G) : Launch := G.1
abbrev jx_ga (G : jx_G) : Nat → Nat := G.2.1
abbrev jx_gC (G : jx_G) : Nat → ClassId := G.2.2.1
abbrev jx_gI (G : jx_G) : Nat → Nat → Nat := G.2.2.2.1
abbrev jx_gA (G : jx_G) : Nat → ClassId := G.2.2.2.2.1
abbrev jx_gB (G : jx_G) : Nat := G.2.2.2.2.2.1
abbrev jx_gH (G : jx_G) : Heap := G.2.2.2.2.2.2.1
abbrev jx_gL (G : jx_G) : Nat := G.2.2.2.2.2.2.2.1
abbrev jx_gX (G : jx_G) : Nat → Int32 := G.2.2.2.2.2.2.2.2
def jx_rv (G : jx_G) (r : Option Nat) : Value := va_rf (r.map (jx_ga G))
def jx_cv (G : jx_G) (v : jx_V) : Value := match v with
  | .inl x => .int x
  | .inr r => jx_rv G r
theorem jx_cv1 (G : jx_G) (v : jx_V) : (jx_cv G v).category = 1 := by
  rcases v with x | r | r <;> rfl
/-- the slots that a heap's cells have -/
def jx_hs (H : Heap) : Nat := (H.toList.map (fun c => c.slots.size)).sum
theorem jx_foldl (l : List Cell) : ∀ n : Nat, l.foldl (fun n c => n + c.slots.size) n = n + (l.map (fun c => c.slots.size)).sum := by
  induction l with
  | nil => intro n; simp
  | cons c l ih => intro n; rw [List.foldl_cons, ih, List.map_cons, List.sum_cons]; omega
theorem jx_hs_true {s : State} (h : s.slotsTrue = true) : s.slotsUsed = jx_hs s.heap := by
  unfold State.slotsTrue at h
  rw [beq_iff_eq, ← Array.foldl_toList, jx_foldl] at h
  unfold jx_hs
  omega
theorem jx_hs_push {H H1 : Heap} {c : Cell} (e1 : H1[H.size]? = some c) (z : H1.size = H.size + 1) (o : ∀ q, q < H.size → H1[q]? = H[q]?) : jx_hs H1 = jx_hs H + c.slots.size := by
  have e : H1 = H.push c := by
    apply Array.ext_getElem?
    intro i
    by_cases h : i < H.size
    · rw [o i h, Array.getElem?_push_lt h, Array.getElem?_eq_getElem h]
    · by_cases h2 : i = H.size
      · rw [h2, e1, Array.getElem?_push_size]
      · rw [Array.getElem?_eq_none (by omega), Array.getElem?_eq_none (by simp; omega)]
  rw [e]
  unfold jx_hs
  simp
theorem jx_hs_same {H H1 : Heap} (z : H1.size = H.size) (o : ∀ q : Nat, (H1[q]?).map (fun c : Cell => c.slots.size) = (H[q]?).map (fun c : Cell => c.slots.size)) : jx_hs H1 = jx_hs H := by
  unfold jx_hs
  congr 1
  apply List.ext_getElem?
  intro i
  rw [List.getElem?_map, List.getElem?_map, Array.getElem?_toList, Array.getElem?_toList]
  exact o i
theorem jx_hs_set {H H1 : Heap} {a : Nat} {c c1 : Cell} (hc : H[a]? = some c) (hc1 : H1[a]? = some c1) (hz : c1.slots.size = c.slots.size) (z : H1.size = H.size) (o : ∀ q, q ≠ a → H1[q]? = H[q]?) : jx_hs H1 = jx_hs H := by
  refine jx_hs_same z fun q => ?_
  by_cases h : q = a
  · subst h
    rw [hc, hc1]
    simp [hz]
  · rw [o q h]
/-- what a W has counted may be counted anew from the heap itself -/
theorem jx_tight {p : Program} {l : Launch} {e : Env} {R : Room} {s : State} {m : MethodId} {args : Array Value} {below : List Frame} {meth : Method} {c : Code} {H : Heap} {locs : List Loc} {cells slots : Nat} {Q : State → Prop} {g : JFrame} {k n : Nat}
    (h1 : H.size ≤ s.heap.size + k) (h2 : jx_hs H ≤ jx_hs s.heap + n) (kk : W p l e R s m args below meth c H locs k n Q g) : W p l e R s m args below meth c H locs cells slots Q g := by
  intro T hT X
  have hs1 : s.slotsTrue = true := by
    have h := X.room
    simp only [State.hasRoom, Bool.and_eq_true] at h
    exact h.2
  have e1 := jx_hs_true hs1
  have e2 := jx_hs_true X.book
  refine kk T hT { X with same := ?_ }
  obtain ⟨a1, a2, a3, a4, a5, a6⟩ := X.same
  refine ⟨a1, a2, ?_, a4, ?_, a6⟩
  · show T.heap.size ≤ _
    rw [hT]; exact h1
  · have a4' : T.slotsUsed = s.slotsUsed + _ := a4
    rw [e1, e2, hT] at a4'
    omega
/-! the kinds of arrays, the types of fields -/
def jx_ty : Nat → FieldType := fun k => match k with
  | 11 => .int
  | 12 => .boolean
  | 13 => .object "RegisterFleet$Client"
  | 14 => .object "RegisterFleet$Operation"
  | 15 => .object "RegisterFleet$Server"
  | 16 => .object "java/lang/Object"
  | _ => .array .int
abbrev jx_cl : List vw_C := [(RJx4a65c, TJx4a65c, 3), (RX0, TX0, 3), (RX1, TX1, 14), (RX2, TX2, 4), (RX3, TX3, 9), (RX4, TX4, 9), (RX5, TX5, 7), (RX6, TX6, 7), (RX7, TX7, 1), (RX8, TX8, 7), (RX9, TX9, 62)]
def jx_ft : Nat → Nat → FieldType := fun c => match c with
  | 0 => tyJx4a65c
  | 1 => tyX0
  | 2 => tyX1
  | 3 => tyX2
  | 4 => tyX3
  | 5 => tyX4
  | 6 => tyX5
  | 7 => tyX6
  | 8 => tyX7
  | 9 => tyX8
  | _ => tyX9
def jx_prim (t : FieldType) : Bool := match t with
  | .int => true
  | .boolean => true
  | _ => false
def jx_fv (G : jx_G) (c k : Nat) (x : Int32) (r : Option Nat) : Value := if jx_prim (jx_ft c k) = true then .int x else jx_rv G r
def jx_ev (G : jx_G) (c : Nat) (x : Int32) (r : Option Nat) : Value := if c ≤ 12 then .int x else jx_rv G r
def jx_at (G : jx_G) (M : jx_M) (a : Nat) (H : Heap) : Prop :=
  (∃ r : vw_C, jx_cl[(M.2.2.1 a).1]? = some r ∧ t_OB (jx_ga G a) (jx_gC G (M.2.2.1 a).1) r.2.2 (jx_gI G (M.2.2.1 a).1) H (fun k => jx_fv G (M.2.2.1 a).1 k (M.2.2.2.1 a k) (M.2.2.2.2 a k))) ∨
  (11 ≤ (M.2.2.1 a).1 ∧ H[jx_ga G a]? = some (arrV (jx_gA G (M.2.2.1 a).1) (M.2.2.1 a).2 (fun j => jx_ev G (M.2.2.1 a).1 (M.2.2.2.1 a j) (M.2.2.2.2 a j))))
def jx_R (G : jx_G) (M : jx_M) (H : Heap) : Prop :=
  H.size + 3 = jx_gB G + M.1 ∧ 3 ≤ M.1 ∧ jx_hs H = jx_hs (jx_gH G) + M.2.1 ∧ M.1 ≤ 600003 ∧ M.2.1 ≤ 7302250 ∧ (∀ q : Nat, q < jx_gB G → H[q]? = (jx_gH G)[q]?) ∧ (M.2.2.1 0 = (11, jx_gL G) ∧ (∀ j, j < jx_gL G → M.2.2.2.1 0 j = jx_gX G j) ∧ M.2.2.1 1 = (16, 0) ∧ M.2.2.1 2 = (99, 0)) ∧ ∀ a : Nat, 3 ≤ a → (M.2.2.1 a).1 ≤ 17 → a < M.1 ∧ jx_at G M a H
def jx_tys (G : jx_G) : List (ClassId × FieldType) := [(jx_gA G 11, jx_ty 11), (jx_gA G 12, jx_ty 12), (jx_gA G 13, jx_ty 13), (jx_gA G 14, jx_ty 14), (jx_gA G 15, jx_ty 15), (jx_gA G 16, jx_ty 16), (jx_gA G 17, jx_ty 17)]
/-- arrays of int arrays may be made -/
def jx_AA (U : State) : Prop := (Cond.arrayOver (.array .int)).before #[] U = true
theorem jx_AA.moved {u U : State} (hvm : u.vm.Alike U.vm) (h : jx_AA u) : jx_AA U := by
  obtain ⟨comp, c, k, h1, h2, h3, h4, h5⟩ := arrayOverA_spec h
  obtain ⟨k', hk', he⟩ := hvm.2.2 _ _ h3
  have e0 := va_idx_bare u.vm comp
  have e1 := va_idx_bare U.vm comp
  have eb : U.vm.bare = u.vm.bare := by first | exact hvm.bare_eq | exact hvm.bare_eq.symm
  rw [eb] at e1
  have hi := e1.symm.trans (e0.trans h2)
  have hkind : k'.kind = .array comp (.array .int) := by rw [he]; exact h4
  have f1 : U.vm.findClass (FieldType.array FieldType.int).toString = some comp := by rw [hvm.findClass]; exact h1
  have f2 : U.vm.findClass ("[" ++ (FieldType.array FieldType.int).toString) = some c := by rw [hvm.findClass]; exact h5
  unfold jx_AA Cond.before Cond.holds
  simp only [Cond.value]
  rw [f1, Option.bind_some]
  refine (congrArg (fun o : Option Nat => (o.bind (fun c => (U.vm.classes[c]?).map fun (k : Class) => match k.kind with | .array _ ty => decide (ty = FieldType.array FieldType.int) && decide (U.vm.findClass ("[" ++ (FieldType.array FieldType.int).toString) = some c) | _ => false) == some true)) hi).trans ?_
  simp [hk', hkind, f2]
/-- what the tables say at any state of this run -/
def jx_F (G : jx_G) (s : State) : Prop :=
  va_K (jx_gC G, jx_gI G) jx_cl (jx_tys G) s ∧ (jx_gH G).size = jx_gB G ∧ (∀ a : Nat, 3 ≤ a → jx_ga G a = jx_gB G + (a - 3)) ∧ jx_ga G 0 < jx_gB G ∧ jx_ga G 1 < jx_gB G ∧
  va_X (jx_ga G 0) (jx_gL G) (jx_gX G) s (jx_gH G) ∧ va_Z "java/util/ArrayList" "DEFAULTCAPACITY_EMPTY_ELEMENTDATA" "[Ljava/lang/Object;" (.ref (jx_ga G 1)) (fun q => jx_gB G ≤ q) s (jx_gH G) ∧
  (∃ cell : Cell, (jx_gH G)[jx_ga G 1]? = some cell ∧ s.isArrayOf cell (.object "java/lang/Object") ∧ cell.slots.size = 0) ∧ va_Mi "[Ljava/lang/Object;" (jx_ga G 2) s ∧ va_Dc s ∧ jx_AA s
theorem jx_F.moved {G : jx_G} {u U : State} (hvm : u.vm.Alike U.vm) (h : jx_F G u) : jx_F G U := by
  obtain ⟨h1, h2, h3, h4, h5, h6, h7, ⟨cell, h8, h9, h10⟩, h11, h12, h13⟩ := h
  exact ⟨va_K.moved hvm h1, h2, h3, h4, h5, h6.moved hvm, h7.moved hvm, ⟨cell, h8, State.isArrayOf_alike hvm h9, h10⟩, h11.moved hvm, h12.moved hvm, h13.moved hvm⟩
/-- the local variables -/
def jx_L (G : jx_G) (lsA : Array Slot) (nL : Nat) (ls : List (Option jx_V)) : Prop :=
  lsA.size = nL ∧ ls.length = nL ∧ lv_wf lsA ∧ ∀ (k : Nat) (v : jx_V), ls[k]? = some (some v) → lsA[k]? = some (.val (jx_cv G v))
def jx_ps (G : jx_G) (ls : List (Option jx_V)) : List (Nat × Value) := (List.range ls.length).filterMap fun k => match ls[k]? with
  | some (some v) => some (k, jx_cv G v)
  | _ => none
theorem jx_ps_mem {G : jx_G} {ls : List (Option jx_V)} {k : Nat} {v : jx_V} (h : ls[k]? = some (some v)) : (k, jx_cv G v) ∈ jx_ps G ls := by
  refine List.mem_filterMap.mpr ⟨k, List.mem_range.mpr (List.getElem?_eq_some_iff.mp h).1, ?_⟩
  rw [h]
theorem jx_ps_of {G : jx_G} {ls : List (Option jx_V)} {q : Nat × Value} (h : q ∈ jx_ps G ls) : ∃ v : jx_V, ls[q.1]? = some (some v) ∧ q.2 = jx_cv G v := by
  obtain ⟨k, -, hk⟩ := List.mem_filterMap.mp h
  cases hv : ls[k]? with
  | none => rw [hv] at hk; cases hk
  | some o =>
    cases o with
    | none => rw [hv] at hk; cases hk
    | some v =>
      rw [hv] at hk
      cases hk
      exact ⟨v, hv, rfl⟩
theorem jx_L.has {G : jx_G} {lsA : Array Slot} {nL : Nat} {ls : List (Option jx_V)} (h : jx_L G lsA nL ls) : lv_has lsA nL (jx_ps G ls) := by
  refine ⟨h.1, h.2.2.1, fun q hq => ?_⟩
  obtain ⟨v, h1, h2⟩ := jx_ps_of hq
  rw [h2]
  exact h.2.2.2 _ _ h1
theorem jx_L.store {G : jx_G} {lsA lsB : Array Slot} {nL i : Nat} {ls : List (Option jx_V)} {v : jx_V} (h : jx_L G lsA nL ls) (h2 : lv_has lsB nL ((i, jx_cv G v) :: (jx_ps G ls).filter (fun q => !(q.1 == i) && !(q.1 + 1 == i && q.2.category == 2)))) : jx_L G lsB nL (ls.set i (some v)) := by
  refine ⟨h2.1, by rw [List.length_set]; exact h.2.1, h2.2.1, fun k w hk => ?_⟩
  by_cases hi : k = i
  · subst hi
    have : some v = some w := by
      rw [List.getElem?_set] at hk
      by_cases hl : k < ls.length
      · simpa [hl] using hk
      · simp [hl] at hk
    cases this
    exact h2.2.2 _ List.mem_cons_self
  · rw [List.getElem?_set_ne (Ne.symm hi)] at hk
    refine h2.2.2 (k, jx_cv G w) (List.mem_cons_of_mem _ (List.mem_filter.mpr ⟨jx_ps_mem hk, ?_⟩))
    simp [hi, jx_cv1]
