/-! memory: updates -/
def jx_u {α : Type} (I : Nat → Nat → α) (a i : Nat) (v : α) : Nat → Nat → α := fun b j => if b = a ∧ j = i then v else I b j
theorem jx_u_eq {α : Type} (I : Nat → Nat → α) (a i : Nat) (v : α) : jx_u I a i v a i = v := by simp [jx_u]
theorem jx_u_na {α : Type} {I : Nat → Nat → α} {a i b j : Nat} {v : α} (h : b ≠ a) : jx_u I a i v b j = I b j := by simp [jx_u, h]
theorem jx_u_ni {α : Type} {I : Nat → Nat → α} {a i b j : Nat} {v : α} (h : j ≠ i) : jx_u I a i v b j = I b j := by simp [jx_u, h]
/-- an index within -/
def jx_in (i : Int32) (n : Nat) : Prop := vp_in i n
abbrev jx_x (i : Int32) : Nat := i.toNatClampNeg
/-- a field by its number in the pool -/
def jx_Fl (own : String) (idx c k : Nat) : Prop := ∃ (r : vw_C) (ref : String), jx_cl[c]? = some r ∧ k < r.2.2 ∧ Cond.fieldLink own idx ref (r.2.1 k).2.1 (r.2.1 k).2.2.1 ∈ jx_tb ∧ (ref = (r.2.1 k).1 ∨ Cond.sameField ref (r.2.1 k).1 (r.2.1 k).2.1 (r.2.1 k).2.2.1 ∈ jx_tb)
/-- every class of the worlds: its words stand in the tables, its names differ, its types are known -/
def jx_ok (c : Nat) (r : vw_C) : Prop := (∀ w ∈ u_ws r.1 r.2.1 r.2.2, w ∈ jx_tb) ∧ (∀ a, a < r.2.2 → ∀ b, b < r.2.2 → a ≠ b → (r.2.1 a).2.1 ≠ (r.2.1 b).2.1) ∧ ∀ k, k < r.2.2 → parseFieldDescriptor (r.2.1 k).2.2.1 = some (jx_ft c k)
theorem jx_sub {l : List Cond} (h1 : ∀ w ∈ l, w ∈ lw_tbl) (h2 : ∀ w ∈ l, jx_okw w = true) : ∀ w ∈ l, w ∈ jx_tb := fun w hw => jx_mem (h1 w hw) (h2 w hw)
theorem jx_ok_all : ∀ (c : Nat) (r : vw_C), jx_cl[c]? = some r → jx_ok c r := by
  intro c r h
  match c, h with
  | 0, h => cases h; exact ⟨jx_sub (by decide +kernel) (by decide +kernel), nmJx4a65c, tyJx4a65c_ok⟩
  | 1, h => cases h; exact ⟨jx_sub (by decide +kernel) (by decide +kernel), nmX0, tyX0_ok⟩
  | 2, h => cases h; exact ⟨jx_sub (by decide +kernel) (by decide +kernel), nmX1, tyX1_ok⟩
  | 3, h => cases h; exact ⟨jx_sub (by decide +kernel) (by decide +kernel), nmX2, tyX2_ok⟩
  | 4, h => cases h; exact ⟨jx_sub (by decide +kernel) (by decide +kernel), nmX3, tyX3_ok⟩
  | 5, h => cases h; exact ⟨jx_sub (by decide +kernel) (by decide +kernel), nmX4, tyX4_ok⟩
  | 6, h => cases h; exact ⟨jx_sub (by decide +kernel) (by decide +kernel), nmX5, tyX5_ok⟩
  | 7, h => cases h; exact ⟨jx_sub (by decide +kernel) (by decide +kernel), nmX6, tyX6_ok⟩
  | 8, h => cases h; exact ⟨jx_sub (by decide +kernel) (by decide +kernel), nmX7, tyX7_ok⟩
  | 9, h => cases h; exact ⟨jx_sub (by decide +kernel) (by decide +kernel), nmX8, tyX8_ok⟩
  | 10, h => cases h; exact ⟨jx_sub (by decide +kernel) (by decide +kernel), nmX9, tyX9_ok⟩
  | n + 11, h => simp [jx_cl] at h
theorem jx_and1 (x : Int32) : x &&& 1 = 0 ∨ x &&& 1 = 1 := by
  have h : (x &&& 1).toBitVec = 0#32 ∨ (x &&& 1).toBitVec = 1#32 := by
    rw [Int32.toBitVec_and]
    show x.toBitVec &&& 1#32 = _ ∨ x.toBitVec &&& 1#32 = _
    rw [BitVec.and_one_eq_setWidth_ofBool_getLsbD]
    cases x.toBitVec.getLsbD 0 <;> simp
  rcases h with h | h
  · exact Or.inl (Int32.toBitVec_inj.mp h)
  · exact Or.inr (Int32.toBitVec_inj.mp h)
theorem jx_cl_lt {c : Nat} {r : vw_C} (h : jx_cl[c]? = some r) : c ≤ 10 := by
  have := (List.getElem?_eq_some_iff.mp h).1
  have e : jx_cl.length = 11 := rfl
  omega
