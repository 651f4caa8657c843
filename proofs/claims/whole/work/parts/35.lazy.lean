/-- as jx_stp, but a branch is an 'if': a decided one leaves the other side alone -/
def jx_stq (fl fw : Nat → Option (Nat × Nat)) (nL : Nat) (ret : Option FieldType) (Q : Option jx_V → jx_M → Prop) (J κ : Nat → List (Option jx_V) → List jx_V → jx_M → Prop) (pc : Nat) (i : Instr) (len : Nat) (ls : List (Option jx_V)) (st : List jx_V) (M : jx_M) : Prop := match i, st with
  | .if_icmp .eq o, .inl z :: .inl x :: st => len = 3 ∧ (match jx_tg pc o with
    | some t => (if x = z then κ t ls st M else κ (pc + 3) ls st M)
    | none => False)
  | .if_icmp .ne o, .inl z :: .inl x :: st => len = 3 ∧ (match jx_tg pc o with
    | some t => (if x = z then κ (pc + 3) ls st M else κ t ls st M)
    | none => False)
  | .if_icmp .lt o, .inl z :: .inl x :: st => len = 3 ∧ (match jx_tg pc o with
    | some t => (if x < z then κ t ls st M else κ (pc + 3) ls st M)
    | none => False)
  | .if_icmp .ge o, .inl z :: .inl x :: st => len = 3 ∧ (match jx_tg pc o with
    | some t => (if z ≤ x then κ t ls st M else κ (pc + 3) ls st M)
    | none => False)
  | .if_icmp .gt o, .inl z :: .inl x :: st => len = 3 ∧ (match jx_tg pc o with
    | some t => (if z < x then κ t ls st M else κ (pc + 3) ls st M)
    | none => False)
  | .if_icmp .le o, .inl z :: .inl x :: st => len = 3 ∧ (match jx_tg pc o with
    | some t => (if x ≤ z then κ t ls st M else κ (pc + 3) ls st M)
    | none => False)
  | .ifCond .eq o, .inl x :: st => len = 3 ∧ (match jx_tg pc o with
    | some t => (if x = 0 then κ t ls st M else κ (pc + 3) ls st M)
    | none => False)
  | .ifCond .ne o, .inl x :: st => len = 3 ∧ (match jx_tg pc o with
    | some t => (if x = 0 then κ (pc + 3) ls st M else κ t ls st M)
    | none => False)
  | .ifCond .lt o, .inl x :: st => len = 3 ∧ (match jx_tg pc o with
    | some t => (if x < 0 then κ t ls st M else κ (pc + 3) ls st M)
    | none => False)
  | .ifCond .ge o, .inl x :: st => len = 3 ∧ (match jx_tg pc o with
    | some t => (if 0 ≤ x then κ t ls st M else κ (pc + 3) ls st M)
    | none => False)
  | .ifCond .gt o, .inl x :: st => len = 3 ∧ (match jx_tg pc o with
    | some t => (if 0 < x then κ t ls st M else κ (pc + 3) ls st M)
    | none => False)
  | .ifCond .le o, .inl x :: st => len = 3 ∧ (match jx_tg pc o with
    | some t => (if x ≤ 0 then κ t ls st M else κ (pc + 3) ls st M)
    | none => False)
  | i, st => jx_stp fl fw nL ret Q J κ pc i len ls st M
theorem jx_ite {c A B : Prop} [Decidable c] : (if c then A else B) = ((c → A) ∧ (¬ c → B)) := by
  by_cases h : c
  · simp [h]
  · simp [h]
set_option maxHeartbeats 4000000 in
theorem jx_stq_ok {fl fw : Nat → Option (Nat × Nat)} {nL : Nat} {ret : Option FieldType} {Q : Option jx_V → jx_M → Prop} {J κ : Nat → List (Option jx_V) → List jx_V → jx_M → Prop} {pc : Nat} {i : Instr} {len : Nat} {ls : List (Option jx_V)} {st : List jx_V} {M : jx_M} (h : jx_stq fl fw nL ret Q J κ pc i len ls st M) : jx_stp fl fw nL ret Q J κ pc i len ls st M := by
  unfold jx_stq at h
  split at h
  · unfold jx_stp
    refine ⟨h.1, ?_⟩
    have h2 := h.2
    split at h2
    · next e =>
      rw [jx_ite] at h2
      simp only [e]
      exact h2
    · exact h2.elim
  · unfold jx_stp
    refine ⟨h.1, ?_⟩
    have h2 := h.2
    split at h2
    · next e =>
      rw [jx_ite] at h2
      simp only [e]
      exact ⟨h2.2, h2.1⟩
    · exact h2.elim
  · unfold jx_stp
    refine ⟨h.1, ?_⟩
    have h2 := h.2
    split at h2
    · next e =>
      rw [jx_ite] at h2
      simp only [e]
      exact h2
    · exact h2.elim
  · unfold jx_stp
    refine ⟨h.1, ?_⟩
    have h2 := h.2
    split at h2
    · next e =>
      rw [jx_ite] at h2
      simp only [e]
      exact h2
    · exact h2.elim
  · unfold jx_stp
    refine ⟨h.1, ?_⟩
    have h2 := h.2
    split at h2
    · next e =>
      rw [jx_ite] at h2
      simp only [e]
      exact h2
    · exact h2.elim
  · unfold jx_stp
    refine ⟨h.1, ?_⟩
    have h2 := h.2
    split at h2
    · next e =>
      rw [jx_ite] at h2
      simp only [e]
      exact h2
    · exact h2.elim
  · unfold jx_stp
    refine ⟨h.1, ?_⟩
    have h2 := h.2
    split at h2
    · next e =>
      rw [jx_ite] at h2
      simp only [e]
      exact h2
    · exact h2.elim
  · unfold jx_stp
    refine ⟨h.1, ?_⟩
    have h2 := h.2
    split at h2
    · next e =>
      rw [jx_ite] at h2
      simp only [e]
      exact ⟨h2.2, h2.1⟩
    · exact h2.elim
  · unfold jx_stp
    refine ⟨h.1, ?_⟩
    have h2 := h.2
    split at h2
    · next e =>
      rw [jx_ite] at h2
      simp only [e]
      exact h2
    · exact h2.elim
  · unfold jx_stp
    refine ⟨h.1, ?_⟩
    have h2 := h.2
    split at h2
    · next e =>
      rw [jx_ite] at h2
      simp only [e]
      exact h2
    · exact h2.elim
  · unfold jx_stp
    refine ⟨h.1, ?_⟩
    have h2 := h.2
    split at h2
    · next e =>
      rw [jx_ite] at h2
      simp only [e]
      exact h2
    · exact h2.elim
  · unfold jx_stp
    refine ⟨h.1, ?_⟩
    have h2 := h.2
    split at h2
    · next e =>
      rw [jx_ite] at h2
      simp only [e]
      exact h2
    · exact h2.elim
  · exact h
def jx_wq (G : jx_G) (y : MethodName) (cc : ByteArray) (nL : Nat) (ret : Option FieldType) (d : Nat) (Q : Option jx_V → jx_M → Prop) (fl fw : Nat → Option (Nat × Nat)) (h : Nat) : Nat → Nat → List (Option jx_V) → List jx_V → jx_M → Prop
  | 0, pc, ls, st, M => jx_J G y cc nL ret d Q pc ls st M
  | f + 1, pc, ls, st, M => match decode cc pc with
    | .ok (i, len) => jx_stq fl fw nL ret Q (jx_J G y cc nL ret d Q) (fun pc ls st M => if pc = h then jx_J G y cc nL ret d Q pc ls st M else jx_wq G y cc nL ret d Q fl fw h f pc ls st M) pc i len ls st M
    | .error _ => False
theorem jx_gq {G : jx_G} {y : MethodName} {cc : ByteArray} {nL : Nat} {ret : Option FieldType} {d : Nat} {Q : Option jx_V → jx_M → Prop} {fl fw : Nat → Option (Nat × Nat)} (hfl : ∀ i c k, fl i = some (c, k) → jx_Fl y.cls i c k) (hfw : ∀ i c k, fw i = some (c, k) → jx_Fw y i c k) (h : Nat) : ∀ (f pc : Nat) (ls : List (Option jx_V)) (st : List jx_V) (M : jx_M), jx_wq G y cc nL ret d Q fl fw h f pc ls st M → jx_J G y cc nL ret d Q pc ls st M := by
  intro f
  induction f with
  | zero => intro pc ls st M h; exact h
  | succ f ih =>
    intro pc ls st M hh
    unfold jx_wq at hh
    split at hh
    · next e =>
      refine jx_stp_ok hfl hfw (fun pc ls st M q => ?_) e (jx_stq_ok hh)
      split at q
      · exact q
      · exact ih _ _ _ _ q
    · exact hh.elim
