def jx_tg (pc : Nat) (o : Int) : Option Nat := if 0 ≤ (pc : Int) + o then some ((pc : Int) + o).toNat else none
/-- one instruction, backwards: what must hold before it; where it isn't known here, J itself -/
def jx_stp (fl fw : Nat → Option (Nat × Nat)) (nL : Nat) (ret : Option FieldType) (Q : Option jx_V → jx_M → Prop) (J κ : Nat → List (Option jx_V) → List jx_V → jx_M → Prop) (pc : Nat) (i : Instr) (len : Nat) (ls : List (Option jx_V)) (st : List jx_V) (M : jx_M) : Prop := match i, st with
  | .iconst n, st => len = 1 ∧ κ (pc + 1) ls (.inl (Int32.ofInt n) :: st) M
  | .bipush n, st => len = 2 ∧ κ (pc + 2) ls (.inl (Int8.ofInt n).toInt32 :: st) M
  | .sipush n, st => len = 3 ∧ κ (pc + 3) ls (.inl (Int16.ofInt n).toInt32 :: st) M
  | .aconst_null, st => len = 1 ∧ κ (pc + 1) ls (.inr none :: st) M
  | .iload_n k, st => len = 1 ∧ (match ls[(k : Nat)]? with
    | some (some (.inl x)) => κ (pc + 1) ls (.inl x :: st) M
    | _ => False)
  | .iload k, st => len = 2 ∧ (match ls[k]? with
    | some (some (.inl x)) => κ (pc + 2) ls (.inl x :: st) M
    | _ => False)
  | .aload_n k, st => len = 1 ∧ (match ls[(k : Nat)]? with
    | some (some (.inr r)) => κ (pc + 1) ls (.inr r :: st) M
    | _ => False)
  | .aload k, st => len = 2 ∧ (match ls[k]? with
    | some (some (.inr r)) => κ (pc + 2) ls (.inr r :: st) M
    | _ => False)
  | .istore_n k, .inl x :: st => len = 1 ∧ (k : Nat) < nL ∧ κ (pc + 1) (ls.set k (some (.inl x))) st M
  | .istore k, .inl x :: st => len = 2 ∧ k < nL ∧ κ (pc + 2) (ls.set k (some (.inl x))) st M
  | .astore_n k, .inr r :: st => len = 1 ∧ (k : Nat) < nL ∧ κ (pc + 1) (ls.set k (some (.inr r))) st M
  | .astore k, .inr r :: st => len = 2 ∧ k < nL ∧ κ (pc + 2) (ls.set k (some (.inr r))) st M
  | .iinc k n, st => len = 3 ∧ (match ls[k]? with
    | some (some (.inl x)) => κ (pc + 3) (ls.set k (some (.inl (x + Int32.ofInt n)))) st M
    | _ => False)
  | .iadd, .inl z :: .inl x :: st => len = 1 ∧ κ (pc + 1) ls (.inl (x + z) :: st) M
  | .isub, .inl z :: .inl x :: st => len = 1 ∧ κ (pc + 1) ls (.inl (x - z) :: st) M
  | .imul, .inl z :: .inl x :: st => len = 1 ∧ κ (pc + 1) ls (.inl (x * z) :: st) M
  | .iand, .inl z :: .inl x :: st => len = 1 ∧ κ (pc + 1) ls (.inl (x &&& z) :: st) M
  | .ior, .inl z :: .inl x :: st => len = 1 ∧ κ (pc + 1) ls (.inl (x ||| z) :: st) M
  | .ixor, .inl z :: .inl x :: st => len = 1 ∧ κ (pc + 1) ls (.inl (x ^^^ z) :: st) M
  | .ishl, .inl z :: .inl x :: st => len = 1 ∧ κ (pc + 1) ls (.inl (x <<< (z &&& 31)) :: st) M
  | .ishr, .inl z :: .inl x :: st => len = 1 ∧ κ (pc + 1) ls (.inl (x >>> (z &&& 31)) :: st) M
  | .iushr, .inl z :: .inl x :: st => len = 1 ∧ κ (pc + 1) ls (.inl (x.toUInt32 >>> (z.toUInt32 &&& Int32.toUInt32 31)).toInt32 :: st) M
  | .idiv, .inl z :: .inl x :: st => len = 1 ∧ ¬ z = 0 ∧ κ (pc + 1) ls (.inl (x / z) :: st) M
  | .irem, .inl z :: .inl x :: st => len = 1 ∧ ¬ z = 0 ∧ κ (pc + 1) ls (.inl (x - x / z * z) :: st) M
  | .dup, v :: st => len = 1 ∧ κ (pc + 1) ls (v :: v :: st) M
  | .pop, _ :: st => len = 1 ∧ κ (pc + 1) ls st M
  | .dup_x1, v :: u :: st => len = 1 ∧ κ (pc + 1) ls (v :: u :: v :: st) M
  | .goto o, st => len = 3 ∧ (match jx_tg pc o with
    | some t => κ t ls st M
    | none => False)
  | .if_icmp .eq o, .inl z :: .inl x :: st => len = 3 ∧ (match jx_tg pc o with
    | some t => (x = z → κ t ls st M) ∧ (¬ x = z → κ (pc + 3) ls st M)
    | none => False)
  | .if_icmp .ne o, .inl z :: .inl x :: st => len = 3 ∧ (match jx_tg pc o with
    | some t => (¬ x = z → κ t ls st M) ∧ (x = z → κ (pc + 3) ls st M)
    | none => False)
  | .if_icmp .lt o, .inl z :: .inl x :: st => len = 3 ∧ (match jx_tg pc o with
    | some t => (x < z → κ t ls st M) ∧ (¬ x < z → κ (pc + 3) ls st M)
    | none => False)
  | .if_icmp .ge o, .inl z :: .inl x :: st => len = 3 ∧ (match jx_tg pc o with
    | some t => (z ≤ x → κ t ls st M) ∧ (¬ z ≤ x → κ (pc + 3) ls st M)
    | none => False)
  | .if_icmp .gt o, .inl z :: .inl x :: st => len = 3 ∧ (match jx_tg pc o with
    | some t => (z < x → κ t ls st M) ∧ (¬ z < x → κ (pc + 3) ls st M)
    | none => False)
  | .if_icmp .le o, .inl z :: .inl x :: st => len = 3 ∧ (match jx_tg pc o with
    | some t => (x ≤ z → κ t ls st M) ∧ (¬ x ≤ z → κ (pc + 3) ls st M)
    | none => False)
  | .ifCond .eq o, .inl x :: st => len = 3 ∧ (match jx_tg pc o with
    | some t => (x = 0 → κ t ls st M) ∧ (¬ x = 0 → κ (pc + 3) ls st M)
    | none => False)
  | .ifCond .ne o, .inl x :: st => len = 3 ∧ (match jx_tg pc o with
    | some t => (¬ x = 0 → κ t ls st M) ∧ (x = 0 → κ (pc + 3) ls st M)
    | none => False)
  | .ifCond .lt o, .inl x :: st => len = 3 ∧ (match jx_tg pc o with
    | some t => (x < 0 → κ t ls st M) ∧ (¬ x < 0 → κ (pc + 3) ls st M)
    | none => False)
  | .ifCond .ge o, .inl x :: st => len = 3 ∧ (match jx_tg pc o with
    | some t => (0 ≤ x → κ t ls st M) ∧ (¬ 0 ≤ x → κ (pc + 3) ls st M)
    | none => False)
  | .ifCond .gt o, .inl x :: st => len = 3 ∧ (match jx_tg pc o with
    | some t => (0 < x → κ t ls st M) ∧ (¬ 0 < x → κ (pc + 3) ls st M)
    | none => False)
  | .ifCond .le o, .inl x :: st => len = 3 ∧ (match jx_tg pc o with
    | some t => (x ≤ 0 → κ t ls st M) ∧ (¬ x ≤ 0 → κ (pc + 3) ls st M)
    | none => False)
  | .ifnull o, .inr r :: st => len = 3 ∧ (match jx_tg pc o with
    | some t => (r = none → κ t ls st M) ∧ (¬ r = none → κ (pc + 3) ls st M)
    | none => False)
  | .ifnonnull o, .inr r :: st => len = 3 ∧ (match jx_tg pc o with
    | some t => (¬ r = none → κ t ls st M) ∧ (r = none → κ (pc + 3) ls st M)
    | none => False)
  | .getfield idx, .inr (some a) :: st => len = 3 ∧ (match fl idx with
    | some (c, k) => (M.2.2.1 a).1 = c ∧ κ (pc + 3) ls ((if jx_prim (jx_ft c k) = true then .inl (M.2.2.2.1 a k) else .inr (M.2.2.2.2 a k)) :: st) M
    | none => False)
  | .putfield idx, v :: .inr (some a) :: st => len = 3 ∧ (match fw idx with
    | some (c, k) => (M.2.2.1 a).1 = c ∧ jx_fitv (jx_ft c k) v ∧ κ (pc + 3) ls st (jx_s M a k v)
    | none => False)
  | .iaload, .inl i :: .inr (some a) :: st => len = 1 ∧ (M.2.2.1 a).1 = 11 ∧ jx_in i (M.2.2.1 a).2 ∧ κ (pc + 1) ls (.inl (M.2.2.2.1 a (jx_x i)) :: st) M
  | .baload, .inl i :: .inr (some a) :: st => len = 1 ∧ (M.2.2.1 a).1 = 12 ∧ jx_in i (M.2.2.1 a).2 ∧ κ (pc + 1) ls (.inl (M.2.2.2.1 a (jx_x i)) :: st) M
  | .aaload, .inl i :: .inr (some a) :: st => len = 1 ∧ 13 ≤ (M.2.2.1 a).1 ∧ (M.2.2.1 a).1 ≤ 17 ∧ jx_in i (M.2.2.1 a).2 ∧ κ (pc + 1) ls (.inr (M.2.2.2.2 a (jx_x i)) :: st) M
  | .iastore, .inl x :: .inl i :: .inr (some a) :: st => len = 1 ∧ (M.2.2.1 a).1 = 11 ∧ a ≠ 0 ∧ jx_in i (M.2.2.1 a).2 ∧ κ (pc + 1) ls st (jx_s M a (jx_x i) (.inl x))
  | .bastore, .inl x :: .inl i :: .inr (some a) :: st => len = 1 ∧ (M.2.2.1 a).1 = 12 ∧ jx_in i (M.2.2.1 a).2 ∧ x &&& 1 = x ∧ κ (pc + 1) ls st (jx_s M a (jx_x i) (.inl x))
  | .arraylength, .inr (some a) :: st => len = 1 ∧ 11 ≤ (M.2.2.1 a).1 ∧ (M.2.2.1 a).1 ≤ 17 ∧ κ (pc + 1) ls (.inl (Int32.ofNat (M.2.2.1 a).2) :: st) M
  | .ireturn, [.inl x] => len = 1 ∧ (match ret with
    | some ty => narrow ty (.int x) = .int x ∧ Q (some (.inl x)) M
    | none => False)
  | .areturn, [.inr x] => len = 1 ∧ (match ret with
    | some ty => jx_tyk ty = true ∧ jx_prim ty = false ∧ Q (some (.inr x)) M
    | none => False)
  | .return_, [] => len = 1 ∧ ret = none ∧ Q none M
  | _, st => J pc ls st M
def jx_wp (G : jx_G) (y : MethodName) (cc : ByteArray) (nL : Nat) (ret : Option FieldType) (d : Nat) (Q : Option jx_V → jx_M → Prop) (fl fw : Nat → Option (Nat × Nat)) : Nat → Nat → List (Option jx_V) → List jx_V → jx_M → Prop
  | 0, pc, ls, st, M => jx_J G y cc nL ret d Q pc ls st M
  | f + 1, pc, ls, st, M => match decode cc pc with
    | .ok (i, len) => jx_stp fl fw nL ret Q (jx_J G y cc nL ret d Q) (jx_wp G y cc nL ret d Q fl fw f) pc i len ls st M
    | .error _ => False
theorem jx_tgt {pc t : Nat} {o : Int} (h : jx_tg pc o = some t) : (pc : Int) + o = (t : Int) := by
  unfold jx_tg at h
  split at h
  · cases h; omega
  · cases h
theorem jx_rty {ty : FieldType} (h1 : jx_tyk ty = true) (h2 : jx_prim ty = false) : (∃ n, ty = .object n) ∨ ∃ t, ty = .array t := by
  rcases jx_tyk_spec h1 with rfl | rfl | h | h
  · exact absurd h2 (by simp [jx_prim])
  · exact absurd h2 (by simp [jx_prim])
  · exact Or.inl h
  · exact Or.inr h
set_option maxHeartbeats 4000000 in
theorem jx_stp_ok {G : jx_G} {y : MethodName} {cc : ByteArray} {nL : Nat} {ret : Option FieldType} {d : Nat} {Q : Option jx_V → jx_M → Prop} {fl fw : Nat → Option (Nat × Nat)} (hfl : ∀ i c k, fl i = some (c, k) → jx_Fl y.cls i c k) (hfw : ∀ i c k, fw i = some (c, k) → jx_Fw y i c k) {κ : Nat → List (Option jx_V) → List jx_V → jx_M → Prop} (hκ : ∀ pc ls st M, κ pc ls st M → jx_J G y cc nL ret d Q pc ls st M)
    {pc : Nat} {i : Instr} {len : Nat} {ls : List (Option jx_V)} {st : List jx_V} {M : jx_M} (hd : decode cc pc = .ok (i, len)) (h : jx_stp fl fw nL ret Q (jx_J G y cc nL ret d Q) κ pc i len ls st M) : jx_J G y cc nL ret d Q pc ls st M := by
  unfold jx_stp at h
  split at h
  · obtain ⟨rfl, h⟩ := h; exact jx_iconst hd rfl (hκ _ _ _ _ h)
  · obtain ⟨rfl, h⟩ := h; exact jx_bipush hd rfl (hκ _ _ _ _ h)
  · obtain ⟨rfl, h⟩ := h; exact jx_sipush hd rfl (hκ _ _ _ _ h)
  · obtain ⟨rfl, h⟩ := h; exact jx_null hd (hκ _ _ _ _ h)
  · obtain ⟨rfl, h⟩ := h
    split at h
    · next e => exact jx_iload_n hd e (hκ _ _ _ _ h)
    · exact h.elim
  · obtain ⟨rfl, h⟩ := h
    split at h
    · next e => exact jx_iload hd e (hκ _ _ _ _ h)
    · exact h.elim
  · obtain ⟨rfl, h⟩ := h
    split at h
    · next e => exact jx_aload_n hd e (hκ _ _ _ _ h)
    · exact h.elim
  · obtain ⟨rfl, h⟩ := h
    split at h
    · next e => exact jx_aload hd e (hκ _ _ _ _ h)
    · exact h.elim
  · obtain ⟨rfl, h1, h⟩ := h; exact jx_istore_n hd h1 (hκ _ _ _ _ h)
  · obtain ⟨rfl, h1, h⟩ := h; exact jx_istore hd h1 (hκ _ _ _ _ h)
  · obtain ⟨rfl, h1, h⟩ := h; exact jx_astore_n hd h1 (hκ _ _ _ _ h)
  · obtain ⟨rfl, h1, h⟩ := h; exact jx_astore hd h1 (hκ _ _ _ _ h)
  · obtain ⟨rfl, h⟩ := h
    split at h
    · next e => exact jx_iinc hd e rfl (hκ _ _ _ _ h)
    · exact h.elim
  · obtain ⟨rfl, h⟩ := h; exact jx_iadd hd (hκ _ _ _ _ h)
  · obtain ⟨rfl, h⟩ := h; exact jx_isub hd (hκ _ _ _ _ h)
  · obtain ⟨rfl, h⟩ := h; exact jx_imul hd (hκ _ _ _ _ h)
  · obtain ⟨rfl, h⟩ := h; exact jx_iand hd (hκ _ _ _ _ h)
  · obtain ⟨rfl, h⟩ := h; exact jx_ior hd (hκ _ _ _ _ h)
  · obtain ⟨rfl, h⟩ := h; exact jx_ixor hd (hκ _ _ _ _ h)
  · obtain ⟨rfl, h⟩ := h; exact jx_ishl hd (hκ _ _ _ _ h)
  · obtain ⟨rfl, h⟩ := h; exact jx_ishr hd (hκ _ _ _ _ h)
  · obtain ⟨rfl, h⟩ := h; exact jx_iushr hd (hκ _ _ _ _ h)
  · obtain ⟨rfl, h1, h⟩ := h; exact jx_idiv hd h1 (hκ _ _ _ _ h)
  · obtain ⟨rfl, h1, h⟩ := h; exact jx_irem hd h1 (hκ _ _ _ _ h)
  · obtain ⟨rfl, h⟩ := h; exact jx_dup hd (hκ _ _ _ _ h)
  · obtain ⟨rfl, h⟩ := h; exact jx_pop hd (hκ _ _ _ _ h)
  · obtain ⟨rfl, h⟩ := h; exact jx_dup_x1 hd (hκ _ _ _ _ h)
  · obtain ⟨rfl, h⟩ := h
    split at h
    · next h1 => exact jx_goto hd (jx_tgt h1) (hκ _ _ _ _ h)
    · exact h.elim
  · obtain ⟨rfl, h⟩ := h
    split at h
    · next h1 => exact jx_icmp_eq hd (jx_tgt h1) (fun q => hκ _ _ _ _ (h.1 q)) (fun q => hκ _ _ _ _ (h.2 q))
    · exact h.elim
  · obtain ⟨rfl, h⟩ := h
    split at h
    · next h1 => exact jx_icmp_ne hd (jx_tgt h1) (fun q => hκ _ _ _ _ (h.1 q)) (fun q => hκ _ _ _ _ (h.2 q))
    · exact h.elim
  · obtain ⟨rfl, h⟩ := h
    split at h
    · next h1 => exact jx_icmp_lt hd (jx_tgt h1) (fun q => hκ _ _ _ _ (h.1 q)) (fun q => hκ _ _ _ _ (h.2 q))
    · exact h.elim
  · obtain ⟨rfl, h⟩ := h
    split at h
    · next h1 => exact jx_icmp_ge hd (jx_tgt h1) (fun q => hκ _ _ _ _ (h.1 q)) (fun q => hκ _ _ _ _ (h.2 q))
    · exact h.elim
  · obtain ⟨rfl, h⟩ := h
    split at h
    · next h1 => exact jx_icmp_gt hd (jx_tgt h1) (fun q => hκ _ _ _ _ (h.1 q)) (fun q => hκ _ _ _ _ (h.2 q))
    · exact h.elim
  · obtain ⟨rfl, h⟩ := h
    split at h
    · next h1 => exact jx_icmp_le hd (jx_tgt h1) (fun q => hκ _ _ _ _ (h.1 q)) (fun q => hκ _ _ _ _ (h.2 q))
    · exact h.elim
  · obtain ⟨rfl, h⟩ := h
    split at h
    · next h1 => exact jx_if_eq hd (jx_tgt h1) (fun q => hκ _ _ _ _ (h.1 q)) (fun q => hκ _ _ _ _ (h.2 q))
    · exact h.elim
  · obtain ⟨rfl, h⟩ := h
    split at h
    · next h1 => exact jx_if_ne hd (jx_tgt h1) (fun q => hκ _ _ _ _ (h.1 q)) (fun q => hκ _ _ _ _ (h.2 q))
    · exact h.elim
  · obtain ⟨rfl, h⟩ := h
    split at h
    · next h1 => exact jx_if_lt hd (jx_tgt h1) (fun q => hκ _ _ _ _ (h.1 q)) (fun q => hκ _ _ _ _ (h.2 q))
    · exact h.elim
  · obtain ⟨rfl, h⟩ := h
    split at h
    · next h1 => exact jx_if_ge hd (jx_tgt h1) (fun q => hκ _ _ _ _ (h.1 q)) (fun q => hκ _ _ _ _ (h.2 q))
    · exact h.elim
  · obtain ⟨rfl, h⟩ := h
    split at h
    · next h1 => exact jx_if_gt hd (jx_tgt h1) (fun q => hκ _ _ _ _ (h.1 q)) (fun q => hκ _ _ _ _ (h.2 q))
    · exact h.elim
  · obtain ⟨rfl, h⟩ := h
    split at h
    · next h1 => exact jx_if_le hd (jx_tgt h1) (fun q => hκ _ _ _ _ (h.1 q)) (fun q => hκ _ _ _ _ (h.2 q))
    · exact h.elim
  · obtain ⟨rfl, h⟩ := h
    split at h
    · next h1 => exact jx_ifnull hd (jx_tgt h1) (fun q => hκ _ _ _ _ (h.1 q)) (fun q => hκ _ _ _ _ (h.2 q))
    · exact h.elim
  · obtain ⟨rfl, h⟩ := h
    split at h
    · next h1 => exact jx_ifnonnull hd (jx_tgt h1) (fun q => hκ _ _ _ _ (h.1 q)) (fun q => hκ _ _ _ _ (h.2 q))
    · exact h.elim
  · obtain ⟨rfl, h⟩ := h
    split at h
    · next e => exact jx_getf hd (hfl _ _ _ e) h.1 (hκ _ _ _ _ h.2)
    · exact h.elim
  · obtain ⟨rfl, h⟩ := h
    split at h
    · next e => exact jx_putf hd (hfw _ _ _ e) h.1 h.2.1 (hκ _ _ _ _ h.2.2)
    · exact h.elim
  · obtain ⟨rfl, h1, h2, h⟩ := h; exact jx_iaload hd h1 h2 (hκ _ _ _ _ h)
  · obtain ⟨rfl, h1, h2, h⟩ := h; exact jx_baload hd h1 h2 (hκ _ _ _ _ h)
  · obtain ⟨rfl, h1, h2, h3, h⟩ := h; exact jx_aaload hd rfl h1 h2 h3 (hκ _ _ _ _ h)
  · obtain ⟨rfl, h1, h2, h3, h⟩ := h; exact jx_iastore hd h1 h2 h3 (hκ _ _ _ _ h)
  · obtain ⟨rfl, h1, h2, h3, h⟩ := h; exact jx_bastore hd h1 h2 h3 (hκ _ _ _ _ h)
  · obtain ⟨rfl, h1, h2, h⟩ := h; exact jx_arrlen hd rfl h1 h2 (hκ _ _ _ _ h)
  · obtain ⟨rfl, h⟩ := h
    split at h
    · exact jx_ireturn hd rfl h.1 h.2
    · exact h.elim
  · obtain ⟨rfl, h⟩ := h
    split at h
    · exact jx_areturn hd rfl (jx_rty h.1 h.2.1) h.2.2
    · exact h.elim
  · obtain ⟨rfl, h1, h⟩ := h; exact jx_return hd h1 h
  · exact h
theorem jx_go {G : jx_G} {y : MethodName} {cc : ByteArray} {nL : Nat} {ret : Option FieldType} {d : Nat} {Q : Option jx_V → jx_M → Prop} {fl fw : Nat → Option (Nat × Nat)} (hfl : ∀ i c k, fl i = some (c, k) → jx_Fl y.cls i c k) (hfw : ∀ i c k, fw i = some (c, k) → jx_Fw y i c k) : ∀ (f pc : Nat) (ls : List (Option jx_V)) (st : List jx_V) (M : jx_M), jx_wp G y cc nL ret d Q fl fw f pc ls st M → jx_J G y cc nL ret d Q pc ls st M := by
  intro f
  induction f with
  | zero => intro pc ls st M h; exact h
  | succ f ih =>
    intro pc ls st M h
    unfold jx_wp at h
    split at h
    · next e => exact jx_stp_ok hfl hfw ih e h
    · exact h.elim
