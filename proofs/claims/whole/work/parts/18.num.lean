/-! numbers: small ones as nI n, and literals -/
theorem jx_u_id {α : Type} {I : Nat → Nat → α} {a i : Nat} {v : α} (h : I a i = v) : jx_u I a i v = I := by
  funext b j
  unfold jx_u
  split
  · next e => rw [e.1, e.2, h]
  · rfl
theorem jx_al (a m : Nat) : nI a + (no_index (OfNat.ofNat m) : Int32) = nI (a + OfNat.ofNat m) := nI_add a m
theorem jx_la (a m : Nat) : (no_index (OfNat.ofNat m) : Int32) + nI a = nI (OfNat.ofNat m + a) := nI_add m a
theorem jx_nm (a b : Nat) : nI a * nI b = nI (a * b) := by
  unfold nI
  rw [← Int32.ofNat_mul]
theorem jx_ml (a m : Nat) : (no_index (OfNat.ofNat m) : Int32) * nI a = nI (OfNat.ofNat m * a) := jx_nm m a
theorem jx_xn {n : Nat} (h : n < 2147483648) : jx_x (nI n) = n := nI_clamp (by omega)
theorem jx_xl {m : Nat} (h : (OfNat.ofNat m : Nat) < 2147483648) : jx_x (no_index (OfNat.ofNat m) : Int32) = OfNat.ofNat m := nI_clamp (n := m) (by omega)
theorem jx_inn {n l : Nat} (h : n < l) (hl : l < 2147483648) : jx_in (nI n) l = True := eq_true (vp_in_nI h (by omega))
theorem jx_inl {m l : Nat} (h : (OfNat.ofNat m : Nat) < l) (hl : l < 2147483648) : jx_in (no_index (OfNat.ofNat m) : Int32) l = True := jx_inn h hl
theorem jx_ltnn {a b : Nat} (ha : a < 2147483648) (hb : b < 2147483648) : (nI a < nI b) = (a < b) := propext ⟨fun h => by
  rcases Nat.lt_or_ge a b with q | q
  · exact q
  · exact absurd h (nI_nlt (by omega) (by omega)), fun h => nI_lt h (by omega)⟩
theorem jx_lenn {a b : Nat} (ha : a < 2147483648) (hb : b < 2147483648) : (nI a ≤ nI b) = (a ≤ b) := propext ⟨fun h => by
  rcases Nat.lt_or_ge b a with q | q
  · exact absurd h (nI_ge q (by omega))
  · exact q, fun h => nI_le h (by omega)⟩
theorem jx_eqnn {a b : Nat} (ha : a < 2147483648) (hb : b < 2147483648) : (nI a = nI b) = (a = b) := propext ⟨fun h => (nI_eq (by omega) (by omega)).mp h, fun h => by rw [h]⟩
theorem jx_ltnl {a m : Nat} (ha : a < 2147483648) (hb : (OfNat.ofNat m : Nat) < 2147483648) : (nI a < (no_index (OfNat.ofNat m) : Int32)) = (a < OfNat.ofNat m) := jx_ltnn ha hb
theorem jx_lenl {a m : Nat} (ha : a < 2147483648) (hb : (OfNat.ofNat m : Nat) < 2147483648) : (nI a ≤ (no_index (OfNat.ofNat m) : Int32)) = (a ≤ OfNat.ofNat m) := jx_lenn ha hb
theorem jx_ltln {a m : Nat} (ha : a < 2147483648) (hb : (OfNat.ofNat m : Nat) < 2147483648) : ((no_index (OfNat.ofNat m) : Int32) < nI a) = (OfNat.ofNat m < a) := jx_ltnn hb ha
theorem jx_leln {a m : Nat} (ha : a < 2147483648) (hb : (OfNat.ofNat m : Nat) < 2147483648) : ((no_index (OfNat.ofNat m) : Int32) ≤ nI a) = (OfNat.ofNat m ≤ a) := jx_lenn hb ha
theorem jx_eqnl {a m : Nat} (ha : a < 2147483648) (hb : (OfNat.ofNat m : Nat) < 2147483648) : (nI a = (no_index (OfNat.ofNat m) : Int32)) = (a = OfNat.ofNat m) := jx_eqnn ha hb
theorem jx_eqll {a b : Nat} (ha : (OfNat.ofNat a : Nat) < 2147483648) (hb : (OfNat.ofNat b : Nat) < 2147483648) : ((no_index (OfNat.ofNat a) : Int32) = (no_index (OfNat.ofNat b) : Int32)) = ((OfNat.ofNat a : Nat) = OfNat.ofNat b) := jx_eqnn ha hb
theorem jx_ltll {a b : Nat} (ha : (OfNat.ofNat a : Nat) < 2147483648) (hb : (OfNat.ofNat b : Nat) < 2147483648) : ((no_index (OfNat.ofNat a) : Int32) < (no_index (OfNat.ofNat b) : Int32)) = ((OfNat.ofNat a : Nat) < OfNat.ofNat b) := jx_ltnn ha hb

/-- a truth value as a number -/
def jx_b (p : Prop) [Decidable p] : Int32 := if p then 1 else 0
theorem jx_b0 (p : Prop) [Decidable p] : (jx_b p = 0) = ¬ p := by
  unfold jx_b
  by_cases h : p
  · simp [h]
  · simp [h]
theorem jx_bn0 (p : Prop) [Decidable p] : (jx_b p &&& 1) = jx_b p := by
  unfold jx_b
  split <;> rfl
/-- the exact end of a method -/
def jx_E (v0 : Option jx_V) (M0 : jx_M) : Option jx_V → jx_M → Prop := fun v M' => v = v0 ∧ M' = M0
theorem jx_ns (a b : Nat) (h : b ≤ a) : nI a - nI b = nI (a - b) := by
  have e : nI a = nI (a - b) + nI b := by
    rw [nI_add]
    congr 1
    omega
  rw [e, Int32.add_sub_cancel]
theorem jx_subl {a m : Nat} (h : (OfNat.ofNat m : Nat) ≤ a) : nI a - (no_index (OfNat.ofNat m) : Int32) = nI (a - OfNat.ofNat m) := jx_ns a m h
