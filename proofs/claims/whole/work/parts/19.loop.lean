/-- as jx_wp, but it stops where the loop's head h is reached again -/
def jx_wh (G : jx_G) (y : MethodName) (cc : ByteArray) (nL : Nat) (ret : Option FieldType) (d : Nat) (Q : Option jx_V → jx_M → Prop) (fl fw : Nat → Option (Nat × Nat)) (h : Nat) : Nat → Nat → List (Option jx_V) → List jx_V → jx_M → Prop
  | 0, pc, ls, st, M => jx_J G y cc nL ret d Q pc ls st M
  | f + 1, pc, ls, st, M => match decode cc pc with
    | .ok (i, len) => jx_stp fl fw nL ret Q (jx_J G y cc nL ret d Q) (fun pc ls st M => if pc = h then jx_J G y cc nL ret d Q pc ls st M else jx_wh G y cc nL ret d Q fl fw h f pc ls st M) pc i len ls st M
    | .error _ => False
theorem jx_gh {G : jx_G} {y : MethodName} {cc : ByteArray} {nL : Nat} {ret : Option FieldType} {d : Nat} {Q : Option jx_V → jx_M → Prop} {fl fw : Nat → Option (Nat × Nat)} (hfl : ∀ i c k, fl i = some (c, k) → jx_Fl y.cls i c k) (hfw : ∀ i c k, fw i = some (c, k) → jx_Fw y i c k) (h : Nat) : ∀ (f pc : Nat) (ls : List (Option jx_V)) (st : List jx_V) (M : jx_M), jx_wh G y cc nL ret d Q fl fw h f pc ls st M → jx_J G y cc nL ret d Q pc ls st M := by
  intro f
  induction f with
  | zero => intro pc ls st M h; exact h
  | succ f ih =>
    intro pc ls st M hh
    unfold jx_wh at hh
    split at hh
    · next e =>
      refine jx_stp_ok hfl hfw (fun pc ls st M q => ?_) e hh
      split at q
      · exact q
      · exact ih _ _ _ _ q
    · exact hh.elim
