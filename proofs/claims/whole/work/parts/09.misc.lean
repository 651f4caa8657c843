section J6
variable {G : jx_G} {y : MethodName} {cc : ByteArray} {nL : Nat} {ret : Option FieldType} {d : Nat} {Q : Option jx_V → jx_M → Prop} {pc : Nat} {ls : List (Option jx_V)} {st : List jx_V} {M : jx_M} {a : Nat}
/-- an object's cell, its class known -/
theorem jx_R.cls {H : Heap} {s : State} {c : Nat} {r : vw_C} (hF : jx_F G s) (hR : jx_R G M H) (hK : (M.2.2.1 a).1 = c) (hc : jx_cl[c]? = some r) : ∃ cell : Cell, H[jx_ga G a]? = some cell ∧ cell.vm = .none ∧ cell.cls = jx_gC G c ∧ s.vm.findClass r.1 = some cell.cls ∧ ClassAt s r.1 (jx_gC G c) := by
  have hc10 := jx_cl_lt hc
  obtain ⟨-, -, r', g3, cell, q1, q2, q3, -⟩ := hR.obj (a := a) (by omega)
  rw [hK] at g3 q2
  obtain ⟨hS, hA⟩ := hF.1.1 _ _ hc
  exact ⟨cell, q1, q3, q2, by rw [q2]; exact hA.1, hA⟩
/-- a class may be stored where E is asked -/
def jx_asg (c : Nat) (E : String) : Prop := ∃ r : vw_C, jx_cl[c]? = some r ∧ (r.1 = E ∨ Cond.castable r.1 E ∈ jx_tb)
theorem jx_asg.use {s : State} {args : Array Value} {c : Nat} {E : String} {comp : ClassId} (hF : jx_F G s) (hts : ∀ w ∈ jx_tb, w.before args s = true) (h : jx_asg c E) (hE : s.vm.findClass E = some comp) : s.vm.assignable (jx_gC G c) comp = true := by
  obtain ⟨r, hc, h⟩ := h
  obtain ⟨hS, hA⟩ := hF.1.1 _ _ hc
  have hA1 : s.vm.findClass r.1 = some (jx_gC G c) := hA.1
  rcases h with h | h
  · rw [← h, hA1] at hE
    cases hE
    exact va_assign hA
  · obtain ⟨c0, t0, f1, f2, f3⟩ := Cond.castable_spec (hts _ h)
    cases hA1.symm.trans f1
    cases hE.symm.trans f2
    exact f3
theorem jx_aastore {c cv v : Nat} {E : String} {i : Int32} (hd : decode cc pc = .ok (.aastore, 1)) (hK : (M.2.2.1 a).1 = c) (h1 : 13 ≤ c) (h2 : c ≤ 16) (hE : jx_ty c = .object E) (hi : jx_in i (M.2.2.1 a).2) (hV : (M.2.2.1 v).1 = cv) (hA : jx_asg cv E)
    (kk : jx_J G y cc nL ret d Q (pc + 1) ls st (jx_s M a (jx_x i) (.inr (some v)))) : jx_J G y cc nL ret d Q pc ls (.inr (some v) :: .inl i :: .inr (some a) :: st) M := by
  intro p e s m args below meth c0 R Z n0 m0 C H lsA locs hR hL hq hn hm
  have hF := C.2.2.2.2.2.1
  have hts := C.2.2.2.2.1
  have hlt : i.toNatClampNeg < (M.2.2.1 a).2 := Nat.not_le.mp fun q => hi (Or.inr q)
  have h0 : ¬ i < 0 := fun q => hi (Or.inl q)
  obtain ⟨h3, g1, g2⟩ := hR.refs hF hK (by omega) (by omega) (by omega)
  obtain ⟨r, hc, -⟩ := id hA
  obtain ⟨cellV, v1, v2, v3, v4, v5⟩ := hR.cls hF hV hc
  have hRA := (hF.arrOf (c := c) (by omega) (by omega)).2
  rw [hE] at hRA
  obtain ⟨kA, comp, k1, k2, k3, -⟩ := hRA
  obtain ⟨kE, hkE, -⟩ := Vm.findClass_spec k3
  obtain ⟨kV, hkV, -⟩ := v5.2
  exact W.aast C.1 C.2.1 g2 (fun q h => by cases h) (fun h => by cases h) k1 k2 rfl hkE ⟨h0, by rw [arrV_size]; exact hlt⟩ v1 (fun q h => by rw [v2] at h; cases h) (by rw [v3]; exact hkV) (by rw [v3]; exact hA.use hF hts k3) rfl rfl hd fun H' e1 e2 e3 => jx_ast (v := .inr (some v)) C hR hL hq hn hm hK (by omega) (show 13 ≤ c from h1) h3 g1 g2 e1 e2 e3 kk
theorem jx_aastoreN {c : Nat} {E : String} {i : Int32} (hd : decode cc pc = .ok (.aastore, 1)) (hK : (M.2.2.1 a).1 = c) (h1 : 13 ≤ c) (h2 : c ≤ 16) (hE : jx_ty c = .object E) (hi : jx_in i (M.2.2.1 a).2)
    (kk : jx_J G y cc nL ret d Q (pc + 1) ls st (jx_s M a (jx_x i) (.inr none))) : jx_J G y cc nL ret d Q pc ls (.inr none :: .inl i :: .inr (some a) :: st) M := by
  intro p e s m args below meth c0 R Z n0 m0 C H lsA locs hR hL hq hn hm
  have hF := C.2.2.2.2.2.1
  have hlt : i.toNatClampNeg < (M.2.2.1 a).2 := Nat.not_le.mp fun q => hi (Or.inr q)
  obtain ⟨h3, g1, g2⟩ := hR.refs hF hK (by omega) (by omega) (by omega)
  have hAr := (hF.arrOf (c := c) (by omega) (by omega)).1
  rw [hE] at hAr
  exact va_WaastN (C := E) C.1 C.2.1 g2 (hAr _ _) (fun h => by cases h) (by rw [arrV_size]; exact hi) rfl rfl hd fun H' e1 e2 e3 => jx_ast (v := .inr none) C hR hL hq hn hm hK (by omega) (show 13 ≤ c from h1) h3 g1 g2 e1 e2 e3 kk
/-- the one static that is read -/
theorem jx_getstatic {idx : Nat} (hd : decode cc pc = .ok (.getstatic idx, 3)) (hl : Cond.fieldLink y.cls idx "java/util/ArrayList" "DEFAULTCAPACITY_EMPTY_ELEMENTDATA" "[Ljava/lang/Object;" ∈ jx_tb)
    (kk : jx_J G y cc nL ret d Q (pc + 3) ls (.inr (some 1) :: st) M) : jx_J G y cc nL ret d Q pc ls st M := by
  intro p e s m args below meth c0 R Z n0 m0 C H lsA locs hR hL hq hn hm
  have hF := C.2.2.2.2.2.1
  have hts := C.2.2.2.2.1
  obtain ⟨cf, kf, fi, f, b, cell, z1, z2, z3, z4, z5, z6, z7, z8⟩ := hF.2.2.2.2.2.2.1
  exact W.gets C.1 C.2.1 C.2.2.2.1 (hts _ hl) z1 z2 z3 z4 (by rw [hR.2.2.2.2.2.1 b (Nat.not_le.mp z8)]; exact z5) (fun e => by rw [e] at z6; cases z6) z7 rfl hd (kk _ _ _ _ _ _ _ _ _ _ _ _ C _ _ _ hR hL hq hn hm)
theorem jx_ldc {idx : Nat} {v : Int32} (hd : decode cc pc = .ok (.ldc idx, 2)) (hl : Cond.constant y.cls idx v ∈ jx_tb) (kk : jx_J G y cc nL ret d Q (pc + 2) ls (.inl v :: st) M) : jx_J G y cc nL ret d Q pc ls st M := by
  intro p e s m args below meth c0 R Z n0 m0 C H lsA locs hR hL hq hn hm
  exact lv_ldc C.1 C.2.1 C.2.2.2.1 (C.2.2.2.2.1 _ hl) hd (kk _ _ _ _ _ _ _ _ _ _ _ _ C _ _ _ hR hL hq hn hm)
theorem jx_ldcw {idx : Nat} {v : Int32} (hd : decode cc pc = .ok (.ldc_w idx, 3)) (hl : Cond.constant y.cls idx v ∈ jx_tb) (kk : jx_J G y cc nL ret d Q (pc + 3) ls (.inl v :: st) M) : jx_J G y cc nL ret d Q pc ls st M := by
  intro p e s m args below meth c0 R Z n0 m0 C H lsA locs hR hL hq hn hm
  exact lv_ldcw C.1 C.2.1 C.2.2.2.1 (C.2.2.2.2.1 _ hl) hd (kk _ _ _ _ _ _ _ _ _ _ _ _ C _ _ _ hR hL hq hn hm)
theorem jx_ldcM {idx : Nat} (hd : decode cc pc = .ok (.ldc idx, 2)) (hl : Cond.classLink y.cls idx "[Ljava/lang/Object;" ∈ jx_tb) (kk : jx_J G y cc nL ret d Q (pc + 2) ls (.inr (some 2) :: st) M) : jx_J G y cc nL ret d Q pc ls st M := by
  intro p e s m args below meth c0 R Z n0 m0 C H lsA locs hR hL hq hn hm
  exact va_ldcM C.1 C.2.1 C.2.2.2.1 (C.2.2.2.2.1 _ hl) C.2.2.2.2.2.1.2.2.2.2.2.2.2.2.1 hd (kk _ _ _ _ _ _ _ _ _ _ _ _ C _ _ _ hR hL hq hn hm)
/-- two references: one object, or apart -/
theorem jx_ga_inj {s : State} (hF : jx_F G s) {x z : Option Nat} (h : x = z ∨ ((∀ b, x = some b → b = 1 ∨ 3 ≤ b) ∧ ∀ b, z = some b → b = 1 ∨ 3 ≤ b)) : x.map (jx_ga G) = z.map (jx_ga G) ↔ x = z := by
  refine ⟨fun e => ?_, fun e => by rw [e]⟩
  rcases h with h | ⟨h1, h2⟩
  · exact h
  · have g1 : jx_ga G 1 < jx_gB G := hF.2.2.2.2.1
    have ga : ∀ b, 3 ≤ b → jx_ga G b = jx_gB G + (b - 3) := hF.2.2.1
    cases x with
    | none => cases z with
      | none => rfl
      | some b => simp at e
    | some b => cases z with
      | none => simp at e
      | some b2 =>
        have e : jx_ga G b = jx_ga G b2 := by simpa using e
        rcases h1 b rfl with q1 | q1 <;> rcases h2 b2 rfl with q2 | q2
        · rw [q1, q2]
        · rw [q1, ga b2 q2] at e; omega
        · rw [q2, ga b q1] at e; omega
        · rw [ga b q1, ga b2 q2] at e
          rw [show b = b2 by omega]
theorem jx_acmp_eq {x z : Option Nat} {off : Int} {tgt : Nat} (hd : decode cc pc = .ok (.if_acmp .eq off, 3)) (ht : (pc : Int) + off = (tgt : Int)) (h : x = z ∨ ((∀ b, x = some b → b = 1 ∨ 3 ≤ b) ∧ ∀ b, z = some b → b = 1 ∨ 3 ≤ b)) (kt : x = z → jx_J G y cc nL ret d Q tgt ls st M) (kf : ¬ x = z → jx_J G y cc nL ret d Q (pc + 3) ls st M) : jx_J G y cc nL ret d Q pc ls (.inr z :: .inr x :: st) M := by
  intro p e s m args below meth c0 R Z n0 m0 C H lsA locs hR hL hq hn hm
  have hi := jx_ga_inj C.2.2.2.2.2.1 h
  exact lv_acmp_eq C.1 C.2.1 hd ht (fun q => kt (hi.mp q) _ _ _ _ _ _ _ _ _ _ _ _ C _ _ _ hR hL hq hn hm) (fun q => kf (fun w => q (hi.mpr w)) _ _ _ _ _ _ _ _ _ _ _ _ C _ _ _ hR hL hq hn hm)
theorem jx_acmp_ne {x z : Option Nat} {off : Int} {tgt : Nat} (hd : decode cc pc = .ok (.if_acmp .ne off, 3)) (ht : (pc : Int) + off = (tgt : Int)) (h : x = z ∨ ((∀ b, x = some b → b = 1 ∨ 3 ≤ b) ∧ ∀ b, z = some b → b = 1 ∨ 3 ≤ b)) (kt : ¬ x = z → jx_J G y cc nL ret d Q tgt ls st M) (kf : x = z → jx_J G y cc nL ret d Q (pc + 3) ls st M) : jx_J G y cc nL ret d Q pc ls (.inr z :: .inr x :: st) M := by
  intro p e s m args below meth c0 R Z n0 m0 C H lsA locs hR hL hq hn hm
  have hi := jx_ga_inj C.2.2.2.2.2.1 h
  exact lv_acmp_ne C.1 C.2.1 hd ht (fun q => kt (fun w => q (hi.mpr w)) _ _ _ _ _ _ _ _ _ _ _ _ C _ _ _ hR hL hq hn hm) (fun q => kf (hi.mp q) _ _ _ _ _ _ _ _ _ _ _ _ C _ _ _ hR hL hq hn hm)
/-- checkcast to the object's own class -/
theorem jx_cast {idx c : Nat} {r : vw_C} (hd : decode cc pc = .ok (.checkcast idx, 3)) (hK : (M.2.2.1 a).1 = c) (hc : jx_cl[c]? = some r) (hl : Cond.classLink y.cls idx r.1 ∈ jx_tb) (kk : jx_J G y cc nL ret d Q (pc + 3) ls (.inr (some a) :: st) M) : jx_J G y cc nL ret d Q pc ls (.inr (some a) :: st) M := by
  intro p e s m args below meth c0 R Z n0 m0 C H lsA locs hR hL hq hn hm
  have hF := C.2.2.2.2.2.1
  obtain ⟨cell, v1, v2, v3, v4, v5⟩ := hR.cls hF hK hc
  exact va_castS C.1 C.2.1 C.2.2.2.1 (C.2.2.2.2.1 _ hl) v5 ⟨cell, v1, by rw [v2]; rfl, v4⟩ hd (kk _ _ _ _ _ _ _ _ _ _ _ _ C _ _ _ hR hL hq hn hm)
theorem jx_words {st : List jx_V} : ((st.map (jx_cv G)).map fun v => v.category).sum = st.length := by
  induction st with
  | nil => rfl
  | cons v l ih =>
    rw [List.map_cons, List.map_cons, List.sum_cons, jx_cv1, List.length_cons, ih]
    omega
/-- the constructor of Object -/
theorem jx_objInit {idx : Nat} (hd : decode cc pc = .ok (.invokespecial idx, 3)) (hl : Cond.methodLink y.cls idx Lib.objectInit ∈ jx_tb) (h1 : Cond.instanceMethod Lib.objectInit ∈ jx_tb) (h2 : Cond.code Lib.objectInit ⟨#[0xb1]⟩ 1 none ∈ jx_tb) (hd1 : 1 ≤ d) (hst : st.length ≤ 8)
    (kk : jx_J G y cc nL ret d Q (pc + 3) ls st M) : jx_J G y cc nL ret d Q pc ls (.inr (some a) :: st) M := by
  intro p e s m args below meth c0 R Z n0 m0 C H lsA locs hR hL hq hn hm
  have hts := C.2.2.2.2.1
  have hfr : d ≤ R.frames := C.2.2.2.2.2.2.2.1
  have hlo : 40 * d ≤ R.locals := C.2.2.2.2.2.2.2.2.1
  refine W.objInit C.1 C.2.1 C.2.2.2.1 (hts _ hl) (hts _ h1) (hts _ h2) rfl (by rw [C.2.2.1]; exact hL.1) rfl hd (by omega) ?_ (kk _ _ _ _ _ _ _ _ _ _ _ _ C _ _ _ hR hL hq hn hm)
  show 2 * 0 + _ + 12 ≤ _
  rw [jx_words]
  omega
/-- getClass of an array of objects -/
theorem jx_getClass {idx : Nat} (hd : decode cc pc = .ok (.invokevirtual idx, 3)) (hK : (M.2.2.1 a).1 = 16) (h3 : 3 ≤ a) (hl : Cond.methodLink y.cls idx ⟨"java/lang/Object", "getClass", "()Ljava/lang/Class;"⟩ ∈ jx_tb) (h1 : Cond.selects "[Ljava/lang/Object;" ⟨"java/lang/Object", "getClass", "()Ljava/lang/Class;"⟩ ⟨"java/lang/Object", "getClass", "()Ljava/lang/Class;"⟩ ∈ jx_tb)
    (h2 : Cond.instanceMethod ⟨"java/lang/Object", "getClass", "()Ljava/lang/Class;"⟩ ∈ jx_tb) (h4 : Cond.native ⟨"java/lang/Object", "getClass", "()Ljava/lang/Class;"⟩ ∈ jx_tb) (hd1 : 1 ≤ d) (hst : st.length ≤ 8)
    (kk : jx_J G y cc nL ret d Q (pc + 3) ls (.inr (some 2) :: st) M) : jx_J G y cc nL ret d Q pc ls (.inr (some a) :: st) M := by
  intro p e s m args below meth c0 R Z n0 m0 C H lsA locs hR hL hq hn hm
  have hts := C.2.2.2.2.1
  have hF := C.2.2.2.2.2.1
  have hfr : d ≤ R.frames := C.2.2.2.2.2.2.2.1
  have hlo : 40 * d ≤ R.locals := C.2.2.2.2.2.2.2.2.1
  obtain ⟨g1, g2⟩ := hR.arr h3 (by omega) (by omega)
  have hRA := (hF.arrOf (c := 16) (by omega) (by omega)).2
  rw [hK] at g2
  obtain ⟨-, -, -, -, -, hnm⟩ := hRA
  exact va_getC C.1 C.2.1 (by rw [C.2.2.1]; exact hL.1.symm) C.2.2.2.1 (hts _ hl) (va_Dc.use hF.2.2.2.2.2.2.2.2.2.1) (hts _ h1) (hts _ h2) (hts _ h4) hF.2.2.2.2.2.2.2.2.1 ⟨_, g2, rfl, hnm⟩ (by omega) (by rw [jx_words]; omega) hd (kk _ _ _ _ _ _ _ _ _ _ _ _ C _ _ _ hR hL hq hn hm)
end J6
