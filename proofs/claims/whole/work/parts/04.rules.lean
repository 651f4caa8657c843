/-- a return: which instruction stands there -/
def jx_T (cc : ByteArray) (ret : Option FieldType) (pc : Nat) (r : Option jx_V) : Prop := match r with
  | none => ret = none ∧ decode cc pc = .ok (.return_, 1)
  | some (.inl v) => (∃ ty, ret = some ty ∧ narrow ty (.int v) = .int v) ∧ decode cc pc = .ok (.ireturn, 1)
  | some (.inr _) => (∃ ty, ret = some ty ∧ ((∃ n, ty = .object n) ∨ ∃ t, ty = .array t)) ∧ decode cc pc = .ok (.areturn, 1)
/-- what holds all through a method -/
def jx_X (G : jx_G) (y : MethodName) (cc : ByteArray) (nL : Nat) (ret : Option FieldType) (d : Nat) (Q : Option jx_V → jx_M → Prop) (p : Program) (e : Env) (s : State) (m : MethodId) (args : Array Value) (below : List Frame) (meth : Method) (c : Code) (R : Room) (Z : State → Prop) (n0 m0 : Nat) : Prop :=
  p.tables.exec = Jvm.exec ∧ c.code = cc ∧ c.maxLocals = nL ∧ s.vm.findClass y.cls = some m.cls ∧ (∀ w ∈ jx_tb, w.before args s = true) ∧ jx_F G s ∧ meth.name = y.name ∧ d ≤ R.frames ∧ 40 * d ≤ R.locals ∧ R.cells + n0 = 600003 ∧ R.slots + m0 = 7302250 ∧ s.heap.size + 3 = jx_gB G + n0 ∧ jx_hs s.heap = jx_hs (jx_gH G) + m0 ∧
  ∀ (r : Option jx_V) (M : jx_M) (H : Heap) (lsA : Array Slot) (locs : List Loc) (pc : Nat), Q r M → jx_R G M H → (∀ q ∈ locs, jx_gB G ≤ q.base) → n0 ≤ M.1 → m0 ≤ M.2.1 → jx_T cc ret pc r → W p (jx_gl G) e R s m args below meth c H locs (M.1 - n0) (M.2.1 - m0) Z (F0 m pc lsA (r.toList.map (jx_cv G)))
/-- the method y, now at pc with locals ls, stack st and memory M, comes to its end with Q; its calls nest d deep at most -/
def jx_J (G : jx_G) (y : MethodName) (cc : ByteArray) (nL : Nat) (ret : Option FieldType) (d : Nat) (Q : Option jx_V → jx_M → Prop) (pc : Nat) (ls : List (Option jx_V)) (st : List jx_V) (M : jx_M) : Prop :=
  ∀ (p : Program) (e : Env) (s : State) (m : MethodId) (args : Array Value) (below : List Frame) (meth : Method) (c : Code) (R : Room) (Z : State → Prop) (n0 m0 : Nat), jx_X G y cc nL ret d Q p e s m args below meth c R Z n0 m0 →
  ∀ (H : Heap) (lsA : Array Slot) (locs : List Loc), jx_R G M H → jx_L G lsA nL ls → (∀ q ∈ locs, jx_gB G ≤ q.base) → n0 ≤ M.1 → m0 ≤ M.2.1 → W p (jx_gl G) e R s m args below meth c H locs (M.1 - n0) (M.2.1 - m0) Z (F0 m pc lsA (st.map (jx_cv G)))
/-- the contract of a method: from memory M with arguments av -/
def jx_C (G : jx_G) (y : MethodName) (cc : ByteArray) (nL : Nat) (ret : Option FieldType) (d : Nat) (av : List jx_V) (M : jx_M) (Q : Option jx_V → jx_M → Prop) : Prop :=
  Met (jx_gl G) y (.code y cc nL ret :: jx_tb) { frames := d, cells := 600003 - M.1, slots := 7302250 - M.2.1, locals := 40 * d } (fun a U => a = (av.map (jx_cv G)).toArray ∧ jx_F G U ∧ jx_R G M U.heap)
    (fun _ _ o t => ∃ (r : Option jx_V) (M' : jx_M), o = .returned (r.map (jx_cv G)) ∧ Q r M' ∧ jx_R G M' t.heap ∧ M.1 ≤ M'.1 ∧ M.2.1 ≤ M'.2.1) (600003 - M.1) (7302250 - M.2.1) (fun q => jx_gB G ≤ q)
section J1
variable {G : jx_G} {y : MethodName} {cc : ByteArray} {nL : Nat} {ret : Option FieldType} {d : Nat} {Q : Option jx_V → jx_M → Prop} {pc : Nat} {ls : List (Option jx_V)} {st : List jx_V} {M : jx_M}
theorem jx_sl (G : jx_G) (av : List jx_V) : lg_sl (av.map (jx_cv G)) = av.map (fun v => Slot.val (jx_cv G v)) := by
  induction av with
  | nil => rfl
  | cons v l ih =>
    unfold lg_sl at ih ⊢
    rw [List.map_cons, List.flatMap_cons, ih, List.map_cons, jx_cv1]
    rfl
theorem jx_C_of {av : List jx_V} (hy : plainName y.cls = true) (hl : av.length ≤ nL) (k : jx_J G y cc nL ret d Q 0 (av.map some ++ List.replicate (nL - av.length) none) [] M) : jx_C G y cc nL ret d av M Q := by
  refine Met.ofW (cc := cc) (maxL := nL) (ret := ret) hy rfl ?_
  intro p e s m args below meth c s₁ B hml hv
  obtain ⟨rfl, hF, hR⟩ := hv
  have hr := B.returns
  have hlocks := B.notSynchronized
  have hx := B.exec
  have hb := B.bytes
  have hts := atoms_spec (ws := .code y cc nL ret :: jx_tb) B.pre
  rw [lg_entry_eq]
  have hent := lv_entry (av.map (jx_cv G)) (n := nL) (by rw [jx_sl, List.length_map]; exact hl)
  obtain ⟨r1, r2, r3, r4, r5, r6⟩ := id hR
  have hk := k p e s m (av.map (jx_cv G)).toArray below meth c (headSpec (.code y cc nL ret :: jx_tb) { frames := d, cells := 600003 - M.1, slots := 7302250 - M.2.1, locals := 40 * d }).room (MQ below (fun _ _ o t => ∃ (r : Option jx_V) (M' : jx_M), o = .returned (r.map (jx_cv G)) ∧ Q r M' ∧ jx_R G M' t.heap ∧ M.1 ≤ M'.1 ∧ M.2.1 ≤ M'.2.1) (av.map (jx_cv G)).toArray s (600003 - M.1) (7302250 - M.2.1) (fun q => jx_gB G ≤ q)) M.1 M.2.1
    ⟨hx, hb, hml, findClass_of_methodNamed B.named, fun w hw => hts w (List.mem_cons_of_mem _ hw), hF, (name_of_methodNamed B.named B.method).1, Nat.le_refl _, Nat.le_refl _, by show 600003 - M.1 + M.1 = _; omega, by show 7302250 - M.2.1 + M.2.1 = _; omega, r1, r3, ?_⟩
    s.heap ((lg_sl (av.map (jx_cv G)) ++ List.replicate (nL - (lg_sl (av.map (jx_cv G))).length) Slot.unset).toArray) [] hR ?_ (fun q h => absurd h List.not_mem_nil) (Nat.le_refl _) (Nat.le_refl _)
  · rw [Nat.sub_self, Nat.sub_self] at hk
    exact hk
  · intro r M' H lsA locs pc hQ hR' hq hn hm hT
    obtain ⟨s1, s2, s3, s4, s5, s6⟩ := id hR'
    refine W.widen (k := 600003 - M.1) (n := 7302250 - M.2.1) (by omega) (by omega) ?_
    match r, hT with
    | none, hT => exact W.vret hx hb (hr.trans hT.1) (fun t ht hW => ⟨none, M', rfl, hQ, by rw [ht]; exact hR', hn, hm⟩) hq hT.2
    | some (.inl v), hT =>
      obtain ⟨⟨ty, h1, h2⟩, h3⟩ := hT
      exact W.zret hx hb (hr.trans h1) h2 (fun t ht hW => ⟨some (.inl v), M', rfl, hQ, by rw [ht]; exact hR', hn, hm⟩) hq h3
    | some (.inr v), hT =>
      obtain ⟨⟨ty, h1, h2⟩, h3⟩ := hT
      exact W.aret hx hb (hr.trans h1) h2 (by cases v with | none => exact Or.inl rfl | some a => exact Or.inr ⟨_, rfl⟩) (fun t ht hW => ⟨some (.inr v), M', rfl, hQ, by rw [ht]; exact hR', hn, hm⟩) hq h3
  · refine ⟨hent.1, by rw [List.length_append, List.length_map, List.length_replicate]; omega, hent.2.1, fun i v hi => ?_⟩
    have hil : i < av.length := by
      rcases Nat.lt_or_ge i av.length with h | h
      · exact h
      · rw [List.getElem?_append_right (by rw [List.length_map]; exact h), List.getElem?_replicate] at hi
        split at hi <;> cases hi
    rw [List.getElem?_append_left (by rw [List.length_map]; exact hil), List.getElem?_map] at hi
    cases hv : av[i]? with
    | none => rw [hv] at hi; cases hi
    | some w =>
      rw [hv] at hi
      cases hi
      rw [List.getElem?_toArray, jx_sl, List.getElem?_append_left (by rw [List.length_map]; exact hil), List.getElem?_map, hv]
      rfl

theorem jx_iconst {n : Int} {v : Int32} (hd : decode cc pc = .ok (.iconst n, 1)) (hv : Int32.ofInt n = v) (k : jx_J G y cc nL ret d Q (pc + 1) ls (.inl v :: st) M) : jx_J G y cc nL ret d Q pc ls st M := by
  intro p e s m args below meth c R Z n0 m0 C H lsA locs hR hL hq hn hm
  exact lv_iconst C.1 C.2.1 hd hv (k _ _ _ _ _ _ _ _ _ _ _ _ C _ _ _ hR hL hq hn hm)
theorem jx_bipush {n : Int} {v : Int32} (hd : decode cc pc = .ok (.bipush n, 2)) (hv : (Int8.ofInt n).toInt32 = v) (k : jx_J G y cc nL ret d Q (pc + 2) ls (.inl v :: st) M) : jx_J G y cc nL ret d Q pc ls st M := by
  intro p e s m args below meth c R Z n0 m0 C H lsA locs hR hL hq hn hm
  exact lv_bipush C.1 C.2.1 hd hv (k _ _ _ _ _ _ _ _ _ _ _ _ C _ _ _ hR hL hq hn hm)
theorem jx_sipush {n : Int} {v : Int32} (hd : decode cc pc = .ok (.sipush n, 3)) (hv : (Int16.ofInt n).toInt32 = v) (k : jx_J G y cc nL ret d Q (pc + 3) ls (.inl v :: st) M) : jx_J G y cc nL ret d Q pc ls st M := by
  intro p e s m args below meth c R Z n0 m0 C H lsA locs hR hL hq hn hm
  exact lv_sipush C.1 C.2.1 hd hv (k _ _ _ _ _ _ _ _ _ _ _ _ C _ _ _ hR hL hq hn hm)
theorem jx_null  (hd : decode cc pc = .ok (.aconst_null, 1)) (k : jx_J G y cc nL ret d Q (pc + 1) ls (.inr none :: st) M) : jx_J G y cc nL ret d Q pc ls st M := by
  intro p e s m args below meth c R Z n0 m0 C H lsA locs hR hL hq hn hm
  exact lv_null C.1 C.2.1 hd (k _ _ _ _ _ _ _ _ _ _ _ _ C _ _ _ hR hL hq hn hm)
theorem jx_iload_n {j : Fin 4} {x : Int32} (hd : decode cc pc = .ok (.iload_n j, 1)) (hv : ls[(j : Nat)]? = some (some (.inl x))) (k : jx_J G y cc nL ret d Q (pc + 1) ls (.inl x :: st) M) : jx_J G y cc nL ret d Q pc ls st M := by
  intro p e s m args below meth c R Z n0 m0 C H lsA locs hR hL hq hn hm
  exact lv_iload_n C.1 C.2.1 hd rfl (hL.2.2.2 _ _ hv) (k _ _ _ _ _ _ _ _ _ _ _ _ C _ _ _ hR hL hq hn hm)
theorem jx_iload {j : Nat} {x : Int32} (hd : decode cc pc = .ok (.iload j, 2)) (hv : ls[j]? = some (some (.inl x))) (k : jx_J G y cc nL ret d Q (pc + 2) ls (.inl x :: st) M) : jx_J G y cc nL ret d Q pc ls st M := by
  intro p e s m args below meth c R Z n0 m0 C H lsA locs hR hL hq hn hm
  exact lv_iload C.1 C.2.1 hd (hL.2.2.2 _ _ hv) (k _ _ _ _ _ _ _ _ _ _ _ _ C _ _ _ hR hL hq hn hm)
theorem jx_aload_n {j : Fin 4} {r : Option Nat} (hd : decode cc pc = .ok (.aload_n j, 1)) (hv : ls[(j : Nat)]? = some (some (.inr r))) (k : jx_J G y cc nL ret d Q (pc + 1) ls (.inr r :: st) M) : jx_J G y cc nL ret d Q pc ls st M := by
  intro p e s m args below meth c R Z n0 m0 C H lsA locs hR hL hq hn hm
  cases r with
  | none => exact lv_aload_nN C.1 C.2.1 hd rfl (hL.2.2.2 _ _ hv) (k _ _ _ _ _ _ _ _ _ _ _ _ C _ _ _ hR hL hq hn hm)
  | some a => exact lv_aload_n C.1 C.2.1 hd rfl (hL.2.2.2 _ _ hv) (k _ _ _ _ _ _ _ _ _ _ _ _ C _ _ _ hR hL hq hn hm)
theorem jx_aload {j : Nat} {r : Option Nat} (hd : decode cc pc = .ok (.aload j, 2)) (hv : ls[j]? = some (some (.inr r))) (k : jx_J G y cc nL ret d Q (pc + 2) ls (.inr r :: st) M) : jx_J G y cc nL ret d Q pc ls st M := by
  intro p e s m args below meth c R Z n0 m0 C H lsA locs hR hL hq hn hm
  cases r with
  | none => exact lv_aloadN C.1 C.2.1 hd (hL.2.2.2 _ _ hv) (k _ _ _ _ _ _ _ _ _ _ _ _ C _ _ _ hR hL hq hn hm)
  | some a => exact lv_aload C.1 C.2.1 hd (hL.2.2.2 _ _ hv) (k _ _ _ _ _ _ _ _ _ _ _ _ C _ _ _ hR hL hq hn hm)
theorem jx_istore_n {j : Fin 4} {x : Int32} (hd : decode cc pc = .ok (.istore_n j, 1)) (hj : (j : Nat) < nL) (k : jx_J G y cc nL ret d Q (pc + 1) (ls.set j (some (.inl x))) st M) : jx_J G y cc nL ret d Q pc ls (.inl x :: st) M := by
  intro p e s m args below meth c R Z n0 m0 C H lsA locs hR hL hq hn hm
  exact lv_istore_n C.1 C.2.1 hd rfl hL.has hj rfl (fun lsB h9 => (k _ _ _ _ _ _ _ _ _ _ _ _ C _ _ _ hR (hL.store (v := .inl x) h9) hq hn hm))
theorem jx_istore {j : Nat} {x : Int32} (hd : decode cc pc = .ok (.istore j, 2)) (hj : j < nL) (k : jx_J G y cc nL ret d Q (pc + 2) (ls.set j (some (.inl x))) st M) : jx_J G y cc nL ret d Q pc ls (.inl x :: st) M := by
  intro p e s m args below meth c R Z n0 m0 C H lsA locs hR hL hq hn hm
  exact lv_istore C.1 C.2.1 hd hL.has hj rfl (fun lsB h9 => (k _ _ _ _ _ _ _ _ _ _ _ _ C _ _ _ hR (hL.store (v := .inl x) h9) hq hn hm))
theorem jx_astore_n {j : Fin 4} {r : Option Nat} (hd : decode cc pc = .ok (.astore_n j, 1)) (hj : (j : Nat) < nL) (k : jx_J G y cc nL ret d Q (pc + 1) (ls.set j (some (.inr r))) st M) : jx_J G y cc nL ret d Q pc ls (.inr r :: st) M := by
  intro p e s m args below meth c R Z n0 m0 C H lsA locs hR hL hq hn hm
  cases r with
  | none => exact lv_astore_nN C.1 C.2.1 hd rfl hL.has hj rfl (fun lsB h9 => (k _ _ _ _ _ _ _ _ _ _ _ _ C _ _ _ hR (hL.store (v := .inr none) h9) hq hn hm))
  | some a => exact lv_astore_n C.1 C.2.1 hd rfl hL.has hj rfl (fun lsB h9 => (k _ _ _ _ _ _ _ _ _ _ _ _ C _ _ _ hR (hL.store (v := .inr (some a)) h9) hq hn hm))
theorem jx_astore {j : Nat} {r : Option Nat} (hd : decode cc pc = .ok (.astore j, 2)) (hj : j < nL) (k : jx_J G y cc nL ret d Q (pc + 2) (ls.set j (some (.inr r))) st M) : jx_J G y cc nL ret d Q pc ls (.inr r :: st) M := by
  intro p e s m args below meth c R Z n0 m0 C H lsA locs hR hL hq hn hm
  cases r with
  | none => exact lv_astoreN C.1 C.2.1 hd hL.has hj rfl (fun lsB h9 => (k _ _ _ _ _ _ _ _ _ _ _ _ C _ _ _ hR (hL.store (v := .inr none) h9) hq hn hm))
  | some a => exact lv_astore C.1 C.2.1 hd hL.has hj rfl (fun lsB h9 => (k _ _ _ _ _ _ _ _ _ _ _ _ C _ _ _ hR (hL.store (v := .inr (some a)) h9) hq hn hm))
theorem jx_iinc {j : Nat} {n : Int} {x v : Int32} (hd : decode cc pc = .ok (.iinc j n, 3)) (hv : ls[j]? = some (some (.inl x))) (he : x + Int32.ofInt n = v) (k : jx_J G y cc nL ret d Q (pc + 3) (ls.set j (some (.inl v))) st M) : jx_J G y cc nL ret d Q pc ls st M := by
  intro p e s m args below meth c R Z n0 m0 C H lsA locs hR hL hq hn hm
  have hj : j < nL := by rw [← hL.2.1]; exact (List.getElem?_eq_some_iff.mp hv).1
  obtain ⟨i9, hi9⟩ := List.getElem?_of_mem (jx_ps_mem (G := G) hv)
  exact lv_iinc C.1 C.2.1 hd hL.has hi9 he hj rfl (fun lsB h9 => (k _ _ _ _ _ _ _ _ _ _ _ _ C _ _ _ hR (hL.store (v := .inl v) h9) hq hn hm))
theorem jx_iadd {x z : Int32} (hd : decode cc pc = .ok (.iadd, 1)) (k : jx_J G y cc nL ret d Q (pc + 1) ls (.inl (x + z) :: st) M) : jx_J G y cc nL ret d Q pc ls (.inl z :: .inl x :: st) M := by
  intro p e s m args below meth c R Z n0 m0 C H lsA locs hR hL hq hn hm
  exact lv_iadd C.1 C.2.1 hd (k _ _ _ _ _ _ _ _ _ _ _ _ C _ _ _ hR hL hq hn hm)
theorem jx_isub {x z : Int32} (hd : decode cc pc = .ok (.isub, 1)) (k : jx_J G y cc nL ret d Q (pc + 1) ls (.inl (x - z) :: st) M) : jx_J G y cc nL ret d Q pc ls (.inl z :: .inl x :: st) M := by
  intro p e s m args below meth c R Z n0 m0 C H lsA locs hR hL hq hn hm
  exact lv_isub C.1 C.2.1 hd (k _ _ _ _ _ _ _ _ _ _ _ _ C _ _ _ hR hL hq hn hm)
theorem jx_imul {x z : Int32} (hd : decode cc pc = .ok (.imul, 1)) (k : jx_J G y cc nL ret d Q (pc + 1) ls (.inl (x * z) :: st) M) : jx_J G y cc nL ret d Q pc ls (.inl z :: .inl x :: st) M := by
  intro p e s m args below meth c R Z n0 m0 C H lsA locs hR hL hq hn hm
  exact lv_imul C.1 C.2.1 hd (k _ _ _ _ _ _ _ _ _ _ _ _ C _ _ _ hR hL hq hn hm)
theorem jx_iand {x z : Int32} (hd : decode cc pc = .ok (.iand, 1)) (k : jx_J G y cc nL ret d Q (pc + 1) ls (.inl (x &&& z) :: st) M) : jx_J G y cc nL ret d Q pc ls (.inl z :: .inl x :: st) M := by
  intro p e s m args below meth c R Z n0 m0 C H lsA locs hR hL hq hn hm
  exact lv_iand C.1 C.2.1 hd (k _ _ _ _ _ _ _ _ _ _ _ _ C _ _ _ hR hL hq hn hm)
theorem jx_ior {x z : Int32} (hd : decode cc pc = .ok (.ior, 1)) (k : jx_J G y cc nL ret d Q (pc + 1) ls (.inl (x ||| z) :: st) M) : jx_J G y cc nL ret d Q pc ls (.inl z :: .inl x :: st) M := by
  intro p e s m args below meth c R Z n0 m0 C H lsA locs hR hL hq hn hm
  exact lv_ior C.1 C.2.1 hd (k _ _ _ _ _ _ _ _ _ _ _ _ C _ _ _ hR hL hq hn hm)
theorem jx_ixor {x z : Int32} (hd : decode cc pc = .ok (.ixor, 1)) (k : jx_J G y cc nL ret d Q (pc + 1) ls (.inl (x ^^^ z) :: st) M) : jx_J G y cc nL ret d Q pc ls (.inl z :: .inl x :: st) M := by
  intro p e s m args below meth c R Z n0 m0 C H lsA locs hR hL hq hn hm
  exact lv_ixor C.1 C.2.1 hd (k _ _ _ _ _ _ _ _ _ _ _ _ C _ _ _ hR hL hq hn hm)
theorem jx_ishl {x z : Int32} (hd : decode cc pc = .ok (.ishl, 1)) (k : jx_J G y cc nL ret d Q (pc + 1) ls (.inl (x <<< (z &&& 31)) :: st) M) : jx_J G y cc nL ret d Q pc ls (.inl z :: .inl x :: st) M := by
  intro p e s m args below meth c R Z n0 m0 C H lsA locs hR hL hq hn hm
  exact lv_ishl C.1 C.2.1 hd (k _ _ _ _ _ _ _ _ _ _ _ _ C _ _ _ hR hL hq hn hm)
theorem jx_ishr {x z : Int32} (hd : decode cc pc = .ok (.ishr, 1)) (k : jx_J G y cc nL ret d Q (pc + 1) ls (.inl (x >>> (z &&& 31)) :: st) M) : jx_J G y cc nL ret d Q pc ls (.inl z :: .inl x :: st) M := by
  intro p e s m args below meth c R Z n0 m0 C H lsA locs hR hL hq hn hm
  exact lv_ishr C.1 C.2.1 hd (k _ _ _ _ _ _ _ _ _ _ _ _ C _ _ _ hR hL hq hn hm)
theorem jx_iushr {x z : Int32} (hd : decode cc pc = .ok (.iushr, 1)) (k : jx_J G y cc nL ret d Q (pc + 1) ls (.inl (x.toUInt32 >>> (z.toUInt32 &&& Int32.toUInt32 31)).toInt32 :: st) M) : jx_J G y cc nL ret d Q pc ls (.inl z :: .inl x :: st) M := by
  intro p e s m args below meth c R Z n0 m0 C H lsA locs hR hL hq hn hm
  exact lv_iushr C.1 C.2.1 hd rfl (k _ _ _ _ _ _ _ _ _ _ _ _ C _ _ _ hR hL hq hn hm)
theorem jx_idiv {x z : Int32} (hd : decode cc pc = .ok (.idiv, 1)) (hz : ¬ z = 0) (k : jx_J G y cc nL ret d Q (pc + 1) ls (.inl (x / z) :: st) M) : jx_J G y cc nL ret d Q pc ls (.inl z :: .inl x :: st) M := by
  intro p e s m args below meth c R Z n0 m0 C H lsA locs hR hL hq hn hm
  exact lv_idiv C.1 C.2.1 hd hz (k _ _ _ _ _ _ _ _ _ _ _ _ C _ _ _ hR hL hq hn hm)
theorem jx_irem {x z : Int32} (hd : decode cc pc = .ok (.irem, 1)) (hz : ¬ z = 0) (k : jx_J G y cc nL ret d Q (pc + 1) ls (.inl (x - x / z * z) :: st) M) : jx_J G y cc nL ret d Q pc ls (.inl z :: .inl x :: st) M := by
  intro p e s m args below meth c R Z n0 m0 C H lsA locs hR hL hq hn hm
  exact lv_irem C.1 C.2.1 hd hz (k _ _ _ _ _ _ _ _ _ _ _ _ C _ _ _ hR hL hq hn hm)
theorem jx_dup {v : jx_V} (hd : decode cc pc = .ok (.dup, 1)) (k : jx_J G y cc nL ret d Q (pc + 1) ls (v :: v :: st) M) : jx_J G y cc nL ret d Q pc ls (v :: st) M := by
  intro p e s m args below meth c R Z n0 m0 C H lsA locs hR hL hq hn hm
  exact lv_dup C.1 C.2.1 hd (jx_cv1 G v) (k _ _ _ _ _ _ _ _ _ _ _ _ C _ _ _ hR hL hq hn hm)
theorem jx_pop {v : jx_V} (hd : decode cc pc = .ok (.pop, 1)) (k : jx_J G y cc nL ret d Q (pc + 1) ls st M) : jx_J G y cc nL ret d Q pc ls (v :: st) M := by
  intro p e s m args below meth c R Z n0 m0 C H lsA locs hR hL hq hn hm
  exact lv_pop C.1 C.2.1 hd (jx_cv1 G v) (k _ _ _ _ _ _ _ _ _ _ _ _ C _ _ _ hR hL hq hn hm)
theorem jx_dup_x1 {v u : jx_V} (hd : decode cc pc = .ok (.dup_x1, 1)) (k : jx_J G y cc nL ret d Q (pc + 1) ls (v :: u :: v :: st) M) : jx_J G y cc nL ret d Q pc ls (v :: u :: st) M := by
  intro p e s m args below meth c R Z n0 m0 C H lsA locs hR hL hq hn hm
  exact lv_dup_x1 C.1 C.2.1 hd (jx_cv1 G v) (jx_cv1 G u) (k _ _ _ _ _ _ _ _ _ _ _ _ C _ _ _ hR hL hq hn hm)
theorem jx_goto {off : Int} {tgt : Nat} (hd : decode cc pc = .ok (.goto off, 3)) (ht : (pc : Int) + off = (tgt : Int)) (k : jx_J G y cc nL ret d Q tgt ls st M) : jx_J G y cc nL ret d Q pc ls st M := by
  intro p e s m args below meth c R Z n0 m0 C H lsA locs hR hL hq hn hm
  exact lv_goto C.1 C.2.1 hd ht (k _ _ _ _ _ _ _ _ _ _ _ _ C _ _ _ hR hL hq hn hm)
theorem jx_icmp_eq {x z : Int32} {off : Int} {tgt : Nat} (hd : decode cc pc = .ok (.if_icmp .eq off, 3)) (ht : (pc : Int) + off = (tgt : Int)) (kt : x = z → jx_J G y cc nL ret d Q tgt ls st M) (kf : ¬ x = z → jx_J G y cc nL ret d Q (pc + 3) ls st M) : jx_J G y cc nL ret d Q pc ls (.inl z :: .inl x :: st) M := by
  intro p e s m args below meth c R Z n0 m0 C H lsA locs hR hL hq hn hm
  exact lv_icmp_eq C.1 C.2.1 hd ht (fun h9 => kt h9 _ _ _ _ _ _ _ _ _ _ _ _ C _ _ _ hR hL hq hn hm) (fun h9 => kf h9 _ _ _ _ _ _ _ _ _ _ _ _ C _ _ _ hR hL hq hn hm)
theorem jx_if_eq {x : Int32} {off : Int} {tgt : Nat} (hd : decode cc pc = .ok (.ifCond .eq off, 3)) (ht : (pc : Int) + off = (tgt : Int)) (kt : x = 0 → jx_J G y cc nL ret d Q tgt ls st M) (kf : ¬ x = 0 → jx_J G y cc nL ret d Q (pc + 3) ls st M) : jx_J G y cc nL ret d Q pc ls (.inl x :: st) M := by
  intro p e s m args below meth c R Z n0 m0 C H lsA locs hR hL hq hn hm
  exact lv_if_eq C.1 C.2.1 hd ht (fun h9 => kt h9 _ _ _ _ _ _ _ _ _ _ _ _ C _ _ _ hR hL hq hn hm) (fun h9 => kf h9 _ _ _ _ _ _ _ _ _ _ _ _ C _ _ _ hR hL hq hn hm)
theorem jx_icmp_ne {x z : Int32} {off : Int} {tgt : Nat} (hd : decode cc pc = .ok (.if_icmp .ne off, 3)) (ht : (pc : Int) + off = (tgt : Int)) (kt : ¬ x = z → jx_J G y cc nL ret d Q tgt ls st M) (kf : x = z → jx_J G y cc nL ret d Q (pc + 3) ls st M) : jx_J G y cc nL ret d Q pc ls (.inl z :: .inl x :: st) M := by
  intro p e s m args below meth c R Z n0 m0 C H lsA locs hR hL hq hn hm
  exact lv_icmp_ne C.1 C.2.1 hd ht (fun h9 => kt h9 _ _ _ _ _ _ _ _ _ _ _ _ C _ _ _ hR hL hq hn hm) (fun h9 => kf h9 _ _ _ _ _ _ _ _ _ _ _ _ C _ _ _ hR hL hq hn hm)
theorem jx_if_ne {x : Int32} {off : Int} {tgt : Nat} (hd : decode cc pc = .ok (.ifCond .ne off, 3)) (ht : (pc : Int) + off = (tgt : Int)) (kt : ¬ x = 0 → jx_J G y cc nL ret d Q tgt ls st M) (kf : x = 0 → jx_J G y cc nL ret d Q (pc + 3) ls st M) : jx_J G y cc nL ret d Q pc ls (.inl x :: st) M := by
  intro p e s m args below meth c R Z n0 m0 C H lsA locs hR hL hq hn hm
  exact lv_if_ne C.1 C.2.1 hd ht (fun h9 => kt h9 _ _ _ _ _ _ _ _ _ _ _ _ C _ _ _ hR hL hq hn hm) (fun h9 => kf h9 _ _ _ _ _ _ _ _ _ _ _ _ C _ _ _ hR hL hq hn hm)
theorem jx_icmp_lt {x z : Int32} {off : Int} {tgt : Nat} (hd : decode cc pc = .ok (.if_icmp .lt off, 3)) (ht : (pc : Int) + off = (tgt : Int)) (kt : x < z → jx_J G y cc nL ret d Q tgt ls st M) (kf : ¬ x < z → jx_J G y cc nL ret d Q (pc + 3) ls st M) : jx_J G y cc nL ret d Q pc ls (.inl z :: .inl x :: st) M := by
  intro p e s m args below meth c R Z n0 m0 C H lsA locs hR hL hq hn hm
  exact lv_icmp_lt C.1 C.2.1 hd ht (fun h9 => kt h9 _ _ _ _ _ _ _ _ _ _ _ _ C _ _ _ hR hL hq hn hm) (fun h9 => kf h9 _ _ _ _ _ _ _ _ _ _ _ _ C _ _ _ hR hL hq hn hm)
theorem jx_if_lt {x : Int32} {off : Int} {tgt : Nat} (hd : decode cc pc = .ok (.ifCond .lt off, 3)) (ht : (pc : Int) + off = (tgt : Int)) (kt : x < 0 → jx_J G y cc nL ret d Q tgt ls st M) (kf : ¬ x < 0 → jx_J G y cc nL ret d Q (pc + 3) ls st M) : jx_J G y cc nL ret d Q pc ls (.inl x :: st) M := by
  intro p e s m args below meth c R Z n0 m0 C H lsA locs hR hL hq hn hm
  exact lv_if_lt C.1 C.2.1 hd ht (fun h9 => kt h9 _ _ _ _ _ _ _ _ _ _ _ _ C _ _ _ hR hL hq hn hm) (fun h9 => kf h9 _ _ _ _ _ _ _ _ _ _ _ _ C _ _ _ hR hL hq hn hm)
theorem jx_icmp_ge {x z : Int32} {off : Int} {tgt : Nat} (hd : decode cc pc = .ok (.if_icmp .ge off, 3)) (ht : (pc : Int) + off = (tgt : Int)) (kt : z ≤ x → jx_J G y cc nL ret d Q tgt ls st M) (kf : ¬ z ≤ x → jx_J G y cc nL ret d Q (pc + 3) ls st M) : jx_J G y cc nL ret d Q pc ls (.inl z :: .inl x :: st) M := by
  intro p e s m args below meth c R Z n0 m0 C H lsA locs hR hL hq hn hm
  exact lv_icmp_ge C.1 C.2.1 hd ht (fun h9 => kt h9 _ _ _ _ _ _ _ _ _ _ _ _ C _ _ _ hR hL hq hn hm) (fun h9 => kf h9 _ _ _ _ _ _ _ _ _ _ _ _ C _ _ _ hR hL hq hn hm)
theorem jx_if_ge {x : Int32} {off : Int} {tgt : Nat} (hd : decode cc pc = .ok (.ifCond .ge off, 3)) (ht : (pc : Int) + off = (tgt : Int)) (kt : 0 ≤ x → jx_J G y cc nL ret d Q tgt ls st M) (kf : ¬ 0 ≤ x → jx_J G y cc nL ret d Q (pc + 3) ls st M) : jx_J G y cc nL ret d Q pc ls (.inl x :: st) M := by
  intro p e s m args below meth c R Z n0 m0 C H lsA locs hR hL hq hn hm
  exact lv_if_ge C.1 C.2.1 hd ht (fun h9 => kt h9 _ _ _ _ _ _ _ _ _ _ _ _ C _ _ _ hR hL hq hn hm) (fun h9 => kf h9 _ _ _ _ _ _ _ _ _ _ _ _ C _ _ _ hR hL hq hn hm)
theorem jx_icmp_gt {x z : Int32} {off : Int} {tgt : Nat} (hd : decode cc pc = .ok (.if_icmp .gt off, 3)) (ht : (pc : Int) + off = (tgt : Int)) (kt : z < x → jx_J G y cc nL ret d Q tgt ls st M) (kf : ¬ z < x → jx_J G y cc nL ret d Q (pc + 3) ls st M) : jx_J G y cc nL ret d Q pc ls (.inl z :: .inl x :: st) M := by
  intro p e s m args below meth c R Z n0 m0 C H lsA locs hR hL hq hn hm
  exact lv_icmp_gt C.1 C.2.1 hd ht (fun h9 => kt h9 _ _ _ _ _ _ _ _ _ _ _ _ C _ _ _ hR hL hq hn hm) (fun h9 => kf h9 _ _ _ _ _ _ _ _ _ _ _ _ C _ _ _ hR hL hq hn hm)
theorem jx_if_gt {x : Int32} {off : Int} {tgt : Nat} (hd : decode cc pc = .ok (.ifCond .gt off, 3)) (ht : (pc : Int) + off = (tgt : Int)) (kt : 0 < x → jx_J G y cc nL ret d Q tgt ls st M) (kf : ¬ 0 < x → jx_J G y cc nL ret d Q (pc + 3) ls st M) : jx_J G y cc nL ret d Q pc ls (.inl x :: st) M := by
  intro p e s m args below meth c R Z n0 m0 C H lsA locs hR hL hq hn hm
  exact lv_if_gt C.1 C.2.1 hd ht (fun h9 => kt h9 _ _ _ _ _ _ _ _ _ _ _ _ C _ _ _ hR hL hq hn hm) (fun h9 => kf h9 _ _ _ _ _ _ _ _ _ _ _ _ C _ _ _ hR hL hq hn hm)
theorem jx_icmp_le {x z : Int32} {off : Int} {tgt : Nat} (hd : decode cc pc = .ok (.if_icmp .le off, 3)) (ht : (pc : Int) + off = (tgt : Int)) (kt : x ≤ z → jx_J G y cc nL ret d Q tgt ls st M) (kf : ¬ x ≤ z → jx_J G y cc nL ret d Q (pc + 3) ls st M) : jx_J G y cc nL ret d Q pc ls (.inl z :: .inl x :: st) M := by
  intro p e s m args below meth c R Z n0 m0 C H lsA locs hR hL hq hn hm
  exact lv_icmp_le C.1 C.2.1 hd ht (fun h9 => kt h9 _ _ _ _ _ _ _ _ _ _ _ _ C _ _ _ hR hL hq hn hm) (fun h9 => kf h9 _ _ _ _ _ _ _ _ _ _ _ _ C _ _ _ hR hL hq hn hm)
theorem jx_if_le {x : Int32} {off : Int} {tgt : Nat} (hd : decode cc pc = .ok (.ifCond .le off, 3)) (ht : (pc : Int) + off = (tgt : Int)) (kt : x ≤ 0 → jx_J G y cc nL ret d Q tgt ls st M) (kf : ¬ x ≤ 0 → jx_J G y cc nL ret d Q (pc + 3) ls st M) : jx_J G y cc nL ret d Q pc ls (.inl x :: st) M := by
  intro p e s m args below meth c R Z n0 m0 C H lsA locs hR hL hq hn hm
  exact lv_if_le C.1 C.2.1 hd ht (fun h9 => kt h9 _ _ _ _ _ _ _ _ _ _ _ _ C _ _ _ hR hL hq hn hm) (fun h9 => kf h9 _ _ _ _ _ _ _ _ _ _ _ _ C _ _ _ hR hL hq hn hm)
theorem jx_ifnull {r : Option Nat} {off : Int} {tgt : Nat} (hd : decode cc pc = .ok (.ifnull off, 3)) (ht : (pc : Int) + off = (tgt : Int)) (kt : r = none → jx_J G y cc nL ret d Q tgt ls st M) (kf : ¬ r = none → jx_J G y cc nL ret d Q (pc + 3) ls st M) : jx_J G y cc nL ret d Q pc ls (.inr r :: st) M := by
  intro p e s m args below meth c R Z n0 m0 C H lsA locs hR hL hq hn hm
  cases r with
  | none => exact lv_ifnullN C.1 C.2.1 hd ht (kt rfl _ _ _ _ _ _ _ _ _ _ _ _ C _ _ _ hR hL hq hn hm)
  | some a => exact lv_ifnull C.1 C.2.1 hd (kf (by simp) _ _ _ _ _ _ _ _ _ _ _ _ C _ _ _ hR hL hq hn hm)
theorem jx_ifnonnull {r : Option Nat} {off : Int} {tgt : Nat} (hd : decode cc pc = .ok (.ifnonnull off, 3)) (ht : (pc : Int) + off = (tgt : Int)) (kt : ¬ r = none → jx_J G y cc nL ret d Q tgt ls st M) (kf : r = none → jx_J G y cc nL ret d Q (pc + 3) ls st M) : jx_J G y cc nL ret d Q pc ls (.inr r :: st) M := by
  intro p e s m args below meth c R Z n0 m0 C H lsA locs hR hL hq hn hm
  cases r with
  | none => exact lv_ifnonnullN C.1 C.2.1 hd (kf rfl _ _ _ _ _ _ _ _ _ _ _ _ C _ _ _ hR hL hq hn hm)
  | some a => exact lv_ifnonnull C.1 C.2.1 hd ht (kt (by simp) _ _ _ _ _ _ _ _ _ _ _ _ C _ _ _ hR hL hq hn hm)
theorem jx_table {dflt lo hi : Int} {offs : Array Int} {len : Nat} {x : Int32} (hd : decode cc pc = .ok (.tableswitch dflt lo hi offs, len)) (ki : ∀ (off : Int) (tgt : Nat), ¬ x.toInt < lo → ¬ hi < x.toInt → offs[(x.toInt - lo).toNat]? = some off → (pc : Int) + off = (tgt : Int) → jx_J G y cc nL ret d Q tgt ls st M) (hi2 : ¬ x.toInt < lo → ¬ hi < x.toInt → ∃ (off : Int) (tgt : Nat), offs[(x.toInt - lo).toNat]? = some off ∧ (pc : Int) + off = (tgt : Int)) {tgd : Nat} (ht : (pc : Int) + dflt = (tgd : Int)) (ko : x.toInt < lo ∨ hi < x.toInt → jx_J G y cc nL ret d Q tgd ls st M) : jx_J G y cc nL ret d Q pc ls (.inl x :: st) M := by
  intro p e s m args below meth c R Z n0 m0 C H lsA locs hR hL hq hn hm
  by_cases h1 : x.toInt < lo
  · exact lv_tableOut C.1 C.2.1 hd (Or.inl h1) ht (ko (Or.inl h1) _ _ _ _ _ _ _ _ _ _ _ _ C _ _ _ hR hL hq hn hm)
  · by_cases h2 : hi < x.toInt
    · exact lv_tableOut C.1 C.2.1 hd (Or.inr h2) ht (ko (Or.inr h2) _ _ _ _ _ _ _ _ _ _ _ _ C _ _ _ hR hL hq hn hm)
    · obtain ⟨off, tgt, h3, h4⟩ := hi2 h1 h2
      exact lv_tableIn C.1 C.2.1 hd h1 h2 h3 h4 (ki off tgt h1 h2 h3 h4 _ _ _ _ _ _ _ _ _ _ _ _ C _ _ _ hR hL hq hn hm)
theorem jx_lookup {dflt : Int} {ps : Array (Int × Int)} {len : Nat} {x : Int32} {off : Int} {tgt : Nat} (hd : decode cc pc = .ok (.lookupswitch dflt ps, len)) (hp : (ps.toList.zip (ps.toList.drop 1)).all (fun (a, next) => a.1 < next.1) = true) (ho : Op.lookupswitch.offset ps.toList dflt x.toInt = off) (ht : (pc : Int) + off = (tgt : Int)) (k : jx_J G y cc nL ret d Q tgt ls st M) : jx_J G y cc nL ret d Q pc ls (.inl x :: st) M := by
  intro p e s m args below meth c R Z n0 m0 C H lsA locs hR hL hq hn hm
  exact lv_lookup C.1 C.2.1 hd hp ho ht (k _ _ _ _ _ _ _ _ _ _ _ _ C _ _ _ hR hL hq hn hm)
theorem jx_ret {r : Option jx_V} (hd : jx_T cc ret pc r) (k : Q r M) : jx_J G y cc nL ret d Q pc ls (r.toList) M := by
  intro p e s m args below meth c R Z n0 m0 C H lsA locs hR hL hq hn hm
  exact C.2.2.2.2.2.2.2.2.2.2.2.2.2 r M H lsA locs pc k hR hq hn hm hd
theorem jx_ireturn {x : Int32} {ty : FieldType} (hd : decode cc pc = .ok (.ireturn, 1)) (h1 : ret = some ty) (h2 : narrow ty (.int x) = .int x) (k : Q (some (.inl x)) M) : jx_J G y cc nL ret d Q pc ls [.inl x] M := jx_ret (r := some (.inl x)) ⟨⟨ty, h1, h2⟩, hd⟩ k
theorem jx_areturn {x : Option Nat} {ty : FieldType} (hd : decode cc pc = .ok (.areturn, 1)) (h1 : ret = some ty) (h2 : (∃ n, ty = .object n) ∨ ∃ t, ty = .array t) (k : Q (some (.inr x)) M) : jx_J G y cc nL ret d Q pc ls [.inr x] M := jx_ret (r := some (.inr x)) ⟨⟨ty, h1, h2⟩, hd⟩ k
theorem jx_return (hd : decode cc pc = .ok (.return_, 1)) (h1 : ret = none) (k : Q none M) : jx_J G y cc nL ret d Q pc ls [] M := jx_ret (r := none) ⟨h1, hd⟩ k
theorem jx_J.at {pc2 : Nat} {ls2 : List (Option jx_V)} {st2 : List jx_V} {M2 : jx_M} (k : jx_J G y cc nL ret d Q pc2 ls2 st2 M2) (h1 : pc2 = pc) (h2 : ls2 = ls) (h3 : st2 = st) (h4 : M2 = M) : jx_J G y cc nL ret d Q pc ls st M := by
  subst h1; subst h2; subst h3; subst h4
  exact k
end J1
