def jx_tyk (t : FieldType) : Bool := match t with
  | .int => true
  | .boolean => true
  | .object _ => true
  | .array _ => true
  | _ => false
theorem jx_tyk_spec {t : FieldType} (h : jx_tyk t = true) : t = .int ∨ t = .boolean ∨ (∃ n, t = .object n) ∨ ∃ u, t = .array u := by
  cases t <;> simp_all [jx_tyk]
theorem jx_tyk_all : ∀ (c : Nat) (r : vw_C), jx_cl[c]? = some r → ∀ k, k < r.2.2 → jx_tyk (jx_ft c k) = true := by
  intro c r h
  match c, h with
  | 0, h => cases h; decide +kernel
  | 1, h => cases h; decide +kernel
  | 2, h => cases h; decide +kernel
  | 3, h => cases h; decide +kernel
  | 4, h => cases h; decide +kernel
  | 5, h => cases h; decide +kernel
  | 6, h => cases h; decide +kernel
  | 7, h => cases h; decide +kernel
  | 8, h => cases h; decide +kernel
  | 9, h => cases h; decide +kernel
  | 10, h => cases h; decide +kernel
  | n + 11, h => simp [jx_cl] at h
/-- a field that may be written: not final, or in its own constructor -/
def jx_Fw (y : MethodName) (idx c k : Nat) : Prop := ∃ (r : vw_C) (ref : String), jx_cl[c]? = some r ∧ k < r.2.2 ∧ Cond.fieldLink y.cls idx ref (r.2.1 k).2.1 (r.2.1 k).2.2.1 ∈ jx_tb ∧ (ref = (r.2.1 k).1 ∨ Cond.sameField ref (r.2.1 k).1 (r.2.1 k).2.1 (r.2.1 k).2.2.1 ∈ jx_tb) ∧ ((r.2.1 k).2.2.2 = false ∨ ((r.2.1 k).2.2.2 = true ∧ y.name = "<init>" ∧ (r.2.1 k).1 = y.cls))
/-- memory with one place changed -/
def jx_s (M : jx_M) (a k : Nat) (v : jx_V) : jx_M := match v with
  | .inl x => (M.1, M.2.1, M.2.2.1, jx_u M.2.2.2.1 a k x, M.2.2.2.2)
  | .inr r => (M.1, M.2.1, M.2.2.1, M.2.2.2.1, jx_u M.2.2.2.2 a k r)
theorem jx_setSize (c : Cell) (i : Nat) (v : Value) : (c.setSlot i v).slots.size = c.slots.size := by
  simp [Cell.setSlot]
theorem jx_fv_s {G : jx_G} {M : jx_M} {a c k : Nat} {v : jx_V} (hv : jx_fitv (jx_ft c k) v) (j : Nat) : updV (fun k => jx_fv G c k (M.2.2.2.1 a k) (M.2.2.2.2 a k)) k (jx_cv G v) j = jx_fv G c j ((jx_s M a k v).2.2.2.1 a j) ((jx_s M a k v).2.2.2.2 a j) := by
  by_cases e : j = k
  · subst e
    rcases v with x | r
    · have h1 : jx_prim (jx_ft c j) = true := hv.1
      simp [updV, jx_s, jx_fv, h1, jx_u_eq, jx_cv]
    · have h1 : jx_prim (jx_ft c j) = false := hv
      simp [updV, jx_s, jx_fv, h1, jx_u_eq, jx_cv]
  · rcases v with x | r
    · simp [updV, jx_s, e, jx_u_ni e]
    · simp [updV, jx_s, e, jx_u_ni e]
theorem jx_R.put {G : jx_G} {M : jx_M} {H H1 : Heap} {s : State} {a k : Nat} {v : jx_V} (hF : jx_F G s) (h : jx_R G M H) (h3 : 3 ≤ a) (han : a < M.1) (hz : H1.size = H.size) (ho : ∀ q, q ≠ jx_ga G a → H1[q]? = H[q]?) (hs : jx_hs H1 = jx_hs H) (hc : jx_at G (jx_s M a k v) a H1) : jx_R G (jx_s M a k v) H1 := by
  rcases v with x | r
  · exact jx_R.set hF h h3 han hz ho hs (fun b hb j => jx_u_na hb) (fun _ _ _ => rfl) hc
  · exact jx_R.set hF h h3 han hz ho hs (fun _ _ _ => rfl) (fun b hb j => jx_u_na hb) hc
theorem jx_s_1 (M : jx_M) (a k : Nat) (v : jx_V) : (jx_s M a k v).1 = M.1 := by rcases v with x | r <;> rfl
theorem jx_s_2 (M : jx_M) (a k : Nat) (v : jx_V) : (jx_s M a k v).2.1 = M.2.1 := by rcases v with x | r <;> rfl
theorem jx_s_K (M : jx_M) (a k : Nat) (v : jx_V) : (jx_s M a k v).2.2.1 = M.2.2.1 := by rcases v with x | r <;> rfl
section J4
variable {G : jx_G} {y : MethodName} {cc : ByteArray} {nL : Nat} {ret : Option FieldType} {d : Nat} {Q : Option jx_V → jx_M → Prop} {pc : Nat} {ls : List (Option jx_V)} {st : List jx_V} {M : jx_M} {a : Nat}
theorem jx_putf {idx c k : Nat} {v : jx_V} (hd : decode cc pc = .ok (.putfield idx, 3)) (hf : jx_Fw y idx c k) (hK : (M.2.2.1 a).1 = c) (hv : jx_fitv (jx_ft c k) v)
    (kk : jx_J G y cc nL ret d Q (pc + 3) ls st (jx_s M a k v)) : jx_J G y cc nL ret d Q pc ls (v :: .inr (some a) :: st) M := by
  intro p e s m args below meth c0 R Z n0 m0 C H lsA locs hR hL hq hn hm
  obtain ⟨r, ref, hc, hk, hl, hsm, hfin⟩ := hf
  have hts := C.2.2.2.2.1
  have hF := C.2.2.2.2.2.1
  have hc10 := jx_cl_lt hc
  subst hK
  obtain ⟨g1, g2, r', g3, cell, q1, q2, q3, q4⟩ := hR.obj hc10
  cases hc.symm.trans g3
  obtain ⟨hS, hfc, kC, hkC, hkind⟩ := hF.1.1 _ _ hc
  obtain ⟨cf, kf, fi, f, hi, hsl⟩ := hS k hk
  obtain ⟨o1, o2, o3⟩ := jx_ok_all _ _ hc
  obtain ⟨n1, n2⟩ := jx_fits (G := G) hv (jx_tyk_spec (jx_tyk_all _ _ hc k hk))
  have hap := va_apart (own := y.cls) (D := (jx_gC G, jx_gI G)) hts o1 (jx_ft (M.2.2.1 a).1) o3 o2 hF.1 hc
  have hst := (u_facts hfc hkC (u_lays hts o1 hk) hi).1
  have fin : ∀ H' : Heap, H'[jx_ga G a]? = some (cell.setSlot f.slot (jx_cv G v)) → H'.size = H.size → (∀ q, q ≠ jx_ga G a → H'[q]? = H[q]?) → W p (jx_gl G) e R s m args below meth c0 H' (locs ++ [⟨jx_ga G a, f.slot⟩]) (M.1 - n0) (M.2.1 - m0) Z (F0 m (pc + 3) lsA (st.map (jx_cv G))) := by
    intro H' e1 e2 e3
    have h9 := kk _ _ _ _ _ _ _ _ _ _ _ _ C H' lsA (locs ++ [⟨jx_ga G a, f.slot⟩]) (jx_R.put hF hR g1 g2 e2 e3 (jx_hs_set q1 e1 (jx_setSize _ _ _) e2 e3) (Or.inl ⟨r, by rw [jx_s_K]; exact hc, by
        rw [jx_s_K]
        rw [hsl] at e1
        exact t_OB.to ⟨_, e1, q2, q3, t_set q4 hap hk (jx_cv G v)⟩ (fun j _ => jx_fv_s hv j)⟩)) hL (fun q hq' => by
          rcases List.mem_append.mp hq' with h | h
          · exact hq q h
          · rw [List.mem_singleton.mp h]
            show jx_gB G ≤ jx_ga G a
            rw [hF.2.2.1 a g1]; omega) (by rw [jx_s_1]; exact hn) (by rw [jx_s_2]; exact hm)
    rw [jx_s_1, jx_s_2] at h9
    exact h9
  rcases hfin with hfin | ⟨hfin, hin, hdecl⟩
  · have hlay := hts _ (o1 _ (u_in_lay hk))
    unfold u_lay at hlay
    rw [if_neg (by rw [hfin]; decide)] at hlay
    have h6 := u_store hfc hkC hkind hlay hi (o3 k hk) n1 n2
    exact W.putK C.1 C.2.1 (f := f) ⟨C.2.2.2.1, hts _ hl, ⟨_, _, _, jx_same hts hsm _ hi⟩, hst⟩ (by rw [q2]; exact h6) q1 q3 (by rw [hsl]; exact k2_hasslot (q4 k hk)) rfl rfl hd fin
  · have hlay := hts _ (o1 _ (u_in_lay hk))
    unfold u_lay at hlay
    rw [if_pos hfin] at hlay
    have hcf : m.cls = cf := by
      obtain ⟨_, _, c', _, _, _, -, -, hf', -, -, -, hown2, -⟩ := Cond.laysFinal_spec hlay
      have e1 : c' = cf := by have := hi.symm.trans hf'; simp at this; exact this.1.symm
      rw [hdecl] at hown2
      rw [← e1]; exact Option.some.inj (C.2.2.2.1.symm.trans hown2)
    have h6 := u_fits hfc hkC hkind (Or.inr hlay) hi (o3 k hk) n1 n2
    exact W.putFinK C.1 C.2.1 C.2.2.2.1 (hts _ hl) (jx_same hts hsm _ hi) hst hcf (C.2.2.2.2.2.2.1.trans hin) (by rw [q2]; exact h6) q1 q3 (by rw [hsl]; exact k2_hasslot (q4 k hk)) rfl rfl hd fin
/-- an int array's cell, the script's too -/
theorem jx_R.ints {H : Heap} {s : State} (hF : jx_F G s) (hR : jx_R G M H) (hK : (M.2.2.1 a).1 = 11) : ∃ cell : Cell, H[jx_ga G a]? = some cell ∧ s.isArrayOf cell .int ∧ cell.vm ≠ .unknown ∧ cell.slots.size = (M.2.2.1 a).2 ∧ ∀ j, j < (M.2.2.1 a).2 → cell.slots[j]? = some (.int (M.2.2.2.1 a j)) := by
  rcases Nat.eq_zero_or_pos a with h0 | h0
  · subst h0
    obtain ⟨-, -, -, -, -, r6, ⟨r7, r8, -, -⟩, -⟩ := hR
    obtain ⟨-, -, -, f4, -, ⟨scr, x1, x2, x3, x4, x5⟩, -⟩ := hF
    refine ⟨scr, by rw [r6 _ f4]; exact x1, x2, x3, by rw [r7]; exact x4, fun j hj => ?_⟩
    rw [r7] at hj
    rw [r8 j hj]
    exact x5 j hj
  · have h3 : 3 ≤ a := by
      obtain ⟨-, -, -, -, -, -, ⟨-, -, r9, r10⟩, -⟩ := hR
      rcases a with _ | _ | _ | a
      · omega
      · rw [r9] at hK; exact absurd hK (by simp)
      · rw [r10] at hK; exact absurd hK (by simp)
      · omega
    obtain ⟨g1, g2⟩ := hR.arr h3 (by omega) (by omega)
    have hA := (hF.arrOf (c := 11) (by omega) (by omega)).1
    refine ⟨_, g2, by rw [hK]; exact hA _ _, (fun h => by cases h), arrV_size _ _ _, fun j hj => ?_⟩
    rw [arrV_read _ _ hj]
    unfold jx_ev
    rw [if_pos (by omega)]
theorem jx_iaload {i : Int32} (hd : decode cc pc = .ok (.iaload, 1)) (hK : (M.2.2.1 a).1 = 11) (hi : jx_in i (M.2.2.1 a).2)
    (kk : jx_J G y cc nL ret d Q (pc + 1) ls (.inl (M.2.2.2.1 a (jx_x i)) :: st) M) : jx_J G y cc nL ret d Q pc ls (.inl i :: .inr (some a) :: st) M := by
  intro p e s m args below meth c0 R Z n0 m0 C H lsA locs hR hL hq hn hm
  obtain ⟨cell, q1, q2, q3, q4, q5⟩ := hR.ints C.2.2.2.2.2.1 hK
  have hlt : i.toNatClampNeg < (M.2.2.1 a).2 := Nat.not_le.mp fun q => hi (Or.inr q)
  exact W.iald C.1 C.2.1 q1 q2 q3 (by rw [q4]; exact hi) (q5 _ hlt) rfl rfl hd (kk _ _ _ _ _ _ _ _ _ _ _ _ C _ _ _ hR hL hq hn hm)
theorem jx_arrlen {c : Nat} (hd : decode cc pc = .ok (.arraylength, 1)) (hK : (M.2.2.1 a).1 = c) (h1 : 11 ≤ c) (h2 : c ≤ 17)
    (kk : jx_J G y cc nL ret d Q (pc + 1) ls (.inl (Int32.ofNat (M.2.2.1 a).2) :: st) M) : jx_J G y cc nL ret d Q pc ls (.inr (some a) :: st) M := by
  intro p e s m args below meth c0 R Z n0 m0 C H lsA locs hR hL hq hn hm
  have hF := C.2.2.2.2.2.1
  by_cases e11 : c = 11
  · subst e11
    obtain ⟨cell, q1, q2, q3, q4, q5⟩ := hR.ints hF hK
    exact W.alen C.1 C.2.1 q1 q2 (by rw [q4]) rfl rfl hd (kk _ _ _ _ _ _ _ _ _ _ _ _ C _ _ _ hR hL hq hn hm)
  · by_cases e1 : a = 1
    · subst e1
      obtain ⟨-, -, -, -, -, r6, ⟨-, -, r9, -⟩, -⟩ := id hR
      obtain ⟨-, -, -, -, f5, -, -, ⟨cell, x1, x2, x3⟩, -⟩ := hF
      exact W.alen C.1 C.2.1 (by rw [r6 _ f5]; exact x1) x2 (by rw [x3, r9]) rfl rfl hd (kk _ _ _ _ _ _ _ _ _ _ _ _ C _ _ _ hR hL hq hn hm)
    · have h3 : 3 ≤ a := by
        obtain ⟨-, -, -, -, -, -, ⟨r7, -, -, r10⟩, -⟩ := hR
        rcases a with _ | _ | _ | a
        · rw [r7] at hK; exact absurd hK.symm e11
        · omega
        · rw [r10] at hK; exact absurd hK.symm (by simp; omega)
        · omega
      obtain ⟨g1, g2⟩ := hR.arr h3 (by omega) (by omega)
      exact W.alen C.1 C.2.1 g2 ((hF.arrOf (by omega) (by omega)).1 _ _) (by rw [arrV_size]) rfl rfl hd (kk _ _ _ _ _ _ _ _ _ _ _ _ C _ _ _ hR hL hq hn hm)
/-- an array of references' cell -/
theorem jx_R.refs {H : Heap} {s : State} (hF : jx_F G s) (hR : jx_R G M H) {c : Nat} (hK : (M.2.2.1 a).1 = c) (h1 : 12 ≤ c) (h2 : c ≤ 17) (hn : 0 < (M.2.2.1 a).2) : 3 ≤ a ∧ a < M.1 ∧ H[jx_ga G a]? = some (arrV (jx_gA G c) (M.2.2.1 a).2 (fun j => jx_ev G c (M.2.2.2.1 a j) (M.2.2.2.2 a j))) := by
  have h3 : 3 ≤ a := by
    obtain ⟨-, -, -, -, -, -, ⟨r7, -, r9, r10⟩, -⟩ := hR
    rcases a with _ | _ | _ | a
    · rw [r7] at hK; exact absurd hK (by simp; omega)
    · rw [r9] at hn; exact absurd hn (by simp)
    · rw [r10] at hK; exact absurd hK (by simp; omega)
    · omega
  obtain ⟨g1, g2⟩ := hR.arr h3 (by omega) (by omega)
  rw [hK] at g2
  exact ⟨h3, g1, g2⟩
theorem jx_baload {i : Int32} (hd : decode cc pc = .ok (.baload, 1)) (hK : (M.2.2.1 a).1 = 12) (hi : jx_in i (M.2.2.1 a).2)
    (kk : jx_J G y cc nL ret d Q (pc + 1) ls (.inl (M.2.2.2.1 a (jx_x i)) :: st) M) : jx_J G y cc nL ret d Q pc ls (.inl i :: .inr (some a) :: st) M := by
  intro p e s m args below meth c0 R Z n0 m0 C H lsA locs hR hL hq hn hm
  have hF := C.2.2.2.2.2.1
  have hlt : i.toNatClampNeg < (M.2.2.1 a).2 := Nat.not_le.mp fun q => hi (Or.inr q)
  obtain ⟨g1, g2, g3⟩ := hR.refs hF hK (by omega) (by omega) (by omega)
  refine W.zald (v := .int (M.2.2.2.1 a (jx_x i))) C.1 C.2.1 g3 ((hF.arrOf (c := 12) (by omega) (by omega)).1 _ _) (fun h => by cases h) (by rw [arrV_size]; exact hi) ?_ rfl rfl hd (kk _ _ _ _ _ _ _ _ _ _ _ _ C _ _ _ hR hL hq hn hm)
  rw [arrV_read _ _ hlt]
  unfold jx_ev
  rw [if_pos (by omega)]
theorem jx_aaload {c : Nat} {i : Int32} (hd : decode cc pc = .ok (.aaload, 1)) (hK : (M.2.2.1 a).1 = c) (h1 : 13 ≤ c) (h2 : c ≤ 17) (hi : jx_in i (M.2.2.1 a).2)
    (kk : jx_J G y cc nL ret d Q (pc + 1) ls (.inr (M.2.2.2.2 a (jx_x i)) :: st) M) : jx_J G y cc nL ret d Q pc ls (.inl i :: .inr (some a) :: st) M := by
  intro p e s m args below meth c0 R Z n0 m0 C H lsA locs hR hL hq hn hm
  have hF := C.2.2.2.2.2.1
  have hlt : i.toNatClampNeg < (M.2.2.1 a).2 := Nat.not_le.mp fun q => hi (Or.inr q)
  obtain ⟨g1, g2, g3⟩ := hR.refs hF hK (by omega) (by omega) (by omega)
  refine W.aald (v := jx_rv G (M.2.2.2.2 a (jx_x i))) (ty := jx_ty c) C.1 C.2.1 g3 ((hF.arrOf (by omega) (by omega)).1 _ _) ?_ (fun h => by cases h) (by rw [arrV_size]; exact hi) ?_ rfl rfl hd (kk _ _ _ _ _ _ _ _ _ _ _ _ C _ _ _ hR hL hq hn hm)
  · match c, h1, h2 with
    | 13, _, _ => rfl
    | 14, _, _ => rfl
    | 15, _, _ => rfl
    | 16, _, _ => rfl
    | 17, _, _ => rfl
    | n + 18, _, h => omega
  · rw [arrV_read _ _ hlt]
    unfold jx_ev
    rw [if_neg (by omega)]
/-- a store into an array: its new cell stands for the new memory -/
theorem jx_at.ast {H1 : Heap} {c : Nat} {j : Nat} {v : jx_V} (hK : (M.2.2.1 a).1 = c) (h1 : 11 ≤ c) (hv : match v with | .inl _ => c ≤ 12 | .inr _ => 13 ≤ c) (e : H1[jx_ga G a]? = some ((arrV (jx_gA G c) (M.2.2.1 a).2 (fun j => jx_ev G c (M.2.2.2.1 a j) (M.2.2.2.2 a j))).setSlot j (jx_cv G v))) : jx_at G (jx_s M a j v) a H1 := by
  refine Or.inr ?_
  rw [jx_s_K, hK]
  refine ⟨h1, ?_⟩
  rw [e, arrV_store]
  congr 2
  funext q
  by_cases hq : q = j
  · subst hq
    rcases v with x | r
    · have h2 : c ≤ 12 := hv
      simp [updV, jx_s, jx_ev, jx_u_eq, jx_cv, h2]
    · have h2 : 13 ≤ c := hv
      simp [updV, jx_s, jx_ev, jx_u_eq, jx_cv, show ¬ c ≤ 12 by omega]
  · rcases v with x | r
    · simp [updV, jx_s, hq, jx_u_ni hq]
    · simp [updV, jx_s, hq, jx_u_ni hq]
theorem jx_ast {p : Program} {e : Env} {s : State} {m : MethodId} {args : Array Value} {below : List Frame} {meth : Method} {c0 : Code} {R : Room} {Z : State → Prop} {n0 m0 : Nat} {H H' : Heap} {lsA : Array Slot} {locs : List Loc} {c : Nat} {j : Nat} {v : jx_V} {pc' : Nat}
    (C : jx_X G y cc nL ret d Q p e s m args below meth c0 R Z n0 m0) (hR : jx_R G M H) (hL : jx_L G lsA nL ls) (hq : ∀ q ∈ locs, jx_gB G ≤ q.base) (hn : n0 ≤ M.1) (hm : m0 ≤ M.2.1)
    (hK : (M.2.2.1 a).1 = c) (h1 : 11 ≤ c) (hv : match v with | .inl _ => c ≤ 12 | .inr _ => 13 ≤ c) (h3 : 3 ≤ a) (han : a < M.1) (hc : H[jx_ga G a]? = some (arrV (jx_gA G c) (M.2.2.1 a).2 (fun j => jx_ev G c (M.2.2.2.1 a j) (M.2.2.2.2 a j))))
    (e1 : H'[jx_ga G a]? = some ((arrV (jx_gA G c) (M.2.2.1 a).2 (fun j => jx_ev G c (M.2.2.2.1 a j) (M.2.2.2.2 a j))).setSlot j (jx_cv G v))) (e2 : H'.size = H.size) (e3 : ∀ q, q ≠ jx_ga G a → H'[q]? = H[q]?)
    (kk : jx_J G y cc nL ret d Q pc' ls st (jx_s M a j v)) : W p (jx_gl G) e R s m args below meth c0 H' (locs ++ [⟨jx_ga G a, j⟩]) (M.1 - n0) (M.2.1 - m0) Z (F0 m pc' lsA (st.map (jx_cv G))) := by
  have hF := C.2.2.2.2.2.1
  have h9 := kk _ _ _ _ _ _ _ _ _ _ _ _ C H' lsA (locs ++ [⟨jx_ga G a, j⟩]) (jx_R.put hF hR h3 han e2 e3 (jx_hs_set hc e1 (jx_setSize _ _ _) e2 e3) (jx_at.ast hK h1 hv e1)) hL (fun q hq' => by
      rcases List.mem_append.mp hq' with h | h
      · exact hq q h
      · rw [List.mem_singleton.mp h]
        show jx_gB G ≤ jx_ga G a
        rw [hF.2.2.1 a h3]; omega) (by rw [jx_s_1]; exact hn) (by rw [jx_s_2]; exact hm)
  rw [jx_s_1, jx_s_2] at h9
  exact h9
theorem jx_iastore {i x : Int32} (hd : decode cc pc = .ok (.iastore, 1)) (hK : (M.2.2.1 a).1 = 11) (h0 : a ≠ 0) (hi : jx_in i (M.2.2.1 a).2)
    (kk : jx_J G y cc nL ret d Q (pc + 1) ls st (jx_s M a (jx_x i) (.inl x))) : jx_J G y cc nL ret d Q pc ls (.inl x :: .inl i :: .inr (some a) :: st) M := by
  intro p e s m args below meth c0 R Z n0 m0 C H lsA locs hR hL hq hn hm
  have hF := C.2.2.2.2.2.1
  have h3 : 3 ≤ a := by
    obtain ⟨-, -, -, -, -, -, ⟨-, -, r9, r10⟩, -⟩ := hR
    rcases a with _ | _ | _ | a
    · omega
    · rw [r9] at hK; exact absurd hK (by simp)
    · rw [r10] at hK; exact absurd hK (by simp)
    · omega
  obtain ⟨g1, g2⟩ := hR.arr h3 (by omega) (by omega)
  rw [hK] at g2
  exact W.iast C.1 C.2.1 g2 ((hF.arrOf (c := 11) (by omega) (by omega)).1 _ _) (fun h => by cases h) (by rw [arrV_size]; exact hi) rfl rfl hd fun H' e1 e2 e3 => jx_ast (v := .inl x) C hR hL hq hn hm hK (by omega) (show 11 ≤ 12 by omega) h3 g1 g2 e1 e2 e3 kk
theorem jx_bastore {i x : Int32} (hd : decode cc pc = .ok (.bastore, 1)) (hK : (M.2.2.1 a).1 = 12) (hi : jx_in i (M.2.2.1 a).2) (hx : x &&& 1 = x)
    (kk : jx_J G y cc nL ret d Q (pc + 1) ls st (jx_s M a (jx_x i) (.inl x))) : jx_J G y cc nL ret d Q pc ls (.inl x :: .inl i :: .inr (some a) :: st) M := by
  intro p e s m args below meth c0 R Z n0 m0 C H lsA locs hR hL hq hn hm
  have hF := C.2.2.2.2.2.1
  have hlt : i.toNatClampNeg < (M.2.2.1 a).2 := Nat.not_le.mp fun q => hi (Or.inr q)
  obtain ⟨h3, g1, g2⟩ := hR.refs hF hK (by omega) (by omega) (by omega)
  refine W.zast C.1 C.2.1 g2 ((hF.arrOf (c := 12) (by omega) (by omega)).1 _ _) (fun h => by cases h) (by rw [arrV_size]; exact hi) rfl rfl hd fun H' e1 e2 e3 => jx_ast (v := .inl x) C hR hL hq hn hm hK (by omega) (show 12 ≤ 12 by omega) h3 g1 g2 ?_ e2 e3 kk
  rw [e1]
  show some (Cell.setSlot _ _ (.int (x &&& 1))) = _
  rw [hx]
  rfl
end J4
