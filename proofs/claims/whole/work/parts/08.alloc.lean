/-- memory with one cell more -/
def jx_nw (M : jx_M) (c N : Nat) : jx_M := (M.1 + 1, M.2.1 + N, fun b => if b = M.1 then (c, N) else M.2.2.1 b, fun b k => if b = M.1 then 0 else M.2.2.2.1 b k, fun b k => if b = M.1 then none else M.2.2.2.2 b k)
theorem jx_R.nw {G : jx_G} {M : jx_M} {H H1 : Heap} {s : State} {c N : Nat} {cell : Cell} (hF : jx_F G s) (h : jx_R G M H) (e1 : H1[H.size]? = some cell) (z : H1.size = H.size + 1) (o : ∀ q, q < H.size → H1[q]? = H[q]?) (hsz : cell.slots.size = N) (hb1 : M.1 + 1 ≤ 600003) (hb2 : M.2.1 + N ≤ 7302250) (hc : jx_at G (jx_nw M c N) M.1 H1) : jx_R G (jx_nw M c N) H1 := by
  obtain ⟨r1, r2, r3, r4, r5, r6, ⟨r7, r8, r9, r10⟩, r11⟩ := h
  have ga : ∀ b, 3 ≤ b → jx_ga G b = jx_gB G + (b - 3) := hF.2.2.1
  have hne : ∀ b, b < 3 → ¬ b = M.1 := fun b hb => by omega
  refine ⟨by show H1.size + 3 = jx_gB G + (M.1 + 1); omega, by show 3 ≤ M.1 + 1; omega, ?_, hb1, hb2, fun q hq => ?_, ⟨?_, fun j hj => ?_, ?_, ?_⟩, fun b hb hk => ?_⟩
  · show jx_hs H1 = jx_hs (jx_gH G) + (M.2.1 + N)
    rw [jx_hs_push e1 z o, r3, hsz]; omega
  · rw [o q (by omega)]; exact r6 q hq
  · show (if 0 = M.1 then (c, N) else M.2.2.1 0) = _
    rw [if_neg (hne 0 (by omega))]; exact r7
  · show (if 0 = M.1 then 0 else M.2.2.2.1 0 j) = _
    rw [if_neg (hne 0 (by omega))]; exact r8 j hj
  · show (if 1 = M.1 then (c, N) else M.2.2.1 1) = _
    rw [if_neg (hne 1 (by omega))]; exact r9
  · show (if 2 = M.1 then (c, N) else M.2.2.1 2) = _
    rw [if_neg (hne 2 (by omega))]; exact r10
  · by_cases e : b = M.1
    · subst e
      exact ⟨Nat.lt_succ_self _, hc⟩
    · have hK : (jx_nw M c N).2.2.1 b = M.2.2.1 b := if_neg e
      rw [hK] at hk
      obtain ⟨g1, g2⟩ := r11 b hb hk
      have hlt : jx_ga G b < H.size := by rw [ga b hb]; omega
      refine ⟨Nat.lt_succ_of_lt g1, ?_⟩
      unfold jx_at
      rw [hK, o _ hlt]
      rcases g2 with ⟨r, g2, g3⟩ | ⟨g2, g3⟩
      · refine Or.inl ⟨r, g2, (g3.kept (o _ hlt)).to fun k _ => ?_⟩
        show _ = jx_fv G _ k (if b = M.1 then 0 else _) (if b = M.1 then none else _)
        rw [if_neg e, if_neg e]
      · refine Or.inr ⟨g2, g3.trans ?_⟩
        congr 2
        funext j
        show _ = jx_ev G _ (if b = M.1 then 0 else _) (if b = M.1 then none else _)
        rw [if_neg e, if_neg e]
section J5
variable {G : jx_G} {y : MethodName} {cc : ByteArray} {nL : Nat} {ret : Option FieldType} {d : Nat} {Q : Option jx_V → jx_M → Prop} {pc : Nat} {ls : List (Option jx_V)} {st : List jx_V} {M : jx_M} {a : Nat}
theorem jx_nwK (M : jx_M) (c N : Nat) : (jx_nw M c N).2.2.1 M.1 = (c, N) := if_pos rfl
theorem jx_dv {c k : Nat} (h : jx_tyk (jx_ft c k) = true) (G : jx_G) : defaultValue (jx_ft c k) = jx_fv G c k 0 none := by
  unfold jx_fv
  generalize jx_ft c k = t at h ⊢
  cases t <;> first | rfl | exact absurd h (by simp [jx_tyk])
theorem jx_new {idx c : Nat} {r : vw_C} (hd : decode cc pc = .ok (.new idx, 3)) (hc : jx_cl[c]? = some r) (hl : Cond.classLink y.cls idx r.1 ∈ jx_tb) (hi : Cond.instantiable r.1 r.2.2 ∈ jx_tb) (hini : Cond.initialized r.1 ∈ jx_tb) (hb1 : M.1 + 1 ≤ 600003) (hb2 : M.2.1 + r.2.2 ≤ 7302250)
    (kk : jx_J G y cc nL ret d Q (pc + 3) ls (.inr (some M.1) :: st) (jx_nw M c r.2.2)) : jx_J G y cc nL ret d Q pc ls st M := by
  intro p e s m args below meth c0 R Z n0 m0 C H lsA locs hR hL hq hn hm
  have hts := C.2.2.2.2.1
  have hF := C.2.2.2.2.2.1
  obtain ⟨hS, hfc, kC, hkC, hkind⟩ := hF.1.1 _ _ hc
  obtain ⟨o1, o2, o3⟩ := jx_ok_all _ _ hc
  have hRc : R.cells + n0 = 600003 := C.2.2.2.2.2.2.2.2.2.1
  have hRs : R.slots + m0 = 7302250 := C.2.2.2.2.2.2.2.2.2.2.1
  refine W.newcK C.1 C.2.1 C.2.2.2.1 (hts _ hl) (hts _ hi) (hts _ hini) rfl hd (by omega) (by omega) hfc rfl fun H1 kC2 hkC2 e1 z1 oo => ?_
  have ha : jx_ga G M.1 = H.size := by
    rw [hF.2.2.1 _ hR.2.1]
    have := hR.1
    have := hR.2.1
    omega
  obtain ⟨cX, kX, x1, x2, -, -, -, x6⟩ := Cond.instantiable_spec (hts _ hi)
  have hsz : (blank (jx_gC G c) kC2).slots.size = r.2.2 := by
    cases hfc.symm.trans x1
    cases hkC2.symm.trans x2
    show (kC2.instanceTypes.map defaultValue).size = _
    rw [Array.size_map]; exact x6
  have hat : jx_at G (jx_nw M c r.2.2) M.1 H1 := by
    refine Or.inl ⟨r, ?_, ?_⟩
    · rw [jx_nwK]; exact hc
    · rw [jx_nwK, ha]
      refine (u_born (jx_ft c) hts o1 ⟨hS, hfc, kC, hkC, hkind⟩ hkC2 e1 o3).to fun k hk => ?_
      show _ = jx_fv G c k (if M.1 = M.1 then 0 else _) (if M.1 = M.1 then none else _)
      rw [if_pos rfl, if_pos rfl]
      exact jx_dv (jx_tyk_all _ _ hc k hk) G
  have h9 := kk _ _ _ _ _ _ _ _ _ _ _ _ C H1 lsA locs (hR.nw hF e1 z1 oo hsz hb1 hb2 hat) hL hq (by show n0 ≤ M.1 + 1; omega) (by show m0 ≤ M.2.1 + r.2.2; omega)
  have e8 : (jx_nw M c r.2.2).1 - n0 = M.1 - n0 + 1 := by show M.1 + 1 - n0 = _; omega
  have e7 : (jx_nw M c r.2.2).2.1 - m0 = M.2.1 - m0 + r.2.2 := by show M.2.1 + r.2.2 - m0 = _; omega
  rw [e8, e7] at h9
  have e6 : jx_cv G (.inr (some M.1)) = .ref H.size := by rw [← ha]; rfl
  rw [List.map_cons, e6] at h9
  exact h9
/-- a new array: its cell -/
theorem jx_at.nwa {H H1 : Heap} {s : State} {c N : Nat} {cA : ClassId} (hF : jx_F G s) (hR : jx_R G M H) (h1 : 11 ≤ c) (hcA : cA = jx_gA G c) (e1 : H1[H.size]? = some (arrV cA N (fun _ => if c ≤ 12 then .int 0 else .null))) : jx_at G (jx_nw M c N) M.1 H1 := by
  have ha : jx_ga G M.1 = H.size := by
    rw [hF.2.2.1 _ hR.2.1]
    have := hR.1
    have := hR.2.1
    omega
  refine Or.inr ?_
  rw [jx_nwK, ha]
  refine ⟨h1, e1.trans ?_⟩
  rw [hcA]
  congr 2
  funext j
  show _ = jx_ev G c (if M.1 = M.1 then 0 else _) (if M.1 = M.1 then none else _)
  rw [if_pos rfl, if_pos rfl]
  unfold jx_ev
  split <;> rfl
theorem jx_nwgo {p : Program} {e : Env} {s : State} {m : MethodId} {args : Array Value} {below : List Frame} {meth : Method} {c0 : Code} {R : Room} {Z : State → Prop} {n0 m0 : Nat} {H H1 : Heap} {lsA : Array Slot} {locs : List Loc} {c N : Nat} {pc' : Nat} {cell : Cell}
    (C : jx_X G y cc nL ret d Q p e s m args below meth c0 R Z n0 m0) (hR : jx_R G M H) (hL : jx_L G lsA nL ls) (hq : ∀ q ∈ locs, jx_gB G ≤ q.base) (hn : n0 ≤ M.1) (hm : m0 ≤ M.2.1)
    (e1 : H1[H.size]? = some cell) (hsz : cell.slots.size = N) (z1 : H1.size = H.size + 1) (oo : ∀ q, q < H.size → H1[q]? = H[q]?) (hb1 : M.1 + 1 ≤ 600003) (hb2 : M.2.1 + N ≤ 7302250) (hat : jx_at G (jx_nw M c N) M.1 H1)
    (kk : jx_J G y cc nL ret d Q pc' ls (.inr (some M.1) :: st) (jx_nw M c N)) : W p (jx_gl G) e R s m args below meth c0 H1 locs (M.1 - n0 + 1) (M.2.1 - m0 + N) Z (F0 m pc' lsA (.ref H.size :: st.map (jx_cv G))) := by
  have hF := C.2.2.2.2.2.1
  have ha : jx_ga G M.1 = H.size := by
    rw [hF.2.2.1 _ hR.2.1]
    have := hR.1
    have := hR.2.1
    omega
  have h9 := kk _ _ _ _ _ _ _ _ _ _ _ _ C H1 lsA locs (hR.nw hF e1 z1 oo hsz hb1 hb2 hat) hL hq (by show n0 ≤ M.1 + 1; omega) (by show m0 ≤ M.2.1 + N; omega)
  have e8 : (jx_nw M c N).1 - n0 = M.1 - n0 + 1 := by show M.1 + 1 - n0 = _; omega
  have e7 : (jx_nw M c N).2.1 - m0 = M.2.1 - m0 + N := by show M.2.1 + N - m0 = _; omega
  rw [e8, e7] at h9
  have e6 : jx_cv G (.inr (some M.1)) = .ref H.size := by rw [← ha]; rfl
  rw [List.map_cons, e6] at h9
  exact h9
theorem jx_newarray {t : ArrayType} {c N : Nat} {n : Int32} (hd : decode cc pc = .ok (.newarray t, 2)) (ht : (c = 11 ∧ t = .int) ∨ (c = 12 ∧ t = .boolean)) (hw : Cond.arrayClass (newarray.typeOf t) ∈ jx_tb) (hn0 : ¬ n < 0) (hN : n.toNatClampNeg = N) (hb0 : N ≤ 1000000) (hb1 : M.1 + 1 ≤ 600003) (hb2 : M.2.1 + N ≤ 7302250)
    (kk : jx_J G y cc nL ret d Q (pc + 2) ls (.inr (some M.1) :: st) (jx_nw M c N)) : jx_J G y cc nL ret d Q pc ls (.inl n :: st) M := by
  intro p e s m args below meth c0 R Z n0 m0 C H lsA locs hR hL hq hn hm
  have hts := C.2.2.2.2.1
  have hF := C.2.2.2.2.2.1
  have hRc : R.cells + n0 = 600003 := C.2.2.2.2.2.2.2.2.2.1
  have hRs : R.slots + m0 = 7302250 := C.2.2.2.2.2.2.2.2.2.2.1
  rcases ht with ⟨rfl, rfl⟩ | ⟨rfl, rfl⟩
  · refine va_newaK C.1 C.2.1 (hts _ hw) rfl hd rfl hn0 hN (by show N * 4 ≤ _; omega) (by omega) (by omega) rfl fun H1 cA e1 z1 oo hAr hNm => ?_
    have hc2 : s.vm.findClass ("[" ++ (FieldType.int).toString) = some (jx_gA G 11) := (hF.arrOf (c := 11) (by omega) (by omega)).2
    exact jx_nwgo C hR hL hq hn hm e1 (arrV_size _ _ _) z1 oo hb1 hb2 (jx_at.nwa hF hR (by omega) (Option.some.inj (hNm.symm.trans hc2)) e1) kk
  · refine va_newaK C.1 C.2.1 (hts _ hw) rfl hd rfl hn0 hN (by show N * 1 ≤ _; omega) (by omega) (by omega) rfl fun H1 cA e1 z1 oo hAr hNm => ?_
    have hc2 : s.vm.findClass ("[" ++ (FieldType.boolean).toString) = some (jx_gA G 12) := (hF.arrOf (c := 12) (by omega) (by omega)).2
    exact jx_nwgo C hR hL hq hn hm e1 (arrV_size _ _ _) z1 oo hb1 hb2 (jx_at.nwa hF hR (by omega) (Option.some.inj (hNm.symm.trans hc2)) e1) kk
theorem jx_anewarray {idx c N : Nat} {E : String} {n : Int32} (hd : decode cc pc = .ok (.anewarray idx, 3)) (h1 : 13 ≤ c) (h2 : c ≤ 16) (hE : jx_ty c = .object E) (hl : Cond.classLink y.cls idx E ∈ jx_tb) (ho : Cond.arrayOver (.object E) ∈ jx_tb) (hn0 : ¬ n < 0) (hN : n.toNatClampNeg = N) (hb0 : N ≤ 1000000) (hb1 : M.1 + 1 ≤ 600003) (hb2 : M.2.1 + N ≤ 7302250)
    (kk : jx_J G y cc nL ret d Q (pc + 3) ls (.inr (some M.1) :: st) (jx_nw M c N)) : jx_J G y cc nL ret d Q pc ls (.inl n :: st) M := by
  intro p e s m args below meth c0 R Z n0 m0 C H lsA locs hR hL hq hn hm
  have hts := C.2.2.2.2.1
  have hF := C.2.2.2.2.2.1
  have hRc : R.cells + n0 = 600003 := C.2.2.2.2.2.2.2.2.2.1
  have hRs : R.slots + m0 = 7302250 := C.2.2.2.2.2.2.2.2.2.2.1
  subst hN
  refine W.anew C.1 C.2.1 C.2.2.2.1 (hts _ hl) (hts _ ho) rfl hd rfl hn0 (by omega) (by omega) (by omega) fun cA kA comp f1 f2 f3 f4 => ?_
  generalize hH1 : H.push ({ cls := cA, slots := Array.replicate n.toNatClampNeg .null, vm := .none } : Cell) = H1
  have z1 : H1.size = H.size + 1 := by rw [← hH1, Array.size_push]
  have e1 : H1[H.size]? = some (arrV cA n.toNatClampNeg (fun _ => .null)) := by rw [← hH1, Array.getElem?_push_size, ← arrV_new]
  have o1 : ∀ q : Nat, q < H.size → H1[q]? = H[q]? := fun q hq => by rw [← hH1, Array.getElem?_push, if_neg (Nat.ne_of_lt hq)]
  have hc2 : cA = jx_gA G c := by
    have h := (hF.arrOf (c := c) (by omega) (by omega)).2
    rw [hE] at h
    obtain ⟨-, -, -, -, -, h4⟩ := h
    exact Option.some.inj (f1.symm.trans h4)
  exact jx_nwgo C hR hL hq hn hm e1 (arrV_size _ _ _) z1 o1 hb1 hb2 (jx_at.nwa hF hR (by omega) hc2 (e1.trans (by congr 2; funext j; rw [if_neg (by omega)]))) kk
end J5
