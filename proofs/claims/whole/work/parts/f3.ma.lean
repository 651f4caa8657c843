/-- memory behind new int[N][K] -/
def jx_mn (M : jx_M) (N K : Nat) : jx_M := (M.1 + 1 + N, M.2.1 + N + N * K, fun b => if b = M.1 then (17, N) else if M.1 < b ∧ b < M.1 + 1 + N then (11, K) else M.2.2.1 b, fun b k => if M.1 ≤ b ∧ b < M.1 + 1 + N then 0 else M.2.2.2.1 b k, fun b k => if b = M.1 then (if k < N then some (M.1 + 1 + k) else none) else if M.1 < b ∧ b < M.1 + 1 + N then none else M.2.2.2.2 b k)
theorem ma_arr (c : ClassId) (N h0 : Nat) : ∀ i : Nat, ma_c c N h0 i = arrV c N (fun j => if j < i then .ref (h0 + 1 + j) else .null)
  | 0 => by
    show ({ cls := c, slots := Array.replicate N .null, vm := .none } : Cell) = _
    unfold arrV
    congr 1
    apply Array.ext
    · simp
    · intro j h1 h2
      simp
  | i + 1 => by
    have ih := ma_arr c N h0 i
    show (ma_c c N h0 i).setSlot i (.ref (h0 + 1 + i)) = _
    rw [ih, arrV_store]
    congr 1
    funext j
    unfold updV
    by_cases h : j = i
    · subst h
      simp
    · by_cases h2 : j < i
      · simp [h, h2, show j < i + 1 by omega]
      · simp [h, h2, show ¬ j < i + 1 by omega]
section J9
variable {G : jx_G} {y : MethodName} {cc : ByteArray} {nL : Nat} {ret : Option FieldType} {d : Nat} {Q : Option jx_V → jx_M → Prop} {pc : Nat} {ls : List (Option jx_V)} {st : List jx_V} {M : jx_M} {a b : Nat}
theorem jx_multi {idx N K : Nat} {n k : Int32} (hd : decode cc pc = .ok (.multianewarray idx 2, 4)) (hl : Cond.classLink y.cls idx "[[I" ∈ jx_tb) (hw : Cond.arrayClass .int ∈ jx_tb) (hn0 : ¬ n < 0) (hk0 : ¬ k < 0) (hN : n.toNatClampNeg = N) (hK : k.toNatClampNeg = K) (hb0 : N ≤ 1000 ∧ K ≤ 1000) (hb1 : M.1 + 1 + N ≤ 600003) (hb2 : M.2.1 + N + N * K ≤ 7302250)
    (kk : jx_J G y cc nL ret d Q (pc + 4) ls (.inr (some M.1) :: st) (jx_mn M N K)) : jx_J G y cc nL ret d Q pc ls (.inl k :: .inl n :: st) M := by
  intro p e s m args below meth c0 R Z n0 m0 C H lsA locs hR hL hq hn hm
  have hts := C.2.2.2.2.1
  have hF := C.2.2.2.2.2.1
  have hRc : R.cells + n0 = 600003 := C.2.2.2.2.2.2.2.2.2.1
  have hRs : R.slots + m0 = 7302250 := C.2.2.2.2.2.2.2.2.2.2.1
  obtain ⟨hN1, hK1⟩ := hb0
  subst hN
  subst hK
  intro T hT Xs
  have hAA : (Cond.arrayOver (.array .int)).before args s = true := hF.2.2.2.2.2.2.2.2.2.2
  obtain ⟨vm₁, cA, cI, L, fA, fC, hLo, X', step⟩ := ma_step Xs C.1 C.2.2.2.1 (hts _ hl) hAA (hts _ hw) (g := F0 m pc lsA ((.inl k :: .inl n :: st : List jx_V).map (jx_cv G))) rfl (by rw [C.2.1]; exact hd) rfl hn0 hk0 hN1 hK1 (by omega) (by omega)
  have hA11 : s.vm.findClass ("[" ++ (FieldType.int).toString) = some (jx_gA G 11) := (hF.arrOf (c := 11) (by omega) (by omega)).2
  have hA17 : s.vm.findClass ("[" ++ (FieldType.array .int).toString) = some (jx_gA G 17) := (hF.arrOf (c := 17) (by omega) (by omega)).2
  obtain rfl : cI = jx_gA G 11 := Option.some.inj (fC.symm.trans hA11)
  obtain rfl : cA = jx_gA G 17 := Option.some.inj (fA.symm.trans hA17)
  obtain ⟨f1, f2, hold, hrow, -, f4⟩ := ma_s_f (s := T.setVm vm₁) (cA := jx_gA G 17) (cI := jx_gA G 11) (n := n.toNatClampNeg) (k := k.toNatClampNeg) n.toNatClampNeg
  generalize hFl : ma_s (T.setVm vm₁) (jx_gA G 17) (jx_gA G 11) n.toNatClampNeg k.toNatClampNeg n.toNatClampNeg = F at X' step f1 f2 hold hrow f4
  have hTh : (T.setVm vm₁).heap = H := hT
  rw [hTh] at f1 f2 hold hrow
  have hrow : ∀ j : Nat, j < n.toNatClampNeg → F.heap[H.size + 1 + j]? = some (arrV (jx_gA G 11) k.toNatClampNeg (fun _ => .int 0)) := fun j hj => by
    rw [hrow j hj]
    unfold ma_i arrV
    congr 2
    apply Array.ext
    · simp
    · intro j h1 h2
      simp
  rw [ma_arr] at f2
  obtain ⟨r1, r2, r3, r4, r5, r6, ⟨r7, r8, r9, r10⟩, r11⟩ := id hR
  have ga : ∀ b, 3 ≤ b → jx_ga G b = jx_gB G + (b - 3) := hF.2.2.1
  have hu1 := jx_hs_true X'.book
  have hu0 : T.slotsUsed = jx_hs H := by rw [jx_hs_true Xs.book, hT]
  have f4 : F.slotsUsed = T.slotsUsed + n.toNatClampNeg + n.toNatClampNeg * k.toNatClampNeg := f4
  have hRn : jx_R G (jx_mn M n.toNatClampNeg k.toNatClampNeg) F.heap := by
    refine ⟨?_, ?_, ?_, hb1, hb2, fun q hq => ?_, ⟨?_, fun j hj => ?_, ?_, ?_⟩, fun b hb hk => ?_⟩
    · show F.heap.size + 3 = jx_gB G + (M.1 + 1 + n.toNatClampNeg)
      omega
    · show 3 ≤ M.1 + 1 + n.toNatClampNeg
      omega
    · show jx_hs F.heap = jx_hs (jx_gH G) + (M.2.1 + n.toNatClampNeg + n.toNatClampNeg * k.toNatClampNeg)
      omega
    · rw [hold q (by omega)]
      exact r6 q hq
    · show (if 0 = M.1 then _ else if _ then _ else M.2.2.1 0) = _
      rw [if_neg (by omega), if_neg (by omega)]; exact r7
    · show (if _ then 0 else M.2.2.2.1 0 j) = _
      rw [if_neg (by omega)]; exact r8 j hj
    · show (if 1 = M.1 then _ else if _ then _ else M.2.2.1 1) = _
      rw [if_neg (by omega), if_neg (by omega)]; exact r9
    · show (if 2 = M.1 then _ else if _ then _ else M.2.2.1 2) = _
      rw [if_neg (by omega), if_neg (by omega)]; exact r10
    · by_cases e1 : b = M.1
      · subst e1
        refine ⟨by show M.1 < M.1 + 1 + n.toNatClampNeg; omega, Or.inr ?_⟩
        have hKe : (jx_mn M n.toNatClampNeg k.toNatClampNeg).2.2.1 M.1 = (17, n.toNatClampNeg) := if_pos rfl
        rw [hKe]
        refine ⟨by show 11 ≤ 17; omega, ?_⟩
        rw [ga _ r2, show jx_gB G + (M.1 - 3) = H.size by omega, f2]
        congr 2
        funext j
        show _ = jx_ev G 17 _ (if M.1 = M.1 then (if j < n.toNatClampNeg then some (M.1 + 1 + j) else none) else _)
        rw [if_pos rfl]
        unfold jx_ev
        rw [if_neg (show ¬ 17 ≤ 12 by omega)]
        by_cases hj : j < n.toNatClampNeg
        · rw [if_pos hj, if_pos hj]
          show _ = Value.ref (jx_ga G (M.1 + 1 + j))
          rw [ga _ (by omega)]
          exact congrArg Value.ref (show (H.size + 1 + j : Nat) = jx_gB G + (M.1 + 1 + j - 3) by omega)
        · rw [if_neg hj, if_neg hj]
          rfl
      · by_cases e2 : M.1 < b ∧ b < M.1 + 1 + n.toNatClampNeg
        · refine ⟨e2.2, Or.inr ?_⟩
          have hKe : (jx_mn M n.toNatClampNeg k.toNatClampNeg).2.2.1 b = (11, k.toNatClampNeg) := by
            show (if b = M.1 then _ else if M.1 < b ∧ b < M.1 + 1 + n.toNatClampNeg then _ else _) = _
            rw [if_neg e1, if_pos e2]
          rw [hKe]
          refine ⟨by show 11 ≤ 11; omega, ?_⟩
          have h8 := hrow (b - M.1 - 1) (by omega)
          rw [ga _ hb, show jx_gB G + (b - 3) = H.size + 1 + (b - M.1 - 1) by omega, h8]
          congr 2
          funext j
          show _ = jx_ev G 11 (if M.1 ≤ b ∧ b < M.1 + 1 + n.toNatClampNeg then 0 else _) _
          rw [if_pos ⟨by omega, e2.2⟩]
          rfl
        · have hKe : (jx_mn M n.toNatClampNeg k.toNatClampNeg).2.2.1 b = M.2.2.1 b := by
            show (if b = M.1 then _ else if M.1 < b ∧ b < M.1 + 1 + n.toNatClampNeg then _ else _) = _
            rw [if_neg e1, if_neg e2]
          rw [hKe] at hk
          obtain ⟨g1, g2⟩ := r11 b hb hk
          have hlt : jx_ga G b < H.size := by rw [ga b hb]; omega
          refine ⟨by show b < M.1 + 1 + n.toNatClampNeg; omega, ?_⟩
          unfold jx_at
          rw [hKe, hold _ hlt]
          rcases g2 with ⟨r, g2, g3⟩ | ⟨g2, g3⟩
          · refine Or.inl ⟨r, g2, (g3.kept (hold _ hlt)).to fun k _ => ?_⟩
            show _ = jx_fv G _ k (if _ then 0 else _) (if b = M.1 then _ else if _ then none else _)
            rw [if_neg (by omega), if_neg e1, if_neg e2]
          · refine Or.inr ⟨g2, g3.trans ?_⟩
            congr 2
            funext j
            show _ = jx_ev G _ (if _ then 0 else _) (if b = M.1 then _ else if _ then none else _)
            rw [if_neg (by omega), if_neg e1, if_neg e2]
  have hq' : ∀ q ∈ locs ++ L, jx_gB G ≤ q.base := fun q hm2 => by
    rcases List.mem_append.mp hm2 with w | w
    · exact hq q w
    · rw [hLo q w, hT]
      omega
  have h9 := kk _ _ _ _ _ _ _ _ _ _ _ _ C F.heap lsA (locs ++ L) hRn hL hq' (by show n0 ≤ M.1 + 1 + _; omega) (by show m0 ≤ M.2.1 + _ + _; omega)
  have e8 : (jx_mn M n.toNatClampNeg k.toNatClampNeg).1 - n0 = M.1 - n0 + 1 + n.toNatClampNeg := by show M.1 + 1 + _ - n0 = _; omega
  have e7 : (jx_mn M n.toNatClampNeg k.toNatClampNeg).2.1 - m0 = M.2.1 - m0 + n.toNatClampNeg + n.toNatClampNeg * k.toNatClampNeg := by show M.2.1 + _ + _ - m0 = _; omega
  rw [e8, e7] at h9
  have e6 : jx_cv G (.inr (some M.1)) = .ref T.heap.size := by
    rw [hT]
    show Value.ref (jx_ga G M.1) = _
    rw [ga _ r2]
    exact congrArg Value.ref (show (jx_gB G + (M.1 - 3) : Nat) = H.size by omega)
  rw [List.map_cons, e6] at h9
  obtain ⟨t, a1, b1⟩ := h9 F rfl X'
  exact ⟨t, step t a1, b1⟩
end J9
