def R_law : String := "RegisterFleetLaw"
def lw_P (b : Addr) (xs : List Int32) (args : Array Value) (s : State) : Prop := args = #[.ref b] ∧ s.IntsAt b xs ∧ xs.length ≤ 2048 ∧ (Jvm.Cond.and given_1 narrow_1).before args s = true
def lw_Q (_ : Array Value) (s : State) (o : Outcome) (t : State) : Prop := o = .returned (some (.int 1)) ∧ Framed s o t [] 600000 7302250
def lw_Z (below : List Frame) (a : Array Value) (s : State) : State → Prop := fun t => ∃ o, t.status = .running ∧ Ended t below o ∧ lw_Q a s o t
/-- the law's own end, with 1 on the stack, nothing written that was there before, its room as the claim has it -/
theorem lw_ret {p : Program} {l : Launch} {e : Env} {s : State} {m : MethodId} {below : List Frame} {meth : Method} {c : Code} {b : Nat} (hx : p.tables.exec = Jvm.exec) (hb : c.code = code) (hr : meth.sig.returnType = ret) (hlocks : meth.locks = false) {pc : Nat} {H : Heap} {ls : Array Slot} (hdg : decode code pc = .ok (.ireturn, 1)) : W p l e room_1 s m #[Value.ref b] below meth c H [] 600000 7302250 (lw_Z below #[Value.ref b] s) (F0 m pc ls [.int 1]) := by
  intro T hT X
  obtain ⟨fs, hret, hrun, hended, hW, hframe⟩ := X.leave (v := some (.int 1)) (hlocks := hlocks) (fun h => by rw [hr] at h; cases h)
  have hmeth' : T.vm.method? m = some meth := X.method'
  refine ⟨T.setFrames fs, ?_, .returned (some (.int 1)), hrun, hended, rfl, ⟨_, rfl⟩, hW, hframe⟩
  jvm_step X.here [X.here.top, hx, hb, hdg, hmeth', hr, ret, narrow_b1]
  (try refine ⟨rfl, ?_⟩); (try refine ⟨rfl, ?_⟩)
  first | (intro acts; rw [hret _ acts rfl rfl rfl]) | rw [hret _ _ rfl rfl rfl]
  exact Steps.refl _
/-- what holds at the law's entry: the machine, the code, the tables' words (any of lw_tbl by 'hts w (by decide +kernel)'), the script of L ints xs at the cell b, what the Statement gives of the start (any of its parts by flat_of_before) -/
def lw_At (p : Program) (s : State) (m : MethodId) (meth : Method) (c : Code) (b L : Nat) (xs : Nat → Int32) : Prop :=
  p.tables.exec = Jvm.exec ∧ c.code = code ∧ meth.sig.returnType = ret ∧ c.maxLocals = 4 ∧ meth.name = x.name ∧ s.vm.findClass R_law = some m.cls ∧ (∀ w ∈ lw_tbl, w.before #[Value.ref b] s = true) ∧ va_X b L xs s s.heap ∧ b < s.heap.size ∧ meth.locks = false ∧ (Jvm.Cond.and given_1 narrow_1).before #[Value.ref b] s = true
/-- every class of the worlds can be made -/
theorem jx_inst : ∀ (c : Nat) (r : vw_C), jx_cl[c]? = some r → Cond.instantiable r.1 r.2.2 ∈ jx_tb := by
  intro c r h
  match c, h with
  | 0, h => cases h; exact is_Jx4a65c
  | 1, h => cases h; exact is_X0
  | 2, h => cases h; exact is_X1
  | 3, h => cases h; exact is_X2
  | 4, h => cases h; exact is_X3
  | 5, h => cases h; exact is_X4
  | 6, h => cases h; exact is_X5
  | 7, h => cases h; exact is_X6
  | 8, h => cases h; exact is_X7
  | 9, h => cases h; exact is_X8
  | 10, h => cases h; exact is_X9
  | n + 11, h => simp [jx_cl] at h
theorem jx_clk {args : Array Value} {s : State} (hts : ∀ w ∈ jx_tb, w.before args s = true) (c : Nat) : ∃ y : ClassId × (Nat → Nat), ∀ q : vw_C, jx_cl[c]? = some q → u_Kn s q.1 q.2.1 q.2.2 y.1 y.2 := by
  cases h : jx_cl[c]? with
  | none => exact ⟨(0, fun _ => 0), fun q hq => by cases hq⟩
  | some r =>
    obtain ⟨cC, iS, hK⟩ := u_known (C := r.1) (T := r.2.1) (N := r.2.2) (n := r.2.2) hts (jx_ok_all c r h).1 (hts _ (jx_inst c r h))
    exact ⟨(cC, iS), fun q hq => by cases hq; exact hK⟩
theorem jx_acl {args : Array Value} {s : State} {ty : FieldType} (hp : ∀ C, ty ≠ .object C) (h : (Cond.arrayClass ty).before args s = true) : ∃ cA, ArrOfT s cA ty ∧ va_RA s cA ty := by
  obtain ⟨c, k, comp, f1, f2, f3⟩ := Cond.arrayClass_spec h
  refine ⟨c, fun n z => ⟨fun k h => (by cases h), k, f2, comp, f3⟩, ?_⟩
  cases ty with
  | object C => exact absurd rfl (hp C)
  | _ => exact f1
theorem jx_aol {args : Array Value} {s : State} {C : String} (h : (Cond.arrayOver (.object C)).before args s = true) : ∃ cA, ArrOfT s cA (.object C) ∧ va_RA s cA (.object C) := by
  obtain ⟨comp, c, k, g1, g2, g3, g4, g5⟩ := Cond.arrayOver_spec h
  exact ⟨c, fun n z => ⟨fun k h => (by cases h), k, g3, comp, g4⟩, k, comp, g3, g4, g1, g5⟩
theorem jx_aal {args : Array Value} {s : State} (h : (Cond.arrayOver (.array .int)).before args s = true) : ∃ cA, ArrOfT s cA (.array .int) ∧ va_RA s cA (.array .int) := by
  obtain ⟨comp, c, k, g1, g2, g3, g4, g5⟩ := arrayOverA_spec h
  exact ⟨c, fun n z => ⟨fun k h => (by cases h), k, g3, comp, g4⟩, g5⟩
/-- the empty array of ArrayList -/
theorem jx_emp {args : Array Value} {s : State} {t : Term} (h1 : (Cond.arrayOf t (.object "java/lang/Object")).before args s = true) (h2 : (Cond.eq (.length t) (.int 0)).before args s = true) : ∃ (a : Nat) (cell : Cell), t.eval args s none [] s = some (.ref a) ∧ s.heap[a]? = some cell ∧ s.isArrayOf cell (.object "java/lang/Object") ∧ cell.slots.size = 0 := by
  have hv : (Term.length t).eval args s none [] s = some (.int 0) := by
    cases hw : (Term.length t).eval args s none [] s with
    | none => simp [Cond.before, Cond.holds, Cond.value, hw] at h2
    | some w =>
      have hz : (Term.int 0).eval args s none [] s = some (.int 0) := rfl
      simp only [Cond.before, Cond.holds, Cond.value, hw, hz] at h2
      cases w <;> simp_all
  obtain ⟨a, cell, ht, harr, -⟩ := Term.length_spec hv
  obtain ⟨hcell, -, -, -⟩ := State.arrayAt?_spec harr
  refine ⟨a, cell, ht, hcell, (Cond.arrayOf_spec h1 ht hcell).1, ?_⟩
  simp only [Term.eval, ht, harr, Option.bind_eq_bind, Option.bind_some] at hv
  by_cases hlt : cell.slots.size < 2147483648
  · simp only [hlt, if_true] at hv
    have h0 : nI cell.slots.size = nI 0 := by injection (Option.some.inj hv)
    rw [jx_eqnn (by omega) (by omega)] at h0
    exact h0
  · simp [hlt] at hv
set_option maxHeartbeats 4000000 in
theorem whole_start (hri : ∀ G : jx_G, ri_H G) {p : Program} {e : Env} {s : State} {m : MethodId} {below : List Frame} {meth : Method} {c : Code} (l : Launch) {b L : Nat} {xs : Nat → Int32} (hL : L ≤ 2048) (C0 : lw_At p s m meth c b L xs) : W p l e room_1 s m #[Value.ref b] below meth c s.heap [] 0 0 (lw_Z below #[Value.ref b] s) (entryFrame m ([Value.ref b] : List Value).toArray 4) := by
  obtain ⟨hx, hb, hr, hml, hnm, hown, hts0, hX, hbl, hlocks, hgv⟩ := id C0
  have hts : ∀ w ∈ jx_tb, w.before #[Value.ref b] s = true := fun w hw => hts0 w (List.mem_filter.mp hw).1
  have hs := flat_of_before _ hgv
  obtain ⟨y, hy⟩ := Classical.axiomOfChoice (jx_clk hts)
  obtain ⟨c11, A11, R11⟩ := jx_acl (ty := .int) (fun C h => by cases h) (hts _ ac_int)
  obtain ⟨c12, A12, R12⟩ := jx_acl (ty := .boolean) (fun C h => by cases h) (hts _ ac_boolean)
  obtain ⟨c13, A13, R13⟩ := jx_aol (hts _ ao_20_RegisterFleetClient)
  obtain ⟨c14, A14, R14⟩ := jx_aol (hts _ ao_23_RegisterFleetOperation)
  obtain ⟨c15, A15, R15⟩ := jx_aol (hts _ ao_20_RegisterFleetServer)
  obtain ⟨c16, A16, R16⟩ := jx_aol (hts _ ao_16_javalangObject)
  have haa : (Cond.arrayOver (.array .int)).before #[Value.ref b] s = true := hts0 _ (by decide +kernel)
  obtain ⟨c17, A17, R17⟩ := jx_aal haa
  have hAA : jx_AA s := by
    unfold jx_AA
    unfold Cond.before Cond.holds at haa ⊢
    simp only [Cond.value] at haa ⊢
    exact haa
  obtain ⟨a1, cell1, e1, e2, e3, e4⟩ := jx_emp (args := #[Value.ref b]) (s := s) (t := (Term.static "java/util/ArrayList" "DEFAULTCAPACITY_EMPTY_ELEMENTDATA" "[Ljava/lang/Object;")) (hs _ (by decide +kernel)) (hs _ (by decide +kernel))
  obtain ⟨mi, hmi⟩ := va_Mi.of (args := #[Value.ref b]) (s := s) (C := "[Ljava/lang/Object;") (hs _ (by decide +kernel))
  have hZ : va_Z "java/util/ArrayList" "DEFAULTCAPACITY_EMPTY_ELEMENTDATA" "[Ljava/lang/Object;" (.ref a1) (fun q => s.heap.size ≤ q) s s.heap := va_Zref (hts0 _ (by decide +kernel)) (hts0 _ (by decide +kernel)) e1 (fun a h => by omega)
  have ha1 : a1 < s.heap.size := (Array.getElem?_eq_some_iff.mp e2).1
  let G : jx_G := (l, (fun a => match a with | 0 => b | 1 => a1 | 2 => mi | a + 3 => s.heap.size + a), (fun k => (y k).1), (fun k => (y k).2), (fun k => match k with | 11 => c11 | 12 => c12 | 13 => c13 | 14 => c14 | 15 => c15 | 16 => c16 | _ => c17), s.heap.size, s.heap, L, xs)
  have hF : jx_F G s := by
    refine ⟨⟨fun k q hq => hy k q hq, fun k q hq => ?_⟩, rfl, fun a ha => ?_, hbl, ha1, hX, hZ, ⟨cell1, e2, e3, e4⟩, hmi, va_Dc.of (hts0 _ (by decide +kernel)), hAA⟩
    · match k, hq with
      | 0, hq => cases hq; exact ⟨A11, R11⟩
      | 1, hq => cases hq; exact ⟨A12, R12⟩
      | 2, hq => cases hq; exact ⟨A13, R13⟩
      | 3, hq => cases hq; exact ⟨A14, R14⟩
      | 4, hq => cases hq; exact ⟨A15, R15⟩
      | 5, hq => cases hq; exact ⟨A16, R16⟩
      | 6, hq => cases hq; exact ⟨A17, R17⟩
      | n + 7, hq => simp [jx_tys] at hq
    · obtain ⟨k, rfl⟩ : ∃ k, a = k + 3 := ⟨a - 3, by omega⟩
      show s.heap.size + k = s.heap.size + (k + 3 - 3)
      omega
  have hR : jx_R G (3, 0, (fun a => match a with | 0 => (11, L) | 1 => (16, 0) | _ => (99, 0)), (fun _ j => xs j), (fun _ _ => none)) s.heap := by
    refine ⟨rfl, Nat.le_refl _, rfl, Nat.le_of_ble_eq_true rfl, Nat.le_of_ble_eq_true rfl, fun q _ => rfl, ⟨rfl, fun j _ => rfl, rfl, rfl⟩, fun a h3 h17 => ?_⟩
    obtain ⟨k, rfl⟩ : ∃ k, a = k + 3 := ⟨a - 3, by omega⟩
    exact absurd h17 (by show ¬ 99 ≤ 17; decide)
  have hJ := la_start (hri G) (show jx_gL G ≤ 2048 from hL) (K := fun a => match a with | 0 => (11, L) | 1 => (16, 0) | _ => (99, 0)) (I := fun _ j => xs j) (P := fun _ _ => none)
  rw [lg_entry_eq]
  have hent := lv_entry [Value.ref b] (n := 4) (Nat.le_of_ble_eq_true rfl)
  refine hJ p e s m #[Value.ref b] below meth c room_1 (lw_Z below #[Value.ref b] s) 3 0 ⟨hx, hb, hml, hown, hts, hF, hnm, by decide, by decide, by decide, by decide, rfl, rfl, ?_⟩ s.heap _ [] hR ⟨hent.1, rfl, hent.2.1, fun i v hi => ?_⟩ (fun q h => absurd h List.not_mem_nil) (Nat.le_refl _) (Nat.le_refl _)
  · intro r M H lsA locs pc hQ hR' hq hn hm hT
    obtain ⟨s1, s2, s3, s4, s5, s6⟩ := id hR'
    have hQ : r = some (.inl 1) := hQ
    subst hQ
    refine va_forget hq ?_
    refine W.widen (k := 600000) (n := 7302250) (by omega) (by omega) ?_
    exact lw_ret hx hb hr hlocks hT.2
  · match i, hi with
    | 0, hi => cases hi; rfl
    | 1, hi => cases hi
    | 2, hi => cases hi
    | 3, hi => cases hi
    | n + 4, hi => simp at hi
set_option maxHeartbeats 4000000 in
theorem lw_walk (hri : ∀ G : jx_G, ri_H G) (l : Launch) (b : Addr) (xs : List Int32) : MetFree l x (headSpec (Jvm.Cond.code x code maxLocals ret :: tables_1) room_1) (lw_P b xs) (fun _ _ _ _ _ => True) lw_Q := by
  refine MetFree.of_bodyS (code := code) (maxLocals := maxLocals) (ret := ret) (by decide) ?_ ?_
  · intro args s m h hn
    obtain ⟨meth, c, h1, h2, h3, h4, h5, h6, -, -⟩ := Cond.code_spec hn (atoms_spec (ws := Jvm.Cond.code x code maxLocals ret :: tables_1) h _ List.mem_cons_self)
    exact ⟨meth, c, h1, h2, h3, h4, h5, h6⟩
  · intro p e s m args below meth c s₁ B hml0 hP _
    obtain ⟨rfl, hx, hbd, hgv⟩ := hP
    obtain ⟨scr, harrAt, hlist, hof, hsmall⟩ := hx
    obtain ⟨hcb, hkn, -, -⟩ := State.arrayAt?_spec harrAt
    have hown : s.vm.findClass R_law = some m.cls := findClass_of_methodNamed B.named
    have hts0 : ∀ c ∈ (Jvm.Cond.code x code maxLocals ret :: tables_1), c.before #[Value.ref b] s = true := atoms_spec (ws := Jvm.Cond.code x code maxLocals ret :: tables_1) B.pre
    have hts : ∀ w ∈ lw_tbl, w.before #[Value.ref b] s = true := k2_hts_sels lw_privs (fun w hw => hts0 w (List.mem_cons_of_mem _ hw)) lw_privs_ok
    have hml : c.maxLocals = 4 := B.maxLocals_eq (hts0 _ List.mem_cons_self)
    have X₀ : Stand p l e room_1 s m #[Value.ref b] below meth c s₁ [] 0 0 := Stand.of_body B
    have hh0 : s₁.heap = s.heap := by rw [B.state]; rfl
    have hsz : scr.slots.size = xs.length := by rw [← Array.length_toList, hlist, List.length_map]
    have hval : ∀ j : Nat, j < xs.length → scr.slots[j]? = some (.int (xs.getD j 0)) := fun j hj => by
      rw [← Array.getElem?_toList, hlist]
      simp [hj]
    have hbl : b < s.heap.size := (Array.getElem?_eq_some_iff.mp hcb).1
    have hX : va_X b xs.length (fun j => xs.getD j 0) s s.heap := ⟨scr, hcb, hof, hkn, hsz, hval⟩
    have K : W p l e room_1 s m #[Value.ref b] below meth c s₁.heap [] 0 0 (lw_Z below #[Value.ref b] s) (entryFrame m ([Value.ref b] : List Value).toArray 4) := by
      rw [hh0]
      exact whole_start hri l hbd ⟨B.exec, B.bytes, B.returns, hml, (name_of_methodNamed B.named B.method).1, hown, hts, hX, hbl, B.notSynchronized, hgv⟩
    obtain ⟨t, a1, o, b1, b2, b3⟩ := K s₁ rfl X₀
    exact ⟨t, o, a1, b1, b2, b3⟩
theorem lw_pre_spec {args : Array Value} {s : State} (h : (Jvm.Cond.and given_1 narrow_1).before args s = true) (hr : rest_1_c.before args s = true) : ∃ (b : Addr) (xs : List Int32), lw_P b xs args s := by
  have hs := flat_of_before _ h
  have hq := flat_of_before _ hr
  have hc : (Cond.count 1).before args s = true := hs _ (by decide +kernel)
  have harr : (Cond.arrayOf (.arg 0) .int).before args s = true := hs _ (by decide +kernel)
  have hle : (Cond.le (.length (.arg 0)) (.int 2048)).before args s = true := hs _ (by decide +kernel)
  have hlen : (Cond.isInt (.length (.arg 0))).before args s = true := hq _ (by decide +kernel)
  have hall : (Cond.all (.arg 0) (.isInt (.elem (.arg 0) (.index 0)))).before args s = true := hq _ (by decide +kernel)
  obtain ⟨b, xs, hb, hx⟩ := State.ints_of_pre rfl harr hlen hall
  have hsm : xs.length < 2 ^ 31 := hx.choose_spec.2.2.2
  have hev : (Term.length (.arg 0)).eval args s none [] s = some (.int xs.length.toInt32) := hx.length_eval hb
  have hv := Cond.le_ints hev (show (Term.int 2048).eval args s none [] s = some (.int 2048) from rfl)
  have hd : xs.length.toInt32 ≤ 2048 := by
    simpa [Cond.before, Cond.holds, hv] using hle
  have hN : xs.length ≤ 2048 := (Int32.ofNat_le_ofNat hsm (by decide)).mp (show Int32.ofNat xs.length ≤ Int32.ofNat 2048 from hd)
  exact ⟨b, xs, Cond.one_arg hc (show args[0]? = some (.ref b) from hb), hx, hN, h⟩
theorem lw_comes (hri : ∀ G : jx_G, ri_H G) (l : Launch) : Comes l x (Jvm.Cond.code x code maxLocals ret :: tables_1) room_1 (fun tb e args s => Calls_1 tb e args s ∧ rest_1 tb e args s ∧ Pre_1 tb e args s)
    (fun _ _ args s o t => lw_Q args s o t) := by
  intro p e ha hc hk s m args below hf hfit hheap happ hpre
  obtain ⟨b, xs, hP⟩ := lw_pre_spec hpre.2.2 hpre.2.1
  obtain ⟨k, o, h1, h2, h3, hQ⟩ := lw_walk hri l b xs p e ha hc hk s m args below hf ((Spec.applies_iff_loose hf).mp happ).1 hP trivial
  exact ⟨k, o, h1, h2, h3, hQ⟩
theorem lw_frame {s t : State} {o : Outcome} {args : Array Value} (h : Framed s o t [] 600000 7302250) :
    Framed s o t (fieldLocs frame_1_writes args s ++ arrayLocs frame_1_arrays args s ++ staticLocs frame_1_statics s) 600000 7302250 := h
theorem lw_limb (hri : ∀ G : jx_G, ri_H G) (L : Cond) (hL : ∀ (args : Array Value) (s t : State), L.after args s (.returned (some (.int 1))) t = true) :
    ArmFor flags0 classFile x code maxLocals ret World_1 tables_1 room_1 Calls_1 rest_1 Pre_1
      (fun tb e a s o t => postC L tb e a s o t ∧ Framed s o t (fieldLocs frame_1_writes a s ++ arrayLocs frame_1_arrays a s ++ staticLocs frame_1_statics s) 600000 7302250) := by
  intro l _ _ _ p e ha hc hk s m args below hf hfit hheap happ hpre
  obtain ⟨k, o, h1, h2, h3, rfl, hF⟩ := lw_comes hri l p e ha hc hk s m args below hf hfit hheap happ hpre
  exact ⟨k, _, h1, h2, h3, hL args s _, lw_frame hF⟩
theorem i_vcH (hri : ∀ G : jx_G, ri_H G) : Claimed_1_1 ∧ Claimed_1_2 := ⟨lw_limb hri limb_1_1 (fun args s t => by simp [limb_1_1, Cond.after, Cond.holds, Cond.value]), lw_limb hri limb_1_2 (fun args s t => Cond.after_iff.mpr (by
  first | (rw [show limb_1_2 = Cond.eq .result (.int 1) from rfl, Cond.eq_ints (x := 1) (y := 1) rfl rfl]; simp; done) | (simp [limb_1_2, Cond.value, Term.eval]; done)))⟩
