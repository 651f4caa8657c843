/-- what the tables say of a method that is called -/
def jx_Y (y : MethodName) (cc : ByteArray) (nL : Nat) (ret : Option FieldType) (n : Nat) : Prop := Cond.code y cc nL ret ∈ jx_tb ∧ Cond.initialized y.cls ∈ jx_tb ∧ y.cls ≠ "java/lang/invoke/MethodHandle" ∧ y.cls ≠ "java/lang/invoke/VarHandle" ∧ (parseMethodDescriptor y.desc).map (fun d => d.parameters.length) = some n ∧ nL ≤ 21
section J7
variable {G : jx_G} {y : MethodName} {cc : ByteArray} {nL : Nat} {ret : Option FieldType} {d : Nat} {Q : Option jx_V → jx_M → Prop} {pc : Nat} {ls : List (Option jx_V)} {st : List jx_V} {M : jx_M} {a : Nat}
theorem jx_run {p : Program} {e : Env} {s : State} {m : MethodId} {args : Array Value} {below : List Frame} {meth : Method} {c0 : Code} {R : Room} {Z : State → Prop} {n0 m0 : Nat} {H : Heap} {lsA : Array Slot} {locs : List Loc} {st0 : List Value} {Q2 : Option jx_V → jx_M → Prop} {ar : Array Value}
    (C : jx_X G y cc nL ret d Q p e s m args below meth c0 R Z n0 m0) (hL : jx_L G lsA nL ls) (hq : ∀ q ∈ locs, jx_gB G ≤ q.base) (hn : n0 ≤ M.1) (hm : m0 ≤ M.2.1)
    (hr : va_Run p (jx_gl G) e R s m args below meth c0 H locs (M.1 - n0) (M.2.1 - m0) (600003 - M.1) (7302250 - M.2.1) (F0 m pc lsA st0) (st.map (jx_cv G)) ((fun (_ : Array Value) (_ : State) (o : Outcome) (t : State) => ∃ (r : Option jx_V) (M' : jx_M), o = .returned (r.map (jx_cv G)) ∧ Q2 r M' ∧ jx_R G M' t.heap ∧ M.1 ≤ M'.1 ∧ M.2.1 ≤ M'.2.1) ar) (fun q => jx_gB G ≤ q))
    (kk : ∀ (r : Option jx_V) (M' : jx_M), Q2 r M' → M.1 ≤ M'.1 → M.2.1 ≤ M'.2.1 → jx_J G y cc nL ret d Q (pc + 3) ls (r.toList ++ st) M') : W p (jx_gl G) e R s m args below meth c0 H locs (M.1 - n0) (M.2.1 - m0) Z (F0 m pc lsA st0) := by
  intro T hT X
  obtain ⟨v, st₀, t, T', L, h0, X', hf, e1, e2, ⟨r, M', hv, hQ, hR', hn', hm'⟩, go⟩ := hr T hT X
  have hv : v = r.map (jx_cv G) := Outcome.returned.inj hv
  have hsz : s.heap.size + 3 = jx_gB G + n0 := C.2.2.2.2.2.2.2.2.2.2.2.1
  have hhs : jx_hs s.heap = jx_hs (jx_gH G) + m0 := C.2.2.2.2.2.2.2.2.2.2.2.2.1
  have hR2 : jx_R G M' T'.heap := by rw [e1]; exact hR'
  have h9 := kk r M' hQ hn' hm' _ _ _ _ _ _ _ _ _ _ _ _ C T'.heap lsA (locs ++ L) hR2 hL (fun q hq' => by
    rcases List.mem_append.mp hq' with h | h
    · exact hq q h
    · exact hf q h) (by omega) (by omega)
  have hl : (r.toList ++ st).map (jx_cv G) = v.toList ++ st.map (jx_cv G) := by
    rw [hv, List.map_append]
    cases r <;> rfl
  rw [hl] at h9
  obtain ⟨g1, g2, g3, -⟩ := hR2
  obtain ⟨t2, a1, b1⟩ := jx_tight (cells := M.1 - n0 + (600003 - M.1)) (slots := M.2.1 - m0 + (7302250 - M.2.1)) (k := M'.1 - n0) (n := M'.2.1 - m0) (by omega) (by omega) h9 T' rfl X'
  exact ⟨t2, go t2 a1, b1⟩
theorem jx_blind {av : List jx_V} : FrameBlind (fun a U => a = (av.map (jx_cv G)).toArray ∧ jx_F G U ∧ jx_R G M U.heap) := fun a U g mk h => ⟨h.1, jx_F.moved (u := U) (U := U.calling g mk a) (Vm.Alike.refl U.vm) h.2.1, h.2.2⟩
theorem jx_callB {p : Program} {e : Env} {s : State} {m : MethodId} {args : Array Value} {below : List Frame} {meth : Method} {c0 : Code} {R : Room} {Z : State → Prop} {n0 m0 : Nat} {y2 : MethodName} {cc2 : ByteArray} {nL2 : Nat} {ret2 : Option FieldType} {d2 n idx : Nat}
    (C : jx_X G y cc nL ret d Q p e s m args below meth c0 R Z n0 m0) (hY : jx_Y y2 cc2 nL2 ret2 n) (hdep : d2 + 1 ≤ d) (hl : Cond.methodLink y.cls idx y2 ∈ jx_tb) : CallB R s args y.cls idx y2 cc2 nL2 ret2 (.code y2 cc2 nL2 ret2 :: jx_tb) { frames := d2, cells := 600003 - M.1, slots := 7302250 - M.2.1, locals := 40 * d2 } (600003 - M.1) (7302250 - M.2.1) n := by
  have hts := C.2.2.2.2.1
  have hfr : d ≤ R.frames := C.2.2.2.2.2.2.2.1
  have hlo : 40 * d ≤ R.locals := C.2.2.2.2.2.2.2.2.1
  obtain ⟨y1, y2', y3, y4, y5, y6⟩ := hY
  refine ⟨rfl, rfl, by show d2 + 1 ≤ _; omega, by show 8 + (nL2 + 11) + 40 * d2 ≤ _; omega, ?_, List.mem_cons_self, hts _ y1, hts _ y2', ⟨y3, y4⟩, fun sig h => ?_, hts _ hl⟩
  · intro w hw
    rcases List.mem_cons.mp hw with h | h
    · rw [h]; exact jx_pay hts _ y1
    · exact jx_pay hts _ h
  · rw [h] at y5
    exact (Option.some.inj y5).symm
theorem jx_callN {p : Program} {e : Env} {s : State} {m : MethodId} {args : Array Value} {below : List Frame} {meth : Method} {c0 : Code} {R : Room} {Z : State → Prop} {n0 m0 : Nat} {y2 : MethodName} {host : String} {cc2 : ByteArray} {nL2 : Nat} {ret2 : Option FieldType} {d2 n idx : Nat}
    (C : jx_X G y cc nL ret d Q p e s m args below meth c0 R Z n0 m0) (hY : jx_Y y2 cc2 nL2 ret2 n) (hdep : d2 + 1 ≤ d) (hl : Cond.methodLinkNest y.cls idx y2 host ∈ jx_tb) : va_CN R s args y.cls idx y2 host cc2 nL2 ret2 (.code y2 cc2 nL2 ret2 :: jx_tb) { frames := d2, cells := 600003 - M.1, slots := 7302250 - M.2.1, locals := 40 * d2 } (600003 - M.1) (7302250 - M.2.1) n := by
  have hts := C.2.2.2.2.1
  have hfr : d ≤ R.frames := C.2.2.2.2.2.2.2.1
  have hlo : 40 * d ≤ R.locals := C.2.2.2.2.2.2.2.2.1
  obtain ⟨y1, y2', y3, y4, y5, y6⟩ := hY
  refine ⟨⟨rfl, rfl, by show d2 + 1 ≤ _; omega, by show 8 + (nL2 + 11) + 40 * d2 ≤ _; omega, ?_, List.mem_cons_self⟩, hts _ y1, hts _ y2', ⟨y3, y4⟩, fun sig h => ?_, hts _ hl⟩
  · intro w hw
    rcases List.mem_cons.mp hw with h | h
    · rw [h]; exact jx_pay hts _ y1
    · exact jx_pay hts _ h
  · rw [h] at y5
    exact (Option.some.inj y5).symm
theorem jx_rev {av : List jx_V} {v : jx_V} : (av.reverse ++ v :: st).map (jx_cv G) = (av.map (jx_cv G)).reverse ++ jx_cv G v :: st.map (jx_cv G) := by
  rw [List.map_append, List.map_reverse, List.map_cons]
theorem jx_rev0 {av : List jx_V} : (av.reverse ++ st).map (jx_cv G) = (av.map (jx_cv G)).reverse ++ st.map (jx_cv G) := by
  rw [List.map_append, List.map_reverse]
section Calls
variable {y2 : MethodName} {cc2 : ByteArray} {nL2 : Nat} {ret2 : Option FieldType} {d2 n idx c b : Nat} {av : List jx_V} {Q2 : Option jx_V → jx_M → Prop} {r : vw_C} {host : String}
theorem jx_rm {R : Room} {n0 m0 : Nat} {M : jx_M} (h1 : R.cells + n0 = 600003) (h2 : R.slots + m0 = 7302250) (h3 : M.1 ≤ 600003) (h4 : M.2.1 ≤ 7302250) (hn : n0 ≤ M.1) (hm : m0 ≤ M.2.1) : M.1 - n0 + (600003 - M.1) ≤ R.cells ∧ M.2.1 - m0 + (7302250 - M.2.1) ≤ R.slots := ⟨by omega, by omega⟩
/-- a virtual call -/
theorem jx_callV (hd : decode cc pc = .ok (.invokevirtual idx, 3)) (hM : jx_C G y2 cc2 nL2 ret2 d2 (.inr (some b) :: av) M Q2) (hY : jx_Y y2 cc2 nL2 ret2 n) (hl : Cond.methodLink y.cls idx y2 ∈ jx_tb) (hi : Cond.instanceMethod y2 ∈ jx_tb) (hse : Cond.selects r.1 y2 y2 ∈ jx_tb) (hK : (M.2.2.1 b).1 = c) (hc : jx_cl[c]? = some r) (hdep : d2 + 1 ≤ d) (hav : av.length = n) (hst : st.length ≤ 8)
    (kk : ∀ (v : Option jx_V) (M' : jx_M), Q2 v M' → M.1 ≤ M'.1 → M.2.1 ≤ M'.2.1 → jx_J G y cc nL ret d Q (pc + 3) ls (v.toList ++ st) M') : jx_J G y cc nL ret d Q pc ls (av.reverse ++ .inr (some b) :: st) M := by
  intro p e s m args below meth c0 R Z n0 m0 C H lsA locs hR hL hq hn hm
  have hF := C.2.2.2.2.2.1
  have hts := C.2.2.2.2.1
  obtain ⟨cell, v1, v2, v3, v4, v5⟩ := hR.cls hF hK hc
  rw [jx_rev]
  exact jx_run (ar := (jx_cv G (.inr (some b)) :: av.map (jx_cv G)).toArray) C hL hq hn hm (va_runV (C := r.1) ⟨C.1, C.2.1, C.2.2.1, C.2.2.2.1, hts⟩ hM ⟨jx_callB C hY hdep hl, hts _ hi, hts _ hse⟩ ⟨jx_blind, ⟨cell, v1, by rw [v2]; rfl, v4⟩, fun U hU hW => ⟨rfl, hF.moved hW.alike, by rw [hU]; exact hR⟩⟩ rfl (by rw [List.length_map]; exact hav) hL.1 rfl (lv_room (by rw [jx_words]; exact hst)) hd (jx_rm C.2.2.2.2.2.2.2.2.2.1 C.2.2.2.2.2.2.2.2.2.2.1 hR.2.2.2.1 hR.2.2.2.2.1 hn hm)) kk
/-- a constructor -/
theorem jx_callI (hd : decode cc pc = .ok (.invokespecial idx, 3)) (hM : jx_C G y2 cc2 nL2 none d2 (.inr (some b) :: av) M Q2) (hY : jx_Y y2 cc2 nL2 none n) (hl : Cond.methodLink y.cls idx y2 ∈ jx_tb) (hi : Cond.instanceMethod y2 ∈ jx_tb) (hnm : y2.name = "<init>") (hdep : d2 + 1 ≤ d) (hav : av.length = n) (hst : st.length ≤ 8)
    (kk : ∀ (v : Option jx_V) (M' : jx_M), Q2 v M' → M.1 ≤ M'.1 → M.2.1 ≤ M'.2.1 → jx_J G y cc nL ret d Q (pc + 3) ls (v.toList ++ st) M') : jx_J G y cc nL ret d Q pc ls (av.reverse ++ .inr (some b) :: st) M := by
  intro p e s m args below meth c0 R Z n0 m0 C H lsA locs hR hL hq hn hm
  have hF := C.2.2.2.2.2.1
  have hts := C.2.2.2.2.1
  rw [jx_rev]
  exact jx_run (ar := (jx_cv G (.inr (some b)) :: av.map (jx_cv G)).toArray) C hL hq hn hm (va_runI ⟨C.1, C.2.1, C.2.2.1, C.2.2.2.1, hts⟩ hM ⟨jx_callB C hY hdep hl, hnm, hts _ hi⟩ ⟨jx_blind, fun U hU hW => ⟨rfl, hF.moved hW.alike, by rw [hU]; exact hR⟩⟩ rfl (by rw [List.length_map]; exact hav) hL.1 rfl (lv_room (by rw [jx_words]; exact hst)) hd (jx_rm C.2.2.2.2.2.2.2.2.2.1 C.2.2.2.2.2.2.2.2.2.2.1 hR.2.2.2.1 hR.2.2.2.2.1 hn hm)) kk
/-- a nest mate's constructor -/
theorem jx_callIN (hd : decode cc pc = .ok (.invokespecial idx, 3)) (hM : jx_C G y2 cc2 nL2 none d2 (.inr (some b) :: av) M Q2) (hY : jx_Y y2 cc2 nL2 none n) (hl : Cond.methodLinkNest y.cls idx y2 host ∈ jx_tb) (hi : Cond.instanceMethod y2 ∈ jx_tb) (hnm : y2.name = "<init>") (hdep : d2 + 1 ≤ d) (hav : av.length = n) (hst : st.length ≤ 8)
    (kk : ∀ (v : Option jx_V) (M' : jx_M), Q2 v M' → M.1 ≤ M'.1 → M.2.1 ≤ M'.2.1 → jx_J G y cc nL ret d Q (pc + 3) ls (v.toList ++ st) M') : jx_J G y cc nL ret d Q pc ls (av.reverse ++ .inr (some b) :: st) M := by
  intro p e s m args below meth c0 R Z n0 m0 C H lsA locs hR hL hq hn hm
  have hF := C.2.2.2.2.2.1
  have hts := C.2.2.2.2.1
  rw [jx_rev]
  exact jx_run (ar := (jx_cv G (.inr (some b)) :: av.map (jx_cv G)).toArray) C hL hq hn hm (va_runIN ⟨C.1, C.2.1, C.2.2.1, C.2.2.2.1, hts⟩ hM ⟨jx_callN C hY hdep hl, hnm, hts _ hi⟩ ⟨jx_blind, fun U hU hW => ⟨rfl, hF.moved hW.alike, by rw [hU]; exact hR⟩⟩ rfl (by rw [List.length_map]; exact hav) hL.1 rfl (lv_room (by rw [jx_words]; exact hst)) hd (jx_rm C.2.2.2.2.2.2.2.2.2.1 C.2.2.2.2.2.2.2.2.2.2.1 hR.2.2.2.1 hR.2.2.2.2.1 hn hm)) kk
/-- a static call -/
theorem jx_callS (hd : decode cc pc = .ok (.invokestatic idx, 3)) (hM : jx_C G y2 cc2 nL2 ret2 d2 av M Q2) (hY : jx_Y y2 cc2 nL2 ret2 n) (hl : Cond.methodLink y.cls idx y2 ∈ jx_tb) (hi : Cond.static y2 ∈ jx_tb) (hdep : d2 + 1 ≤ d) (hav : av.length = n) (hst : st.length ≤ 8)
    (kk : ∀ (v : Option jx_V) (M' : jx_M), Q2 v M' → M.1 ≤ M'.1 → M.2.1 ≤ M'.2.1 → jx_J G y cc nL ret d Q (pc + 3) ls (v.toList ++ st) M') : jx_J G y cc nL ret d Q pc ls (av.reverse ++ st) M := by
  intro p e s m args below meth c0 R Z n0 m0 C H lsA locs hR hL hq hn hm
  have hF := C.2.2.2.2.2.1
  have hts := C.2.2.2.2.1
  rw [jx_rev0]
  exact jx_run (ar := (av.map (jx_cv G)).toArray) C hL hq hn hm (va_runS ⟨C.1, C.2.1, C.2.2.1, C.2.2.2.1, hts⟩ hM ⟨jx_callB C hY hdep hl, hts _ hi⟩ ⟨jx_blind, fun U hU hW => ⟨rfl, hF.moved hW.alike, by rw [hU]; exact hR⟩⟩ rfl (by rw [List.length_map]; exact hav) hL.1 rfl (lv_room (by rw [jx_words]; exact hst)) hd (jx_rm C.2.2.2.2.2.2.2.2.2.1 C.2.2.2.2.2.2.2.2.2.2.1 hR.2.2.2.1 hR.2.2.2.2.1 hn hm)) kk
/-- a nest mate's static method -/
theorem jx_callSN (hd : decode cc pc = .ok (.invokestatic idx, 3)) (hM : jx_C G y2 cc2 nL2 ret2 d2 av M Q2) (hY : jx_Y y2 cc2 nL2 ret2 n) (hl : Cond.methodLinkNest y.cls idx y2 host ∈ jx_tb) (hi : Cond.static y2 ∈ jx_tb) (hdep : d2 + 1 ≤ d) (hav : av.length = n) (hst : st.length ≤ 8)
    (kk : ∀ (v : Option jx_V) (M' : jx_M), Q2 v M' → M.1 ≤ M'.1 → M.2.1 ≤ M'.2.1 → jx_J G y cc nL ret d Q (pc + 3) ls (v.toList ++ st) M') : jx_J G y cc nL ret d Q pc ls (av.reverse ++ st) M := by
  intro p e s m args below meth c0 R Z n0 m0 C H lsA locs hR hL hq hn hm
  have hF := C.2.2.2.2.2.1
  have hts := C.2.2.2.2.1
  rw [jx_rev0]
  exact jx_run (ar := (av.map (jx_cv G)).toArray) C hL hq hn hm (va_runSN ⟨C.1, C.2.1, C.2.2.1, C.2.2.2.1, hts⟩ hM ⟨jx_callN C hY hdep hl, hts _ hi, trivial⟩ ⟨jx_blind, fun U hU hW => ⟨rfl, hF.moved hW.alike, by rw [hU]; exact hR⟩⟩ rfl (by rw [List.length_map]; exact hav) hL.1 rfl (lv_room (by rw [jx_words]; exact hst)) hd (jx_rm C.2.2.2.2.2.2.2.2.2.1 C.2.2.2.2.2.2.2.2.2.2.1 hR.2.2.2.1 hR.2.2.2.2.1 hn hm)) kk
end Calls
end J7
