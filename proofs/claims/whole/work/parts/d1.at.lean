theorem sl_31 : ∀ n, n < 32 → ((nI n &&& 31).toBitVec.smod 32).toNat = n := by decide +kernel
theorem bt_shr {v k : Nat} (hv : v < 2147483648) (hk : k < 31) : nI v >>> (nI k &&& 31) &&& 1 = nI (v / 2 ^ k % 2) := by
  have h1 : v / 2 ^ k ≤ v := Nat.div_le_self _ _
  rw [pk_shrN (by omega) _ k (sl_31 k (by omega)), pk_andN (by omega) 1 (by decide)]
theorem bt_b {v k : Nat} : v / 2 ^ k % 2 = (v.testBit k).toNat := by
  rw [Nat.toNat_testBit]
theorem bt_1 {v k : Nat} (hv : v < 2147483648) (hk : k < 31) : (nI v >>> (nI k &&& 31) &&& 1 = 1) = (v.testBit k = true) := by
  rw [bt_shr hv hk, bt_b]
  cases v.testBit k
  · exact propext ⟨fun w => absurd w (by decide), fun w => absurd w (by decide)⟩
  · exact propext ⟨fun _ => rfl, fun _ => rfl⟩
theorem bt_0 {v k : Nat} (hv : v < 2147483648) (hk : k < 31) : (nI v >>> (nI k &&& 31) &&& 1 = 0) = ¬ (v.testBit k = true) := by
  rw [bt_shr hv hk, bt_b]
  cases v.testBit k
  · exact propext ⟨fun _ => by simp, fun _ => rfl⟩
  · exact propext ⟨fun w => absurd w (by decide), fun w => absurd rfl w⟩
theorem bt_shl {n k : Nat} (hk : k < 31) (hn : n * 2 ^ k < 2 ^ 32) : nI n <<< (nI k &&& 31) = nI (n * 2 ^ k) := pk_shlN _ k (sl_31 k (by omega)) hn
theorem bt_s1 {k : Nat} (hk : k < 31) : (1 : Int32) <<< (nI k &&& 31) = nI (2 ^ k) := by
  have h : 2 ^ k < 2 ^ 31 := Nat.pow_lt_pow_right (by decide) hk
  have := bt_shl (n := 1) hk (by omega)
  rw [Nat.one_mul] at this
  exact this
theorem bt_or (a b : Nat) : nI a ||| nI b = nI (a ||| b) := by
  apply Int32.toBitVec_inj.mp
  rw [Int32.toBitVec_or]
  show BitVec.ofNat 32 a ||| BitVec.ofNat 32 b = BitVec.ofNat 32 (a ||| b)
  rw [BitVec.ofNat_or]
theorem bt_xor (a b : Nat) : nI a ^^^ nI b = nI (a ^^^ b) := by
  apply Int32.toBitVec_inj.mp
  rw [Int32.toBitVec_xor]
  show BitVec.ofNat 32 a ^^^ BitVec.ofNat 32 b = BitVec.ofNat 32 (a ^^^ b)
  rw [BitVec.ofNat_xor]
theorem bt_m1 : (-1 : Int32) = nI 4294967295 := by decide
/-- m lies in v -/
theorem bt_sub {m v : Nat} (hm : m < 2147483648) : (nI m &&& (nI v ^^^ -1) = 0) = ∀ i, m.testBit i = true → v.testBit i = true := by
  rw [bt_m1, bt_xor, jx_and]
  have hlt : m &&& (v ^^^ 4294967295) < 2147483648 := Nat.lt_of_le_of_lt Nat.and_le_left hm
  have e : (nI (m &&& (v ^^^ 4294967295)) = 0) = (m &&& (v ^^^ 4294967295) = 0) := jx_eqnl hlt (by decide)
  rw [e]
  have ones : ∀ i, (4294967295 : Nat).testBit i = decide (i < 32) := fun i => by
    rw [show (4294967295 : Nat) = 2 ^ 32 - 1 from rfl, Nat.testBit_two_pow_sub_one]
  refine propext ⟨fun h i hi => ?_, fun h => ?_⟩
  · have hb : (m &&& (v ^^^ 4294967295)).testBit i = false := by
      rw [h]
      exact Nat.zero_testBit i
    have hi32 : i < 32 := by
      refine Decidable.byContradiction (fun w => ?_)
      have : m < 2 ^ i := Nat.lt_of_lt_of_le (show m < 2 ^ 32 by omega) (Nat.pow_le_pow_right (by decide) (by omega))
      rw [Nat.testBit_lt_two_pow this] at hi
      exact absurd hi (by decide)
    rw [Nat.testBit_and, Nat.testBit_xor, ones, hi] at hb
    cases hv : v.testBit i
    · rw [hv] at hb
      simp [hi32] at hb
    · rfl
  · apply Nat.eq_of_testBit_eq
    intro i
    rw [Nat.zero_testBit, Nat.testBit_and, Nat.testBit_xor, ones]
    cases hmi : m.testBit i
    · rfl
    · rw [h i hmi]
      have hi32 : i < 32 := by
        refine Decidable.byContradiction (fun w => ?_)
        have : m < 2 ^ i := Nat.lt_of_lt_of_le (show m < 2 ^ 32 by omega) (Nat.pow_le_pow_right (by decide) (by omega))
        rw [Nat.testBit_lt_two_pow this] at hmi
        exact absurd hmi (by decide)
      simp [hi32]
theorem bt_orlt {v k N : Nat} (hv : v < 2 ^ N) (hk : k < N) : v ||| 2 ^ k < 2 ^ N := Nat.or_lt_two_pow hv (Nat.pow_lt_pow_right (by decide) hk)
theorem bt_orgt {v k : Nat} (h : ¬ v.testBit k = true) : v < v ||| 2 ^ k := by
  have h1 : v ≤ v ||| 2 ^ k := Nat.left_le_or
  rcases Nat.lt_or_eq_of_le h1 with w | w
  · exact w
  · exfalso
    apply h
    rw [w, Nat.testBit_or, Nat.testBit_two_pow_self, Bool.or_true]
/-- counting -/
def ctn (f : Nat → Prop) [DecidablePred f] : Nat → Nat
  | 0 => 0
  | k + 1 => if f k then ctn f k + 1 else ctn f k
def ctf (f : Nat → Prop) [DecidablePred f] : Nat → Nat → Nat
  | 0, _ => 0
  | k + 1, i => if f k ∧ ctn f k = i then k else ctf f k i
theorem ctn_le {f : Nat → Prop} [DecidablePred f] {i : Nat} : ∀ j, i ≤ j → ctn f i ≤ ctn f j
  | 0, h => by
    have : i = 0 := by omega
    subst this
    exact Nat.le_refl _
  | j + 1, h => by
    by_cases e : i = j + 1
    · subst e
      exact Nat.le_refl _
    · have := ctn_le (f := f) j (show i ≤ j by omega)
      show _ ≤ if f j then ctn f j + 1 else ctn f j
      split <;> omega
theorem ctn_lt {f : Nat → Prop} [DecidablePred f] {i j : Nat} (h : i < j) (hf : f i) : ctn f i < ctn f j := by
  have h1 := ctn_le (f := f) j (show i + 1 ≤ j by omega)
  have h2 : ctn f (i + 1) = ctn f i + 1 := if_pos hf
  omega
theorem ctn_b {f : Nat → Prop} [DecidablePred f] : ∀ k, ctn f k ≤ k
  | 0 => Nat.le_refl _
  | k + 1 => by
    have := ctn_b (f := f) k
    show (if f k then ctn f k + 1 else ctn f k) ≤ k + 1
    split <;> omega
theorem ctf_v {f : Nat → Prop} [DecidablePred f] : ∀ k i, i < ctn f k → f (ctf f k i) ∧ ctn f (ctf f k i) = i ∧ ctf f k i < k
  | 0, i, h => absurd h (Nat.not_lt_zero _)
  | k + 1, i, h => by
    have h' : i < if f k then ctn f k + 1 else ctn f k := h
    show f (if f k ∧ ctn f k = i then k else ctf f k i) ∧ ctn f (if f k ∧ ctn f k = i then k else ctf f k i) = i ∧ (if f k ∧ ctn f k = i then k else ctf f k i) < k + 1
    by_cases e : f k ∧ ctn f k = i
    · rw [if_pos e]
      exact ⟨e.1, e.2, by omega⟩
    · rw [if_neg e]
      have hi : i < ctn f k := by
        by_cases g : f k
        · rw [if_pos g] at h'
          have : ctn f k ≠ i := fun w => e ⟨g, w⟩
          omega
        · rw [if_neg g] at h'
          exact h'
      obtain ⟨a, b, c⟩ := ctf_v k i hi
      exact ⟨a, b, by omega⟩
theorem ctf_i {f : Nat → Prop} [DecidablePred f] {k n : Nat} (hn : n < k) (hf : f n) : ctf f k (ctn f n) = n := by
  obtain ⟨a, b, c⟩ := ctf_v (f := f) k (ctn f n) (ctn_lt hn hf)
  rcases Nat.lt_trichotomy (ctf f k (ctn f n)) n with w | w | w
  · have := ctn_lt w a
    omega
  · exact w
  · have := ctn_lt w hf
    omega
theorem ctf_lt {f : Nat → Prop} [DecidablePred f] {k i j : Nat} (hij : i < j) (hj : j < ctn f k) : ctf f k i < ctf f k j := by
  obtain ⟨a, b, c⟩ := ctf_v (f := f) k i (by omega)
  obtain ⟨a2, b2, c2⟩ := ctf_v (f := f) k j hj
  refine Decidable.byContradiction (fun w => ?_)
  have := ctn_le (f := f) (ctf f k i) (show ctf f k j ≤ ctf f k i by omega)
  omega
/-- operations of register r -/
abbrev at_a (J : Nat → Nat → Int32) (r : Int32) (n : Nat) : Prop := (J 119 n = 0 ∨ J 119 n = 1) ∧ J 121 n = r
abbrev at_p (J : Nat → Nat → Int32) (r : Int32) (n : Nat) : Prop := ((J 119 n = 0 ∨ J 119 n = 1) ∧ J 121 n = r) ∧ (J 119 n = 1 ∨ ¬ J 123 n = 0)
theorem at_pa {J : Nat → Nat → Int32} {r : Int32} : ∀ k, ctn (at_p J r) k ≤ ctn (at_a J r) k
  | 0 => Nat.le_refl _
  | k + 1 => by
    have ih := at_pa (J := J) (r := r) k
    show (if at_p J r k then ctn (at_p J r) k + 1 else ctn (at_p J r) k) ≤ if at_a J r k then ctn (at_a J r) k + 1 else ctn (at_a J r) k
    by_cases h : at_p J r k
    · rw [if_pos h, if_pos h.1]
      omega
    · rw [if_neg h]
      split <;> omega
def at_fr (J : Nat → Nat → Int32) (f : Nat → Nat) (i : Nat) : Nat := jx_x (J 125 (f i))
def at_tl (J : Nat → Nat → Int32) (f : Nat → Nat) (i : Nat) : Nat := jx_x (J 126 (f i))
def at_cl (J : Nat → Nat → Int32) (f : Nat → Nat) (i : Nat) : Nat := jx_x (J 120 (f i))
abbrev at_ov (J : Nat → Nat → Int32) (f : Nat → Nat) (i : Nat) : Prop := ¬ J 123 (f i) = 0
abbrev at_wr (J : Nat → Nat → Int32) (f : Nat → Nat) (i : Nat) : Prop := J 119 (f i) = 1
def at_va (J : Nat → Nat → Int32) (f : Nat → Nat) (i : Nat) : Int32 := J 122 (f i)
def at_re (J : Nat → Nat → Int32) (f : Nat → Nat) (i : Nat) : Int32 := J 124 (f i)
def at_go (J : Nat → Nat → Int32) (f : Nat → Nat) (N v l k : Nat) : Prop := rw_go N (at_fr J f) (at_tl J f) (at_ov J f) (at_wr J f) (at_va J f) (at_re J f) v l k
def at_R (J : Nat → Nat → Int32) (f : Nat → Nat) (N v l : Nat) : Prop := rw_R N (at_fr J f) (at_tl J f) (at_ov J f) (at_wr J f) (at_va J f) (at_re J f) v l
def at_nl (J : Nat → Nat → Int32) (f : Nat → Nat) (l k : Nat) : Nat := if at_wr J f k then k else l
theorem at_RS {J : Nat → Nat → Int32} {f : Nat → Nat} {N v l k : Nat} (h : at_R J f N v l) (hk : k < N) (hg : at_go J f N v l k) : at_R J f N (v ||| 2 ^ k) (at_nl J f l k) := rw_RS h hk hg
/-- a row is found -/
def at_Y (J : Nat → Nat → Int32) (f : Nat → Nat) (N : Nat) : Prop := ∃ v l, at_R J f N v l ∧ ∀ i, i < N → at_ov J f i → v.testBit i = true
/-- what the reference's numbers hold while it searches -/
def at_ok (I : Nat → Nat → Int32) (f : Nat → Nat) (N : Nat) : Prop := N ≤ 14 ∧ I 98 59 = nI N ∧ ∀ i, i < N → I 138 i = nI (f i) ∧ f i < 60 ∧ I 125 (f i) = nI (at_fr I f i) ∧ at_fr I f i < 1000 ∧ I 126 (f i) = nI (at_tl I f i) ∧ at_tl I f i < 1000
set_option maxHeartbeats 4000000 in
set_option maxRecDepth 100000 in
theorem gn_l {G : jx_G} {n ms : Nat} {K : Nat → Nat × Nat} {I : Nat → Nat → Int32} {P : Nat → Nat → Option Nat} (hM : mo_ok K P) {Q : Option jx_V → jx_M → Prop} {f : Nat → Nat} {N v l k : Nat} (ha : at_ok I f N) (hv : v < 2 ^ N) (hl : l = 14 ∨ l < N) (hk : k < N) (k0 : (∃ j, j < N ∧ ¬ v.testBit j = true ∧ j ≠ k ∧ at_ov I f j ∧ at_tl I f j < at_fr I f k) → Q (some (.inl 0)) (n, ms, K, I, P)) (kk : (∀ j, j < N → ¬ v.testBit j = true → j ≠ k → at_ov I f j → ¬ at_tl I f j < at_fr I f k) → ∀ j, jx_J G yX9_goesNext cX9_goesNext 6 (some FieldType.boolean) 0 (Q) 91 [some (.inr (some 98)), some (.inl (nI v)), some (.inl (nI l)), some (.inl (nI k)), some (.inl (nI (f k))), some (.inl (nI j))] [] (n, ms, K, I, P)) : ∀ g j, j + g = N → (∀ i, i < j → ¬ v.testBit i = true → i ≠ k → at_ov I f i → ¬ at_tl I f i < at_fr I f k) → jx_J G yX9_goesNext cX9_goesNext 6 (some FieldType.boolean) 0 (Q) 22 [some (.inr (some 98)), some (.inl (nI v)), some (.inl (nI l)), some (.inl (nI k)), some (.inl (nI (f k))), some (.inl (nI j))] [] (n, ms, K, I, P) := by
  obtain ⟨hN, h59, hop⟩ := id ha
  have hv31 : v < 2147483648 := Nat.lt_of_lt_of_le hv (Nat.le_trans (Nat.pow_le_pow_right (by decide) hN) (by decide))
  obtain ⟨p1, p2, p3, p4, p5, p6⟩ := hop k hk
  intro g
  induction g with
  | zero =>
    intro j hj hp
    have e1 : N ≤ j := by omega
    refine jx_gq flok_X9 (fwok_X9 rfl) 91 5 _ _ _ _ ?_
    simp (disch := omega) only [↓reduceIte, jx_wp, jx_stp, jx_f0, jx_f1, jx_f2, jx_f3, List.getElem?_cons_zero, List.getElem?_cons_succ, List.set_cons_zero, List.set_cons_succ, Nat.reduceAdd, true_and, and_true, if_true, if_false, Bool.false_eq_true, jx_s, Nat.reduceLT, dX9_goesNext_0, dX9_goesNext_1, dX9_goesNext_2, dX9_goesNext_3, dX9_goesNext_4, dX9_goesNext_5, dX9_goesNext_6, dX9_goesNext_9, dX9_goesNext_10, dX9_goesNext_11, dX9_goesNext_12, dX9_goesNext_15, dX9_goesNext_16, dX9_goesNext_17, dX9_goesNext_19, dX9_goesNext_20, dX9_goesNext_22, dX9_goesNext_24, dX9_goesNext_25, dX9_goesNext_28, dX9_goesNext_31, dX9_goesNext_32, dX9_goesNext_34, dX9_goesNext_35, dX9_goesNext_36, dX9_goesNext_37, dX9_goesNext_40, dX9_goesNext_42, dX9_goesNext_43, dX9_goesNext_46, dX9_goesNext_47, dX9_goesNext_50, dX9_goesNext_51, dX9_goesNext_54, dX9_goesNext_56, dX9_goesNext_57, dX9_goesNext_58, dX9_goesNext_61, dX9_goesNext_62, dX9_goesNext_65, dX9_goesNext_66, dX9_goesNext_69, dX9_goesNext_71, dX9_goesNext_72, dX9_goesNext_73, dX9_goesNext_74, dX9_goesNext_77, dX9_goesNext_79, dX9_goesNext_80, dX9_goesNext_83, dX9_goesNext_84, dX9_goesNext_85, dX9_goesNext_88, dX9_goesNext_91, dX9_goesNext_92, dX9_goesNext_95, dX9_goesNext_97, dX9_goesNext_98, dX9_goesNext_99, dX9_goesNext_102, dX9_goesNext_103, dX9_goesNext_106, dX9_goesNext_108, dX9_goesNext_109, dX9_goesNext_110, dX9_goesNext_112, dX9_goesNext_115, dX9_goesNext_116, dX9_goesNext_119, dX9_goesNext_120, dX9_goesNext_123, dX9_goesNext_124, dX9_goesNext_127, dX9_goesNext_128, dX9_goesNext_129, dX9_goesNext_130, dX9_goesNext_133, dX9_goesNext_134, dX9_goesNext_137, dX9_goesNext_138, jx_k1, tg_6_5, jx_k0, fl_X9_133, ft_10_60, fl_X9_306, ft_10_59, tg_28_63, tg_37_48, tg_43_42, fl_X9_88, ft_10_32, tg_58_27, fl_X9_97, ft_10_35, fl_X9_94, ft_10_34, tg_80_5, tg_88_m66, fl_X9_76, ft_10_28, tg_99_34, fl_X9_91, ft_10_33, jx_b14, tg_112_7, tg_116_14, fl_X9_85, ft_10_31, tg_130_7, tg_134_4, jx_wq, jx_stq, jx_ite, mo_k98 hM, mo_p60 hM, mo_k138 hM, mo_p32 hM, mo_k123 hM, mo_p35 hM, mo_k126 hM, mo_p34 hM, mo_k125 hM, mo_p28 hM, mo_k119 hM, mo_p33 hM, mo_k124 hM, mo_p31 hM, mo_k122 hM, jx_b0, jx_bn0, jx_u_eq, jx_u_na, jx_u_ni, jx_nb0, jx_nb1, jx_ni, jx_E, eq_self, jx_a0, jx_a1, ne_eq, not_false_eq_true, Nat.reduceLeDiff, Nat.reduceEqDiff, Nat.reduceLT, jx_subl, jx_al, jx_la, jx_nm, jx_ml, nI_add, jx_xn, jx_xl, jx_inn, jx_inl, jx_ltnn, jx_lenn, jx_eqnn, jx_ltnl, jx_lenl, jx_ltln, jx_leln, jx_eqnl, Int32.reduceAdd, Int32.reduceSub, Int32.reduceMul, Int32.reduceLT, Int32.reduceLE, jx_eqll, jx_ltll, Nat.reduceMul, Nat.reduceSub, forall_const, implies_true, false_implies, not_true_eq_false, true_implies, jx_tko, jx_ofn, jx_tka, jx_pro, jx_pra, and_self, Nat.not_lt_zero, h59, e1]
    exact kk (fun i hi => hp i (by omega)) j
  | succ g ih =>
    intro j hj hp
    have e1 : ¬ N ≤ j := by omega
    have hb := bt_0 (v := v) (k := j) hv31 (by omega)
    obtain ⟨r1, r2, r3, r4, r5, r6⟩ := hop j (by omega)
    by_cases b1 : v.testBit j = true
    · have b0 : (nI v >>> (nI j &&& 31) &&& 1 = 0) = False := by rw [hb]; exact eq_false (fun w => w b1)
      refine jx_gq flok_X9 (fwok_X9 rfl) 22 20 _ _ _ _ ?_
      simp (disch := omega) only [↓reduceIte, jx_wp, jx_stp, jx_f0, jx_f1, jx_f2, jx_f3, List.getElem?_cons_zero, List.getElem?_cons_succ, List.set_cons_zero, List.set_cons_succ, Nat.reduceAdd, true_and, and_true, if_true, if_false, Bool.false_eq_true, jx_s, Nat.reduceLT, dX9_goesNext_0, dX9_goesNext_1, dX9_goesNext_2, dX9_goesNext_3, dX9_goesNext_4, dX9_goesNext_5, dX9_goesNext_6, dX9_goesNext_9, dX9_goesNext_10, dX9_goesNext_11, dX9_goesNext_12, dX9_goesNext_15, dX9_goesNext_16, dX9_goesNext_17, dX9_goesNext_19, dX9_goesNext_20, dX9_goesNext_22, dX9_goesNext_24, dX9_goesNext_25, dX9_goesNext_28, dX9_goesNext_31, dX9_goesNext_32, dX9_goesNext_34, dX9_goesNext_35, dX9_goesNext_36, dX9_goesNext_37, dX9_goesNext_40, dX9_goesNext_42, dX9_goesNext_43, dX9_goesNext_46, dX9_goesNext_47, dX9_goesNext_50, dX9_goesNext_51, dX9_goesNext_54, dX9_goesNext_56, dX9_goesNext_57, dX9_goesNext_58, dX9_goesNext_61, dX9_goesNext_62, dX9_goesNext_65, dX9_goesNext_66, dX9_goesNext_69, dX9_goesNext_71, dX9_goesNext_72, dX9_goesNext_73, dX9_goesNext_74, dX9_goesNext_77, dX9_goesNext_79, dX9_goesNext_80, dX9_goesNext_83, dX9_goesNext_84, dX9_goesNext_85, dX9_goesNext_88, dX9_goesNext_91, dX9_goesNext_92, dX9_goesNext_95, dX9_goesNext_97, dX9_goesNext_98, dX9_goesNext_99, dX9_goesNext_102, dX9_goesNext_103, dX9_goesNext_106, dX9_goesNext_108, dX9_goesNext_109, dX9_goesNext_110, dX9_goesNext_112, dX9_goesNext_115, dX9_goesNext_116, dX9_goesNext_119, dX9_goesNext_120, dX9_goesNext_123, dX9_goesNext_124, dX9_goesNext_127, dX9_goesNext_128, dX9_goesNext_129, dX9_goesNext_130, dX9_goesNext_133, dX9_goesNext_134, dX9_goesNext_137, dX9_goesNext_138, jx_k1, tg_6_5, jx_k0, fl_X9_133, ft_10_60, fl_X9_306, ft_10_59, tg_28_63, tg_37_48, tg_43_42, fl_X9_88, ft_10_32, tg_58_27, fl_X9_97, ft_10_35, fl_X9_94, ft_10_34, tg_80_5, tg_88_m66, fl_X9_76, ft_10_28, tg_99_34, fl_X9_91, ft_10_33, jx_b14, tg_112_7, tg_116_14, fl_X9_85, ft_10_31, tg_130_7, tg_134_4, jx_wq, jx_stq, jx_ite, mo_k98 hM, mo_p60 hM, mo_k138 hM, mo_p32 hM, mo_k123 hM, mo_p35 hM, mo_k126 hM, mo_p34 hM, mo_k125 hM, mo_p28 hM, mo_k119 hM, mo_p33 hM, mo_k124 hM, mo_p31 hM, mo_k122 hM, jx_b0, jx_bn0, jx_u_eq, jx_u_na, jx_u_ni, jx_nb0, jx_nb1, jx_ni, jx_E, eq_self, jx_a0, jx_a1, ne_eq, not_false_eq_true, Nat.reduceLeDiff, Nat.reduceEqDiff, Nat.reduceLT, jx_subl, jx_al, jx_la, jx_nm, jx_ml, nI_add, jx_xn, jx_xl, jx_inn, jx_inl, jx_ltnn, jx_lenn, jx_eqnn, jx_ltnl, jx_lenl, jx_ltln, jx_leln, jx_eqnl, Int32.reduceAdd, Int32.reduceSub, Int32.reduceMul, Int32.reduceLT, Int32.reduceLE, jx_eqll, jx_ltll, Nat.reduceMul, Nat.reduceSub, forall_const, implies_true, false_implies, not_true_eq_false, true_implies, jx_tko, jx_ofn, jx_tka, jx_pro, jx_pra, and_self, Nat.not_lt_zero, h59, e1, b0]
      exact ih (j + 1) (by omega) (fun i hi hb2 => by
        by_cases e : i = j
        · subst e
          exact absurd b1 hb2
        · exact hp i (by omega) hb2)
    · have b0 : (nI v >>> (nI j &&& 31) &&& 1 = 0) = True := by rw [hb]; exact eq_true b1
      by_cases b2 : j = k
      · have b2t : (j = k) = True := eq_true b2
        refine jx_gq flok_X9 (fwok_X9 rfl) 22 20 _ _ _ _ ?_
        simp (disch := omega) only [↓reduceIte, jx_wp, jx_stp, jx_f0, jx_f1, jx_f2, jx_f3, List.getElem?_cons_zero, List.getElem?_cons_succ, List.set_cons_zero, List.set_cons_succ, Nat.reduceAdd, true_and, and_true, if_true, if_false, Bool.false_eq_true, jx_s, Nat.reduceLT, dX9_goesNext_0, dX9_goesNext_1, dX9_goesNext_2, dX9_goesNext_3, dX9_goesNext_4, dX9_goesNext_5, dX9_goesNext_6, dX9_goesNext_9, dX9_goesNext_10, dX9_goesNext_11, dX9_goesNext_12, dX9_goesNext_15, dX9_goesNext_16, dX9_goesNext_17, dX9_goesNext_19, dX9_goesNext_20, dX9_goesNext_22, dX9_goesNext_24, dX9_goesNext_25, dX9_goesNext_28, dX9_goesNext_31, dX9_goesNext_32, dX9_goesNext_34, dX9_goesNext_35, dX9_goesNext_36, dX9_goesNext_37, dX9_goesNext_40, dX9_goesNext_42, dX9_goesNext_43, dX9_goesNext_46, dX9_goesNext_47, dX9_goesNext_50, dX9_goesNext_51, dX9_goesNext_54, dX9_goesNext_56, dX9_goesNext_57, dX9_goesNext_58, dX9_goesNext_61, dX9_goesNext_62, dX9_goesNext_65, dX9_goesNext_66, dX9_goesNext_69, dX9_goesNext_71, dX9_goesNext_72, dX9_goesNext_73, dX9_goesNext_74, dX9_goesNext_77, dX9_goesNext_79, dX9_goesNext_80, dX9_goesNext_83, dX9_goesNext_84, dX9_goesNext_85, dX9_goesNext_88, dX9_goesNext_91, dX9_goesNext_92, dX9_goesNext_95, dX9_goesNext_97, dX9_goesNext_98, dX9_goesNext_99, dX9_goesNext_102, dX9_goesNext_103, dX9_goesNext_106, dX9_goesNext_108, dX9_goesNext_109, dX9_goesNext_110, dX9_goesNext_112, dX9_goesNext_115, dX9_goesNext_116, dX9_goesNext_119, dX9_goesNext_120, dX9_goesNext_123, dX9_goesNext_124, dX9_goesNext_127, dX9_goesNext_128, dX9_goesNext_129, dX9_goesNext_130, dX9_goesNext_133, dX9_goesNext_134, dX9_goesNext_137, dX9_goesNext_138, jx_k1, tg_6_5, jx_k0, fl_X9_133, ft_10_60, fl_X9_306, ft_10_59, tg_28_63, tg_37_48, tg_43_42, fl_X9_88, ft_10_32, tg_58_27, fl_X9_97, ft_10_35, fl_X9_94, ft_10_34, tg_80_5, tg_88_m66, fl_X9_76, ft_10_28, tg_99_34, fl_X9_91, ft_10_33, jx_b14, tg_112_7, tg_116_14, fl_X9_85, ft_10_31, tg_130_7, tg_134_4, jx_wq, jx_stq, jx_ite, mo_k98 hM, mo_p60 hM, mo_k138 hM, mo_p32 hM, mo_k123 hM, mo_p35 hM, mo_k126 hM, mo_p34 hM, mo_k125 hM, mo_p28 hM, mo_k119 hM, mo_p33 hM, mo_k124 hM, mo_p31 hM, mo_k122 hM, jx_b0, jx_bn0, jx_u_eq, jx_u_na, jx_u_ni, jx_nb0, jx_nb1, jx_ni, jx_E, eq_self, jx_a0, jx_a1, ne_eq, not_false_eq_true, Nat.reduceLeDiff, Nat.reduceEqDiff, Nat.reduceLT, jx_subl, jx_al, jx_la, jx_nm, jx_ml, nI_add, jx_xn, jx_xl, jx_inn, jx_inl, jx_ltnn, jx_lenn, jx_eqnn, jx_ltnl, jx_lenl, jx_ltln, jx_leln, jx_eqnl, Int32.reduceAdd, Int32.reduceSub, Int32.reduceMul, Int32.reduceLT, Int32.reduceLE, jx_eqll, jx_ltll, Nat.reduceMul, Nat.reduceSub, forall_const, implies_true, false_implies, not_true_eq_false, true_implies, jx_tko, jx_ofn, jx_tka, jx_pro, jx_pra, and_self, Nat.not_lt_zero, h59, e1, b0, b2t]
        refine ih (j + 1) (by omega) (fun i hi hb2 ne => ?_)
        exact hp i (by omega) hb2 ne
      · by_cases b3 : I 123 (f j) = 0
        · refine jx_gq flok_X9 (fwok_X9 rfl) 22 30 _ _ _ _ ?_
          simp (disch := omega) only [↓reduceIte, jx_wp, jx_stp, jx_f0, jx_f1, jx_f2, jx_f3, List.getElem?_cons_zero, List.getElem?_cons_succ, List.set_cons_zero, List.set_cons_succ, Nat.reduceAdd, true_and, and_true, if_true, if_false, Bool.false_eq_true, jx_s, Nat.reduceLT, dX9_goesNext_0, dX9_goesNext_1, dX9_goesNext_2, dX9_goesNext_3, dX9_goesNext_4, dX9_goesNext_5, dX9_goesNext_6, dX9_goesNext_9, dX9_goesNext_10, dX9_goesNext_11, dX9_goesNext_12, dX9_goesNext_15, dX9_goesNext_16, dX9_goesNext_17, dX9_goesNext_19, dX9_goesNext_20, dX9_goesNext_22, dX9_goesNext_24, dX9_goesNext_25, dX9_goesNext_28, dX9_goesNext_31, dX9_goesNext_32, dX9_goesNext_34, dX9_goesNext_35, dX9_goesNext_36, dX9_goesNext_37, dX9_goesNext_40, dX9_goesNext_42, dX9_goesNext_43, dX9_goesNext_46, dX9_goesNext_47, dX9_goesNext_50, dX9_goesNext_51, dX9_goesNext_54, dX9_goesNext_56, dX9_goesNext_57, dX9_goesNext_58, dX9_goesNext_61, dX9_goesNext_62, dX9_goesNext_65, dX9_goesNext_66, dX9_goesNext_69, dX9_goesNext_71, dX9_goesNext_72, dX9_goesNext_73, dX9_goesNext_74, dX9_goesNext_77, dX9_goesNext_79, dX9_goesNext_80, dX9_goesNext_83, dX9_goesNext_84, dX9_goesNext_85, dX9_goesNext_88, dX9_goesNext_91, dX9_goesNext_92, dX9_goesNext_95, dX9_goesNext_97, dX9_goesNext_98, dX9_goesNext_99, dX9_goesNext_102, dX9_goesNext_103, dX9_goesNext_106, dX9_goesNext_108, dX9_goesNext_109, dX9_goesNext_110, dX9_goesNext_112, dX9_goesNext_115, dX9_goesNext_116, dX9_goesNext_119, dX9_goesNext_120, dX9_goesNext_123, dX9_goesNext_124, dX9_goesNext_127, dX9_goesNext_128, dX9_goesNext_129, dX9_goesNext_130, dX9_goesNext_133, dX9_goesNext_134, dX9_goesNext_137, dX9_goesNext_138, jx_k1, tg_6_5, jx_k0, fl_X9_133, ft_10_60, fl_X9_306, ft_10_59, tg_28_63, tg_37_48, tg_43_42, fl_X9_88, ft_10_32, tg_58_27, fl_X9_97, ft_10_35, fl_X9_94, ft_10_34, tg_80_5, tg_88_m66, fl_X9_76, ft_10_28, tg_99_34, fl_X9_91, ft_10_33, jx_b14, tg_112_7, tg_116_14, fl_X9_85, ft_10_31, tg_130_7, tg_134_4, jx_wq, jx_stq, jx_ite, mo_k98 hM, mo_p60 hM, mo_k138 hM, mo_p32 hM, mo_k123 hM, mo_p35 hM, mo_k126 hM, mo_p34 hM, mo_k125 hM, mo_p28 hM, mo_k119 hM, mo_p33 hM, mo_k124 hM, mo_p31 hM, mo_k122 hM, jx_b0, jx_bn0, jx_u_eq, jx_u_na, jx_u_ni, jx_nb0, jx_nb1, jx_ni, jx_E, eq_self, jx_a0, jx_a1, ne_eq, not_false_eq_true, Nat.reduceLeDiff, Nat.reduceEqDiff, Nat.reduceLT, jx_subl, jx_al, jx_la, jx_nm, jx_ml, nI_add, jx_xn, jx_xl, jx_inn, jx_inl, jx_ltnn, jx_lenn, jx_eqnn, jx_ltnl, jx_lenl, jx_ltln, jx_leln, jx_eqnl, Int32.reduceAdd, Int32.reduceSub, Int32.reduceMul, Int32.reduceLT, Int32.reduceLE, jx_eqll, jx_ltll, Nat.reduceMul, Nat.reduceSub, forall_const, implies_true, false_implies, not_true_eq_false, true_implies, jx_tko, jx_ofn, jx_tka, jx_pro, jx_pra, and_self, Nat.not_lt_zero, h59, e1, b0, b2, r1, b3]
          exact ih (j + 1) (by omega) (fun i hi hb2 ne ho => by
            by_cases e : i = j
            · subst e
              exact absurd b3 ho
            · exact hp i (by omega) hb2 ne ho)
        · by_cases b4 : at_tl I f j < at_fr I f k
          · have b5 : ¬ at_fr I f k ≤ at_tl I f j := by omega
            refine jx_gq flok_X9 (fwok_X9 rfl) 22 48 _ _ _ _ ?_
            simp (disch := omega) only [↓reduceIte, jx_wp, jx_stp, jx_f0, jx_f1, jx_f2, jx_f3, List.getElem?_cons_zero, List.getElem?_cons_succ, List.set_cons_zero, List.set_cons_succ, Nat.reduceAdd, true_and, and_true, if_true, if_false, Bool.false_eq_true, jx_s, Nat.reduceLT, dX9_goesNext_0, dX9_goesNext_1, dX9_goesNext_2, dX9_goesNext_3, dX9_goesNext_4, dX9_goesNext_5, dX9_goesNext_6, dX9_goesNext_9, dX9_goesNext_10, dX9_goesNext_11, dX9_goesNext_12, dX9_goesNext_15, dX9_goesNext_16, dX9_goesNext_17, dX9_goesNext_19, dX9_goesNext_20, dX9_goesNext_22, dX9_goesNext_24, dX9_goesNext_25, dX9_goesNext_28, dX9_goesNext_31, dX9_goesNext_32, dX9_goesNext_34, dX9_goesNext_35, dX9_goesNext_36, dX9_goesNext_37, dX9_goesNext_40, dX9_goesNext_42, dX9_goesNext_43, dX9_goesNext_46, dX9_goesNext_47, dX9_goesNext_50, dX9_goesNext_51, dX9_goesNext_54, dX9_goesNext_56, dX9_goesNext_57, dX9_goesNext_58, dX9_goesNext_61, dX9_goesNext_62, dX9_goesNext_65, dX9_goesNext_66, dX9_goesNext_69, dX9_goesNext_71, dX9_goesNext_72, dX9_goesNext_73, dX9_goesNext_74, dX9_goesNext_77, dX9_goesNext_79, dX9_goesNext_80, dX9_goesNext_83, dX9_goesNext_84, dX9_goesNext_85, dX9_goesNext_88, dX9_goesNext_91, dX9_goesNext_92, dX9_goesNext_95, dX9_goesNext_97, dX9_goesNext_98, dX9_goesNext_99, dX9_goesNext_102, dX9_goesNext_103, dX9_goesNext_106, dX9_goesNext_108, dX9_goesNext_109, dX9_goesNext_110, dX9_goesNext_112, dX9_goesNext_115, dX9_goesNext_116, dX9_goesNext_119, dX9_goesNext_120, dX9_goesNext_123, dX9_goesNext_124, dX9_goesNext_127, dX9_goesNext_128, dX9_goesNext_129, dX9_goesNext_130, dX9_goesNext_133, dX9_goesNext_134, dX9_goesNext_137, dX9_goesNext_138, jx_k1, tg_6_5, jx_k0, fl_X9_133, ft_10_60, fl_X9_306, ft_10_59, tg_28_63, tg_37_48, tg_43_42, fl_X9_88, ft_10_32, tg_58_27, fl_X9_97, ft_10_35, fl_X9_94, ft_10_34, tg_80_5, tg_88_m66, fl_X9_76, ft_10_28, tg_99_34, fl_X9_91, ft_10_33, jx_b14, tg_112_7, tg_116_14, fl_X9_85, ft_10_31, tg_130_7, tg_134_4, jx_wq, jx_stq, jx_ite, mo_k98 hM, mo_p60 hM, mo_k138 hM, mo_p32 hM, mo_k123 hM, mo_p35 hM, mo_k126 hM, mo_p34 hM, mo_k125 hM, mo_p28 hM, mo_k119 hM, mo_p33 hM, mo_k124 hM, mo_p31 hM, mo_k122 hM, jx_b0, jx_bn0, jx_u_eq, jx_u_na, jx_u_ni, jx_nb0, jx_nb1, jx_ni, jx_E, eq_self, jx_a0, jx_a1, ne_eq, not_false_eq_true, Nat.reduceLeDiff, Nat.reduceEqDiff, Nat.reduceLT, jx_subl, jx_al, jx_la, jx_nm, jx_ml, nI_add, jx_xn, jx_xl, jx_inn, jx_inl, jx_ltnn, jx_lenn, jx_eqnn, jx_ltnl, jx_lenl, jx_ltln, jx_leln, jx_eqnl, Int32.reduceAdd, Int32.reduceSub, Int32.reduceMul, Int32.reduceLT, Int32.reduceLE, jx_eqll, jx_ltll, Nat.reduceMul, Nat.reduceSub, forall_const, implies_true, false_implies, not_true_eq_false, true_implies, jx_tko, jx_ofn, jx_tka, jx_pro, jx_pra, and_self, Nat.not_lt_zero, h59, e1, b0, b2, r1, b3, r5, p3, b5]
            exact k0 ⟨j, by omega, b1, b2, b3, b4⟩
          · have b5 : at_fr I f k ≤ at_tl I f j := by omega
            refine jx_gq flok_X9 (fwok_X9 rfl) 22 48 _ _ _ _ ?_
            simp (disch := omega) only [↓reduceIte, jx_wp, jx_stp, jx_f0, jx_f1, jx_f2, jx_f3, List.getElem?_cons_zero, List.getElem?_cons_succ, List.set_cons_zero, List.set_cons_succ, Nat.reduceAdd, true_and, and_true, if_true, if_false, Bool.false_eq_true, jx_s, Nat.reduceLT, dX9_goesNext_0, dX9_goesNext_1, dX9_goesNext_2, dX9_goesNext_3, dX9_goesNext_4, dX9_goesNext_5, dX9_goesNext_6, dX9_goesNext_9, dX9_goesNext_10, dX9_goesNext_11, dX9_goesNext_12, dX9_goesNext_15, dX9_goesNext_16, dX9_goesNext_17, dX9_goesNext_19, dX9_goesNext_20, dX9_goesNext_22, dX9_goesNext_24, dX9_goesNext_25, dX9_goesNext_28, dX9_goesNext_31, dX9_goesNext_32, dX9_goesNext_34, dX9_goesNext_35, dX9_goesNext_36, dX9_goesNext_37, dX9_goesNext_40, dX9_goesNext_42, dX9_goesNext_43, dX9_goesNext_46, dX9_goesNext_47, dX9_goesNext_50, dX9_goesNext_51, dX9_goesNext_54, dX9_goesNext_56, dX9_goesNext_57, dX9_goesNext_58, dX9_goesNext_61, dX9_goesNext_62, dX9_goesNext_65, dX9_goesNext_66, dX9_goesNext_69, dX9_goesNext_71, dX9_goesNext_72, dX9_goesNext_73, dX9_goesNext_74, dX9_goesNext_77, dX9_goesNext_79, dX9_goesNext_80, dX9_goesNext_83, dX9_goesNext_84, dX9_goesNext_85, dX9_goesNext_88, dX9_goesNext_91, dX9_goesNext_92, dX9_goesNext_95, dX9_goesNext_97, dX9_goesNext_98, dX9_goesNext_99, dX9_goesNext_102, dX9_goesNext_103, dX9_goesNext_106, dX9_goesNext_108, dX9_goesNext_109, dX9_goesNext_110, dX9_goesNext_112, dX9_goesNext_115, dX9_goesNext_116, dX9_goesNext_119, dX9_goesNext_120, dX9_goesNext_123, dX9_goesNext_124, dX9_goesNext_127, dX9_goesNext_128, dX9_goesNext_129, dX9_goesNext_130, dX9_goesNext_133, dX9_goesNext_134, dX9_goesNext_137, dX9_goesNext_138, jx_k1, tg_6_5, jx_k0, fl_X9_133, ft_10_60, fl_X9_306, ft_10_59, tg_28_63, tg_37_48, tg_43_42, fl_X9_88, ft_10_32, tg_58_27, fl_X9_97, ft_10_35, fl_X9_94, ft_10_34, tg_80_5, tg_88_m66, fl_X9_76, ft_10_28, tg_99_34, fl_X9_91, ft_10_33, jx_b14, tg_112_7, tg_116_14, fl_X9_85, ft_10_31, tg_130_7, tg_134_4, jx_wq, jx_stq, jx_ite, mo_k98 hM, mo_p60 hM, mo_k138 hM, mo_p32 hM, mo_k123 hM, mo_p35 hM, mo_k126 hM, mo_p34 hM, mo_k125 hM, mo_p28 hM, mo_k119 hM, mo_p33 hM, mo_k124 hM, mo_p31 hM, mo_k122 hM, jx_b0, jx_bn0, jx_u_eq, jx_u_na, jx_u_ni, jx_nb0, jx_nb1, jx_ni, jx_E, eq_self, jx_a0, jx_a1, ne_eq, not_false_eq_true, Nat.reduceLeDiff, Nat.reduceEqDiff, Nat.reduceLT, jx_subl, jx_al, jx_la, jx_nm, jx_ml, nI_add, jx_xn, jx_xl, jx_inn, jx_inl, jx_ltnn, jx_lenn, jx_eqnn, jx_ltnl, jx_lenl, jx_ltln, jx_leln, jx_eqnl, Int32.reduceAdd, Int32.reduceSub, Int32.reduceMul, Int32.reduceLT, Int32.reduceLE, jx_eqll, jx_ltll, Nat.reduceMul, Nat.reduceSub, forall_const, implies_true, false_implies, not_true_eq_false, true_implies, jx_tko, jx_ofn, jx_tka, jx_pro, jx_pra, and_self, Nat.not_lt_zero, h59, e1, b0, b2, r1, b3, r5, p3, b5]
            exact ih (j + 1) (by omega) (fun i hi hb2 ne ho => by
              by_cases e : i = j
              · subst e
                exact b4
              · exact hp i (by omega) hb2 ne ho)
set_option maxHeartbeats 4000000 in
set_option maxRecDepth 100000 in
theorem mo_gn0 {G : jx_G} {n ms : Nat} {K : Nat → Nat × Nat} {I : Nat → Nat → Int32} {P : Nat → Nat → Option Nat} (hM : mo_ok K P) {f : Nat → Nat} {N v l k : Nat} (ha : at_ok I f N) (hv : v < 2 ^ N) (hl : l = 14 ∨ l < N) (hk : k < N) (hg : ¬ at_go I f N v l k) : jx_C G yX9_goesNext cX9_goesNext 6 (some FieldType.boolean) 0 [.inr (some 98), .inl (nI v), .inl (nI l), .inl (nI k)] (n, ms, K, I, P) (jx_E (some (.inl 0)) (n, ms, K, I, P)) := by
  refine jx_C_of (by decide) (Nat.le_of_ble_eq_true rfl) ?_
  simp only [List.map_cons, List.map_nil, List.length_cons, List.length_nil, Nat.reduceAdd, Nat.reduceSub, List.replicate_zero, List.append_nil, List.replicate_succ, List.cons_append, List.nil_append]
  obtain ⟨hN, h59, hop⟩ := id ha
  have hv31 : v < 2147483648 := Nat.lt_of_lt_of_le hv (Nat.le_trans (Nat.pow_le_pow_right (by decide) hN) (by decide))
  obtain ⟨p1, p2, p3, p4, p5, p6⟩ := hop k hk
  have hb := bt_1 (v := v) (k := k) hv31 (by omega)
  by_cases b1 : v.testBit k = true
  · have b0 : (nI v >>> (nI k &&& 31) &&& 1 = 1) = True := by rw [hb]; exact eq_true b1
    refine jx_gq flok_X9 (fwok_X9 rfl) 99999 10 _ _ _ _ ?_
    simp (disch := omega) only [↓reduceIte, jx_wp, jx_stp, jx_f0, jx_f1, jx_f2, jx_f3, List.getElem?_cons_zero, List.getElem?_cons_succ, List.set_cons_zero, List.set_cons_succ, Nat.reduceAdd, true_and, and_true, if_true, if_false, Bool.false_eq_true, jx_s, Nat.reduceLT, dX9_goesNext_0, dX9_goesNext_1, dX9_goesNext_2, dX9_goesNext_3, dX9_goesNext_4, dX9_goesNext_5, dX9_goesNext_6, dX9_goesNext_9, dX9_goesNext_10, dX9_goesNext_11, dX9_goesNext_12, dX9_goesNext_15, dX9_goesNext_16, dX9_goesNext_17, dX9_goesNext_19, dX9_goesNext_20, dX9_goesNext_22, dX9_goesNext_24, dX9_goesNext_25, dX9_goesNext_28, dX9_goesNext_31, dX9_goesNext_32, dX9_goesNext_34, dX9_goesNext_35, dX9_goesNext_36, dX9_goesNext_37, dX9_goesNext_40, dX9_goesNext_42, dX9_goesNext_43, dX9_goesNext_46, dX9_goesNext_47, dX9_goesNext_50, dX9_goesNext_51, dX9_goesNext_54, dX9_goesNext_56, dX9_goesNext_57, dX9_goesNext_58, dX9_goesNext_61, dX9_goesNext_62, dX9_goesNext_65, dX9_goesNext_66, dX9_goesNext_69, dX9_goesNext_71, dX9_goesNext_72, dX9_goesNext_73, dX9_goesNext_74, dX9_goesNext_77, dX9_goesNext_79, dX9_goesNext_80, dX9_goesNext_83, dX9_goesNext_84, dX9_goesNext_85, dX9_goesNext_88, dX9_goesNext_91, dX9_goesNext_92, dX9_goesNext_95, dX9_goesNext_97, dX9_goesNext_98, dX9_goesNext_99, dX9_goesNext_102, dX9_goesNext_103, dX9_goesNext_106, dX9_goesNext_108, dX9_goesNext_109, dX9_goesNext_110, dX9_goesNext_112, dX9_goesNext_115, dX9_goesNext_116, dX9_goesNext_119, dX9_goesNext_120, dX9_goesNext_123, dX9_goesNext_124, dX9_goesNext_127, dX9_goesNext_128, dX9_goesNext_129, dX9_goesNext_130, dX9_goesNext_133, dX9_goesNext_134, dX9_goesNext_137, dX9_goesNext_138, jx_k1, tg_6_5, jx_k0, fl_X9_133, ft_10_60, fl_X9_306, ft_10_59, tg_28_63, tg_37_48, tg_43_42, fl_X9_88, ft_10_32, tg_58_27, fl_X9_97, ft_10_35, fl_X9_94, ft_10_34, tg_80_5, tg_88_m66, fl_X9_76, ft_10_28, tg_99_34, fl_X9_91, ft_10_33, jx_b14, tg_112_7, tg_116_14, fl_X9_85, ft_10_31, tg_130_7, tg_134_4, jx_wq, jx_stq, jx_ite, mo_k98 hM, mo_p60 hM, mo_k138 hM, mo_p32 hM, mo_k123 hM, mo_p35 hM, mo_k126 hM, mo_p34 hM, mo_k125 hM, mo_p28 hM, mo_k119 hM, mo_p33 hM, mo_k124 hM, mo_p31 hM, mo_k122 hM, jx_b0, jx_bn0, jx_u_eq, jx_u_na, jx_u_ni, jx_nb0, jx_nb1, jx_ni, jx_E, eq_self, jx_a0, jx_a1, ne_eq, not_false_eq_true, Nat.reduceLeDiff, Nat.reduceEqDiff, Nat.reduceLT, jx_subl, jx_al, jx_la, jx_nm, jx_ml, nI_add, jx_xn, jx_xl, jx_inn, jx_inl, jx_ltnn, jx_lenn, jx_eqnn, jx_ltnl, jx_lenl, jx_ltln, jx_leln, jx_eqnl, Int32.reduceAdd, Int32.reduceSub, Int32.reduceMul, Int32.reduceLT, Int32.reduceLE, jx_eqll, jx_ltll, Nat.reduceMul, Nat.reduceSub, forall_const, implies_true, false_implies, not_true_eq_false, true_implies, jx_tko, jx_ofn, jx_tka, jx_pro, jx_pra, and_self, Nat.not_lt_zero, b0]
  · have b0 : (nI v >>> (nI k &&& 31) &&& 1 = 1) = False := by rw [hb]; exact eq_false b1
    refine jx_gq flok_X9 (fwok_X9 rfl) 22 14 _ _ _ _ ?_
    simp (disch := omega) only [↓reduceIte, jx_wp, jx_stp, jx_f0, jx_f1, jx_f2, jx_f3, List.getElem?_cons_zero, List.getElem?_cons_succ, List.set_cons_zero, List.set_cons_succ, Nat.reduceAdd, true_and, and_true, if_true, if_false, Bool.false_eq_true, jx_s, Nat.reduceLT, dX9_goesNext_0, dX9_goesNext_1, dX9_goesNext_2, dX9_goesNext_3, dX9_goesNext_4, dX9_goesNext_5, dX9_goesNext_6, dX9_goesNext_9, dX9_goesNext_10, dX9_goesNext_11, dX9_goesNext_12, dX9_goesNext_15, dX9_goesNext_16, dX9_goesNext_17, dX9_goesNext_19, dX9_goesNext_20, dX9_goesNext_22, dX9_goesNext_24, dX9_goesNext_25, dX9_goesNext_28, dX9_goesNext_31, dX9_goesNext_32, dX9_goesNext_34, dX9_goesNext_35, dX9_goesNext_36, dX9_goesNext_37, dX9_goesNext_40, dX9_goesNext_42, dX9_goesNext_43, dX9_goesNext_46, dX9_goesNext_47, dX9_goesNext_50, dX9_goesNext_51, dX9_goesNext_54, dX9_goesNext_56, dX9_goesNext_57, dX9_goesNext_58, dX9_goesNext_61, dX9_goesNext_62, dX9_goesNext_65, dX9_goesNext_66, dX9_goesNext_69, dX9_goesNext_71, dX9_goesNext_72, dX9_goesNext_73, dX9_goesNext_74, dX9_goesNext_77, dX9_goesNext_79, dX9_goesNext_80, dX9_goesNext_83, dX9_goesNext_84, dX9_goesNext_85, dX9_goesNext_88, dX9_goesNext_91, dX9_goesNext_92, dX9_goesNext_95, dX9_goesNext_97, dX9_goesNext_98, dX9_goesNext_99, dX9_goesNext_102, dX9_goesNext_103, dX9_goesNext_106, dX9_goesNext_108, dX9_goesNext_109, dX9_goesNext_110, dX9_goesNext_112, dX9_goesNext_115, dX9_goesNext_116, dX9_goesNext_119, dX9_goesNext_120, dX9_goesNext_123, dX9_goesNext_124, dX9_goesNext_127, dX9_goesNext_128, dX9_goesNext_129, dX9_goesNext_130, dX9_goesNext_133, dX9_goesNext_134, dX9_goesNext_137, dX9_goesNext_138, jx_k1, tg_6_5, jx_k0, fl_X9_133, ft_10_60, fl_X9_306, ft_10_59, tg_28_63, tg_37_48, tg_43_42, fl_X9_88, ft_10_32, tg_58_27, fl_X9_97, ft_10_35, fl_X9_94, ft_10_34, tg_80_5, tg_88_m66, fl_X9_76, ft_10_28, tg_99_34, fl_X9_91, ft_10_33, jx_b14, tg_112_7, tg_116_14, fl_X9_85, ft_10_31, tg_130_7, tg_134_4, jx_wq, jx_stq, jx_ite, mo_k98 hM, mo_p60 hM, mo_k138 hM, mo_p32 hM, mo_k123 hM, mo_p35 hM, mo_k126 hM, mo_p34 hM, mo_k125 hM, mo_p28 hM, mo_k119 hM, mo_p33 hM, mo_k124 hM, mo_p31 hM, mo_k122 hM, jx_b0, jx_bn0, jx_u_eq, jx_u_na, jx_u_ni, jx_nb0, jx_nb1, jx_ni, jx_E, eq_self, jx_a0, jx_a1, ne_eq, not_false_eq_true, Nat.reduceLeDiff, Nat.reduceEqDiff, Nat.reduceLT, jx_subl, jx_al, jx_la, jx_nm, jx_ml, nI_add, jx_xn, jx_xl, jx_inn, jx_inl, jx_ltnn, jx_lenn, jx_eqnn, jx_ltnl, jx_lenl, jx_ltln, jx_leln, jx_eqnl, Int32.reduceAdd, Int32.reduceSub, Int32.reduceMul, Int32.reduceLT, Int32.reduceLE, jx_eqll, jx_ltll, Nat.reduceMul, Nat.reduceSub, forall_const, implies_true, false_implies, not_true_eq_false, true_implies, jx_tko, jx_ofn, jx_tka, jx_pro, jx_pra, and_self, Nat.not_lt_zero, b0, p1]
    refine gn_l hM ha hv hl hk (fun _ => ⟨rfl, rfl⟩) (fun hall j => ?_) N 0 (by omega) (fun i hi => absurd hi (by omega))
    have hw : ¬ (at_wr I f k ∨ at_re I f k = if l = 14 then 0 else at_va I f l) := fun w => hg ⟨b1, hall, w⟩
    have w1 : ¬ I 119 (f k) = 1 := fun w => hw (Or.inl w)
    by_cases l14 : l = 14
    · have w2 : ¬ I 124 (f k) = 0 := fun w => hw (Or.inr (by rw [if_pos l14]; exact w))
      refine jx_gq flok_X9 (fwok_X9 rfl) 99999 24 _ _ _ _ ?_
      simp (disch := omega) only [↓reduceIte, jx_wp, jx_stp, jx_f0, jx_f1, jx_f2, jx_f3, List.getElem?_cons_zero, List.getElem?_cons_succ, List.set_cons_zero, List.set_cons_succ, Nat.reduceAdd, true_and, and_true, if_true, if_false, Bool.false_eq_true, jx_s, Nat.reduceLT, dX9_goesNext_0, dX9_goesNext_1, dX9_goesNext_2, dX9_goesNext_3, dX9_goesNext_4, dX9_goesNext_5, dX9_goesNext_6, dX9_goesNext_9, dX9_goesNext_10, dX9_goesNext_11, dX9_goesNext_12, dX9_goesNext_15, dX9_goesNext_16, dX9_goesNext_17, dX9_goesNext_19, dX9_goesNext_20, dX9_goesNext_22, dX9_goesNext_24, dX9_goesNext_25, dX9_goesNext_28, dX9_goesNext_31, dX9_goesNext_32, dX9_goesNext_34, dX9_goesNext_35, dX9_goesNext_36, dX9_goesNext_37, dX9_goesNext_40, dX9_goesNext_42, dX9_goesNext_43, dX9_goesNext_46, dX9_goesNext_47, dX9_goesNext_50, dX9_goesNext_51, dX9_goesNext_54, dX9_goesNext_56, dX9_goesNext_57, dX9_goesNext_58, dX9_goesNext_61, dX9_goesNext_62, dX9_goesNext_65, dX9_goesNext_66, dX9_goesNext_69, dX9_goesNext_71, dX9_goesNext_72, dX9_goesNext_73, dX9_goesNext_74, dX9_goesNext_77, dX9_goesNext_79, dX9_goesNext_80, dX9_goesNext_83, dX9_goesNext_84, dX9_goesNext_85, dX9_goesNext_88, dX9_goesNext_91, dX9_goesNext_92, dX9_goesNext_95, dX9_goesNext_97, dX9_goesNext_98, dX9_goesNext_99, dX9_goesNext_102, dX9_goesNext_103, dX9_goesNext_106, dX9_goesNext_108, dX9_goesNext_109, dX9_goesNext_110, dX9_goesNext_112, dX9_goesNext_115, dX9_goesNext_116, dX9_goesNext_119, dX9_goesNext_120, dX9_goesNext_123, dX9_goesNext_124, dX9_goesNext_127, dX9_goesNext_128, dX9_goesNext_129, dX9_goesNext_130, dX9_goesNext_133, dX9_goesNext_134, dX9_goesNext_137, dX9_goesNext_138, jx_k1, tg_6_5, jx_k0, fl_X9_133, ft_10_60, fl_X9_306, ft_10_59, tg_28_63, tg_37_48, tg_43_42, fl_X9_88, ft_10_32, tg_58_27, fl_X9_97, ft_10_35, fl_X9_94, ft_10_34, tg_80_5, tg_88_m66, fl_X9_76, ft_10_28, tg_99_34, fl_X9_91, ft_10_33, jx_b14, tg_112_7, tg_116_14, fl_X9_85, ft_10_31, tg_130_7, tg_134_4, jx_wq, jx_stq, jx_ite, mo_k98 hM, mo_p60 hM, mo_k138 hM, mo_p32 hM, mo_k123 hM, mo_p35 hM, mo_k126 hM, mo_p34 hM, mo_k125 hM, mo_p28 hM, mo_k119 hM, mo_p33 hM, mo_k124 hM, mo_p31 hM, mo_k122 hM, jx_b0, jx_bn0, jx_u_eq, jx_u_na, jx_u_ni, jx_nb0, jx_nb1, jx_ni, jx_E, eq_self, jx_a0, jx_a1, ne_eq, not_false_eq_true, Nat.reduceLeDiff, Nat.reduceEqDiff, Nat.reduceLT, jx_subl, jx_al, jx_la, jx_nm, jx_ml, nI_add, jx_xn, jx_xl, jx_inn, jx_inl, jx_ltnn, jx_lenn, jx_eqnn, jx_ltnl, jx_lenl, jx_ltln, jx_leln, jx_eqnl, Int32.reduceAdd, Int32.reduceSub, Int32.reduceMul, Int32.reduceLT, Int32.reduceLE, jx_eqll, jx_ltll, Nat.reduceMul, Nat.reduceSub, forall_const, implies_true, false_implies, not_true_eq_false, true_implies, jx_tko, jx_ofn, jx_tka, jx_pro, jx_pra, and_self, Nat.not_lt_zero, w1, l14, w2]
    · have hlN : l < N := hl.resolve_left l14
      obtain ⟨r1, r2, r3, r4, r5, r6⟩ := hop l hlN
      have w2 : ¬ I 124 (f k) = I 122 (f l) := fun w => hw (Or.inr (by rw [if_neg l14]; exact w))
      refine jx_gq flok_X9 (fwok_X9 rfl) 99999 30 _ _ _ _ ?_
      simp (disch := omega) only [↓reduceIte, jx_wp, jx_stp, jx_f0, jx_f1, jx_f2, jx_f3, List.getElem?_cons_zero, List.getElem?_cons_succ, List.set_cons_zero, List.set_cons_succ, Nat.reduceAdd, true_and, and_true, if_true, if_false, Bool.false_eq_true, jx_s, Nat.reduceLT, dX9_goesNext_0, dX9_goesNext_1, dX9_goesNext_2, dX9_goesNext_3, dX9_goesNext_4, dX9_goesNext_5, dX9_goesNext_6, dX9_goesNext_9, dX9_goesNext_10, dX9_goesNext_11, dX9_goesNext_12, dX9_goesNext_15, dX9_goesNext_16, dX9_goesNext_17, dX9_goesNext_19, dX9_goesNext_20, dX9_goesNext_22, dX9_goesNext_24, dX9_goesNext_25, dX9_goesNext_28, dX9_goesNext_31, dX9_goesNext_32, dX9_goesNext_34, dX9_goesNext_35, dX9_goesNext_36, dX9_goesNext_37, dX9_goesNext_40, dX9_goesNext_42, dX9_goesNext_43, dX9_goesNext_46, dX9_goesNext_47, dX9_goesNext_50, dX9_goesNext_51, dX9_goesNext_54, dX9_goesNext_56, dX9_goesNext_57, dX9_goesNext_58, dX9_goesNext_61, dX9_goesNext_62, dX9_goesNext_65, dX9_goesNext_66, dX9_goesNext_69, dX9_goesNext_71, dX9_goesNext_72, dX9_goesNext_73, dX9_goesNext_74, dX9_goesNext_77, dX9_goesNext_79, dX9_goesNext_80, dX9_goesNext_83, dX9_goesNext_84, dX9_goesNext_85, dX9_goesNext_88, dX9_goesNext_91, dX9_goesNext_92, dX9_goesNext_95, dX9_goesNext_97, dX9_goesNext_98, dX9_goesNext_99, dX9_goesNext_102, dX9_goesNext_103, dX9_goesNext_106, dX9_goesNext_108, dX9_goesNext_109, dX9_goesNext_110, dX9_goesNext_112, dX9_goesNext_115, dX9_goesNext_116, dX9_goesNext_119, dX9_goesNext_120, dX9_goesNext_123, dX9_goesNext_124, dX9_goesNext_127, dX9_goesNext_128, dX9_goesNext_129, dX9_goesNext_130, dX9_goesNext_133, dX9_goesNext_134, dX9_goesNext_137, dX9_goesNext_138, jx_k1, tg_6_5, jx_k0, fl_X9_133, ft_10_60, fl_X9_306, ft_10_59, tg_28_63, tg_37_48, tg_43_42, fl_X9_88, ft_10_32, tg_58_27, fl_X9_97, ft_10_35, fl_X9_94, ft_10_34, tg_80_5, tg_88_m66, fl_X9_76, ft_10_28, tg_99_34, fl_X9_91, ft_10_33, jx_b14, tg_112_7, tg_116_14, fl_X9_85, ft_10_31, tg_130_7, tg_134_4, jx_wq, jx_stq, jx_ite, mo_k98 hM, mo_p60 hM, mo_k138 hM, mo_p32 hM, mo_k123 hM, mo_p35 hM, mo_k126 hM, mo_p34 hM, mo_k125 hM, mo_p28 hM, mo_k119 hM, mo_p33 hM, mo_k124 hM, mo_p31 hM, mo_k122 hM, jx_b0, jx_bn0, jx_u_eq, jx_u_na, jx_u_ni, jx_nb0, jx_nb1, jx_ni, jx_E, eq_self, jx_a0, jx_a1, ne_eq, not_false_eq_true, Nat.reduceLeDiff, Nat.reduceEqDiff, Nat.reduceLT, jx_subl, jx_al, jx_la, jx_nm, jx_ml, nI_add, jx_xn, jx_xl, jx_inn, jx_inl, jx_ltnn, jx_lenn, jx_eqnn, jx_ltnl, jx_lenl, jx_ltln, jx_leln, jx_eqnl, Int32.reduceAdd, Int32.reduceSub, Int32.reduceMul, Int32.reduceLT, Int32.reduceLE, jx_eqll, jx_ltll, Nat.reduceMul, Nat.reduceSub, forall_const, implies_true, false_implies, not_true_eq_false, true_implies, jx_tko, jx_ofn, jx_tka, jx_pro, jx_pra, and_self, Nat.not_lt_zero, w1, l14, r1, w2]
set_option maxHeartbeats 4000000 in
set_option maxRecDepth 100000 in
theorem mo_gn1 {G : jx_G} {n ms : Nat} {K : Nat → Nat × Nat} {I : Nat → Nat → Int32} {P : Nat → Nat → Option Nat} (hM : mo_ok K P) {f : Nat → Nat} {N v l k : Nat} (ha : at_ok I f N) (hv : v < 2 ^ N) (hl : l = 14 ∨ l < N) (hk : k < N) (hg : at_go I f N v l k) : jx_C G yX9_goesNext cX9_goesNext 6 (some FieldType.boolean) 0 [.inr (some 98), .inl (nI v), .inl (nI l), .inl (nI k)] (n, ms, K, I, P) (jx_E (some (.inl 1)) (n, ms, K, I, P)) := by
  refine jx_C_of (by decide) (Nat.le_of_ble_eq_true rfl) ?_
  simp only [List.map_cons, List.map_nil, List.length_cons, List.length_nil, Nat.reduceAdd, Nat.reduceSub, List.replicate_zero, List.append_nil, List.replicate_succ, List.cons_append, List.nil_append]
  obtain ⟨hN, h59, hop⟩ := id ha
  have hv31 : v < 2147483648 := Nat.lt_of_lt_of_le hv (Nat.le_trans (Nat.pow_le_pow_right (by decide) hN) (by decide))
  obtain ⟨p1, p2, p3, p4, p5, p6⟩ := hop k hk
  have hb := bt_1 (v := v) (k := k) hv31 (by omega)
  obtain ⟨g1, g2, g3⟩ := hg
  have b0 : (nI v >>> (nI k &&& 31) &&& 1 = 1) = False := by rw [hb]; exact eq_false g1
  refine jx_gq flok_X9 (fwok_X9 rfl) 22 14 _ _ _ _ ?_
  simp (disch := omega) only [↓reduceIte, jx_wp, jx_stp, jx_f0, jx_f1, jx_f2, jx_f3, List.getElem?_cons_zero, List.getElem?_cons_succ, List.set_cons_zero, List.set_cons_succ, Nat.reduceAdd, true_and, and_true, if_true, if_false, Bool.false_eq_true, jx_s, Nat.reduceLT, dX9_goesNext_0, dX9_goesNext_1, dX9_goesNext_2, dX9_goesNext_3, dX9_goesNext_4, dX9_goesNext_5, dX9_goesNext_6, dX9_goesNext_9, dX9_goesNext_10, dX9_goesNext_11, dX9_goesNext_12, dX9_goesNext_15, dX9_goesNext_16, dX9_goesNext_17, dX9_goesNext_19, dX9_goesNext_20, dX9_goesNext_22, dX9_goesNext_24, dX9_goesNext_25, dX9_goesNext_28, dX9_goesNext_31, dX9_goesNext_32, dX9_goesNext_34, dX9_goesNext_35, dX9_goesNext_36, dX9_goesNext_37, dX9_goesNext_40, dX9_goesNext_42, dX9_goesNext_43, dX9_goesNext_46, dX9_goesNext_47, dX9_goesNext_50, dX9_goesNext_51, dX9_goesNext_54, dX9_goesNext_56, dX9_goesNext_57, dX9_goesNext_58, dX9_goesNext_61, dX9_goesNext_62, dX9_goesNext_65, dX9_goesNext_66, dX9_goesNext_69, dX9_goesNext_71, dX9_goesNext_72, dX9_goesNext_73, dX9_goesNext_74, dX9_goesNext_77, dX9_goesNext_79, dX9_goesNext_80, dX9_goesNext_83, dX9_goesNext_84, dX9_goesNext_85, dX9_goesNext_88, dX9_goesNext_91, dX9_goesNext_92, dX9_goesNext_95, dX9_goesNext_97, dX9_goesNext_98, dX9_goesNext_99, dX9_goesNext_102, dX9_goesNext_103, dX9_goesNext_106, dX9_goesNext_108, dX9_goesNext_109, dX9_goesNext_110, dX9_goesNext_112, dX9_goesNext_115, dX9_goesNext_116, dX9_goesNext_119, dX9_goesNext_120, dX9_goesNext_123, dX9_goesNext_124, dX9_goesNext_127, dX9_goesNext_128, dX9_goesNext_129, dX9_goesNext_130, dX9_goesNext_133, dX9_goesNext_134, dX9_goesNext_137, dX9_goesNext_138, jx_k1, tg_6_5, jx_k0, fl_X9_133, ft_10_60, fl_X9_306, ft_10_59, tg_28_63, tg_37_48, tg_43_42, fl_X9_88, ft_10_32, tg_58_27, fl_X9_97, ft_10_35, fl_X9_94, ft_10_34, tg_80_5, tg_88_m66, fl_X9_76, ft_10_28, tg_99_34, fl_X9_91, ft_10_33, jx_b14, tg_112_7, tg_116_14, fl_X9_85, ft_10_31, tg_130_7, tg_134_4, jx_wq, jx_stq, jx_ite, mo_k98 hM, mo_p60 hM, mo_k138 hM, mo_p32 hM, mo_k123 hM, mo_p35 hM, mo_k126 hM, mo_p34 hM, mo_k125 hM, mo_p28 hM, mo_k119 hM, mo_p33 hM, mo_k124 hM, mo_p31 hM, mo_k122 hM, jx_b0, jx_bn0, jx_u_eq, jx_u_na, jx_u_ni, jx_nb0, jx_nb1, jx_ni, jx_E, eq_self, jx_a0, jx_a1, ne_eq, not_false_eq_true, Nat.reduceLeDiff, Nat.reduceEqDiff, Nat.reduceLT, jx_subl, jx_al, jx_la, jx_nm, jx_ml, nI_add, jx_xn, jx_xl, jx_inn, jx_inl, jx_ltnn, jx_lenn, jx_eqnn, jx_ltnl, jx_lenl, jx_ltln, jx_leln, jx_eqnl, Int32.reduceAdd, Int32.reduceSub, Int32.reduceMul, Int32.reduceLT, Int32.reduceLE, jx_eqll, jx_ltll, Nat.reduceMul, Nat.reduceSub, forall_const, implies_true, false_implies, not_true_eq_false, true_implies, jx_tko, jx_ofn, jx_tka, jx_pro, jx_pra, and_self, Nat.not_lt_zero, b0, p1]
  refine gn_l hM ha hv hl hk (fun w => ?_) (fun hall j => ?_) N 0 (by omega) (fun i hi => absurd hi (by omega))
  · obtain ⟨j, q1, q2, q3, q4, q5⟩ := w
    exact absurd q5 (g2 j q1 q2 q3 q4)
  · by_cases w1 : I 119 (f k) = 1
    · refine jx_gq flok_X9 (fwok_X9 rfl) 99999 10 _ _ _ _ ?_
      simp (disch := omega) only [↓reduceIte, jx_wp, jx_stp, jx_f0, jx_f1, jx_f2, jx_f3, List.getElem?_cons_zero, List.getElem?_cons_succ, List.set_cons_zero, List.set_cons_succ, Nat.reduceAdd, true_and, and_true, if_true, if_false, Bool.false_eq_true, jx_s, Nat.reduceLT, dX9_goesNext_0, dX9_goesNext_1, dX9_goesNext_2, dX9_goesNext_3, dX9_goesNext_4, dX9_goesNext_5, dX9_goesNext_6, dX9_goesNext_9, dX9_goesNext_10, dX9_goesNext_11, dX9_goesNext_12, dX9_goesNext_15, dX9_goesNext_16, dX9_goesNext_17, dX9_goesNext_19, dX9_goesNext_20, dX9_goesNext_22, dX9_goesNext_24, dX9_goesNext_25, dX9_goesNext_28, dX9_goesNext_31, dX9_goesNext_32, dX9_goesNext_34, dX9_goesNext_35, dX9_goesNext_36, dX9_goesNext_37, dX9_goesNext_40, dX9_goesNext_42, dX9_goesNext_43, dX9_goesNext_46, dX9_goesNext_47, dX9_goesNext_50, dX9_goesNext_51, dX9_goesNext_54, dX9_goesNext_56, dX9_goesNext_57, dX9_goesNext_58, dX9_goesNext_61, dX9_goesNext_62, dX9_goesNext_65, dX9_goesNext_66, dX9_goesNext_69, dX9_goesNext_71, dX9_goesNext_72, dX9_goesNext_73, dX9_goesNext_74, dX9_goesNext_77, dX9_goesNext_79, dX9_goesNext_80, dX9_goesNext_83, dX9_goesNext_84, dX9_goesNext_85, dX9_goesNext_88, dX9_goesNext_91, dX9_goesNext_92, dX9_goesNext_95, dX9_goesNext_97, dX9_goesNext_98, dX9_goesNext_99, dX9_goesNext_102, dX9_goesNext_103, dX9_goesNext_106, dX9_goesNext_108, dX9_goesNext_109, dX9_goesNext_110, dX9_goesNext_112, dX9_goesNext_115, dX9_goesNext_116, dX9_goesNext_119, dX9_goesNext_120, dX9_goesNext_123, dX9_goesNext_124, dX9_goesNext_127, dX9_goesNext_128, dX9_goesNext_129, dX9_goesNext_130, dX9_goesNext_133, dX9_goesNext_134, dX9_goesNext_137, dX9_goesNext_138, jx_k1, tg_6_5, jx_k0, fl_X9_133, ft_10_60, fl_X9_306, ft_10_59, tg_28_63, tg_37_48, tg_43_42, fl_X9_88, ft_10_32, tg_58_27, fl_X9_97, ft_10_35, fl_X9_94, ft_10_34, tg_80_5, tg_88_m66, fl_X9_76, ft_10_28, tg_99_34, fl_X9_91, ft_10_33, jx_b14, tg_112_7, tg_116_14, fl_X9_85, ft_10_31, tg_130_7, tg_134_4, jx_wq, jx_stq, jx_ite, mo_k98 hM, mo_p60 hM, mo_k138 hM, mo_p32 hM, mo_k123 hM, mo_p35 hM, mo_k126 hM, mo_p34 hM, mo_k125 hM, mo_p28 hM, mo_k119 hM, mo_p33 hM, mo_k124 hM, mo_p31 hM, mo_k122 hM, jx_b0, jx_bn0, jx_u_eq, jx_u_na, jx_u_ni, jx_nb0, jx_nb1, jx_ni, jx_E, eq_self, jx_a0, jx_a1, ne_eq, not_false_eq_true, Nat.reduceLeDiff, Nat.reduceEqDiff, Nat.reduceLT, jx_subl, jx_al, jx_la, jx_nm, jx_ml, nI_add, jx_xn, jx_xl, jx_inn, jx_inl, jx_ltnn, jx_lenn, jx_eqnn, jx_ltnl, jx_lenl, jx_ltln, jx_leln, jx_eqnl, Int32.reduceAdd, Int32.reduceSub, Int32.reduceMul, Int32.reduceLT, Int32.reduceLE, jx_eqll, jx_ltll, Nat.reduceMul, Nat.reduceSub, forall_const, implies_true, false_implies, not_true_eq_false, true_implies, jx_tko, jx_ofn, jx_tka, jx_pro, jx_pra, and_self, Nat.not_lt_zero, w1]
    · have g4 := g3.resolve_left w1
      by_cases l14 : l = 14
      · rw [if_pos l14] at g4
        have w2 : I 124 (f k) = 0 := g4
        refine jx_gq flok_X9 (fwok_X9 rfl) 99999 24 _ _ _ _ ?_
        simp (disch := omega) only [↓reduceIte, jx_wp, jx_stp, jx_f0, jx_f1, jx_f2, jx_f3, List.getElem?_cons_zero, List.getElem?_cons_succ, List.set_cons_zero, List.set_cons_succ, Nat.reduceAdd, true_and, and_true, if_true, if_false, Bool.false_eq_true, jx_s, Nat.reduceLT, dX9_goesNext_0, dX9_goesNext_1, dX9_goesNext_2, dX9_goesNext_3, dX9_goesNext_4, dX9_goesNext_5, dX9_goesNext_6, dX9_goesNext_9, dX9_goesNext_10, dX9_goesNext_11, dX9_goesNext_12, dX9_goesNext_15, dX9_goesNext_16, dX9_goesNext_17, dX9_goesNext_19, dX9_goesNext_20, dX9_goesNext_22, dX9_goesNext_24, dX9_goesNext_25, dX9_goesNext_28, dX9_goesNext_31, dX9_goesNext_32, dX9_goesNext_34, dX9_goesNext_35, dX9_goesNext_36, dX9_goesNext_37, dX9_goesNext_40, dX9_goesNext_42, dX9_goesNext_43, dX9_goesNext_46, dX9_goesNext_47, dX9_goesNext_50, dX9_goesNext_51, dX9_goesNext_54, dX9_goesNext_56, dX9_goesNext_57, dX9_goesNext_58, dX9_goesNext_61, dX9_goesNext_62, dX9_goesNext_65, dX9_goesNext_66, dX9_goesNext_69, dX9_goesNext_71, dX9_goesNext_72, dX9_goesNext_73, dX9_goesNext_74, dX9_goesNext_77, dX9_goesNext_79, dX9_goesNext_80, dX9_goesNext_83, dX9_goesNext_84, dX9_goesNext_85, dX9_goesNext_88, dX9_goesNext_91, dX9_goesNext_92, dX9_goesNext_95, dX9_goesNext_97, dX9_goesNext_98, dX9_goesNext_99, dX9_goesNext_102, dX9_goesNext_103, dX9_goesNext_106, dX9_goesNext_108, dX9_goesNext_109, dX9_goesNext_110, dX9_goesNext_112, dX9_goesNext_115, dX9_goesNext_116, dX9_goesNext_119, dX9_goesNext_120, dX9_goesNext_123, dX9_goesNext_124, dX9_goesNext_127, dX9_goesNext_128, dX9_goesNext_129, dX9_goesNext_130, dX9_goesNext_133, dX9_goesNext_134, dX9_goesNext_137, dX9_goesNext_138, jx_k1, tg_6_5, jx_k0, fl_X9_133, ft_10_60, fl_X9_306, ft_10_59, tg_28_63, tg_37_48, tg_43_42, fl_X9_88, ft_10_32, tg_58_27, fl_X9_97, ft_10_35, fl_X9_94, ft_10_34, tg_80_5, tg_88_m66, fl_X9_76, ft_10_28, tg_99_34, fl_X9_91, ft_10_33, jx_b14, tg_112_7, tg_116_14, fl_X9_85, ft_10_31, tg_130_7, tg_134_4, jx_wq, jx_stq, jx_ite, mo_k98 hM, mo_p60 hM, mo_k138 hM, mo_p32 hM, mo_k123 hM, mo_p35 hM, mo_k126 hM, mo_p34 hM, mo_k125 hM, mo_p28 hM, mo_k119 hM, mo_p33 hM, mo_k124 hM, mo_p31 hM, mo_k122 hM, jx_b0, jx_bn0, jx_u_eq, jx_u_na, jx_u_ni, jx_nb0, jx_nb1, jx_ni, jx_E, eq_self, jx_a0, jx_a1, ne_eq, not_false_eq_true, Nat.reduceLeDiff, Nat.reduceEqDiff, Nat.reduceLT, jx_subl, jx_al, jx_la, jx_nm, jx_ml, nI_add, jx_xn, jx_xl, jx_inn, jx_inl, jx_ltnn, jx_lenn, jx_eqnn, jx_ltnl, jx_lenl, jx_ltln, jx_leln, jx_eqnl, Int32.reduceAdd, Int32.reduceSub, Int32.reduceMul, Int32.reduceLT, Int32.reduceLE, jx_eqll, jx_ltll, Nat.reduceMul, Nat.reduceSub, forall_const, implies_true, false_implies, not_true_eq_false, true_implies, jx_tko, jx_ofn, jx_tka, jx_pro, jx_pra, and_self, Nat.not_lt_zero, w1, l14, w2]
      · rw [if_neg l14] at g4
        have hlN : l < N := hl.resolve_left l14
        obtain ⟨r1, r2, r3, r4, r5, r6⟩ := hop l hlN
        have w2 : I 124 (f k) = I 122 (f l) := g4
        refine jx_gq flok_X9 (fwok_X9 rfl) 99999 30 _ _ _ _ ?_
        simp (disch := omega) only [↓reduceIte, jx_wp, jx_stp, jx_f0, jx_f1, jx_f2, jx_f3, List.getElem?_cons_zero, List.getElem?_cons_succ, List.set_cons_zero, List.set_cons_succ, Nat.reduceAdd, true_and, and_true, if_true, if_false, Bool.false_eq_true, jx_s, Nat.reduceLT, dX9_goesNext_0, dX9_goesNext_1, dX9_goesNext_2, dX9_goesNext_3, dX9_goesNext_4, dX9_goesNext_5, dX9_goesNext_6, dX9_goesNext_9, dX9_goesNext_10, dX9_goesNext_11, dX9_goesNext_12, dX9_goesNext_15, dX9_goesNext_16, dX9_goesNext_17, dX9_goesNext_19, dX9_goesNext_20, dX9_goesNext_22, dX9_goesNext_24, dX9_goesNext_25, dX9_goesNext_28, dX9_goesNext_31, dX9_goesNext_32, dX9_goesNext_34, dX9_goesNext_35, dX9_goesNext_36, dX9_goesNext_37, dX9_goesNext_40, dX9_goesNext_42, dX9_goesNext_43, dX9_goesNext_46, dX9_goesNext_47, dX9_goesNext_50, dX9_goesNext_51, dX9_goesNext_54, dX9_goesNext_56, dX9_goesNext_57, dX9_goesNext_58, dX9_goesNext_61, dX9_goesNext_62, dX9_goesNext_65, dX9_goesNext_66, dX9_goesNext_69, dX9_goesNext_71, dX9_goesNext_72, dX9_goesNext_73, dX9_goesNext_74, dX9_goesNext_77, dX9_goesNext_79, dX9_goesNext_80, dX9_goesNext_83, dX9_goesNext_84, dX9_goesNext_85, dX9_goesNext_88, dX9_goesNext_91, dX9_goesNext_92, dX9_goesNext_95, dX9_goesNext_97, dX9_goesNext_98, dX9_goesNext_99, dX9_goesNext_102, dX9_goesNext_103, dX9_goesNext_106, dX9_goesNext_108, dX9_goesNext_109, dX9_goesNext_110, dX9_goesNext_112, dX9_goesNext_115, dX9_goesNext_116, dX9_goesNext_119, dX9_goesNext_120, dX9_goesNext_123, dX9_goesNext_124, dX9_goesNext_127, dX9_goesNext_128, dX9_goesNext_129, dX9_goesNext_130, dX9_goesNext_133, dX9_goesNext_134, dX9_goesNext_137, dX9_goesNext_138, jx_k1, tg_6_5, jx_k0, fl_X9_133, ft_10_60, fl_X9_306, ft_10_59, tg_28_63, tg_37_48, tg_43_42, fl_X9_88, ft_10_32, tg_58_27, fl_X9_97, ft_10_35, fl_X9_94, ft_10_34, tg_80_5, tg_88_m66, fl_X9_76, ft_10_28, tg_99_34, fl_X9_91, ft_10_33, jx_b14, tg_112_7, tg_116_14, fl_X9_85, ft_10_31, tg_130_7, tg_134_4, jx_wq, jx_stq, jx_ite, mo_k98 hM, mo_p60 hM, mo_k138 hM, mo_p32 hM, mo_k123 hM, mo_p35 hM, mo_k126 hM, mo_p34 hM, mo_k125 hM, mo_p28 hM, mo_k119 hM, mo_p33 hM, mo_k124 hM, mo_p31 hM, mo_k122 hM, jx_b0, jx_bn0, jx_u_eq, jx_u_na, jx_u_ni, jx_nb0, jx_nb1, jx_ni, jx_E, eq_self, jx_a0, jx_a1, ne_eq, not_false_eq_true, Nat.reduceLeDiff, Nat.reduceEqDiff, Nat.reduceLT, jx_subl, jx_al, jx_la, jx_nm, jx_ml, nI_add, jx_xn, jx_xl, jx_inn, jx_inl, jx_ltnn, jx_lenn, jx_eqnn, jx_ltnl, jx_lenl, jx_ltln, jx_leln, jx_eqnl, Int32.reduceAdd, Int32.reduceSub, Int32.reduceMul, Int32.reduceLT, Int32.reduceLE, jx_eqll, jx_ltll, Nat.reduceMul, Nat.reduceSub, forall_const, implies_true, false_implies, not_true_eq_false, true_implies, jx_tko, jx_ofn, jx_tka, jx_pro, jx_pra, and_self, Nat.not_lt_zero, w1, l14, r1, w2]
