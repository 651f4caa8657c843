/-! what holds between the law's calls -/
def la_I (n ms : Nat) (K : Nat → Nat × Nat) (I : Nat → Nat → Int32) (P : Nat → Nat → Option Nat) : Prop := ∃ q x B A, rl0 n ms K I P I B A ∧ Iv I q x B 4 ∧ x + iv_p I ≤ 133 * B ∧ I 3 6 = I 98 11
def la_R (v : Int32) (w : Option jx_V) (M : jx_M) : Prop := w = some (.inl v) ∧ ∃ n ms K I P, M = (n, ms, K, I, P) ∧ la_I n ms K I P
/-- the class's method and then the reference's: the same answer -/
def la_D (G : jx_G) (y : MethodName) (cc : ByteArray) (nL : Nat) (ret : Option FieldType) (y2 : MethodName) (cc2 : ByteArray) (nL2 : Nat) (ret2 : Option FieldType) (av : List jx_V) (M : jx_M) : Prop := ∃ d d2 Q, d ≤ 12 ∧ d2 ≤ 12 ∧ jx_C G y cc nL ret d (.inr (some 3) :: av) M Q ∧ ∀ w M1, Q w M1 → ∃ v, w = some (.inl v) ∧ mo_ok M1.2.2.1 M1.2.2.2.2 ∧ ∃ Q2, jx_C G y2 cc2 nL2 ret2 d2 (.inr (some 98) :: av) M1 Q2 ∧ ∀ w2 M2, Q2 w2 M2 → la_R v w2 M2
/-- what the class leaves -/
def la_W (v : Int32) (J : Nat → Nat → Int32) (B : Nat) (I0 : Nat → Nat → Int32) (w : Option jx_V) (M : jx_M) : Prop := ∃ n ms K I P A, w = some (.inl v) ∧ M = (n, ms, K, I, P) ∧ rl0 n ms K I P J B A ∧ ag I I0 ∧ I 3 6 = J 98 11
theorem la_ro {G : jx_G} {n ms : Nat} {K : Nat → Nat × Nat} {I : Nat → Nat → Int32} {P : Nat → Nat → Option Nat} {y y2 : MethodName} {cc cc2 : ByteArray} {nL nL2 d d2 : Nat} {ret ret2 : Option FieldType} {av : List jx_V} {v v2 : Int32} (h : la_I n ms K I P) (hd : d ≤ 12) (hd2 : d2 ≤ 12) (c1 : jx_C G y cc nL ret d (.inr (some 3) :: av) (n, ms, K, I, P) (jx_E (some (.inl v)) (n, ms, K, I, P))) (c2 : jx_C G y2 cc2 nL2 ret2 d2 (.inr (some 98) :: av) (n, ms, K, I, P) (jx_E (some (.inl v2)) (n, ms, K, I, P))) (e : v2 = v) : la_D G y cc nL ret y2 cc2 nL2 ret2 av (n, ms, K, I, P) := by
  obtain ⟨q, x, B, A, hR, hv, hp, h36⟩ := id h
  refine ⟨d, d2, _, hd, hd2, c1, ?_⟩
  rintro _ _ ⟨rfl, rfl⟩
  refine ⟨v, rfl, hR.1.2.2.1, _, c2, ?_⟩
  rintro _ _ ⟨rfl, rfl⟩
  exact ⟨by rw [e], n, ms, K, I, P, rfl, h⟩
theorem la_ch {G : jx_G} {n ms : Nat} {K : Nat → Nat × Nat} {I : Nat → Nat → Int32} {P : Nat → Nat → Option Nat} {y y2 : MethodName} {cc cc2 : ByteArray} {nL nL2 d d2 : Nat} {ret ret2 : Option FieldType} {av : List jx_V} {v : Int32} {Q : Option jx_V → jx_M → Prop} {J : Nat → Nat → Int32} {F : (Nat → Nat → Int32) → Nat → Nat → Int32} {q x B : Nat} (hd : d ≤ 12) (hd2 : d2 ≤ 12) (c1 : jx_C G y cc nL ret d (.inr (some 3) :: av) (n, ms, K, I, P) Q) (hq : ∀ w M, Q w M → la_W v J B I w M) (hv : Iv J q x B 4) (hp : x + iv_p J ≤ 133 * B)
    (c2 : ∀ n ms K I2 P, mo_ok K P → ag I2 I → jx_C G y2 cc2 nL2 ret2 d2 (.inr (some 98) :: av) (n, ms, K, I2, P) (jx_E (some (.inl v)) (n, ms, K, F I2, P))) (hf : ∀ I2, fo (F I2) I2) (hJ : ∀ I2, ag I2 I → ag (F I2) J) : la_D G y cc nL ret y2 cc2 nL2 ret2 av (n, ms, K, I, P) := by
  refine ⟨d, d2, Q, hd, hd2, c1, fun w M1 hw => ?_⟩
  obtain ⟨n', ms', K', I', P', A', rfl, rfl, hR, hag, h36⟩ := hq w M1 hw
  refine ⟨v, rfl, hR.1.2.2.1, _, c2 _ _ _ _ _ hR.1.2.2.1 hag, ?_⟩
  rintro _ _ ⟨rfl, rfl⟩
  have a := hJ I' hag
  have hR2 := rl_fol hR (hf I') a
  obtain ⟨v1, v2⟩ := Iv_ag hv a
  exact ⟨rfl, n', ms', K', F I', P', rfl, q, x, B, A', hR2, v1, by rw [v2]; exact hp, by rw [hf I' 3 6 (by omega), h36, a 98 11 (by omega) (by omega)]⟩
theorem la_lt {x : Int32} {m : Nat} (hm : m < 2147483648) (h1 : ¬ x < 0) (h2 : ¬ nI m ≤ x) : ∃ k, k < m ∧ x = nI k := by
  obtain ⟨j, hj, rfl⟩ := nI_of h1
  rw [jx_lenn hm (by omega)] at h2
  exact ⟨j, by omega, rfl⟩
theorem la_le {x : Int32} {m : Nat} (hm : m < 2147483648) (h1 : ¬ x < 0) (h2 : x ≤ nI m) : ∃ k, k ≤ m ∧ x = nI k := by
  obtain ⟨j, hj, rfl⟩ := nI_of h1
  rw [jx_lenn (by omega) hm] at h2
  exact ⟨j, by omega, rfl⟩
theorem i_le0 {b : Int32} (h : ¬ b ≤ 0) : ¬ b < 0 := fun w => h (Int32.le_of_lt w)
theorem i_lt3 {a : Int32} (h : ¬ a < 3) : ¬ a < 0 := fun w => by
  have h := Int32.not_lt.mp h
  rw [Int32.lt_iff_toInt_lt] at w
  rw [Int32.le_iff_toInt_le] at h
  have e1 : (3 : Int32).toInt = 3 := by decide
  have e2 : (0 : Int32).toInt = 0 := by decide
  omega
theorem bs_of {a : Int32} {q : Nat} (hq : q ≤ 7) (h1 : ¬ a ≤ 0) (h2 : ¬ (1 : Int32) <<< (nI q &&& 31) ≤ a) : bs a q ∧ a ≠ 0 := by
  obtain ⟨u, hu, rfl⟩ := nI_of (i_le0 h1)
  have h3 : 2 ^ q ≤ 2 ^ 7 := Nat.pow_le_pow_right (by decide) hq
  rw [bt_s1 (by omega), jx_lenn (by omega) (by omega)] at h2
  refine ⟨⟨u, by omega, rfl⟩, fun e => h1 ?_⟩
  rw [e]
  decide
theorem h60 {I : Nat → Nat → Int32} {B : Nat} (h : I 98 25 = nI B) (hB : B ≤ 60) : B < 60 ↔ ¬ 60 ≤ I 98 25 := by
  rw [h, show (60 : Int32) = nI 60 from rfl, jx_lenn (by omega) (by omega)]
  omega
theorem S1_al {I : Nat → Nat → Int32} {B c d : Nat} {kd s v : Int32} : mo_al (mo_S1 I B kd c s v) d = mo_al I d := by
  have e : ∀ j, mo_S1 I B kd c s v 99 j = I 99 j := fun j => S1_F (by omega) (by omega) (by omega) (by omega)
  unfold mo_al mo_or
  simp only [e]
theorem BA_0 {I : Nat → Nat → Int32} {B c : Nat} {kd s v : Int32} (hk : kd = 0 ∨ kd = 1) : mo_am (mo_br (mo_o1 I B kd c s v) c 1) c B (mo_al I c) = mo_BA (mo_S1 I B kd c s v) c B := by
  unfold mo_BA
  rw [mo_W_0 (by rw [S1_v.2.2.2.2.2.2.2.1]; exact hk), S1_al]
  rfl
theorem BA_2 {I : Nat → Nat → Int32} {B c g : Nat} {a : Int32} (hg : g < 5) : mo_am (mo_br (mo_o1 (mo_ch I c g) B 2 c a 0) c 1) c B (if I 99 (6 * (7 + c) + g) ≤ 0 then 0 else I 99 (6 * (7 + c) + g)) = mo_BA (mo_S1 (mo_ch I c g) B 2 c a 0) c B := by
  have e : ∀ j, mo_S1 (mo_ch I c g) B 2 c a 0 99 j = I 99 j := fun j => by rw [S1_F (by omega) (by omega) (by omega) (by omega), mo_ch_na (by omega) (by omega)]
  have e2 : mo_S1 (mo_ch I c g) B 2 c a 0 134 c = nI g := by
    rw [S1_F (by omega) (by omega) (by omega) (by omega)]
    unfold mo_ch
    rw [jx_u_na (by omega), jx_u_eq]
  unfold mo_BA
  rw [mo_W_2 S1_v.2.2.2.2.2.2.2.1, e2, jx_xn (by omega), e]
  rfl
theorem BA_3 {I : Nat → Nat → Int32} {B c g : Nat} {a : Int32} (hg : g < 5) : mo_am (mo_br (mo_o1 (mo_mv I c g) B 3 c a 0) c 1) c B (if I 99 (6 * (7 + c) + g) ≤ 0 then 0 else I 99 (6 * (7 + c) + g)) = mo_BA (mo_S1 (mo_mv I c g) B 3 c a 0) c B := by
  have e : ∀ j, mo_S1 (mo_mv I c g) B 3 c a 0 99 j = I 99 j := fun j => by rw [S1_F (by omega) (by omega) (by omega) (by omega), mo_mv_na (by omega) (by omega)]
  have e2 : mo_S1 (mo_mv I c g) B 3 c a 0 134 c = nI g := by
    rw [S1_F (by omega) (by omega) (by omega) (by omega)]
    unfold mo_mv
    rw [jx_u_na (by omega), jx_u_eq]
  unfold mo_BA
  rw [mo_W_31 S1_v.2.2.2.2.2.2.2.1 S1_v.2.2.2.2.2.2.1, e2, jx_xn (by omega), e]
  rfl
theorem top_g {f : Nat → Int32} (h0 : f 0 ≠ 0) : ∀ m, (∀ k, m < k → k ≤ 5 → f k = 0) → ∃ g, g ≤ m ∧ f g ≠ 0 ∧ ∀ k, g < k → k ≤ 5 → f k = 0
  | 0, hz => ⟨0, Nat.le_refl _, h0, hz⟩
  | m + 1, hz => by
    by_cases e : f (m + 1) = 0
    · obtain ⟨g, a, b, c⟩ := top_g h0 m (fun k h1 h2 => by
        by_cases q : k = m + 1
        · subst q
          exact e
        · exact hz k (by omega) h2)
      exact ⟨g, by omega, b, c⟩
    · exact ⟨m + 1, Nat.le_refl _, e, hz⟩
theorem fst_g {f : Nat → Int32} : ∀ m, ∃ g, g ≤ m ∧ (g < m → 0 < f g) ∧ ∀ k, k < g → ¬ 0 < f k
  | 0 => ⟨0, Nat.le_refl _, fun h => absurd h (by omega), fun k h => absurd h (by omega)⟩
  | m + 1 => by
    obtain ⟨g, a, b, c⟩ := fst_g (f := f) m
    by_cases q : g < m
    · exact ⟨g, by omega, fun _ => b q, c⟩
    · by_cases e : 0 < f g
      · exact ⟨g, by omega, fun _ => e, c⟩
      · refine ⟨g + 1, by omega, fun h => absurd h (by omega), fun k hk => ?_⟩
        by_cases r : k = g
        · subst r
          exact e
        · exact c k (by omega)
theorem la_S {J I : Nat → Nat → Int32} {B : Nat} {A : Nat → Nat} {w : Option jx_V} {M : jx_M} (h : rl_S J B A 0 (fun _ => False) I w M) (h36 : I 3 6 = I 98 11) (h11 : J 98 11 = I 98 11) : la_W (nI B) J (B + 1) I w M := by
  obtain ⟨e, A2, n, ms, K, I2, P, rfl, -, hR⟩ := h
  exact ⟨n, ms, K, I2, P, A2, e, rfl, ⟨hR.1, hR.2.1, fun _ w => w.elim, ag_refl, rfl⟩, hR.2.2.2.1, by rw [hR.2.2.2.2, h36, h11]⟩
set_option maxHeartbeats 4000000 in
set_option maxRecDepth 100000 in
theorem ld_begin {G : jx_G} {n ms : Nat} {K : Nat → Nat × Nat} {I : Nat → Nat → Int32} {P : Nat → Nat → Option Nat} {a b : Int32} (h : la_I n ms K I P) : la_D G yX8_begin cX8_begin 3 (some FieldType.boolean) yX9_begin cX9_begin 4 (some FieldType.boolean) [.inl a, .inl b] (n, ms, K, I, P) := by
  obtain ⟨q, x, B, A, hR, hv, hp, h36⟩ := id h
  have hM : mo_ok K P := hR.1.2.2.1
  obtain ⟨h0, h1, q3, q7, h9, h25, hB⟩ := id hv.1
  by_cases hs : a < 3 ∨ 7 < a ∨ b ≤ 0 ∨ (1 : Int32) <<< (a &&& 31) ≤ b
  · exact la_ro h (by decide) (by decide) (rl_beginc_no hs) (mo_begin_no hM hs h0) rfl
  · rw [not_or, not_or, not_or] at hs
    obtain ⟨s1, s2, s3, s4⟩ := hs
    obtain ⟨u, hu, rfl⟩ := nI_of (i_lt3 s1)
    have t1 : ¬ nI u < nI 3 := s1
    have t2 : ¬ nI 7 < nI u := s2
    rw [jx_ltnn (by omega) (by omega)] at t1 t2
    obtain ⟨b1, b2⟩ := bs_of (q := u) (by omega) s3 s4
    obtain ⟨f1, f2⟩ := Iv_fresh (J := mo_bg I u b) (q := u) (f := b) (by omega) (by omega) b1 b2 (by rw [bg_o (by omega) (by omega) (by omega), h0]) (fun j => by rw [bg_o (by omega) (by omega) (by omega)]; exact hv.2.2.2.2.2.2 j) bg_f0
    refine la_ch (F := fun J => mo_bg J u b) (by decide) (by decide) (rl_beginc hR (by omega) (by omega) ⟨s3, s4⟩) (fun w M hw => ?_) f1 (by rw [f2]; omega) (fun n ms K I2 P k1 k2 => mo_begin k1 (by omega) (by omega) ⟨s3, s4⟩ (by rw [k2 98 0 (by omega) (by omega), h0])) (fun I2 => fo_bg) (fun I2 k => ag_bg k)
    obtain ⟨e, n2, ms2, K2, I2, P2, e2, g1, g2, g3⟩ := hw
    exact ⟨n2, ms2, K2, I2, P2, A, e, e2, g1, g2, by rw [g3, bg_11]⟩
set_option maxHeartbeats 4000000 in
set_option maxRecDepth 100000 in
theorem ld_read {G : jx_G} {n ms : Nat} {K : Nat → Nat × Nat} {I : Nat → Nat → Int32} {P : Nat → Nat → Option Nat} {c r : Int32} (h : la_I n ms K I P) : la_D G yX8_read cX8_read 3 (some FieldType.int) yX9_read cX9_read 3 (some FieldType.int) [.inl c, .inl r] (n, ms, K, I, P) := by
  obtain ⟨q, x, B, A, hR, hv, hp, h36⟩ := id h
  have hM : mo_ok K P := hR.1.2.2.1
  obtain ⟨h0, h1, q3, q7, h9, h25, hB⟩ := id hv.1
  by_cases hs : ¬ c < 0 ∧ ¬ 4 ≤ c
  rotate_left
  · exact la_ro h (by decide) (by decide) (rl_read_n1 (v := 0) hR hs) (mo_read_no hM hs h0) rfl
  obtain ⟨k, hc, rfl⟩ := la_lt (m := 4) (by omega) hs.1 hs.2
  have hb := h60 h25 hB
  by_cases hy : (I 100 (7 + k) = 0 ∧ I 128 k = -1 ∧ B < 60) ∧ (¬ r < 0 ∧ ¬ 3 ≤ r)
  rotate_left
  · refine la_ro h (by decide) (by decide) (rl_read_n2 (v := 0) hR hc ?_) (mo_read_no2 hM hc (fun w => hy ⟨⟨w.1.2.1, w.1.1, hb.mpr w.1.2.2⟩, w.2⟩) h0) rfl
    by_cases e : I 100 (7 + k) = 0 ∧ I 128 k = -1 ∧ B < 60
    · exact Or.inr (fun w => hy ⟨e, w⟩)
    · exact Or.inl e
  obtain ⟨⟨y1, y2, y3⟩, y4⟩ := hy
  obtain ⟨r', hr, rfl⟩ := la_lt (m := 3) (by omega) y4.1 y4.2
  obtain ⟨g1, x2, g2, g3⟩ := Iv_begin (kd := 0) (s := nI r') (v := 0) (j := 0) hv hc y2 y3 (by omega) (by decide) (fun _ => ⟨r', hr, rfl⟩) (fun w => absurd w (by decide)) (fun w => absurd w (by decide)) (fun w => absurd w (by decide))
  refine la_ch (d2 := 5) (F := fun J => mo_BA (mo_S1 J B 0 k (nI r') 0) k B) (by decide) (by decide) (rl_read (v := 0) hR hc y1 y2 y3 hr g1 h9 (by omega)) (fun w M hw => la_S hw h36 (by rw [BA_11, S1_F (by omega) (by omega) (by omega) (by omega)])) g2 (by omega) (fun n ms K I2 P k1 k2 => ?_) (fun I2 => fo_BA (fo_S1 fo_refl)) (fun I2 k => ag_BA (ag_S1 k))
  rw [← BA_0 (by decide)]
  have h25' : I2 98 25 = nI B := by rw [k2 98 25 (by omega) (by omega), h25]
  exact mo_read k1 y3 h25' hc (by rw [k2 98 9 (by omega) (by omega), h9]) (by omega) ⟨⟨by rw [k2 128 _ (by omega) (by omega), y2], by rw [k2 100 _ (by omega) (by omega), y1], (h60 h25' hB).mp y3⟩, y4⟩ (by rw [k2 98 0 (by omega) (by omega), h0])
set_option maxHeartbeats 4000000 in
set_option maxRecDepth 100000 in
theorem ld_write {G : jx_G} {n ms : Nat} {K : Nat → Nat × Nat} {I : Nat → Nat → Int32} {P : Nat → Nat → Option Nat} {c r v : Int32} (h : la_I n ms K I P) : la_D G yX8_write cX8_write 4 (some FieldType.int) yX9_write cX9_write 4 (some FieldType.int) [.inl c, .inl r, .inl v] (n, ms, K, I, P) := by
  obtain ⟨q, x, B, A, hR, hv, hp, h36⟩ := id h
  have hM : mo_ok K P := hR.1.2.2.1
  obtain ⟨h0, h1, q3, q7, h9, h25, hB⟩ := id hv.1
  by_cases hs : ¬ c < 0 ∧ ¬ 4 ≤ c
  rotate_left
  · exact la_ro h (by decide) (by decide) (rl_write_n1 hR hs) (mo_write_no hM hs h0) rfl
  obtain ⟨k, hc, rfl⟩ := la_lt (m := 4) (by omega) hs.1 hs.2
  have hb := h60 h25 hB
  by_cases hy : (I 100 (7 + k) = 0 ∧ I 128 k = -1 ∧ B < 60) ∧ (¬ r < 0 ∧ ¬ 3 ≤ r)
  rotate_left
  · refine la_ro h (by decide) (by decide) (rl_write_n2 hR hc ?_) (mo_write_no2 hM hc (fun w => hy ⟨⟨w.1.2.1, w.1.1, hb.mpr w.1.2.2⟩, w.2⟩) h0) rfl
    by_cases e : I 100 (7 + k) = 0 ∧ I 128 k = -1 ∧ B < 60
    · exact Or.inr (fun w => hy ⟨e, w⟩)
    · exact Or.inl e
  obtain ⟨⟨y1, y2, y3⟩, y4⟩ := hy
  obtain ⟨r', hr, rfl⟩ := la_lt (m := 3) (by omega) y4.1 y4.2
  obtain ⟨g1, x2, g2, g3⟩ := Iv_begin (kd := 1) (s := nI r') (v := v) (j := 0) hv hc y2 y3 (by omega) (by decide) (fun _ => ⟨r', hr, rfl⟩) (fun w => absurd w (by decide)) (fun w => absurd w (by decide)) (fun w => absurd w (by decide))
  refine la_ch (d2 := 5) (F := fun J => mo_BA (mo_S1 J B 1 k (nI r') v) k B) (by decide) (by decide) (rl_write hR hc y1 y2 y3 hr g1 h9 (by omega)) (fun w M hw => la_S hw h36 (by rw [BA_11, S1_F (by omega) (by omega) (by omega) (by omega)])) g2 (by omega) (fun n ms K I2 P k1 k2 => ?_) (fun I2 => fo_BA (fo_S1 fo_refl)) (fun I2 k => ag_BA (ag_S1 k))
  rw [← BA_0 (by decide)]
  have h25' : I2 98 25 = nI B := by rw [k2 98 25 (by omega) (by omega), h25]
  exact mo_write k1 y3 h25' hc (by rw [k2 98 9 (by omega) (by omega), h9]) (by omega) ⟨⟨by rw [k2 128 _ (by omega) (by omega), y2], by rw [k2 100 _ (by omega) (by omega), y1], (h60 h25' hB).mp y3⟩, y4⟩ (by rw [k2 98 0 (by omega) (by omega), h0])
set_option maxHeartbeats 4000000 in
set_option maxRecDepth 100000 in
theorem ld_change {G : jx_G} {n ms : Nat} {K : Nat → Nat × Nat} {I : Nat → Nat → Int32} {P : Nat → Nat → Option Nat} {c a : Int32} (h : la_I n ms K I P) : la_D G yX8_change cX8_change 5 (some FieldType.int) yX9_change cX9_change 4 (some FieldType.int) [.inl c, .inl a] (n, ms, K, I, P) := by
  obtain ⟨q, x, B, A, hR, hv, hp, h36⟩ := id h
  have hM : mo_ok K P := hR.1.2.2.1
  obtain ⟨h0, h1, q3, q7, h9, h25, hB⟩ := id hv.1
  by_cases hs : ¬ c < 0 ∧ ¬ 4 ≤ c
  rotate_left
  · exact la_ro h (by decide) (by decide) (rl_change_n1 hR hs) (mo_change_no hM hs h0) rfl
  obtain ⟨k, hc, rfl⟩ := la_lt (m := 4) (by omega) hs.1 hs.2
  have hb := h60 h25 hB
  by_cases hy : (I 100 (7 + k) = 0 ∧ I 128 k = -1 ∧ B < 60) ∧ (¬ a ≤ 0 ∧ ¬ (1 : Int32) <<< (I 98 1 &&& 31) ≤ a)
  rotate_left
  · refine la_ro h (by decide) (by decide) (rl_change_n2 hR hc ?_) (mo_change_no2 hM hc (fun w => hy ⟨⟨w.1.2.1, w.1.1, hb.mpr w.1.2.2⟩, w.2⟩) h0) rfl
    by_cases e : I 100 (7 + k) = 0 ∧ I 128 k = -1 ∧ B < 60
    · exact Or.inr (fun w => hy ⟨e, w⟩)
    · exact Or.inl e
  obtain ⟨⟨y1, y2, y3⟩, y4⟩ := hy
  by_cases h5 : I 99 (6 * (7 + k) + 5) = 0
  rotate_left
  · exact la_ro h (by decide) (by decide) (rl_change_n3 hR hc ⟨y1, y2, y3⟩ y4 h5) (mo_change_no3 hM hc ⟨⟨y2, y1, hb.mp y3⟩, y4⟩ h5 h0) rfl
  have im := hv.2.1 (7 + k) (by omega)
  obtain ⟨g, l1, l2, l3⟩ := top_g (f := fun j => I 99 (6 * (7 + k) + j)) im.2.1 4 (fun j w1 w2 => by
    have : j = 5 := by omega
    subst this
    exact h5)
  have hno : I 99 (6 * (7 + k) + g) ≠ -1 := fun w => (im.2.2 g (by omega) w).2 (l3 (g + 1) (by omega) (by omega))
  obtain ⟨b1, b2⟩ := bs_of (q := q) q7 y4.1 (by rw [← h1]; exact y4.2)
  have cF : ∀ a i, 98 ≤ a → a < 140 → ¬ (133 ≤ a ∧ a ≤ 135 ∧ i = k) → mo_ch I k g a i = I a i := fun a i w1 w2 w3 => by
    unfold mo_ch
    rw [jx_u_no (by omega), jx_u_no (by omega)]
  obtain ⟨i1, i2⟩ := Iv_idle (J2 := mo_ch I k g) hv hc y2 cF
  have c134 : mo_ch I k g 134 k = nI g := by
    unfold mo_ch
    rw [jx_u_na (by omega), jx_u_eq]
  obtain ⟨g1, x2, g2, g3⟩ := Iv_begin (kd := 2) (s := a) (v := 0) (j := g) i1 hc (by rw [cF _ _ (by omega) (by omega) (by omega), y2]) y3 (by omega) (by decide) (fun w => absurd w (by decide)) (fun _ => ⟨by omega, c134, by rw [cF _ _ (by omega) (by omega) (by omega)]; exact l2, by rw [cF _ _ (by omega) (by omega) (by omega)]; exact hno⟩) (fun w => absurd w (by decide)) (fun _ => ⟨b1, by rw [cF _ _ (by omega) (by omega) (by omega)]; exact l3 (g + 1) (by omega) (by omega)⟩)
  refine la_ch (d2 := 5) (F := fun J => mo_BA (mo_S1 (mo_ch J k g) B 2 k a 0) k B) (by decide) (by decide) (rl_change hR hc y1 y2 y3 y4 (by omega) l2 l3 hno g1 h9 (by omega)) (fun w M hw => la_S hw h36 (by rw [BA_11, S1_F (by omega) (by omega) (by omega) (by omega), cF _ _ (by omega) (by omega) (by omega)])) g2 (by omega) (fun n ms K I2 P k1 k2 => ?_) (fun I2 => fo_BA (fo_S1 (fo_ch fo_refl))) (fun I2 k => ag_BA (ag_S1 (ag_ch k)))
  rw [← BA_2 (by omega)]
  have h25' : I2 98 25 = nI B := by rw [k2 98 25 (by omega) (by omega), h25]
  exact mo_change k1 y3 h25' hc (by rw [k2 98 9 (by omega) (by omega), h9]) (by omega) ⟨⟨by rw [k2 128 _ (by omega) (by omega), y2], by rw [k2 100 _ (by omega) (by omega), y1], (h60 h25' hB).mp y3⟩, by rw [k2 98 1 (by omega) (by omega)]; exact y4⟩ (by omega) (by rw [k2 99 _ (by omega) (by omega)]; exact l2) (fun j w1 w2 => by rw [k2 99 _ (by omega) (by omega)]; exact l3 j w1 w2) (by rw [k2 98 0 (by omega) (by omega), h0])
set_option maxHeartbeats 4000000 in
set_option maxRecDepth 100000 in
theorem ld_move {G : jx_G} {n ms : Nat} {K : Nat → Nat × Nat} {I : Nat → Nat → Int32} {P : Nat → Nat → Option Nat} {c : Int32} (h : la_I n ms K I P) : la_D G yX8_move cX8_move 4 (some FieldType.int) yX9_move cX9_move 3 (some FieldType.int) [.inl c] (n, ms, K, I, P) := by
  obtain ⟨q, x, B, A, hR, hv, hp, h36⟩ := id h
  have hM : mo_ok K P := hR.1.2.2.1
  obtain ⟨h0, h1, q3, q7, h9, h25, hB⟩ := id hv.1
  by_cases hs : ¬ c < 0 ∧ ¬ 4 ≤ c
  rotate_left
  · exact la_ro h (by decide) (by decide) (rl_move_n1 hR hs) (mo_move_no hM hs h0) rfl
  obtain ⟨k, hc, rfl⟩ := la_lt (m := 4) (by omega) hs.1 hs.2
  have hb := h60 h25 hB
  by_cases hy : I 100 (7 + k) = 0 ∧ I 128 k = -1 ∧ B < 60
  rotate_left
  · exact la_ro h (by decide) (by decide) (rl_move_n2 hR hc hy) (mo_move_no2 hM hc (fun w => hy ⟨w.2.1, w.1, hb.mpr w.2.2⟩) h0) rfl
  obtain ⟨y1, y2, y3⟩ := id hy
  have hy2 : I 128 k = -1 ∧ I 100 (7 + k) = 0 ∧ ¬ 60 ≤ I 98 25 := ⟨y2, y1, hb.mp y3⟩
  have im := hv.2.1 (7 + k) (by omega)
  obtain ⟨g, l1, l2, l3⟩ := fst_g (f := fun j => I 99 (6 * (7 + k) + j)) 6
  have l4 : ∀ j, j < g → I 99 (6 * (7 + k) + j) ≤ 0 := fun j w => Int32.not_lt.mp (l3 j w)
  by_cases g6 : g = 6
  · subst g6
    exact la_ro h (by decide) (by decide) (rl_move_n3 hR hc hy l4) (mo_move_no3 (g := 6) hM hc hy2 (by omega) l2 l3 (Or.inl (by omega)) h0) rfl
  have l5 : ¬ I 99 (6 * (7 + k) + g) ≤ 0 := Int32.not_le.mpr (l2 (by omega))
  by_cases gx : g < 5 ∧ 0 < I 99 (6 * (7 + k) + (g + 1))
  rotate_left
  · refine la_ro h (by decide) (by decide) (rl_move_n4 (g := g) hR hc hy (by omega) l5 l4 (fun w => Int32.not_lt.mp (fun z => gx ⟨w, z⟩))) (mo_move_no3 (g := g) hM hc hy2 (by omega) l2 l3 ?_ h0) rfl
    by_cases e : g < 5
    · exact Or.inr (fun z => gx ⟨e, z⟩)
    · exact Or.inl (by omega)
  obtain ⟨g5, gp⟩ := gx
  have hno : I 99 (6 * (7 + k) + g) ≠ -1 := fun w => l5 (by rw [w]; decide)
  have hn2 : I 99 (6 * (7 + k) + (g + 1)) ≠ 0 := fun w => absurd gp (by rw [w]; decide)
  have hb2 : bs (I 99 (6 * (7 + k) + (g + 1))) q := by
    rcases im.1 (g + 1) (by omega) with w | w
    · exact absurd gp (by rw [show I 99 (6 * (7 + k) + (g + 1)) = -1 from w]; decide)
    · exact w
  have cF : ∀ a i, 98 ≤ a → a < 140 → ¬ (133 ≤ a ∧ a ≤ 135 ∧ i = k) → mo_mv I k g a i = I a i := fun a i w1 w2 w3 => by
    unfold mo_mv
    rw [jx_u_no (by omega), jx_u_no (by omega)]
  obtain ⟨i1, i2⟩ := Iv_idle (J2 := mo_mv I k g) hv hc y2 cF
  have c134 : mo_mv I k g 134 k = nI g := by
    unfold mo_mv
    rw [jx_u_na (by omega), jx_u_eq]
  have c135 : mo_mv I k g 135 k = I 99 (6 * (7 + k) + (g + 1)) := by
    unfold mo_mv
    rw [jx_u_eq]
  obtain ⟨g1, x2, g2, g3⟩ := Iv_begin (kd := 3) (s := nI g) (v := 0) (j := g) i1 hc (by rw [cF _ _ (by omega) (by omega) (by omega), y2]) y3 (by omega) (by decide) (fun w => absurd w (by decide)) (fun _ => ⟨by omega, c134, by rw [cF _ _ (by omega) (by omega) (by omega)]; exact fun w => l5 (by rw [w]; decide), by rw [cF _ _ (by omega) (by omega) (by omega)]; exact hno⟩) (fun _ => ⟨c134.symm, by rw [c135]; exact hb2, by rw [cF _ _ (by omega) (by omega) (by omega)]; exact hn2⟩) (fun w => absurd w (by decide))
  refine la_ch (d2 := 5) (F := fun J => mo_BA (mo_S1 (mo_mv J k g) B 3 k (nI g) 0) k B) (by decide) (by decide) (rl_move hR hc y1 y2 y3 g5 l5 l4 (Int32.not_le.mpr gp) hno g1 h9 (by omega)) (fun w M hw => la_S hw h36 (by rw [BA_11, S1_F (by omega) (by omega) (by omega) (by omega), cF _ _ (by omega) (by omega) (by omega)])) g2 (by omega) (fun n ms K I2 P k1 k2 => ?_) (fun I2 => fo_BA (fo_S1 (fo_mv fo_refl))) (fun I2 k => ag_BA (ag_S1 (ag_mv k)))
  rw [← BA_3 (by omega)]
  have h25' : I2 98 25 = nI B := by rw [k2 98 25 (by omega) (by omega), h25]
  exact mo_move k1 y3 h25' hc (by rw [k2 98 9 (by omega) (by omega), h9]) (by omega) ⟨by rw [k2 128 _ (by omega) (by omega), y2], by rw [k2 100 _ (by omega) (by omega), y1], (h60 h25' hB).mp y3⟩ g5 (fun w => by rw [k2 99 _ (by omega) (by omega)]; exact l2 w) (fun j w => by rw [k2 99 _ (by omega) (by omega)]; exact l3 j w) (by rw [k2 99 _ (by omega) (by omega)]; exact gp) (by rw [k2 98 0 (by omega) (by omega), h0])
set_option maxHeartbeats 4000000 in
set_option maxRecDepth 100000 in
theorem ld_bag {G : jx_G} {n ms : Nat} {K : Nat → Nat × Nat} {I : Nat → Nat → Int32} {P : Nat → Nat → Option Nat}  (h : la_I n ms K I P) : la_D G yX8_bag cX8_bag 1 (some FieldType.int) yX9_bag cX9_bag 1 (some FieldType.int) [] (n, ms, K, I, P) := by
  obtain ⟨q, x, B, A, hR, hv, hp, h36⟩ := id h
  have hM : mo_ok K P := hR.1.2.2.1
  obtain ⟨h0, h1, q3, q7, h9, h25, hB⟩ := id hv.1
  exact la_ro h (by decide) (by decide) (rl_bag hR) (mo_bag hM h0) rfl
set_option maxHeartbeats 4000000 in
set_option maxRecDepth 100000 in
theorem ld_message {G : jx_G} {n ms : Nat} {K : Nat → Nat × Nat} {I : Nat → Nat → Int32} {P : Nat → Nat → Option Nat} {i a : Int32} (h : la_I n ms K I P) : la_D G yX8_message cX8_message 4 (some FieldType.int) yX9_message cX9_message 3 (some FieldType.int) [.inl i, .inl a] (n, ms, K, I, P) := by
  obtain ⟨q, x, B, A, hR, hv, hp, h36⟩ := id h
  have hM : mo_ok K P := hR.1.2.2.1
  obtain ⟨h0, h1, q3, q7, h9, h25, hB⟩ := id hv.1
  by_cases hs : ¬ i < 0 ∧ ¬ I 98 9 ≤ i
  rotate_left
  · exact la_ro h (by decide) (by decide) (rl_message_no hR hs) (mo_message_no hM hs h0) rfl
  obtain ⟨k, hk, rfl⟩ := la_lt (m := x) (by omega) hs.1 (by rw [← h9]; exact hs.2)
  by_cases ha : a < 0
  · exact la_ro h (by decide) (by decide) (rl_message_bad hR h9 (by omega) hk (Or.inl ha)) (mo_message_bad hM (Or.inl ha) h0) rfl
  by_cases ha2 : a ≤ 13
  rotate_left
  · exact la_ro h (by decide) (by decide) (rl_message_bad hR h9 (by omega) hk (Or.inr ha2)) (mo_message_bad hM (Or.inr ha2) h0) rfl
  obtain ⟨m, hm, rfl⟩ := la_le (m := 13) (by omega) ha ha2
  exact la_ro h (by decide) (by decide) (rl_message hR h9 (by omega) hk hm) (mo_message hM hk (by omega) h9 hm h0) rfl
set_option maxHeartbeats 4000000 in
set_option maxRecDepth 100000 in
theorem ld_deliver {G : jx_G} {n ms : Nat} {K : Nat → Nat × Nat} {I : Nat → Nat → Int32} {P : Nat → Nat → Option Nat} {i : Int32} (h : la_I n ms K I P) : la_D G yX8_deliver cX8_deliver 2 (some FieldType.int) yX9_deliver cX9_deliver 2 (some FieldType.int) [.inl i] (n, ms, K, I, P) := by
  obtain ⟨q, x, B, A, hR, hv, hp, h36⟩ := id h
  have hM : mo_ok K P := hR.1.2.2.1
  obtain ⟨h0, h1, q3, q7, h9, h25, hB⟩ := id hv.1
  by_cases hs : ¬ i < 0 ∧ ¬ I 98 9 ≤ i
  rotate_left
  · exact la_ro h (by decide) (by decide) (rl_deliver_no hR hs) (mo_deliver_no hM hs h0) rfl
  obtain ⟨k, hk, rfl⟩ := la_lt (m := x) (by omega) hs.1 (by rw [← h9]; exact hs.2)
  obtain ⟨x2, g1, g2⟩ := Iv_D (i := k) hv hk (by omega)
  refine la_ch (d2 := 7) (v := mo_DV I k) (F := fun J => mo_D J k (x - 1)) (by decide) (by decide) (rl_deliver mo_DV_01 hR h9 (by omega) hk (fun w M hw => hw.1) (rl_hand hR hv hk (by omega))) (fun w M hw => ?_) g1 (by omega) (fun n ms K I2 P k1 k2 => ?_) (fun I2 => fo_D fo_refl) (fun I2 k => ag_D k)
  · obtain ⟨e, n2, ms2, K2, I2, P2, e2, r1, r2, r3⟩ := hw
    exact ⟨n2, ms2, K2, I2, P2, A, e, e2, r1, r2, by rw [r3, D_11, h36]⟩
  · have hD := mo_DW k1 (G := G) (n := n) (ms := ms) (i := k) (Iv_ag hv k2).1 hk (by omega)
    rw [ae_DV k2] at hD
    exact mo_deliver k1 (q := x - 1) (by omega) (by omega) (by rw [k2 98 9 (by omega) (by omega), h9]; congr 1; omega) hD (by rw [k2 98 0 (by omega) (by omega), h0])
set_option maxHeartbeats 4000000 in
set_option maxRecDepth 100000 in
theorem ld_lose {G : jx_G} {n ms : Nat} {K : Nat → Nat × Nat} {I : Nat → Nat → Int32} {P : Nat → Nat → Option Nat} {i : Int32} (h : la_I n ms K I P) : la_D G yX8_lose cX8_lose 2 (some FieldType.boolean) yX9_lose cX9_lose 2 (some FieldType.boolean) [.inl i] (n, ms, K, I, P) := by
  obtain ⟨q, x, B, A, hR, hv, hp, h36⟩ := id h
  have hM : mo_ok K P := hR.1.2.2.1
  obtain ⟨h0, h1, q3, q7, h9, h25, hB⟩ := id hv.1
  by_cases hs : ¬ i < 0 ∧ ¬ I 98 9 ≤ i
  rotate_left
  · exact la_ro h (by decide) (by decide) (rl_lose_no hR hs) (mo_lose_no hM hs h0) rfl
  obtain ⟨k, hk, rfl⟩ := la_lt (m := x) (by omega) hs.1 (by rw [← h9]; exact hs.2)
  obtain ⟨g1, g2⟩ := Iv_sh (i := k) hv hk
  refine la_ch (d2 := 1) (v := 1) (F := fun J => mo_sh J k (x - 1)) (by decide) (by decide) (rl_lose (q := 0) hR h9 (by omega) hk) (fun w M hw => ?_) g1 (by omega) (fun n ms K I2 P k1 k2 => ?_) (fun I2 => fo_sh fo_refl) (fun I2 k => ag_sh k)
  · obtain ⟨e, n2, ms2, K2, I2, P2, e2, r1, r2, r3⟩ := hw
    exact ⟨n2, ms2, K2, I2, P2, A, e, e2, r1, r2, by rw [r3, mo_sh_f (by omega), h36, Int32.add_zero]⟩
  · exact mo_lose k1 (q := x - 1) (by omega) (by omega) (by rw [k2 98 9 (by omega) (by omega), h9]; congr 1; omega) (fun j => by rw [k2 117 _ (by omega) (by omega)]; exact hv.2.2.2.2.2.2 j) (by rw [k2 98 0 (by omega) (by omega), h0])
set_option maxHeartbeats 4000000 in
set_option maxRecDepth 100000 in
theorem ld_run {G : jx_G} {n ms : Nat} {K : Nat → Nat × Nat} {I : Nat → Nat → Int32} {P : Nat → Nat → Option Nat} {s m : Int32} (h : la_I n ms K I P) : la_D G yX8_run cX8_run 5 (some FieldType.int) yX9_run cX9_run 5 (some FieldType.int) [.inl s, .inl m] (n, ms, K, I, P) := by
  obtain ⟨q, x, B, A, hR, hv, hp, h36⟩ := id h
  have hM : mo_ok K P := hR.1.2.2.1
  obtain ⟨h0, h1, q3, q7, h9, h25, hB⟩ := id hv.1
  by_cases e1 : m < 0
  · exact la_ro h (by decide) (by decide) (rl_run_no (Or.inl e1)) (mo_run_no hM h0 (Or.inl e1)) rfl
  by_cases e2 : m ≤ 1000
  rotate_left
  · exact la_ro h (by decide) (by decide) (rl_run_no (Or.inr e2)) (mo_run_no hM h0 (Or.inr e2)) rfl
  obtain ⟨k, hk, rfl⟩ := la_le (m := 1000) (by omega) e1 e2
  obtain ⟨x2, g1, g2⟩ := Iv_R k s x hv hp
  refine la_ch (d2 := 7) (v := nI (mo_RC k s I)) (F := fun J => mo_R k s J) (by decide) (by decide) (rl_run_c hR hv hp h36 hk) (fun w M hw => ?_) g1 g2 (fun n ms K I2 P k1 k2 => ?_) (fun I2 => fo_R _ _ fo_refl) (fun I2 k => ag_R _ _ k)
  · obtain ⟨e, n2, ms2, K2, I2, P2, e2, r1, r2, r3⟩ := hw
    exact ⟨n2, ms2, K2, I2, P2, A, e, e2, r1, r2, r3⟩
  · have t := Iv_ag hv k2
    rw [← ae_RC k s k2]
    exact mo_run k1 t.1 (by rw [t.2]; exact hp) hk
set_option maxHeartbeats 4000000 in
set_option maxRecDepth 100000 in
theorem ld_stop_c {G : jx_G} {n ms : Nat} {K : Nat → Nat × Nat} {I : Nat → Nat → Int32} {P : Nat → Nat → Option Nat} {s : Int32} (h : la_I n ms K I P) : la_D G yX8_stop cX8_stop 3 (some FieldType.boolean) yX9_stop cX9_stop 4 (some FieldType.boolean) [.inl 1, .inl s] (n, ms, K, I, P) := by
  obtain ⟨q, x, B, A, hR, hv, hp, h36⟩ := id h
  have hM : mo_ok K P := hR.1.2.2.1
  obtain ⟨h0, h1, q3, q7, h9, h25, hB⟩ := id hv.1
  by_cases hs : ¬ s < 0 ∧ ¬ 4 ≤ s
  rotate_left
  · exact la_ro h (by decide) (by decide) (rl_stop_c_no (show ¬ (1 : Int32) = 0 by decide) hs hR) (mo_stop_c_no hM (show ¬ (1 : Int32) = 0 by decide) hs h0) rfl
  obtain ⟨k, hk, rfl⟩ := la_lt (m := 4) (by omega) hs.1 hs.2
  by_cases e : I 100 (7 + k) = 0
  rotate_left
  · exact la_ro h (by decide) (by decide) (rl_stop_c1 (show ¬ (1 : Int32) = 0 by decide) hk e hR) (mo_stop_c1 hM (show ¬ (1 : Int32) = 0 by decide) hk e h0) rfl
  obtain ⟨g1, g2⟩ := Iv_stop (w := 7 + k) hv
  refine la_ch (F := fun J => jx_u J 100 (7 + k) 1) (by decide) (by decide) (rl_stop_c0 (show ¬ (1 : Int32) = 0 by decide) hk e hR) (fun w M hw => ?_) g1 (by rw [g2]; exact hp) (fun n ms K I2 P k1 k2 => mo_stop_c0 k1 (show ¬ (1 : Int32) = 0 by decide) hk (by rw [k2 100 _ (by omega) (by omega), e]) (by rw [k2 98 0 (by omega) (by omega), h0])) (fun I2 => fo_u fo_refl (by decide)) (fun I2 k => ag_u k rfl)
  obtain ⟨rfl, rfl⟩ := hw
  have hr := rl_stop_c hR hk
  exact ⟨n, ms, K, _, P, A, rfl, rfl, ⟨hr.1, hr.2.1, fun _ w => w.elim, ag_refl, rfl⟩, hr.2.2.2.1, by rw [hr.2.2.2.2, h36, jx_u_na (by omega)]⟩
set_option maxHeartbeats 4000000 in
set_option maxRecDepth 100000 in
theorem ld_stop_s {G : jx_G} {n ms : Nat} {K : Nat → Nat × Nat} {I : Nat → Nat → Int32} {P : Nat → Nat → Option Nat} {s : Int32} (h : la_I n ms K I P) : la_D G yX8_stop cX8_stop 3 (some FieldType.boolean) yX9_stop cX9_stop 4 (some FieldType.boolean) [.inl 0, .inl s] (n, ms, K, I, P) := by
  obtain ⟨q, x, B, A, hR, hv, hp, h36⟩ := id h
  have hM : mo_ok K P := hR.1.2.2.1
  obtain ⟨h0, h1, q3, q7, h9, h25, hB⟩ := id hv.1
  by_cases hs : ¬ s < 0 ∧ ¬ I 98 1 ≤ s
  rotate_left
  · exact la_ro h (by decide) (by decide) (rl_stop_s_no hs hR) (mo_stop_s_no hM hs h0) rfl
  obtain ⟨k, hk, rfl⟩ := la_lt (m := q) (by omega) hs.1 (by rw [← h1]; exact hs.2)
  by_cases e : I 100 k = 0
  rotate_left
  · exact la_ro h (by decide) (by decide) (rl_stop_s1 hk q7 h1 e hR) (mo_stop_s1 hM hk q7 h1 e h0) rfl
  obtain ⟨g1, g2⟩ := Iv_stop (w := k) hv
  refine la_ch (F := fun J => jx_u J 100 k 1) (by decide) (by decide) (rl_stop_s0 hk q7 h1 e hR) (fun w M hw => ?_) g1 (by rw [g2]; exact hp) (fun n ms K I2 P k1 k2 => mo_stop_s0 k1 hk q7 (by rw [k2 98 1 (by omega) (by omega), h1]) (by rw [k2 100 _ (by omega) (by omega), e]) (by rw [k2 98 0 (by omega) (by omega), h0])) (fun I2 => fo_u fo_refl (by decide)) (fun I2 k => ag_u k rfl)
  obtain ⟨rfl, rfl⟩ := hw
  have hr := rl_stop_s (s := k) hR (by omega)
  exact ⟨n, ms, K, _, P, A, rfl, rfl, ⟨hr.1, hr.2.1, fun _ w => w.elim, ag_refl, rfl⟩, hr.2.2.2.1, by rw [hr.2.2.2.2, h36, jx_u_na (by omega)]⟩
theorem i_l6 {k : Int32} (h : ¬ k < 6) : ¬ k ≤ 5 := fun w => h (by
  rw [Int32.lt_iff_toInt_lt]
  rw [Int32.le_iff_toInt_le] at w
  have e1 : (5 : Int32).toInt = 5 := by decide
  have e2 : (6 : Int32).toInt = 6 := by decide
  omega)
set_option maxHeartbeats 4000000 in
set_option maxRecDepth 100000 in
theorem ld_map_c {G : jx_G} {n ms : Nat} {K : Nat → Nat × Nat} {I : Nat → Nat → Int32} {P : Nat → Nat → Option Nat} {s m : Int32} (h : la_I n ms K I P) : la_D G yX8_map cX8_map 4 (some FieldType.int) yX9_map cX9_map 5 (some FieldType.int) [.inl 1, .inl s, .inl m] (n, ms, K, I, P) := by
  obtain ⟨q, x, B, A, hR, hv, hp, h36⟩ := id h
  have hM : mo_ok K P := hR.1.2.2.1
  obtain ⟨h0, h1, q3, q7, h9, h25, hB⟩ := id hv.1
  by_cases hs : ¬ s < 0 ∧ ¬ 4 ≤ s
  rotate_left
  · exact la_ro h (by decide) (by decide) (rl_map_c_no (show ¬ (1 : Int32) = 0 by decide) hs hR) (mo_map_c_no hM (show ¬ (1 : Int32) = 0 by decide) hs h0) rfl
  obtain ⟨k, hk, rfl⟩ := la_lt (m := 4) (by omega) hs.1 hs.2
  by_cases e1 : m < 0
  · exact la_ro h (by decide) (by decide) (rl_map_c_bk (show ¬ (1 : Int32) = 0 by decide) hk (Or.inl e1) hR) (mo_map_c_bk hM (show ¬ (1 : Int32) = 0 by decide) hk (Or.inl e1) h0) rfl
  by_cases e2 : m < 6
  rotate_left
  · exact la_ro h (by decide) (by decide) (rl_map_c_bk (show ¬ (1 : Int32) = 0 by decide) hk (Or.inr e2) hR) (mo_map_c_bk hM (show ¬ (1 : Int32) = 0 by decide) hk (Or.inr (i_l6 e2)) h0) rfl
  obtain ⟨j, hj, rfl⟩ := la_lt (m := 6) (by omega) e1 (Int32.not_le.mpr e2)
  exact la_ro h (by decide) (by decide) (rl_map_c (show ¬ (1 : Int32) = 0 by decide) hk hj hR) (mo_map_c hM (show ¬ (1 : Int32) = 0 by decide) hk hj h0) rfl
set_option maxHeartbeats 4000000 in
set_option maxRecDepth 100000 in
theorem ld_map_s {G : jx_G} {n ms : Nat} {K : Nat → Nat × Nat} {I : Nat → Nat → Int32} {P : Nat → Nat → Option Nat} {s m : Int32} (h : la_I n ms K I P) : la_D G yX8_map cX8_map 4 (some FieldType.int) yX9_map cX9_map 5 (some FieldType.int) [.inl 0, .inl s, .inl m] (n, ms, K, I, P) := by
  obtain ⟨q, x, B, A, hR, hv, hp, h36⟩ := id h
  have hM : mo_ok K P := hR.1.2.2.1
  obtain ⟨h0, h1, q3, q7, h9, h25, hB⟩ := id hv.1
  by_cases hs : ¬ s < 0 ∧ ¬ I 98 1 ≤ s
  rotate_left
  · exact la_ro h (by decide) (by decide) (rl_map_s_no hs hR) (mo_map_s_no hM hs h0) rfl
  obtain ⟨k, hk, rfl⟩ := la_lt (m := q) (by omega) hs.1 (by rw [← h1]; exact hs.2)
  by_cases e1 : m < 0
  · exact la_ro h (by decide) (by decide) (rl_map_s_bk hk q7 h1 (Or.inl e1) hR) (mo_map_s_bk hM hk q7 h1 (Or.inl e1) h0) rfl
  by_cases e2 : m < 6
  rotate_left
  · exact la_ro h (by decide) (by decide) (rl_map_s_bk hk q7 h1 (Or.inr e2) hR) (mo_map_s_bk hM hk q7 h1 (Or.inr (i_l6 e2)) h0) rfl
  obtain ⟨j, hj, rfl⟩ := la_lt (m := 6) (by omega) e1 (Int32.not_le.mpr e2)
  exact la_ro h (by decide) (by decide) (rl_map_s hk q7 h1 hj hR) (mo_map_s hM hk q7 h1 hj h0) rfl
set_option maxHeartbeats 4000000 in
set_option maxRecDepth 100000 in
theorem ld_cell {G : jx_G} {n ms : Nat} {K : Nat → Nat × Nat} {I : Nat → Nat → Int32} {P : Nat → Nat → Option Nat} {s r a : Int32} (h : la_I n ms K I P) : la_D G yX8_cell cX8_cell 4 (some FieldType.int) yX9_cell cX9_cell 4 (some FieldType.int) [.inl s, .inl r, .inl a] (n, ms, K, I, P) := by
  obtain ⟨q, x, B, A, hR, hv, hp, h36⟩ := id h
  have hM : mo_ok K P := hR.1.2.2.1
  obtain ⟨h0, h1, q3, q7, h9, h25, hB⟩ := id hv.1
  by_cases hs : ¬ s < 0 ∧ ¬ I 98 1 ≤ s
  rotate_left
  · exact la_ro h (by decide) (by decide) (rl_cell_no (Or.inl hs) hR) (mo_cell_no hM (Or.inl hs) h0) rfl
  obtain ⟨k, hk, rfl⟩ := la_lt (m := q) (by omega) hs.1 (by rw [← h1]; exact hs.2)
  by_cases hr : ¬ r < 0 ∧ ¬ 3 ≤ r
  rotate_left
  · exact la_ro h (by decide) (by decide) (rl_cell_no (Or.inr hr) hR) (mo_cell_no hM (Or.inr hr) h0) rfl
  obtain ⟨j, hj, rfl⟩ := la_lt (m := 3) (by omega) hr.1 hr.2
  exact la_ro h (by decide) (by decide) (rl_cell hk q7 h1 hj hR) (mo_cell hM hk q7 hj h1 h0) rfl
set_option maxHeartbeats 4000000 in
set_option maxRecDepth 100000 in
theorem ld_vote {G : jx_G} {n ms : Nat} {K : Nat → Nat × Nat} {I : Nat → Nat → Int32} {P : Nat → Nat → Option Nat} {s r a : Int32} (h : la_I n ms K I P) : la_D G yX8_vote cX8_vote 4 (some FieldType.int) yX9_vote cX9_vote 4 (some FieldType.int) [.inl s, .inl r, .inl a] (n, ms, K, I, P) := by
  obtain ⟨q, x, B, A, hR, hv, hp, h36⟩ := id h
  have hM : mo_ok K P := hR.1.2.2.1
  obtain ⟨h0, h1, q3, q7, h9, h25, hB⟩ := id hv.1
  by_cases hs : ¬ s < 0 ∧ ¬ I 98 1 ≤ s
  rotate_left
  · exact la_ro h (by decide) (by decide) (rl_vote_no (Or.inl hs) hR) (mo_vote_no hM (Or.inl hs) h0) rfl
  obtain ⟨k, hk, rfl⟩ := la_lt (m := q) (by omega) hs.1 (by rw [← h1]; exact hs.2)
  by_cases e1 : r < 0
  · exact la_ro h (by decide) (by decide) (rl_vote_no (Or.inr (Or.inl e1)) hR) (mo_vote_no hM (Or.inr (Or.inl e1)) h0) rfl
  by_cases e2 : r ≤ 4
  rotate_left
  · exact la_ro h (by decide) (by decide) (rl_vote_no (Or.inr (Or.inr e2)) hR) (mo_vote_no hM (Or.inr (Or.inr e2)) h0) rfl
  obtain ⟨j, hj, rfl⟩ := la_le (m := 4) (by omega) e1 e2
  exact la_ro h (by decide) (by decide) (rl_vote hk q7 h1 (show j < 5 by omega) hR) (mo_vote hM hk q7 (show j < 5 by omega) h1 h0) rfl
set_option maxHeartbeats 4000000 in
set_option maxRecDepth 100000 in
theorem ld_client {G : jx_G} {n ms : Nat} {K : Nat → Nat × Nat} {I : Nat → Nat → Int32} {P : Nat → Nat → Option Nat} {s a : Int32} (h : la_I n ms K I P) : la_D G yX8_client cX8_client 5 (some FieldType.int) yX9_client cX9_client 4 (some FieldType.int) [.inl s, .inl a] (n, ms, K, I, P) := by
  obtain ⟨q, x, B, A, hR, hv, hp, h36⟩ := id h
  have hM : mo_ok K P := hR.1.2.2.1
  obtain ⟨h0, h1, q3, q7, h9, h25, hB⟩ := id hv.1
  by_cases hs : ¬ s < 0 ∧ ¬ 4 ≤ s
  rotate_left
  · exact la_ro h (by decide) (by decide) (rl_client_no hs hR) (mo_client_no hM (Or.inl hs) h0) rfl
  obtain ⟨k, hk, rfl⟩ := la_lt (m := 4) (by omega) hs.1 hs.2
  by_cases e1 : a < 0
  · exact la_ro h (by decide) (by decide) (rl_client_bad hk (Or.inl e1) hR) (mo_client_no hM (Or.inr (Or.inl e1)) h0) rfl
  by_cases e2 : a ≤ 6
  rotate_left
  · exact la_ro h (by decide) (by decide) (rl_client_bad hk (Or.inr e2) hR) (mo_client_no hM (Or.inr (Or.inr e2)) h0) rfl
  obtain ⟨j, hj, rfl⟩ := la_le (m := 6) (by omega) e1 e2
  rcases (show j = 0 ∨ j = 1 ∨ j = 6 ∨ j = 2 ∨ j = 3 ∨ j = 4 ∨ j = 5 by omega) with rfl | rfl | rfl | rfl | rfl | rfl | rfl
  · exact la_ro h (by decide) (by decide) (rl_client0 hk hR) (mo_cl0 hM hk h0) rfl
  · exact la_ro h (by decide) (by decide) (rl_client1 hk hR) (mo_cl1 hM hk h0) rfl
  · exact la_ro h (by decide) (by decide) (rl_client6 hk hR) (mo_cl6 hM hk h0) rfl
  · rcases iv_does hv hk with hd | ⟨o, ho, hd⟩
    · exact la_ro h (by decide) (by decide) (rl_client2i hk hd hR) (mo_cli2 hM hk hd h0) rfl
    · exact la_ro h (by decide) (by decide) (rl_client2r hk ho hd hR) (mo_clu2 hM hk (o := o) (by omega) hd h0) rfl
  · rcases iv_does hv hk with hd | ⟨o, ho, hd⟩
    · exact la_ro h (by decide) (by decide) (rl_client3i hk hd hR) (mo_cli3 hM hk hd h0) rfl
    · exact la_ro h (by decide) (by decide) (rl_client3r hk ho hd hR) (mo_clu3 hM hk (o := o) (by omega) hd h0) rfl
  · rcases iv_does hv hk with hd | ⟨o, ho, hd⟩
    · exact la_ro h (by decide) (by decide) (rl_client4i hk hd hR) (mo_cli4 hM hk hd h0) rfl
    · exact la_ro h (by decide) (by decide) (rl_client4r hk ho hd hR) (mo_clu4 hM hk (o := o) (by omega) hd h0) rfl
  · rcases iv_does hv hk with hd | ⟨o, ho, hd⟩
    · exact la_ro h (by decide) (by decide) (rl_client5i hk hd hR) (mo_cli5 hM hk hd h0) rfl
    · obtain ⟨_, _, _, _, _, -, -, hr⟩ := iv_run hv hk ho hd
      by_cases k2 : I 119 o = 2
      · exact la_ro h (by decide) (by decide) (rl_client5c hk ho hd k2 hR) (mo_clu5c hM hk (o := o) (by omega) hd k2 h0) rfl
      by_cases k3 : I 119 o = 3
      · exact la_ro h (by decide) (by decide) (rl_client5m hk ho hd k3 hR) (mo_clu5m hM hk (o := o) (by omega) hd k3 h0) rfl
      have k01 : I 119 o = 0 ∨ I 119 o = 1 := by
        rcases hr.2.2.2.2.2.1 with w | w | w | w
        · exact Or.inl w
        · exact Or.inr w
        · exact absurd w k2
        · exact absurd w k3
      by_cases hp2 : I 132 k = 2
      · exact la_ro h (by decide) (by decide) (rl_client5w hk ho hd k01 hR) (mo_clu5w2 hM hk (o := o) (by omega) hd k01 k2 hp2 h0) (by rw [if_pos hp2])
      · exact la_ro h (by decide) (by decide) (rl_client5w hk ho hd k01 hR) (mo_clu5w1 hM hk (o := o) (by omega) hd k01 k2 hp2 h0) (by rw [if_neg hp2])
set_option maxHeartbeats 4000000 in
set_option maxRecDepth 100000 in
theorem ld_operation {G : jx_G} {n ms : Nat} {K : Nat → Nat × Nat} {I : Nat → Nat → Int32} {P : Nat → Nat → Option Nat} {o a : Int32} (h : la_I n ms K I P) : la_D G yX8_operation cX8_operation 4 (some FieldType.int) yX9_operation cX9_operation 3 (some FieldType.int) [.inl o, .inl a] (n, ms, K, I, P) := by
  obtain ⟨q, x, B, A, hR, hv, hp, h36⟩ := id h
  have hM : mo_ok K P := hR.1.2.2.1
  obtain ⟨h0, h1, q3, q7, h9, h25, hB⟩ := id hv.1
  by_cases e1 : o < 0
  · exact la_ro h (by decide) (by decide) (rl_operation_no (fun w => w.1 e1) hR) (mo_operation_no hM (Or.inl e1) h0) rfl
  by_cases e2 : I 98 25 ≤ o
  · exact la_ro h (by decide) (by decide) (rl_operation_no (fun w => w.2 e2) hR) (mo_operation_no hM (Or.inr (Or.inl e2)) h0) rfl
  obtain ⟨k, hk, rfl⟩ := la_lt (m := B) (by omega) e1 (by rw [← h25]; exact e2)
  by_cases e3 : a < 0
  · exact la_ro h (by decide) (by decide) (rl_operation_bad hk (Or.inl e3) hR) (mo_operation_no hM (Or.inr (Or.inr (Or.inl e3))) h0) rfl
  by_cases e4 : a ≤ 8
  rotate_left
  · exact la_ro h (by decide) (by decide) (rl_operation_bad hk (Or.inr e4) hR) (mo_operation_no hM (Or.inr (Or.inr (Or.inr e4))) h0) rfl
  obtain ⟨j, hj, rfl⟩ := la_le (m := 8) (by omega) e3 e4
  obtain ⟨T, t1, t2, t3⟩ := hv.2.2.2.2.1
  obtain ⟨c, f, t, a0, a1, a2, a3, a4, a5, a6, a7, a8, a9⟩ := t3 k hk
  have hif : (I 123 k = 0) = (I 126 k = 0) := by
    rw [a4]
    rcases a8 with ⟨b1, b2⟩ | ⟨b1, b2, -⟩
    · rw [b1]
      refine propext ⟨fun w => absurd w (by decide), fun w => ?_⟩
      have w2 : nI t = nI 0 := w
      rw [jx_eqnn (by omega) (by omega)] at w2
      omega
    · rw [b1, b2]
      rfl
  exact la_ro h (by decide) (by decide) (rl_operation hk hj hR) (mo_operation hM hk hB h25 hj h0) (by simp only [hif])
set_option maxHeartbeats 4000000 in
set_option maxRecDepth 100000 in
theorem ld_count {G : jx_G} {n ms : Nat} {K : Nat → Nat × Nat} {I : Nat → Nat → Int32} {P : Nat → Nat → Option Nat} {a : Int32} (h : la_I n ms K I P) : la_D G yX8_count cX8_count 2 (some FieldType.int) yX9_count cX9_count 2 (some FieldType.int) [.inl a] (n, ms, K, I, P) := by
  obtain ⟨q, x, B, A, hR, hv, hp, h36⟩ := id h
  have hM : mo_ok K P := hR.1.2.2.1
  obtain ⟨h0, h1, q3, q7, h9, h25, hB⟩ := id hv.1
  exact la_ro h (by decide) (by decide) (rl_count hR h36) (mo_count hM h0) rfl
/-- the reference's numbers alone -/
def nz (I : Nat → Nat → Int32) : Nat → Nat → Int32 := fun a j => if 98 ≤ a ∧ a < 140 then I a j else 0
theorem nz_ag {I J : Nat → Nat → Int32} (h : ag I J) : nz I = nz J := by
  funext a j
  unfold nz
  split
  · rename_i w
    exact h a j w.1 w.2
  · rfl
theorem at_W_nz {I : Nat → Nat → Int32} {r : Int32} {B : Nat} {v : Int32} : at_W (nz I) r B v = at_W I r B v := rfl
theorem at_W_ag {I J : Nat → Nat → Int32} {r : Int32} {B : Nat} {v : Int32} (h : ag I J) : at_W I r B v = at_W J r B v := by
  rw [← at_W_nz, nz_ag h, at_W_nz]
theorem la_atI {n ms : Nat} {K : Nat → Nat × Nat} {I J I2 : Nat → Nat → Int32} {P : Nat → Nat → Option Nat} {q x B : Nat} {A : Nat → Nat} (hR : rl0 n ms K I P J B A) (hag : ag I J) (hv : Iv J q x B 4) (hp : x + iv_p J ≤ 133 * B) (h36 : I 3 6 = J 98 11) (hF : ∀ b j, ¬ (b = 138 ∨ b = 139 ∨ b = 98 ∧ j = 59) → I2 b j = I b j) : la_I n ms K I2 P := by
  have hR2 : rl0 n ms K I P (fun a j => if a = 138 ∨ a = 139 then I2 a j else J a j) B A := hR
  have hv2 : Iv (fun a j => if a = 138 ∨ a = 139 then I2 a j else J a j) q x B 4 := hv
  have hp2 : x + iv_p (fun a j => if a = 138 ∨ a = 139 then I2 a j else J a j) ≤ 133 * B := hp
  have hJ : ∀ a j, 98 ≤ a → a < 140 → ¬ (a = 98 ∧ j = 59) → I2 a j = (fun a j => if a = 138 ∨ a = 139 then I2 a j else J a j) a j := fun a j w1 w2 w3 => by
    show I2 a j = if a = 138 ∨ a = 139 then I2 a j else J a j
    by_cases w : a = 138 ∨ a = 139
    · rw [if_pos w]
    · rw [if_neg w, hF a j (by omega), hag a j w1 w2]
  obtain ⟨v1, v2⟩ := Iv_98 (J2 := I2) hv2 (fun a j w1 w2 => hJ a j (by omega) w2 (by omega)) (fun j w => hJ 98 j (by omega) (by omega) (by omega))
  refine ⟨q, x, B, A, rl_ref hR2 (fun b j w => hF b j (by omega)) (fun a j w1 w2 w3 => hJ a j w1 w2 (by omega)), v1, by rw [v2]; exact hp2, ?_⟩
  rw [hF 3 6 (by omega), h36, hF 98 11 (by omega), hag 98 11 (by omega) (by omega)]
set_option maxHeartbeats 4000000 in
set_option maxRecDepth 100000 in
theorem ld_atomic {G : jx_G} {n ms : Nat} {K : Nat → Nat × Nat} {I : Nat → Nat → Int32} {P : Nat → Nat → Option Nat} {r : Int32} (h : la_I n ms K I P) : la_D G yX8_atomic cX8_atomic 2 (some FieldType.int) yX9_atomic cX9_atomic 7 (some FieldType.int) [.inl r] (n, ms, K, I, P) := by
  obtain ⟨q, x, B, A, hR, hv, hp, h36⟩ := id h
  have hM : mo_ok K P := hR.1.2.2.1
  obtain ⟨h0, h1, q3, q7, h9, h25, hB⟩ := id hv.1
  by_cases hs : ¬ r < 0 ∧ ¬ 3 ≤ r
  rotate_left
  · exact la_ro h (by decide) (by decide) (rl_atomic_no hs) (mo_atomic_no hM h0 hs) rfl
  obtain ⟨k, hk, rfl⟩ := la_lt (m := 3) (by omega) hs.1 hs.2
  refine ⟨4, 2, _, by decide, by decide, rl_atomic hR hv hk, fun w M1 hw => ?_⟩
  obtain ⟨v, n', ms', K', I', P', rfl, rfl, r1, r2, r3, r4⟩ := hw
  rw [← at_W_ag r2] at r4
  have hv' := (Iv_ag hv r2).1
  have hM' : mo_ok K' P' := r1.1.2.2.1
  have h36' : I' 3 6 = I 98 11 := by rw [r3, h36]
  by_cases hA : ctn (at_a I' (nI k)) B ≤ 14
  · refine ⟨v, rfl, hM', _, mo_atomic hM' hv' hk hA, ?_⟩
    rintro _ _ ⟨I2, v2, rfl, rfl, hy, hF⟩
    have hy1 := r4.1 hA
    refine ⟨?_, n', ms', K', I2, P', rfl, la_atI r1 r2 hv hp h36' hF⟩
    rcases hy with ⟨e, hy⟩ | ⟨e, hy⟩ <;> rcases hy1 with ⟨e', hy'⟩ | ⟨e', hy'⟩
    · rw [e, e']
    · exact absurd hy hy'
    · exact absurd hy' hy
    · rw [e, e']
  · refine ⟨v, rfl, hM', _, mo_atomic_big hM' hv' hk hA, ?_⟩
    rintro _ _ ⟨rfl, rfl⟩
    exact ⟨by rw [r4.2 hA], n', ms', K', _, P', rfl, la_atI r1 r2 hv hp h36' (fun b j w => jx_u_no (by omega))⟩
