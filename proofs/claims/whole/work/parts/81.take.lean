theorem mo_j1_o {J : Nat → Nat → Int32} {w i m a j : Nat} (h : ¬ (a = 99 ∧ j = 6 * w + m)) : mo_j1 J w i m a j = J a j := by
  unfold mo_j1
  split
  · exact jx_u_no h
  · split
    · exact jx_u_no h
    · rfl
theorem mo_j1_e {J : Nat → Nat → Int32} {w i m : Nat} : mo_j1 J w i m 99 (6 * w + m) = if J 99 (6 * w + m) = -1 ∨ J 118 (6 * i + m) = -1 then -1 else if J 99 (6 * w + m) = 0 then J 118 (6 * i + m) else J 99 (6 * w + m) := by
  unfold mo_j1
  split
  · exact jx_u_eq _ _ _ _
  · split
    · exact jx_u_eq _ _ _ _
    · rfl
theorem mo_jn_o {J : Nat → Nat → Int32} {w i a j : Nat} (h : ¬ (a = 99 ∧ 6 * w ≤ j ∧ j < 6 * w + 6)) : mo_jn J w i a j = J a j := by
  unfold mo_jn
  rw [mo_j1_o (by omega), mo_j1_o (by omega), mo_j1_o (by omega), mo_j1_o (by omega), mo_j1_o (by omega), mo_j1_o (by omega)]
theorem mo_jn_e {J : Nat → Nat → Int32} {w i k : Nat} (hk : k < 6) : mo_jn J w i 99 (6 * w + k) = if J 118 (6 * i + k) = -1 ∨ J 99 (6 * w + k) = 0 then J 118 (6 * i + k) else J 99 (6 * w + k) := by
  have e : mo_jn J w i 99 (6 * w + k) = if J 99 (6 * w + k) = -1 ∨ J 118 (6 * i + k) = -1 then -1 else if J 99 (6 * w + k) = 0 then J 118 (6 * i + k) else J 99 (6 * w + k) := by
    unfold mo_jn
    rcases (show k = 0 ∨ k = 1 ∨ k = 2 ∨ k = 3 ∨ k = 4 ∨ k = 5 by omega) with rfl | rfl | rfl | rfl | rfl | rfl
    · rw [mo_j1_o (m := 5) (by omega), mo_j1_o (m := 4) (by omega), mo_j1_o (m := 3) (by omega), mo_j1_o (m := 2) (by omega), mo_j1_o (m := 1) (by omega), mo_j1_e]
    · rw [mo_j1_o (m := 5) (by omega), mo_j1_o (m := 4) (by omega), mo_j1_o (m := 3) (by omega), mo_j1_o (m := 2) (by omega), mo_j1_e]
      simp (disch := omega) only [mo_j1_o]
    · rw [mo_j1_o (m := 5) (by omega), mo_j1_o (m := 4) (by omega), mo_j1_o (m := 3) (by omega), mo_j1_e]
      simp (disch := omega) only [mo_j1_o]
    · rw [mo_j1_o (m := 5) (by omega), mo_j1_o (m := 4) (by omega), mo_j1_e]
      simp (disch := omega) only [mo_j1_o]
    · rw [mo_j1_o (m := 5) (by omega), mo_j1_e]
      simp (disch := omega) only [mo_j1_o]
    · rw [mo_j1_e]
      simp (disch := omega) only [mo_j1_o]
  rw [e]
  by_cases h1 : J 118 (6 * i + k) = -1
  · rw [if_pos (Or.inr h1), if_pos (Or.inl h1), h1]
  · by_cases h2 : J 99 (6 * w + k) = -1
    · rw [if_pos (Or.inl h2), if_neg (fun q => q.elim h1 (fun q => absurd (h2.symm.trans q) (by decide))), h2]
    · rw [if_neg (fun q => q.elim h2 h1)]
      by_cases h3 : J 99 (6 * w + k) = 0
      · rw [if_pos h3, if_pos (Or.inr h3)]
      · rw [if_neg h3, if_neg (fun q => q.elim h1 h3)]
theorem mo_sh_b {J : Nat → Nat → Int32} {i q a k : Nat} (h1 : 106 ≤ a) (h2 : a < 118) (hk : k < q) : mo_sh J i q a k = if k < i then J a k else J a (k + 1) := by
  unfold mo_sh
  rw [mo_s2_na (by omega)]
  unfold mo_s1
  by_cases h : k < i
  · rw [if_neg (by omega), if_pos h, jx_u_na (by omega)]
  · rw [if_pos (by omega), if_neg h, jx_u_na (by omega)]
theorem mo_sh_m {J : Nat → Nat → Int32} {i q k : Nat} (hk : k < 6 * q) : mo_sh J i q 118 k = if k < 6 * i then J 118 k else J 118 (k + 6) := by
  unfold mo_sh mo_s2
  by_cases h : k < 6 * i
  · rw [if_neg (by omega), if_pos h]
    unfold mo_s1
    rw [if_neg (by omega), jx_u_na (by omega)]
  · rw [if_pos (by omega), if_neg h]
    unfold mo_s1
    rw [if_neg (by omega), jx_u_na (by omega)]
theorem mo_sh_9 {J : Nat → Nat → Int32} {i q : Nat} : mo_sh J i q 98 9 = nI q := by
  unfold mo_sh
  rw [mo_s2_na (by omega), mo_s1_na (by omega), jx_u_eq]
/-- message i taken out, in hand -/
theorem rl_take {n ms : Nat} {K : Nat → Nat × Nat} {I : Nat → Nat → Int32} {P : Nat → Nat → Option Nat} {J : Nat → Nat → Int32} {B : Nat} {A : Nat → Nat} {L S : Nat → Nat} {x z e c e2 c2 i : Nat} (hN : rl_N n K I P J B A) (hB : rl_B n ms K I P J L x S z e c e2 c2 0) (hi : i < x) : rl n ms K (bg_tk I x) (jd_rm P e i x) (mo_sh (mo_tk J i) i (x - 1)) B A 1 (fun t => t = L i) (bg_tk I x) ∧ hd_j (bg_tk I x) (L i) (mo_sh (mo_tk J i) i (x - 1)) ∧ (∀ k, k < 6 → bg_tk I x (L i + 2) k = J 118 (6 * i + k)) := by
  obtain ⟨bg, b1, b2, b3, b4, b5, b6⟩ := hB
  have hd := bg_take_ok bg hi
  obtain ⟨f0, l1, l2, ee, m1, m2, dj, n140⟩ := id bg
  obtain ⟨g1, g2, g3⟩ := m1 i hi
  have hx := l1.2.2.2.1
  have h140 := l1.2.2.2.2.2.2.2
  have hI : ∀ b j, b ≠ 7 → bg_tk I x b j = I b j := fun b j q => by
    unfold bg_tk
    rw [jx_u_na q, jx_u_na q]
  have htk : ∀ a j, ¬ (a = 98 ∧ 47 ≤ j ∧ j ≤ 58) → mo_tk J i a j = J a j := fun a j q => by
    unfold mo_tk
    rw [jx_u_no (by omega), jx_u_no (by omega), jx_u_no (by omega), jx_u_no (by omega), jx_u_no (by omega), jx_u_no (by omega), jx_u_no (by omega), jx_u_no (by omega), jx_u_no (by omega), jx_u_no (by omega), jx_u_no (by omega), jx_u_no (by omega)]
  have hF : bg_F n K I P n K (bg_tk I x) (jd_rm P e i x) := ⟨Nat.le_refl _, fun _ _ => rfl, fun b j h1 h2 h3 h4 h5 => hI b j h4, fun b j h1 h2 h3 h4 => jd_rm_na (by omega), fun b h1 h2 j => by
    have w7 : b ≠ 7 := fun q => by rw [q, f0.2.2.2.1] at h2; simp at h2
    have we : b ≠ e := fun q => by rw [q, l1.2.1] at h2; simp at h2
    exact ⟨hI b j w7, jd_rm_na we⟩⟩
  have hW : jb_W J (mo_sh (mo_tk J i) i (x - 1)) := fun a j h1 h2 h3 h4 => by
    by_cases q : a = 98
    · subst q
      rw [mo_sh_f (by have := h4 rfl; omega), htk _ _ (by have := h4 rfl; omega)]
    · rw [mo_sh_na (by omega), htk _ _ (by omega)]
  have hom : om (jd_rm P e i x) = om P := om_eq (fun o => jd_rm_na (by omega))
  obtain ⟨v0, v1, v2, v3, v4, v5, v6, v7, v8, v9, v10, v11, v12⟩ := b3 i hi
  refine ⟨⟨rl_N_W hN hF hW n140, ⟨ms_rm L i, x - 1, S, z, e, c, e2, c2, ⟨hd.1, mo_sh_9, ?_, fun k hk => ?_, by omega, by omega, by omega⟩, fun t ht => by rw [ht]; exact hd.2⟩, fun _ _ _ _ _ _ => rfl, fun _ _ _ _ => rfl, rfl⟩, ?_, fun k hk => by rw [hI _ _ (by omega), v12 k hk]⟩
  · rw [hI _ _ (by omega), mo_sh_f (by omega), htk _ _ (by omega), b2]
  · unfold ms_rm
    by_cases q : k < i
    · rw [if_pos q]
      refine mgs_to (b3 k (by omega)) (fun b j h1 h2 => hI b j (by have := (m1 k (by omega)).2.1; omega)) (fun a h1 h2 => ?_) (fun r hr => ?_)
      · rw [mo_sh_b h1 h2 hk, if_pos q, htk _ _ (by omega)]
      · rw [mo_sh_m (by omega), if_pos (by omega), htk _ _ (by omega)]
    · rw [if_neg q]
      refine mgs_to (b3 (k + 1) (by omega)) (fun b j h1 h2 => hI b j (by have := (m1 (k + 1) (by omega)).2.1; omega)) (fun a h1 h2 => ?_) (fun r hr => ?_)
      · rw [mo_sh_b h1 h2 hk, if_neg q, htk _ _ (by omega)]
      · rw [mo_sh_m (by omega), if_neg (by omega), htk _ _ (by omega)]
        congr 1
        omega
  · have hh : ∀ j, 47 ≤ j → j ≤ 58 → mo_sh (mo_tk J i) i (x - 1) 98 j = mo_tk J i 98 j := fun j h1 h2 => mo_sh_f (by omega)
    unfold hd_j
    rw [hh _ (by omega) (by omega), hh _ (by omega) (by omega), hh _ (by omega) (by omega), hh _ (by omega) (by omega), hh _ (by omega) (by omega), hh _ (by omega) (by omega), hh _ (by omega) (by omega), hh _ (by omega) (by omega), hh _ (by omega) (by omega), hh _ (by omega) (by omega), hh _ (by omega) (by omega), hh _ (by omega) (by omega)]
    simp (disch := omega) only [hI]
    unfold mo_tk
    refine ⟨?_, ?_, ?_, ?_, ?_, ?_, ?_, ?_, ?_, ?_, ?_, ?_⟩
    all_goals simp (disch := omega) only [jx_u_na, jx_u_ni, jx_u_eq, v0, v1, v2, v3, v4, v5, v6, v7, v8, v9, v10, v11]
/-- the count of deliveries is not seen by the relation -/
theorem rl_36 {n ms : Nat} {K : Nat → Nat × Nat} {I : Nat → Nat → Int32} {P : Nat → Nat → Option Nat} {J : Nat → Nat → Int32} {B h : Nat} {A : Nat → Nat} {T : Nat → Prop} {X : Nat → Nat → Int32} (hR : rl n ms K I P J B A h T X) {v : Int32} : rl n ms K (jx_u I 3 6 v) P J B A h T (jx_u I 3 6 v) := by
  obtain ⟨hN, ⟨L, x, S, z, e, c, e2, c2, ⟨⟨f0, l1, l2, l3⟩, b1, b2, b3, b4⟩, hT⟩, hX, hag⟩ := hR
  obtain ⟨a0, a1, a2, a3, a4, a5, a6⟩ := hN
  have hI : ∀ b j, ¬ (b = 3 ∧ j = 6) → jx_u I 3 6 v b j = I b j := fun b j q => jx_u_no q
  refine ⟨⟨a0, a1, a2, fun s hs => sv_r_to hs (a3 s hs) (fun b j h1 h2 => hI b j (by omega)) (fun _ _ _ _ => rfl), fun d hd => cn_r_to (a4 d hd) (fun b j h1 h2 => hI b j (by omega)) rfl ⟨fun _ _ => rfl, rfl, fun _ _ _ => rfl, fun _ _ => ⟨rfl, rfl⟩, fun _ _ => ⟨rfl, rfl⟩⟩ (Nat.le_refl _) (fun _ _ => rfl), ?_, by rw [hI _ _ (by omega), a6]⟩, ⟨L, x, S, z, e, c, e2, c2, ⟨⟨f0, ls_ok_I l1 (hI _ _ (by omega)), ls_ok_I l2 (hI _ _ (by omega)), l3⟩, b1, by rw [hI _ _ (by omega), b2], fun i hi => ?_, b4⟩, hT⟩, fun _ _ _ _ _ _ => rfl, fun _ _ _ _ => rfl, rfl⟩
  · obtain ⟨c0, c1, c2, c3, c4, c5, c6⟩ := a5
    exact ⟨c0, c1, by rw [hI _ _ (by omega), c2], by rw [hI _ _ (by omega), c3], by rw [hI _ _ (by omega), c4], fun o a ho hp => ⟨(c5 o a ho hp).1, (c5 o a ho hp).2.1, (c5 o a ho hp).2.2.1, by rw [hI _ _ (by have := (c5 o a ho hp).2.1; omega)]; exact (c5 o a ho hp).2.2.2⟩, fun o ho => ⟨(c6 o ho).1, op_r_to (c6 o ho).2 (fun j => hI _ _ (by have := (c5 o _ (by omega) (c6 o ho).1).2.1; omega)) (fun _ _ _ _ => rfl)⟩⟩
  · have := (l3.2.1 i hi).2.1
    exact mgs_to (b3 i hi) (fun b j h1 h2 => hI b j (by omega)) (fun _ _ _ => rfl) (fun _ _ => rfl)
/-- the message in hand is spare again -/
theorem rl_re {n ms : Nat} {K : Nat → Nat × Nat} {I : Nat → Nat → Int32} {P : Nat → Nat → Option Nat} {J : Nat → Nat → Int32} {B : Nat} {A : Nat → Nat} {X : Nat → Nat → Int32} {L S : Nat → Nat} {x z e c e2 c2 t : Nat} (hN : rl_N n K I P J B A) (hB : rl_B n ms K I P J L x S z e c e2 c2 1) (hag : ag I X ∧ I 3 6 = X 3 6) {w : Option jx_V} {M2 : jx_M} (hq : bg_ru n ms K I P L x S z e c e2 c2 t w M2) (hnn : n ≤ M2.1) : w = none ∧ ∃ n2 ms2 K2 I2 P2, M2 = (n2, ms2, K2, I2, P2) ∧ rl n2 ms2 K2 I2 P2 J B A 0 (fun _ => False) X := by
  obtain ⟨rfl, n2, ms2, K2, I2, P2, e3, c3, rfl, hb, hK, hI, hP, hn, hm⟩ := hq
  have hnn : n ≤ n2 := hnn
  obtain ⟨bg, b1, b2, b3, b4, b5, b6⟩ := hB
  obtain ⟨f0, l1, l2, ee, m1, m2, dj, n140⟩ := id bg
  have h140 := l2.2.2.2.2.2.2.2
  have hF : bg_F n K I P n2 K2 I2 P2 := ⟨hnn, hK, fun b j h1 h2 h3 h4 h5 => hI b j (by omega) h5, fun b j h1 h2 h3 h4 => hP b j (by omega) h4 (by omega), fun b h1 h2 j => by
    have w8 : b ≠ 8 := fun q => by rw [q, f0.2.2.2.2.1] at h2; simp at h2
    have we : b ≠ e2 := fun q => by rw [q, l2.2.1] at h2; simp at h2
    exact ⟨hI b j h1 w8, hP b j h1 w8 we⟩⟩
  have hom : om P2 = om P := om_eq (fun o => hP 10 o (by omega) (by omega) (by omega))
  refine ⟨rfl, n2, ms2, K2, I2, P2, rfl, rl_N_F hN hF jb_F.refl n140, ⟨L, x, ls_up S z t, z + 1, e, c, e3, c3, ⟨hb, b1, by rw [hI 6 2 (by omega) (by omega), b2], fun i hi => ?_, by omega, by omega, by omega⟩, fun _ q => q.elim⟩, fun _ q => q.elim, fun a j h1 h2 => by rw [hI a j (by omega) (by omega), hag.1 a j h1 h2], by rw [hI 3 6 (by omega) (by omega), hag.2]⟩
  obtain ⟨g1, g2, g3⟩ := m1 i hi
  exact mgs_to (b3 i hi) (fun b j h1 h2 => hI b j (by omega) (by omega)) (fun _ _ _ => rfl) (fun _ _ => rfl)
