theorem mo_wW {G : jx_G} {n ms : Nat} {K : Nat → Nat × Nat} {I : Nat → Nat → Int32} {P : Nat → Nat → Option Nat} (hM : mo_ok K P) {q x B e c o j b p u R : Nat} (h : Iv I q x B e) (hc : c < 4) (hr : iv_r I q B c e o j b p u R) : jx_C G yX9_wanted cX9_wanted 5 (some FieldType.int) 1 [.inr (some 98), .inl (nI c)] (n, ms, K, I, P) (jx_E (some (.inl (mo_W I c o))) (n, ms, K, I, P)) := by
  have hB := h.1.2.2.2.2.2.2
  obtain ⟨a0, a1, a2, a3, a4, a5, a6, a7, a8, a9, a10, a11, a12, a13, a14, a15, a16, a17⟩ := id hr
  by_cases h01 : I 119 o = 0 ∨ I 119 o = 1
  · rw [mo_W_0 h01]
    exact mo_wanted1 hM hc (by omega) a1 h01
  · have h23 : I 119 o = 2 ∨ I 119 o = 3 := by
      rcases a5 with w | w | w | w
      · exact absurd (Or.inl w) h01
      · exact absurd (Or.inr w) h01
      · exact Or.inl w
      · exact Or.inr w
    obtain ⟨b1, b2, b3, b4⟩ := a15 h23
    by_cases h3 : I 119 o = 3 ∧ I 132 c = 2
    · rw [mo_W_32 h3.1 h3.2]
      exact mo_wanted3 hM hc (by omega) a1 h3.1 h3.2
    · have e1 : mo_W I c o = if I 99 (6 * (7 + c) + j) ≤ 0 then 0 else I 99 (6 * (7 + c) + j) := by
        unfold mo_W
        rw [if_neg h01, if_neg h3, b2, jx_xn (by omega)]
      rw [e1]
      exact mo_wanted2 hM hc (by omega) a1 h01 h3 b2 (by omega)
theorem mo_fuW {G : jx_G} {n ms : Nat} {K : Nat → Nat × Nat} {I : Nat → Nat → Int32} {P : Nat → Nat → Option Nat} (hM : mo_ok K P) {q x B e c o j b p u R : Nat} (h : Iv I q x B e) (hc : c < 4) (hr : iv_r I q B c e o j b p u R) : jx_C G yX9_isFull cX9_isFull 4 (some FieldType.boolean) 2 [.inr (some 98), .inl (nI c)] (n, ms, K, I, P) (jx_E (some (.inl (if mo_FU I c o = true then 1 else 0))) (n, ms, K, I, P)) := by
  have hB := h.1.2.2.2.2.2.2
  have hq := h.1.2.2.2.1
  obtain ⟨a0, a1, a2, a3, a4, a5, a6, a7, a8, a9, a10, a11, a12, a13, a14, a15, a16, a17⟩ := id hr
  obtain ⟨z, hz, ez⟩ := bs_7 (by omega) a13
  obtain ⟨v, hv, ev⟩ := bs_7 hq (W_bs h hc hr)
  by_cases h01 : I 119 o = 0 ∨ I 119 o = 1
  · have e1 : mo_FU I c o = mo_fu I c := if_pos h01
    rw [e1]
    exact mo_isFull1 hM hc (by omega) a1 h01 hz ez (fun k hk hw => bs_7 hq (mp_ne hq ((h.2.1 (7 + c) (by omega)).1 k hk) hw))
  · have h23 : I 119 o = 2 ∨ I 119 o = 3 := by
      rcases a5 with w | w | w | w
      · exact absurd (Or.inl w) h01
      · exact absurd (Or.inr w) h01
      · exact Or.inl w
      · exact Or.inr w
    obtain ⟨b1, b2, b3, b4⟩ := a15 h23
    have e1 : (if mo_FU I c o = true then (1 : Int32) else 0) = if 2 * jx_pc (v &&& z) ≤ jx_pc v then 0 else 1 := by
      unfold mo_FU
      rw [if_neg h01, ev, ez, jx_xn (by omega), jx_xn (by omega)]
      by_cases w : 2 * jx_pc (v &&& z) ≤ jx_pc v
      · rw [if_pos w, if_neg (by simp [w])]
      · rw [if_neg w, if_pos (by simp [w])]
    rw [e1]
    by_cases h3 : I 119 o = 3 ∧ I 132 c = 2
    · exact mo_isFull3 hM hc (by omega) a1 h01 hz ez hv h3.1 h3.2 (by rw [← mo_W_32 h3.1 h3.2, ev])
    · refine mo_isFull2 hM hc (by omega) a1 h01 hz ez hv h3 b2 (by omega) ?_
      rw [← ev]
      unfold mo_W
      rw [if_neg h01, if_neg h3, b2, jx_xn (by omega)]
theorem mo_endsW {G : jx_G} {n ms : Nat} {K : Nat → Nat × Nat} {I : Nat → Nat → Int32} {P : Nat → Nat → Option Nat} (hM : mo_ok K P) {q x B c o : Nat} (h : Iv I q x B 4) (hc : c < 4) (ho : o < B) (hd : I 128 c = nI o) (hx : x + 20 ≤ 15999) : jx_C G yX9_ends cX9_ends 5 none 4 [.inr (some 98), .inl (nI c)] (n, ms, K, I, P) (jx_E none (n, ms, K, mo_EN I c o, P)) := by
  have hB := h.1.2.2.2.2.2.2
  have hx9 : I 98 9 = nI x := h.1.2.2.2.2.1
  obtain ⟨R, j, b, p, u, h129, hR, hr⟩ := iv_run h hc ho hd
  obtain ⟨a0, a1, a2, a3, a4, a5, a6, a7, a8, a9, a10, a11, a12, a13, a14, a15, a16, a17⟩ := id hr
  have e1 : I 132 c = 1 ↔ p = 1 := ph_v a6 a7 1 (by omega)
  have e2 : I 132 c = 2 ↔ p = 2 := ph_v a6 a7 2 (by omega)
  have hW : ∀ Y : Nat → Nat → Int32, Iv Y q x B 4 → iv_r Y q B c 4 o j b p u R → Y 129 c = nI R → p = 1 → jx_C G yX9_wanted cX9_wanted 5 (some FieldType.int) 1 [.inr (some 98), .inl (nI c)] (n, ms, K, (mo_br Y c 2), P) (jx_E (some (.inl (mo_W (mo_br Y c 2) c o))) (n, ms, K, (mo_br Y c 2), P)) := fun Y y1 y2 y4 y5 => by
    obtain ⟨w1, w2, w3⟩ := Iv_br (p2 := 2) y1 hc y4 y2 (Or.inr rfl) (by omega)
    exact mo_wW hM w1 hc w2
  unfold mo_EN
  by_cases h01 : I 119 o = 0 ∨ I 119 o = 1
  · rw [if_pos h01]
    by_cases p2 : I 132 c = 2
    · rw [if_pos p2]
      exact mo_ends1 hM hc (by omega) hd h01 p2
    · rw [if_neg p2]
      have p1 : p = 1 := a7.resolve_right (fun w => p2 (e2.mpr w))
      by_cases h1 : I 119 o = 1
      · rw [if_pos h1]
        obtain ⟨w1, w2, w3, w4⟩ := Iv_wb h hc h129 hR hr h1
        exact mo_ends2 hM hc (by omega) hd hx9 (by omega) h1 (e1.mpr p1) (hW _ w1 w2 w4 p1)
      · rw [if_neg h1]
        exact mo_ends3 hM hc (by omega) hd hx9 (by omega) (h01.resolve_right h1) (e1.mpr p1) (hW _ h hr h129 p1)
  · rw [if_neg h01]
    have h23 : I 119 o = 2 ∨ I 119 o = 3 := by
      rcases a5 with w | w | w | w
      · exact absurd (Or.inl w) h01
      · exact absurd (Or.inr w) h01
      · exact Or.inl w
      · exact Or.inr w
    by_cases p1 : I 132 c = 1
    · rw [if_pos p1]
      exact mo_ends4 hM hc (by omega) hd hx9 (by omega) h23 p1 (hW _ h hr h129 (e1.mp p1))
    · rw [if_neg p1]
      have p2 : I 132 c = 2 := e2.mpr (a7.resolve_left (fun w => p1 (e1.mpr w)))
      obtain ⟨b1, b2, b3, b4⟩ := a15 h23
      rw [b2, jx_xn (by omega)]
      by_cases h2 : I 119 o = 2
      · rw [if_pos h2]
        exact mo_ends5 hM hc (by omega) hd hx9 (by omega) b2 b1 p2 h2
      · rw [if_neg h2]
        exact mo_ends6 hM hc (by omega) hd hx9 (by omega) b2 b1 p2 (h23.resolve_left h2)
theorem mo_tailW {G : jx_G} {n ms : Nat} {K : Nat → Nat × Nat} {I : Nat → Nat → Int32} {P : Nat → Nat → Option Nat} (hM : mo_ok K P) {q x B c o : Nat} (h : Iv I q x B 4) (hc : c < 4) (ho : o < B) (hd : I 128 c = nI o) (hx : x + 30 ≤ 15999) {x2 x3 x4 : Option jx_V} : jx_J G yX9_clientGets cX9_clientGets 5 none 5 (jx_E none (n, ms, K, mo_TL I c o, P)) 233 [some (.inr (some 98)), some (.inl (nI c)), x2, x3, x4] [] (n, ms, K, I, P) := by
  have hB := h.1.2.2.2.2.2.2
  have hx9 : I 98 9 = nI x := h.1.2.2.2.2.1
  obtain ⟨R, j, b, p, u, h129, hR, hr⟩ := iv_run h hc ho hd
  have ck := ck_of h hc hr
  obtain ⟨x2', u2, z1, z2, z3, z4, z5, z6⟩ := Iv_BA h hc h129 hR hr (by omega)
  have hA : jx_C G yX9_asksMore cX9_asksMore 6 none 2 [.inr (some 98), .inl (nI c)] (n, ms, K, I, P) (jx_E none (n, ms, K, mo_BA I c o, P)) := mo_asksMore hM hc (by omega) hd hx9 (by omega) (by
    rcases hr.2.2.2.2.2.1 with w | w | w | w
    · exact Or.inl (Or.inl w)
    · exact Or.inl (Or.inr w)
    · exact Or.inr (Or.inl w)
    · exact Or.inr (Or.inr w)) ck.2.2.2.2.2.2.1 (mo_wW hM h hc hr)
  have hF := mo_fuW (G := G) (n := n) (ms := ms) hM z1 hc z4
  unfold mo_TL
  by_cases w : mo_FU (mo_BA I c o) c o = true
  · rw [if_pos w] at hF ⊢
    exact mo_cgt1 hM hA hF (mo_endsW hM z1 hc ho (by rw [z6 _ _ (by omega) (by omega) (by omega) (by omega), hd]) (by omega)) ⟨rfl, rfl⟩
  · rw [if_neg w] at hF ⊢
    exact mo_cgt0 (I3 := I) hM hA hF ⟨rfl, rfl⟩
theorem mo_midW {G : jx_G} {n ms : Nat} {K : Nat → Nat × Nat} {I : Nat → Nat → Int32} {P : Nat → Nat → Option Nat} (hM : mo_ok K P) {q x B c o : Nat} (hY : Iv I q x B c) (hc : c < 4) (ho : o < B) (hdY : I 128 c = nI o) (hx : x + 30 ≤ 15999) {z : Int32} (hz : z = 1 ∧ I 98 50 = I 129 c ∨ z = 0 ∧ ¬ I 98 50 = I 129 c) : jx_J G yX9_clientGets cX9_clientGets 5 none 5 (jx_E none (n, ms, K, mo_C2 I c o, P)) 53 [some (.inr (some 98)), some (.inl (nI c)), some (.inl (nI o)), some (.inl z), none] [] (n, ms, K, I, P) := by
  have hB := hY.1.2.2.2.2.2.2
  have hx9 : I 98 9 = nI x := hY.1.2.2.2.2.1
  obtain ⟨R, j, b, p, u, h129, hR, hr⟩ := iv_run hY hc ho hdY
  obtain ⟨a0, a1, a2, a3, a4, a5, a6, a7, a8, a9, a10, a11, a12, a13, a14, a15, a16, a17⟩ := id hr
  unfold mo_C2
  by_cases h2 : I 119 o = 2
  · rw [if_pos h2]
    obtain ⟨b1, b2, b3, b4⟩ := a15 (Or.inl h2)
    rw [b2, jx_xn (by omega)]
    by_cases hov : I 99 (6 * (7 + c) + j) = -1 ∨ ¬ I 99 (6 * (7 + c) + (j + 1)) = 0
    · rw [if_pos hov]
      exact mo_cgc_o hM hc (by omega) b2 b1 h2 hdY hov ⟨rfl, rfl⟩
    · rw [if_neg hov]
      have hY4 : Iv I q x B 4 := Iv_rest hY hc (fun o2 q1 q2 j2 q3 q4 => by
        rw [b2, jx_eqnn (by omega) (by omega)] at q4
        subst q4
        exact ⟨fun _ w => hov (Or.inl w), fun _ => Decidable.byContradiction (fun w => hov (Or.inr w))⟩)
      refine mo_cgc_n hM hc (by omega) b2 b1 h2 (fun w => hov (Or.inl w)) (Decidable.byContradiction (fun w => hov (Or.inr w))) ?_
      by_cases hbad : I 98 50 = I 129 c ∧ ¬ I 98 58 = 0
      · rw [if_pos hbad]
        have hz1 : z = 1 := by
          rcases hz with w | w
          · exact w.1
          · exact absurd hbad.1 w.2
        subst hz1
        by_cases h9 : I 127 o + 1 = 9
        · rw [if_pos h9]
          exact mo_cgb9 hM hc (by omega) hbad.2 hdY h9 ⟨rfl, rfl⟩
        · rw [if_neg h9]
          obtain ⟨R4, j4, b4', p4, u4, h1294, hR4, hr4⟩ := iv_run hY4 hc ho hdY
          have hb7' : b4' ≤ 7 := by
            have : b4' ≠ 8 := fun w => by
              rw [hr4.2.2.2.2.2.2.2.2.1, w] at h9
              exact h9 rfl
            have := hr4.2.2.2.2.2.2.2.2.2.1
            omega
          obtain ⟨w1, w2, w3, w4⟩ := Iv_rt hY4 hc h1294 hR4 hr4 hb7'
          have hp4 := hr4.2.2.2.2.2.2.2.1
          have hRR := hr4.2.2.2.2.2.2.2.2.2.2.1
          obtain ⟨y1, y2, y3⟩ := Iv_br (p2 := 1) w1 hc w4 w2 (Or.inl rfl) (by omega)
          exact mo_cgb hM hc (by omega) hbad.2 hdY hx9 (by omega) h2 h9 (mo_wW hM y1 hc y2) ⟨rfl, rfl⟩
      · rw [if_neg hbad]
        refine mo_cgc_t hM hc (by omega) h2 ?_ (mo_tailW hM hY4 hc ho hdY hx)
        rcases hz with w | w
        · exact Or.inr (Decidable.byContradiction (fun w2 => hbad ⟨w.2, w2⟩))
        · exact Or.inl w.1
  · rw [if_neg h2]
    by_cases h01 : I 119 o = 0 ∨ I 119 o = 1
    · have h3 : ¬ (I 119 o = 3 ∧ I 99 (6 * (7 + c) + jx_x (I 134 c)) = -1) := fun w => by
        rcases h01 with w2 | w2 <;> (rw [w.1] at w2; exact absurd w2 (by decide))
      rw [if_neg h3]
      have hY4 : Iv I q x B 4 := Iv_rest hY hc (fun o2 q1 q2 j2 q3 q4 => by
        rw [hdY, jx_eqnn (by omega) (by omega)] at q2
        subst q2
        refine ⟨fun s _ => ?_, fun s => absurd s h2⟩
        rcases s with s | s
        · exact h2 s
        · rcases h01 with w2 | w2 <;> (rw [s] at w2; exact absurd w2 (by decide)))
      exact mo_cgm_rw hM hc (by omega) h01 (mo_tailW hM hY4 hc ho hdY hx)
    · have h33 : I 119 o = 3 := by
        rcases a5 with w | w | w | w
        · exact absurd (Or.inl w) h01
        · exact absurd (Or.inr w) h01
        · exact absurd w h2
        · exact w
      obtain ⟨b1, b2, b3, b4⟩ := a15 (Or.inr h33)
      rw [b2, jx_xn (by omega)]
      by_cases hm : I 99 (6 * (7 + c) + j) = -1
      · rw [if_pos ⟨h33, hm⟩]
        exact mo_cgm_mo hM hc (by omega) b2 b1 hdY h33 hm ⟨rfl, rfl⟩
      · rw [if_neg (fun w => hm w.2)]
        have hY4 : Iv I q x B 4 := Iv_rest hY hc (fun o2 q1 q2 j2 q3 q4 => by
          rw [b2, jx_eqnn (by omega) (by omega)] at q4
          subst q4
          rw [hdY, jx_eqnn (by omega) (by omega)] at q2
          subst q2
          exact ⟨fun _ => hm, fun s => absurd s h2⟩)
        exact mo_cgm_mv hM hc (by omega) b2 b1 h33 hm (mo_tailW hM hY4 hc ho hdY hx)
theorem mo_CXW {G : jx_G} {n ms : Nat} {K : Nat → Nat × Nat} {I : Nat → Nat → Int32} {P : Nat → Nat → Option Nat} (hM : mo_ok K P) {q x B c o k s r : Nat} (h : Iv I q x B c) (hc : c < 4) (ho : o < B) (hd : I 128 c = nI o) (hh : iv_h I q B k s c r) (hk : 10 ≤ k) (hx : x + 30 ≤ 15999) : jx_C G yX9_clientGets cX9_clientGets 5 none 5 [.inr (some 98)] (n, ms, K, I, P) (jx_E none (n, ms, K, mo_CX I c o, P)) := by
  have hB := h.1.2.2.2.2.2.2
  have hC : I 98 49 = nI c := hh.2.2.2.2.1
  have hr50 : I 98 50 = nI r := hh.2.2.2.2.2.2.1
  refine jx_C_of (by decide) (Nat.le_of_ble_eq_true rfl) ?_
  simp only [List.map_cons, List.map_nil, List.length_cons, List.length_nil, Nat.reduceAdd, Nat.reduceSub, List.replicate_zero, List.append_nil, List.replicate_succ, List.cons_append, List.nil_append]
  unfold mo_CX
  by_cases w : I 98 50 = I 129 c ∧ I 98 58 = 0
  · rw [if_pos w]
    obtain ⟨y1, y2⟩ := Iv_C1 (R := r) h hc ho hd hh hk (by rw [← w.1, hr50]) rfl
    refine mo_cgh_g (I1 := mo_C1 I c) hM hc (by omega) hC hd w.1 w.2 ?_ (mo_midW hM y1 hc ho (by rw [mo_C1_o (by omega) (by omega), hd]) hx (Or.inl ⟨rfl, by rw [mo_C1_o (by omega) (by omega), mo_C1_o (by omega) (by omega)]; exact w.1⟩))
    unfold mo_C1
    by_cases hp : I 132 c = 1
    · rw [if_pos hp]
      exact mo_counts1 hM hc hp
    · rw [if_neg hp]
      exact mo_counts2 hM hc hp
  · rw [if_neg w]
    by_cases e1 : I 98 50 = I 129 c
    · exact mo_cgh_b hM hc (by omega) hC hd e1 (fun w2 => w ⟨e1, w2⟩) (mo_midW hM h hc ho hd hx (Or.inl ⟨rfl, e1⟩))
    · exact mo_cgh_n hM hc (by omega) hC hd e1 (mo_midW hM h hc ho hd hx (Or.inr ⟨rfl, e1⟩))
theorem mo_SGW {G : jx_G} {n ms : Nat} {K : Nat → Nat × Nat} {I : Nat → Nat → Int32} {P : Nat → Nat → Option Nat} (hM : mo_ok K P) {q x B k s c r : Nat} (h : Iv I q x B 4) (hh : iv_h I q B k s c r) (hk : k ≤ 6) (hx : x + 30 ≤ 15999) : jx_C G yX9_serverGets cX9_serverGets 5 none 1 [.inr (some 98)] (n, ms, K, I, P) (jx_E none (n, ms, K, mo_SG I x s, P)) := by
  have hx9 : I 98 9 = nI x := h.1.2.2.2.2.1
  obtain ⟨g1, g2, g3, g4, g5, g6, g7, g8, g9, g10, g11, g12, g13⟩ := id hh
  have ek : ∀ n : Nat, n < 100 → (I 98 47 = nI n ↔ k = n) := fun n hn => by
    rw [g1]
    exact ⟨fun w => by rw [jx_eqnn (by clear g9 g10; omega) (by clear g9 g10; omega)] at w; exact w, fun w => by rw [w]⟩
  have e6 : I 98 47 = 6 ↔ k = 6 := ek 6 (by decide)
  have e0 : I 98 47 = 0 ↔ k = 0 := ek 0 (by decide)
  have e1 : I 98 47 = 1 ↔ k = 1 := ek 1 (by decide)
  have e2 : I 98 47 = 2 ↔ k = 2 := ek 2 (by decide)
  have e3 : I 98 47 = 3 ↔ k = 3 := ek 3 (by decide)
  have e4 : I 98 47 = 4 ↔ k = 4 := ek 4 (by decide)
  have e5 : I 98 47 = 5 ↔ k = 5 := ek 5 (by decide)
  have hx16 : x < 16000 := by clear g9 g10; omega
  have j3 : k ≤ 1 → ∃ j, j < 3 ∧ I 98 51 = nI j ∧ jx_x (I 98 51) = j := fun w => by
    obtain ⟨j, q1, q2⟩ := g9 w
    exact ⟨j, q1, q2, by rw [q2, jx_xn (by clear g9 g10; omega)]⟩
  have j5 : k = 2 ∨ k = 3 → ∃ j, j < 5 ∧ I 98 51 = nI j ∧ jx_x (I 98 51) = j := fun w => by
    obtain ⟨j, q1, q2⟩ := g10 w
    exact ⟨j, q1, q2, by rw [q2, jx_xn (by clear g9 g10; omega)]⟩
  unfold mo_SG
  by_cases k6 : k = 6
  · rw [if_pos (e6.mpr k6)]
    exact mo_sg6 hM g4 g3 hx9 hx16 (e6.mpr k6)
  rw [if_neg (fun w => k6 (e6.mp w))]
  by_cases k0 : k = 0
  · rw [if_pos (e0.mpr k0)]
    obtain ⟨j, q1, q2, q3⟩ := j3 (by rw [k0]; decide)
    rw [q3]
    exact mo_sg0 hM g4 g3 hx9 hx16 (e0.mpr k0) q2 q1
  rw [if_neg (fun w => k0 (e0.mp w))]
  by_cases k1 : k = 1
  · rw [if_pos (e1.mpr k1)]
    obtain ⟨j, q1, q2, q3⟩ := j3 (by rw [k1]; decide)
    rw [q3]
    exact mo_sg1 hM g4 g3 hx9 hx16 (e1.mpr k1) q2 q1
  rw [if_neg (fun w => k1 (e1.mp w))]
  by_cases k2 : k = 2
  · rw [if_pos (e2.mpr k2)]
    obtain ⟨j, q1, q2, q3⟩ := j5 (Or.inl k2)
    rw [q3]
    by_cases w : I 103 (5 * s + j) < I 98 52
    · rw [if_pos w]
      exact mo_sg2 hM g4 g3 hx9 hx16 q2 q1 (e2.mpr k2) w
    · rw [if_neg w]
      exact mo_sg2b hM g4 g3 hx9 hx16 q2 q1 (e2.mpr k2) w
  rw [if_neg (fun w => k2 (e2.mp w))]
  by_cases k3 : k = 3
  · rw [if_pos (e3.mpr k3)]
    obtain ⟨j, q1, q2, q3⟩ := j5 (Or.inr k3)
    rw [q3]
    by_cases w : I 103 (5 * s + j) ≤ I 98 52
    · rw [if_pos w]
      exact mo_sg3 hM g4 g3 hx9 hx16 q2 q1 (e3.mpr k3) w
    · rw [if_neg w]
      exact mo_sg3b hM g4 g3 hx9 hx16 q2 q1 (e3.mpr k3) w
  rw [if_neg (fun w => k3 (e3.mp w))]
  by_cases k4 : k = 4
  · rw [if_pos (e4.mpr k4)]
    exact mo_sg4 hM g4 g3 hx9 hx16 (e4.mpr k4)
  rw [if_neg (fun w => k4 (e4.mp w))]
  exact mo_sg5 hM g4 g3 hx9 hx16 (e5.mpr (by clear g9 g10 j3 j5; omega))
/-- the reference delivers as mo_D says -/
theorem mo_DW {G : jx_G} {n ms : Nat} {K : Nat → Nat × Nat} {I : Nat → Nat → Int32} {P : Nat → Nat → Option Nat} (hM : mo_ok K P) {q x B i : Nat} (h : Iv I q x B 4) (hi : i < x) (hx2 : x + 30 ≤ 15999) : jx_C G yX9_delivers cX9_delivers 3 (some FieldType.int) 6 [.inr (some 98), .inl (nI i)] (n, ms, K, I, P) (jx_E (some (.inl (mo_DV I i))) (n, ms, K, mo_D I i (x - 1), P)) := by
  have hB := h.1.2.2.2.2.2.2
  have hx : I 98 9 = nI x := h.1.2.2.2.2.1
  have hx1 : I 98 9 = nI (x - 1 + 1) := by rw [hx, show x - 1 + 1 = x by omega]
  have hb := h.2.2.2.2.2.2
  obtain ⟨k, s, c, r, h1, h2, h3, h4, h5, h6, h7, h8, hrest⟩ := h.2.2.1 i hi
  have n15 : k < 100 := by clear hrest; omega
  have nI31 : k < 2147483648 := by clear hrest; omega
  have n6 : k < 10 → k ≤ 6 := by clear hrest; omega
  have n10 : ¬ k < 10 → 10 ≤ k := by clear hrest; omega
  clear hrest
  unfold mo_D mo_DV
  by_cases hk : k < 10
  · have hk2 : I 106 i < 10 := by
      rw [h1, jx_ltnl nI31 (by decide)]
      exact hk
    rw [if_pos hk2, if_pos hk2, h3, jx_xn (by omega)]
    by_cases hst : I 100 s = 0
    · rw [if_pos hst, if_pos hst]
      obtain ⟨k', s', c', r', m1, m2, m3, m4, hh⟩ := iv_hand (w := s) h hi
      obtain ⟨i1, i2⟩ := Iv_dl (w := s) (e2 := 4) h hi (Or.inl ⟨h4, rfl⟩)
      have es : s' = s := by
        have w := m2.symm.trans h3
        rw [jx_eqnn (by have := hh.2.2.2.1; omega) (by omega)] at w
        exact w
      have ek : k' = k := by
        have w := m1.symm.trans h1
        have := hh.2.1
        rw [jx_eqnn (by omega) (by omega)] at w
        exact w
      subst es
      subst ek
      exact mo_del_s1 hM (by omega) (by omega) hx1 hb h1 hk h3 h4 hst (mo_SGW hM i1 hh (n6 hk) (by omega))
    · rw [if_neg hst, if_neg hst]
      exact mo_del_s0 hM (by omega) (by omega) hx1 hb h1 hk h3 h4 hst
  · have hk2 : ¬ I 106 i < 10 := by
      rw [h1, jx_ltnl nI31 (by decide)]
      exact hk
    rw [if_neg hk2, if_neg hk2, h5, jx_xn (by omega)]
    by_cases hst : I 100 (7 + c) = 0
    · rw [if_pos hst, if_pos hst]
      obtain ⟨k', s', c', r', m1, m2, m3, m4, hh⟩ := iv_hand (w := 7 + c) h hi
      obtain ⟨i1, i2⟩ := Iv_dl (w := 7 + c) (e2 := c) h hi (Or.inr ⟨rfl, h6⟩)
      have ec : c' = c := by
        have w := m3.symm.trans h5
        rw [jx_eqnn (by have := hh.2.2.2.2.2.1; omega) (by omega)] at w
        exact w
      have ek : k' = k := by
        have w := m1.symm.trans h1
        have := hh.2.1
        rw [jx_eqnn (by omega) (by omega)] at w
        exact w
      subst ec
      subst ek
      unfold mo_CG
      refine mo_del_c1 hM (by omega) (by omega) hx1 hb h1 (n10 hk) n15 h5 h6 hst ?_
      have hC : mo_dl I (7 + c') i (x - 1) 98 49 = nI c' := hh.2.2.2.2.1
      by_cases hd : mo_dl I (7 + c') i (x - 1) 128 c' = -1
      · rw [if_pos hd]
        exact mo_cg0 hM h6 hC hd
      · rw [if_neg hd]
        rcases iv_does i1 h6 with w | ⟨o, q1, q2⟩
        · exact absurd w hd
        · rw [q2, jx_xn (by omega)]
          exact mo_CXW hM i1 h6 q1 q2 hh (n10 hk) (by omega)
    · rw [if_neg hst, if_neg hst]
      exact mo_del_c0 hM (by omega) (by omega) hx1 hb h1 (n10 hk) n15 h5 h6 hst
