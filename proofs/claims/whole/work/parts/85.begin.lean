/-- what an idle client has of its own isn't seen -/
theorem rl_idle {n ms : Nat} {K : Nat → Nat × Nat} {I I2 : Nat → Nat → Int32} {P : Nat → Nat → Option Nat} {J J2 : Nat → Nat → Int32} {B h c : Nat} {A : Nat → Nat} {T : Nat → Prop} {X : Nat → Nat → Int32} (hR : rl n ms K I P J B A h T X) (hc : c < 4) (hd : J 128 c = -1) (hI : ∀ b j, ¬ (b = 78 + 5 * c ∧ 7 ≤ j) → b ≠ 78 + 5 * c + 3 → b ≠ 78 + 5 * c + 4 → I2 b j = I b j) (hJ : ∀ a j, 98 ≤ a → a < 140 → ¬ ((130 ≤ a ∧ a ≤ 135 ∧ j = c) ∨ ((a = 136 ∨ a = 137) ∧ 3 * c ≤ j ∧ j < 3 * c + 3)) → J2 a j = J a j) : rl n ms K I2 P J2 B A h T X := by
  have hN := hR.1
  obtain ⟨⟨s0, s1, s2, s3⟩, hr⟩ := hN.2.2.2.2.1 c hc
  have hB60 := hN.2.2.2.2.2.1.1
  have hP4 : P (78 + 5 * c) 4 = none := by
    rcases hr with w | ⟨o, w1, w2, -⟩
    · exact w.2
    · have q := w2.symm.trans hd
      rw [jx_m1 (by omega)] at q
      exact q.elim
  refine rl_chg hR (rl_N_c hN hc (fun b j hb => hI b j (by omega) (by omega) (by omega)) (fun _ _ _ => rfl) (fun a j h1 h2 h3 => hJ a j h1 h2 (fun q => h3 (by unfold jc_own; omega))) ⟨⟨?_, ?_, ?_, fun k hk => ?_⟩, Or.inl ⟨?_, hP4⟩⟩) (fun b j hb => hI b j (by omega) (by omega) (by omega)) (fun _ _ _ => rfl) (fun a j h1 h2 => hJ a j (by omega) (by omega) (by omega)) (hJ _ _ (by omega) (by omega) (by omega)) (hJ _ _ (by omega) (by omega) (by omega))
  · rw [hI _ _ (by omega) (by omega) (by omega), s0]
  · rw [hI _ _ (by omega) (by omega) (by omega), hJ _ _ (by omega) (by omega) (by omega), s1]
  · rw [hI _ _ (by omega) (by omega) (by omega), hJ _ _ (by omega) (by omega) (by omega), s2]
  · rw [hI _ _ (by omega) (by omega) (by omega), hJ _ _ (by omega) (by omega) (by omega), s3 k hk]
  · rw [hJ _ _ (by omega) (by omega) (by omega), hd]
/-- an operation begins -/
theorem rl_begin {n ms n2 ms2 : Nat} {K K2 : Nat → Nat × Nat} {I I2 : Nat → Nat → Int32} {P P2 : Nat → Nat → Option Nat} {J J2 : Nat → Nat → Int32} {B h c a : Nat} {A : Nat → Nat} {T : Nat → Prop} {X : Nat → Nat → Int32} (hR : rl n ms K I P J B A h T X) (hc : c < 4) (hB59 : B < 60) (hn : n ≤ n2) (hK : ∀ b, b < n → K2 b = K b) (hKa : K2 a = (5, 9)) (ha1 : 140 ≤ a) (ha2 : a < n2) (hao : ∀ o, o < B → A o ≠ a) (han : a < n → K a = (5, 9))
    (hI : ∀ b j, b < n → b ≠ 9 → b ≠ a → (b < 78 + 5 * c ∨ 78 + 5 * c + 5 ≤ b) → I2 b j = I b j) (h91 : I2 9 1 = nI (B + 1)) (h92 : I2 9 2 = I 9 2) (h93 : I2 9 3 = I 9 3 + 1) (ha0 : I2 a 0 = nI B) (hop : op_r I2 J2 a B) (hP : ∀ b j, b < n → ¬ (b = 10 ∧ j = B) → ¬ (b = 78 + 5 * c ∧ j = 4) → P2 b j = P b j) (hpB : P2 10 B = some a) (hp4 : P2 (78 + 5 * c) 4 = some a) (hcs : cn_s I2 J2 c) (hco : cn_o I2 J2 c B) (hJ : ∀ e j, 98 ≤ e → e < 140 → ¬ jc_own c e j → ¬ (119 ≤ e ∧ e ≤ 127 ∧ j = B) → ¬ (e = 98 ∧ (j = 25 ∨ j = 27)) → J2 e j = J e j) (h25 : J2 98 25 = nI (B + 1)) (h27 : J2 98 27 = J 98 27 + 1) (h128 : J2 128 c = nI B) (hr1 : n2 + om P ≤ n + om P2) (hr2 : ms2 + 9 * om P ≤ ms + 9 * om P2) (hpo : ∀ o e, o < 60 → P2 10 o = some e → o ≠ B → e ≠ a) :
    rl n2 ms2 K2 I2 P2 J2 (B + 1) (ls_up A B a) h T X := by
  obtain ⟨⟨a0, a1, a2, a3, a4, a5, a6⟩, ⟨L, x, S, z, e, cc, e2, c2, ⟨⟨f0, l1, l2, ee, m1, m2, dj, n140⟩, b1, b2, b3, b4, b5, b6, b7, b8⟩, hT⟩, hX, hag, h36⟩ := hR
  obtain ⟨t0, t1, t2, t3, t4, t5, t6⟩ := id a5
  have hom := om_le P2
  have he1 := l1.2.2.2.2.2.2
  have he2 := l2.2.2.2.2.2.2
  have hJo : ∀ e j, 98 ≤ e → e < 140 → e < 98 ∨ (100 < e ∧ e < 119) ∨ 137 < e → J2 e j = J e j := fun e j h1 h2 h3 => hJ e j h1 h2 (by unfold jc_own; omega) (by omega) (by omega)
  have hm : ∀ t, ob_M K P t → 140 ≤ t → t + 5 ≤ n → ob_M K2 P2 t ∧ ∀ b j, t ≤ b → b < t + 5 → I2 b j = I b j := fun t h1 h2 h3 => by
    refine ⟨ob_M_fr h1 (fun b q1 q2 => hK b (by omega)) (fun b j q1 q2 => hP b j (by omega) (by omega) (by omega)), fun b j q1 q2 => hI b j (by omega) (by omega) (fun q => ?_) (by omega)⟩
    have h5 := han (by omega)
    obtain ⟨k0, k1, k2, k3, k4, -⟩ := h1
    rw [← q] at h5
    rcases (show b = t ∨ b = t + 1 ∨ b = t + 2 ∨ b = t + 3 ∨ b = t + 4 by omega) with w | w | w | w | w
    · rw [w, k0] at h5; simp at h5
    · rw [w, k1] at h5; simp at h5
    · rw [w, k2] at h5; simp at h5
    · rw [w, k3] at h5; simp at h5
    · rw [w, k4] at h5; simp at h5
  have hls : ∀ f e c x N, (f = 7 ∨ f = 8) → ls_ok n K I P f e c x N → ls_ok n2 K2 I2 P2 f e c x N := fun f e c x N hf q => by
    obtain ⟨q1, q2, q3, q4, q5, q6, q7, q8⟩ := q
    have hfn : ∀ b j, b = 1 ∨ b = 7 ∨ b = 8 ∨ 140 ≤ b → b < n → P2 b j = P b j := fun b j w1 w2 => hP b j w2 (by omega) (by omega)
    exact ⟨by rw [hfn f 1 (by omega) (by omega), q1], by rw [hK e q7, q2], by rw [hI f 2 (by omega) (by omega) (by omega) (by omega), q3], q4, q5, fun i hi => by rw [hfn e i (by omega) q7, q6 i hi], by omega, q8⟩
  have hin : ∀ N k, ms_in n K P N k → ms_in n2 K2 P2 N k := fun N k q i hi => by
    obtain ⟨q1, q2, q3⟩ := q i hi
    exact ⟨(hm _ q1 q2 q3).1, q2, by omega⟩
  refine ⟨⟨cl_ok_to a0 (fun b h1 h2 => hK b (by omega)) (fun b j h1 h2 h3 h4 h5 h6 h7 => hP b j (by omega) (by omega) (by omega)), rs_ok_to a1 (fun b h1 h2 => hK b (by omega)) (fun b j h1 => hP b j (by omega) (by omega) (by omega)), mo_ok_to a2 (fun b h1 h2 => hK b (by omega)) (fun j => hP 98 j (by omega) (by omega) (by omega)), fun s hs => ?_, fun d hd => ?_, ⟨by omega, h25, h91, ?_, ?_, fun o f ho hp => ?_, fun o ho => ?_⟩, ?_⟩, ⟨L, x, S, z, e, cc, e2, c2, ⟨⟨⟨by rw [hK _ (by omega), f0.1], by rw [hP _ _ (by omega) (by omega) (by omega), f0.2.1], by rw [hP _ _ (by omega) (by omega) (by omega), f0.2.2.1], by rw [hK _ (by omega), f0.2.2.2.1], by rw [hK _ (by omega), f0.2.2.2.2.1], by rw [hK _ (by omega), f0.2.2.2.2.2]⟩, hls 7 e cc x L (by omega) l1, hls 8 e2 c2 z S (by omega) l2, ee, hin L x m1, hin S z m2, dj, by omega⟩, ?_, ?_, fun i hi => ?_, b4, by omega, by omega, by omega, by omega⟩, fun t ht => ?_⟩, fun t ht b j h1 h2 => ?_, fun f j h1 h2 => ?_, ?_⟩
  · obtain ⟨q0, q1, q2, q3⟩ := a3 s hs
    refine ⟨?_, fun k hk => ?_, fun r hr => ⟨?_, ?_⟩, fun k hk => ⟨?_, ?_, ?_⟩⟩
    · rw [hI _ _ (by omega) (by omega) (by omega) (by omega), hJ _ _ (by omega) (by omega) (by unfold jc_own; omega) (by omega) (by omega), q0]
    · rw [hI _ _ (by omega) (by omega) (by omega) (by omega), hJ _ _ (by omega) (by omega) (by unfold jc_own; omega) (by omega) (by omega), q1 k hk]
    · rw [hI _ _ (by omega) (by omega) (by omega) (by omega), hJo _ _ (by omega) (by omega) (by omega), (q2 r hr).1]
    · rw [hI _ _ (by omega) (by omega) (by omega) (by omega), hJo _ _ (by omega) (by omega) (by omega), (q2 r hr).2]
    · rw [hI _ _ (by omega) (by omega) (by omega) (by omega), hJo _ _ (by omega) (by omega) (by omega), (q3 k hk).1]
    · rw [hI _ _ (by omega) (by omega) (by omega) (by omega), hJo _ _ (by omega) (by omega) (by omega), (q3 k hk).2.1]
    · rw [hI _ _ (by omega) (by omega) (by omega) (by omega), hJo _ _ (by omega) (by omega) (by omega), (q3 k hk).2.2]
  · by_cases hdc : d = c
    · subst hdc
      exact ⟨hcs, Or.inr ⟨B, by omega, h128, by rw [ls_up_eq, hp4], hco⟩⟩
    · refine cn_r_to (a4 d hd) (fun b j h1 h2 => hI b j (by omega) (by omega) (by omega) (by omega)) (hP _ _ (by omega) (by omega) (by omega)) ⟨fun k hk => ?_, ?_, fun f h1 h2 => ?_, fun r hr => ⟨?_, ?_⟩, fun o ho => ⟨?_, ?_⟩⟩ (by omega) (fun o ho => ls_up_lt ho)
      · exact hJ _ _ (by omega) (by omega) (by unfold jc_own; omega) (by omega) (by omega)
      · exact hJ _ _ (by omega) (by omega) (by unfold jc_own; omega) (by omega) (by omega)
      · exact hJ _ _ (by omega) (by omega) (by unfold jc_own; omega) (by omega) (by omega)
      · exact hJ _ _ (by omega) (by omega) (by unfold jc_own; omega) (by omega) (by omega)
      · exact hJ _ _ (by omega) (by omega) (by unfold jc_own; omega) (by omega) (by omega)
      · exact hJ _ _ (by omega) (by omega) (by unfold jc_own; omega) (by omega) (by omega)
      · exact hJ _ _ (by omega) (by omega) (by unfold jc_own; omega) (by omega) (by omega)
  · rw [h92, hJ _ _ (by omega) (by omega) (by unfold jc_own; omega) (by omega) (by omega), t3]
  · rw [h93, h27, t4]
  · by_cases hoB : o = B
    · subst hoB
      rw [hpB] at hp
      cases hp
      exact ⟨hKa, ha1, ha2, ha0⟩
    · have hne := hpo o f ho hp hoB
      rw [hP 10 o (by omega) (by omega) (by omega)] at hp
      obtain ⟨d1, d2, d3, d4⟩ := t5 o f ho hp
      exact ⟨by rw [hK f d3, d1], d2, by omega, by rw [hI f 0 d3 (by omega) hne (by omega), d4]⟩
  · by_cases hoB : o = B
    · subst hoB
      rw [ls_up_eq]
      exact ⟨hpB, hop⟩
    · rw [ls_up_lt (show o < B by omega)]
      obtain ⟨d1, d2⟩ := t6 o (by omega)
      obtain ⟨u1, u2, u3, u4⟩ := t5 o _ (by omega) d1
      obtain ⟨r1, r2, r3, r4, r5, r6, r7, r8⟩ := d2
      have hA : ∀ j, I2 (A o) j = I (A o) j := fun j => hI _ j u3 (by omega) (hao o (by omega)) (by omega)
      have hj : ∀ f, 119 ≤ f → f ≤ 127 → J2 f o = J f o := fun f h1 h2 => hJ f o (by omega) (by omega) (by unfold jc_own; omega) (by omega) (by omega)
      exact ⟨by rw [hP 10 o (by omega) (by omega) (by omega), d1], by rw [hA, hj _ (by omega) (by omega), r1], by rw [hA, hj _ (by omega) (by omega), r2], by rw [hA, hj _ (by omega) (by omega), r3], by rw [hA, hj _ (by omega) (by omega), r4], by rw [hA, hj _ (by omega) (by omega), r5], by rw [hA, hj _ (by omega) (by omega), r6], by rw [hA, hj _ (by omega) (by omega), r7], by rw [hA, hj _ (by omega) (by omega), r8]⟩
  · rw [hI _ _ (by omega) (by omega) (by omega) (by omega), hJ _ _ (by omega) (by omega) (by unfold jc_own; omega) (by omega) (by omega), a6]
  · rw [hJ _ _ (by omega) (by omega) (by unfold jc_own; omega) (by omega) (by omega), b1]
  · rw [hI _ _ (by omega) (by omega) (by omega) (by omega), hJ _ _ (by omega) (by omega) (by unfold jc_own; omega) (by omega) (by omega), b2]
  · obtain ⟨q1, q2, q3⟩ := m1 i hi
    exact mgs_to (b3 i hi) (hm _ q1 q2 q3).2 (fun f h1 h2 => hJo f i (by omega) (by omega) (by omega)) (fun k hk => hJo 118 _ (by omega) (by omega) (by omega))
  · obtain ⟨q1, q2, q3, q4⟩ := hT t ht
    exact ⟨(hm t q1 q2 q3).1, q2, by omega, q4⟩
  · obtain ⟨q1, q2, q3, q4⟩ := hT t ht
    rw [(hm t q1 q2 q3).2 b j h1 h2, hX t ht b j h1 h2]
  · rw [hI f j (by omega) (by omega) (by omega) (by omega), hag f j h1 h2]
  · rw [hI 3 6 (by omega) (by omega) (by omega) (by omega), h36]
