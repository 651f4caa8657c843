theorem rl_st {n ms n2 ms2 : Nat} {K K2 : Nat → Nat × Nat} {I Ix : Nat → Nat → Int32} {P P2 : Nat → Nat → Option Nat} {J : Nat → Nat → Int32} {B h c a : Nat} {A : Nat → Nat} {T : Nat → Prop} {X : Nat → Nat → Int32} {kd s v : Int32} (hR : rl n ms K I P J B A h T X) (hc : c < 4) (hB59 : B < 60) (hn : n ≤ n2) (hn140 : 140 ≤ n) (hK : ∀ b, b < n → K2 b = K b) (hKa : K2 a = (5, 9)) (ha1 : 140 ≤ a) (ha2 : a < n2) (hao : ∀ o, o < B → A o ≠ a) (han : a < n → K a = (5, 9)) (hIx : ∀ b j, b < n → b ≠ a → Ix b j = I b j) (ha0 : Ix a 0 = nI B) (hP : ∀ b j, b < n → ¬ (b = 10 ∧ j = B) → P2 b j = P b j) (hpB : P2 10 B = some a) (hr1 : n2 + om P ≤ n + om P2) (hr2 : ms2 + 9 * om P ≤ ms + 9 * om P2) (hpo : ∀ o e, o < 60 → P2 10 o = some e → o ≠ B → e ≠ a)
    (hq2 : kd = 2 → J 133 c = nI (4 + c) ∧ I (78 + 5 * c) 11 = J 134 c ∧ I (78 + 5 * c) 13 = s) (hq3 : kd = 3 → I (78 + 5 * c) 11 = J 134 c ∧ I (78 + 5 * c) 13 = J 135 c) (hq4 : kd = 2 ∨ kd = 3 → ∀ j, J 134 c = nI j → j < 5 → J 99 (6 * (7 + c) + j) = -1 ∨ I (78 + 5 * c) 12 = J 99 (6 * (7 + c) + j)) :
    rl n2 ms2 K2 (cl_S1 Ix a B kd c s v) (jx_u P2 (78 + 5 * c) 4 (some a)) (mo_S1 J B kd c s v) (B + 1) (ls_up A B a) h T X := by
  obtain ⟨w1, w2, w3, w4, w5, w6, w7, w8, w9, w10, w11, w12, w13, w14, w15⟩ := @S1_v J B c kd s v
  obtain ⟨y1, y2, y3, y4, y5, y6, y7, y8, y9, y10, y11, y12, y13, y14, y15, y16, y17⟩ := @cS_v Ix a B c kd s v ha1 hc
  obtain ⟨⟨s0, s1, s2, s3⟩, -⟩ := hR.1.2.2.2.2.1 c hc
  obtain ⟨t0, t1, t2, t3, t4, t5, t6⟩ := hR.1.2.2.2.2.2.1
  have hb : ∀ b j, b < 140 → Ix b j = I b j := fun b j q => hIx b j (by omega) (by omega)
  have hP4 : om (jx_u P2 (78 + 5 * c) 4 (some a)) = om P2 := om_eq (fun o => jx_u_na (by omega))
  refine rl_begin hR hc hB59 hn hK hKa ha1 ha2 hao han (fun b j q1 q2 q3 q4 => ?_) y1 ?_ ?_ ?_ ⟨?_, ?_, ?_, ?_, ?_, ?_, ?_, ?_⟩ (fun b j q1 q2 q3 => ?_) ?_ (jx_u_eq _ _ _ _) ⟨?_, ?_, ?_, fun k hk => ?_⟩ ⟨?_, ?_, ?_, fun r hr => ?_, fun r hr _ => ?_, fun _ q => ?_, fun q => ?_, fun q => ?_, fun q j q1 q2 => ?_⟩ (fun e j q1 q2 q3 q4 q5 => ?_) w1 w2 w3 (by rw [hP4]; exact hr1) (by rw [hP4]; exact hr2) (fun o e q1 q2 q3 => hpo o e q1 (by rw [← q2, jx_u_na (by omega)]) q3)
  · rw [cS_F q2 q3 (by omega) (by omega) (by omega), hIx b j q1 q3]
  · rw [y2, hb _ _ (by omega)]
  · rw [y3, hb _ _ (by omega)]
  · rw [y4, ha0]
  · rw [y5, w8]
  · rw [y6, w9]
  · rw [y7, w10]
  · rw [y8, w11]
  · rw [y9, w12]
  · rw [y10, w13, hb _ _ (by omega), t4]
  · rw [y11, w14]
  · rw [y12, w15]
  · unfold jx_u
    rw [if_neg q3, hP b j q1 q2]
  · rw [jx_u_na (by omega), hpB]
  · rw [cS_F (by omega) (by omega) (by omega) (by omega) (by omega), hb _ _ (by omega), s0]
  · rw [cS_F (by omega) (by omega) (by omega) (by omega) (by omega), hb _ _ (by omega), S1_F (by omega) (by omega) (by omega) (by omega), s1]
  · rw [y13, w4, hb _ _ (by omega), s2]
  · rw [cS_F (by omega) (by omega) (by omega) (by omega) (by omega), hb _ _ (by omega), S1_F (by omega) (by omega) (by omega) (by omega), s3 k hk]
  · rw [y14, w7]
  · rw [y15, w5]
  · rw [y16, w6]
  · rw [(cS_z hr).1, (S1_z hr).1]
  · rw [(cS_z hr).2, (S1_z hr).2]
  · rw [w7] at q
    exact absurd q (by decide)
  · rw [w8] at q
    obtain ⟨p1, p2, p3⟩ := hq2 q
    refine ⟨?_, ?_, ?_⟩
    · rw [y17, hb _ _ (by omega), s0, cS_b c hc, S1_F (by omega) (by omega) (by omega) (by omega), p1]
    · rw [cS_F (by omega) (by omega) (by omega) (by omega) (by omega), hb _ _ (by omega), S1_F (by omega) (by omega) (by omega) (by omega), p2]
    · rw [cS_F (by omega) (by omega) (by omega) (by omega) (by omega), hb _ _ (by omega), w10, p3]
  · rw [w8] at q
    obtain ⟨p1, p2⟩ := hq3 q
    refine ⟨?_, ?_⟩
    · rw [cS_F (by omega) (by omega) (by omega) (by omega) (by omega), hb _ _ (by omega), S1_F (by omega) (by omega) (by omega) (by omega), p1]
    · rw [cS_F (by omega) (by omega) (by omega) (by omega) (by omega), hb _ _ (by omega), S1_F (by omega) (by omega) (by omega) (by omega), p2]
  · rw [w8] at q
    rw [S1_F (by omega) (by omega) (by omega) (by omega)] at q1
    rw [S1_F (by omega) (by omega) (by omega) (by omega), cS_F (by omega) (by omega) (by omega) (by omega) (by omega), hb _ _ (by omega)]
    exact hq4 q j q1 q2
  · unfold jc_own at q3
    exact S1_F (by omega) (by omega) (by omega) (by omega)
