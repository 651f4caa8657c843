def mo_SG (J : Nat → Nat → Int32) (q s : Nat) : Nat → Nat → Int32 := if J 98 47 = 6 then J else if J 98 47 = 0 then mo_g0 J q s (jx_x (J 98 51)) else if J 98 47 = 1 then mo_g1 J q s (jx_x (J 98 51)) else if J 98 47 = 2 then (if J 103 (5 * s + jx_x (J 98 51)) < J 98 52 then mo_g2 J q s (jx_x (J 98 51)) else mo_bd J q 12 s (jx_x (J 98 51))) else if J 98 47 = 3 then (if J 103 (5 * s + jx_x (J 98 51)) ≤ J 98 52 then mo_g3 J q s (jx_x (J 98 51)) else mo_bd J q 13 s (jx_x (J 98 51))) else if J 98 47 = 4 then mo_g4 J q s else mo_g5 J q s
def mo_CG (J : Nat → Nat → Int32) (c : Nat) : Nat → Nat → Int32 := if J 128 c = -1 then J else mo_CX J c (jx_x (J 128 c))
def mo_D (J : Nat → Nat → Int32) (i q : Nat) : Nat → Nat → Int32 := if J 106 i < 10 then (if J 100 (jx_x (J 107 i)) = 0 then mo_SG (mo_dl J (jx_x (J 107 i)) i q) q (jx_x (J 107 i)) else mo_sh (mo_tk J i) i q) else (if J 100 (7 + jx_x (J 108 i)) = 0 then mo_CG (mo_dl J (7 + jx_x (J 108 i)) i q) (jx_x (J 108 i)) else mo_sh (mo_tk J i) i q)
theorem rl_J {n ms : Nat} {K : Nat → Nat × Nat} {I : Nat → Nat → Int32} {P : Nat → Nat → Option Nat} {J J2 : Nat → Nat → Int32} {B h : Nat} {A : Nat → Nat} {T : Nat → Prop} {X : Nat → Nat → Int32} (hR : rl n ms K I P J B A h T X) (hJ : ∀ a j, 98 ≤ a → a < 140 → ¬ (a = 98 ∧ j = 11) → J2 a j = J a j) : rl n ms K I P J2 B A h T X := by
  have n140 : 140 ≤ n := by
    obtain ⟨-, ⟨L, x, S, z, e, c, e2, c2, ⟨⟨-, -, -, -, -, -, -, w⟩, -⟩, -⟩, -⟩ := hR
    exact w
  exact rl_chg hR (rl_N_W hR.1 bg_F.refl (fun a j h1 h2 h3 h4 => hJ a j h1 h2 (fun q => by have := h4 q.1; omega)) n140) (fun _ _ _ => rfl) (fun _ _ _ => rfl) (fun a j h1 h2 => hJ a j (by omega) (by omega) (by omega)) (hJ _ _ (by omega) (by omega) (by omega)) (hJ _ _ (by omega) (by omega) (by omega))
theorem mo_sh_c {F E : Nat → Nat → Int32} {i q a : Nat} (h : ∀ j, F a j = E a j) (j : Nat) : mo_sh F i q a j = mo_sh E i q a j := by
  unfold mo_sh mo_s2
  by_cases h1 : a = 118 ∧ 6 * i ≤ j ∧ j < 6 * q
  · rw [if_pos h1, if_pos h1]
    obtain ⟨rfl, -⟩ := h1
    unfold mo_s1
    rw [if_neg (by omega), if_neg (by omega), jx_u_na (by omega), jx_u_na (by omega), h]
  · rw [if_neg h1, if_neg h1]
    unfold mo_s1
    by_cases h2 : 106 ≤ a ∧ a ≤ 117 ∧ i ≤ j ∧ j < q
    · rw [if_pos h2, if_pos h2, jx_u_na (by omega), jx_u_na (by omega), h]
    · rw [if_neg h2, if_neg h2]
      unfold jx_u
      rw [h]
theorem mo_dl_o {J : Nat → Nat → Int32} {w i q a j : Nat} (h : ¬ (a = 99 ∧ 6 * w ≤ j ∧ j < 6 * w + 6)) : mo_dl J w i q a j = jx_u (mo_sh (mo_tk J i) i q) 98 11 (J 98 11 + 1) a j := by
  unfold mo_dl
  by_cases e : a = 98 ∧ j = 11
  · obtain ⟨rfl, rfl⟩ := e
    rw [jx_u_eq, jx_u_eq]
  · rw [jx_u_no e, jx_u_no e]
    by_cases e2 : a = 99
    · subst e2
      rw [mo_sh_na (by omega), mo_sh_na (by omega), mo_jn_o h]
    · exact mo_sh_c (fun j => mo_jn_na e2) j
theorem mo_dl_e {J : Nat → Nat → Int32} {w i q k : Nat} (hk : k < 6) : mo_dl J w i q 99 (6 * w + k) = if J 118 (6 * i + k) = -1 ∨ J 99 (6 * w + k) = 0 then J 118 (6 * i + k) else J 99 (6 * w + k) := by
  unfold mo_dl
  rw [jx_u_na (by omega), mo_sh_na (by omega), mo_jn_e hk, mo_tk_na (by omega), mo_tk_na (by omega)]
theorem rl0_tk {J : Nat → Nat → Int32} {i q a j : Nat} (h : a = 99 ∨ a = 100 ∨ 119 ≤ a) : jx_u (mo_sh (mo_tk J i) i q) 98 11 (J 98 11 + 1) a j = J a j := by
  rw [jx_u_na (by omega), mo_sh_na (by omega), mo_tk_na (by omega)]
def rl0 (n ms : Nat) (K : Nat → Nat × Nat) (I : Nat → Nat → Int32) (P : Nat → Nat → Option Nat) (J : Nat → Nat → Int32) (B : Nat) (A : Nat → Nat) : Prop := rl n ms K I P J B A 0 (fun _ => False) I
/-- what a call leaves -/
def rl_C (v : Int32) (J : Nat → Nat → Int32) (B : Nat) (A : Nat → Nat) (I0 : Nat → Nat → Int32) (d : Int32) (w : Option jx_V) (M : jx_M) : Prop := w = some (.inl v) ∧ ∃ n ms K I P, M = (n, ms, K, I, P) ∧ rl0 n ms K I P J B A ∧ ag I I0 ∧ I 3 6 = I0 3 6 + d
set_option maxHeartbeats 4000000 in
set_option maxRecDepth 100000 in
theorem rl_serve {G : jx_G} {n ms : Nat} {K : Nat → Nat × Nat} {I : Nat → Nat → Int32} {P : Nat → Nat → Option Nat} {J J0 : Nat → Nat → Int32} {B h : Nat} {A : Nat → Nat} {T : Nat → Prop} {X : Nat → Nat → Int32} {s t x k : Nat} (hR0 : rl n ms K I P J0 B A h T X) (hs : s < 7) (ht : T t) (hj : hd_j X t J) (hJo : ∀ a j, 98 ≤ a → a < 140 → ¬ (a = 99 ∧ 6 * s ≤ j ∧ j < 6 * s + 6) → J a j = J0 a j) (hJm : ∀ k, k < 6 → J 99 (6 * s + k) = if X (t + 2) k = -1 ∨ J0 99 (6 * s + k) = 0 then X (t + 2) k else J0 99 (6 * s + k)) (hsv : J 98 48 = nI s) (hkd : J 98 47 = nI k) (hk6 : k ≤ 6) (hn1 : k ≤ 1 → ∃ j, j < 3 ∧ J 98 51 = nI j) (hn2 : k = 2 ∨ k = 3 → ∃ j, j < 5 ∧ J 98 51 = nI j) (hx : J 98 9 = nI x) (hx2 : x + h + 9 ≤ 15999) : jx_C G yX8_serve cX8_serve 4 none 8 [.inr (some 3), .inr (some (22 + 8 * s)), .inr (some t)] (n, ms, K, I, P) (rl_Q none (mo_SG J x s) B A h T X) := by
  rcases (show k = 0 ∨ k = 1 ∨ k = 2 ∨ k = 3 ∨ k = 4 ∨ k = 5 ∨ k = 6 by omega) with rfl | rfl | rfl | rfl | rfl | rfl | rfl
  · have hkd : J 98 47 = 0 := hkd
    obtain ⟨j, hj3, hnu⟩ := hn1 (by omega)
    have hxj : jx_x (J 98 51) = j := by rw [hnu]; exact jx_xn (by omega)
    have e : mo_SG J x s = mo_g0 J x s j := by
      unfold mo_SG
      rw [hkd, hxj, if_neg (by decide), if_pos rfl]
    rw [e]
    exact rl_serve0 hR0 hs ht hj hJo hJm hsv hkd hnu hj3 hx hx2
  · have hkd : J 98 47 = 1 := hkd
    obtain ⟨j, hj3, hnu⟩ := hn1 (by omega)
    have hxj : jx_x (J 98 51) = j := by rw [hnu]; exact jx_xn (by omega)
    have e : mo_SG J x s = mo_g1 J x s j := by
      unfold mo_SG
      rw [hkd, hxj, if_neg (by decide), if_neg (by decide), if_pos rfl]
    rw [e]
    exact rl_serve1 hR0 hs ht hj hJo hJm hsv hkd hnu hj3 hx hx2
  · have hkd : J 98 47 = 2 := hkd
    obtain ⟨j, hj5, hnu⟩ := hn2 (by omega)
    have hxj : jx_x (J 98 51) = j := by rw [hnu]; exact jx_xn (by omega)
    by_cases hg : J 103 (5 * s + j) < J 98 52
    · have e : mo_SG J x s = mo_g2 J x s j := by
        unfold mo_SG
        rw [hkd, hxj, if_neg (by decide), if_neg (by decide), if_neg (by decide), if_pos rfl, if_pos hg]
      rw [e]
      exact rl_serve2g hR0 hs ht hj hJo hJm hsv hkd hnu hj5 hg hx hx2
    · have e : mo_SG J x s = mo_bd J x 12 s j := by
        unfold mo_SG
        rw [hkd, hxj, if_neg (by decide), if_neg (by decide), if_neg (by decide), if_pos rfl, if_neg hg]
      rw [e]
      exact rl_serve2b hR0 hs ht hj hJo hJm hsv hkd hnu hj5 hg hx hx2
  · have hkd : J 98 47 = 3 := hkd
    obtain ⟨j, hj5, hnu⟩ := hn2 (by omega)
    have hxj : jx_x (J 98 51) = j := by rw [hnu]; exact jx_xn (by omega)
    by_cases hg : J 103 (5 * s + j) ≤ J 98 52
    · have e : mo_SG J x s = mo_g3 J x s j := by
        unfold mo_SG
        rw [hkd, hxj, if_neg (by decide), if_neg (by decide), if_neg (by decide), if_neg (by decide), if_pos rfl, if_pos hg]
      rw [e]
      exact rl_serve3g hR0 hs ht hj hJo hJm hsv hkd hnu hj5 hg hx hx2
    · have e : mo_SG J x s = mo_bd J x 13 s j := by
        unfold mo_SG
        rw [hkd, hxj, if_neg (by decide), if_neg (by decide), if_neg (by decide), if_neg (by decide), if_pos rfl, if_neg hg]
      rw [e]
      exact rl_serve3b hR0 hs ht hj hJo hJm hsv hkd hnu hj5 hg hx hx2
  · have hkd : J 98 47 = 4 := hkd
    have e : mo_SG J x s = mo_g4 J x s := by
      unfold mo_SG
      rw [hkd, if_neg (by decide), if_neg (by decide), if_neg (by decide), if_neg (by decide), if_neg (by decide), if_pos rfl]
    rw [e]
    exact rl_serve4 (j := 0) hR0 hs ht hj hJo hJm hsv hkd hx hx2
  · have hkd : J 98 47 = 5 := hkd
    have e : mo_SG J x s = mo_g5 J x s := by
      unfold mo_SG
      rw [hkd, if_neg (by decide), if_neg (by decide), if_neg (by decide), if_neg (by decide), if_neg (by decide), if_neg (by decide)]
    rw [e]
    exact rl_serve5 (j := 0) hR0 hs ht hj hJo hJm hsv hkd hx hx2
  · have hkd : J 98 47 = 6 := hkd
    have e : mo_SG J x s = J := by
      unfold mo_SG
      rw [hkd, if_pos rfl]
    rw [e]
    exact rl_serve6 hR0 hs ht hj hJo hJm hkd
