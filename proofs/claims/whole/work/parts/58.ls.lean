/-- the list at a has its x messages L in array e of c places -/
def ls_ok (n : Nat) (K : Nat → Nat × Nat) (I : Nat → Nat → Int32) (P : Nat → Nat → Option Nat) (a e c x : Nat) (L : Nat → Nat) : Prop := P a 1 = some e ∧ K e = (16, c) ∧ I a 2 = nI x ∧ x ≤ c ∧ c ≤ 24000 ∧ (∀ i, i < x → P e i = some (L i)) ∧ e < n ∧ (140 ≤ e ∧ 0 < c ∨ e = 1 ∧ c = 0)
def ls_up (L : Nat → Nat) (x v : Nat) : Nat → Nat := fun i => if i = x then v else L i
theorem ls_up_lt {L : Nat → Nat} {x v i : Nat} (h : i < x) : ls_up L x v i = L i := if_neg (by omega)
theorem ls_up_eq {L : Nat → Nat} {x v : Nat} : ls_up L x v x = v := if_pos rfl
/-- what an add leaves: n .. P before, behind; list a, its array e of c places -/
def ls_fr (n ms : Nat) (K : Nat → Nat × Nat) (I : Nat → Nat → Int32) (P : Nat → Nat → Option Nat) (n2 ms2 : Nat) (K2 : Nat → Nat × Nat) (I2 : Nat → Nat → Int32) (P2 : Nat → Nat → Option Nat) (a e c x e2 c2 : Nat) : Prop := (∀ b, b < n → K2 b = K b) ∧ (∀ b j, b < n → b ≠ a → I2 b j = I b j) ∧ (∀ b j, b < n → b ≠ a → b ≠ e → P2 b j = P b j) ∧ (∀ j, j ≠ 1 → P2 a j = P a j) ∧ ((n2 = n ∧ ms2 = ms ∧ e2 = e ∧ c2 = c) ∨ (n2 = n + 1 ∧ ms2 = ms + c2 ∧ e2 = n ∧ c2 = jd_cap c ∧ x = c))
theorem jd_cap_b {c : Nat} (h : c ≤ 16000) : jd_cap c ≤ 24000 := by
  unfold jd_cap
  split <;> omega
set_option maxHeartbeats 4000000 in
theorem ls_add {G : jx_G} {n ms : Nat} {K : Nat → Nat × Nat} {I : Nat → Nat → Int32} {P : Nat → Nat → Option Nat} {a e c x v : Nat} {L : Nat → Nat} (hk : K a = (0, 3)) (h1 : K 1 = (16, 0)) (hl : ls_ok n K I P a e c x L) (hx : x ≤ 16000) (hm : ∀ i, i < x → (K (L i)).1 = 4 ∧ L i < n) (hv : (K v).1 = 4) (hvn : v < n) (han : a < n) (hn140 : 140 ≤ n) (hn : n + 1 ≤ 600003) (hms : ms + 24010 ≤ 7302250) : jx_C G yJx4a65c_add_9ea2d cJx4a65c_add_9ea2d 2 (some FieldType.boolean) 6 [.inr (some a), .inr (some v)] (n, ms, K, I, P) (fun w M2 => w = some (.inl 1) ∧ ∃ n2 ms2 K2 I2 P2 e2 c2, M2 = (n2, ms2, K2, I2, P2) ∧ ls_ok n2 K2 I2 P2 a e2 c2 (x + 1) (ls_up L x v) ∧ ls_fr n ms K I P n2 ms2 K2 I2 P2 a e c x e2 c2) := by
  obtain ⟨hp, he, hs, hxc, hc, hL, hen, h140⟩ := hl
  have hae : a ≠ e := by
    intro q
    rw [← q, hk] at he
    simp at he
  by_cases h : x < c
  · refine (jd_add0 hk hp he hs h (by omega) hv).mono ?_
    rintro _ _ ⟨rfl, rfl⟩
    refine ⟨rfl, n, ms, K, _, _, e, c, rfl, ⟨?_, he, ?_, by omega, hc, ?_, hen, h140⟩, fun _ _ => rfl, ?_, ?_, ?_, Or.inl ⟨rfl, rfl, rfl, rfl⟩⟩
    · rw [jx_u_na hae, hp]
    · rw [jx_u_eq]
    · intro i hi
      by_cases q : i = x
      · subst q
        rw [jx_u_eq, ls_up_eq]
      · rw [jx_u_ni q, hL i (by omega), ls_up_lt (by omega)]
    · intro b j hb hba
      rw [jx_u_na hba, jx_u_na hba]
    · intro b j hb hba hbe
      rw [jx_u_na hbe]
    · intro j hj
      rw [jx_u_na hae]
  · have hxc2 : x = c := by omega
    subst hxc2
    by_cases h0 : 0 < x
    · have h3 : 140 ≤ e := by omega
      refine (jd_add1 hk hp he (by omega) hs h0 (by omega) hen (fun j hj q hq => ?_) (fun j hj q hq => ?_) hn (by have := jd_cap_b hx; omega) han hvn hv).mono ?_
      · rw [hL j hj] at hq
        cases hq
        have := (hm j hj).2
        omega
      · rw [hL j hj] at hq
        cases hq
        exact (hm j hj).1
      rintro _ _ ⟨rfl, rfl⟩
      have e4 := @jd_cap_gt x
      refine ⟨rfl, _, _, _, _, _, n, jd_cap x, rfl, ⟨?_, if_pos rfl, ?_, by omega, jd_cap_b hx, ?_, by omega, Or.inl ⟨by omega, by omega⟩⟩, ?_, ?_, ?_, ?_, Or.inr ⟨rfl, rfl, rfl, rfl, rfl⟩⟩
      · rw [jx_u_na (by omega), jx_u_eq]
      · rw [jx_u_eq]
      · intro i hi
        by_cases q : i = x
        · subst q
          rw [jx_u_eq, ls_up_eq]
        · rw [jx_u_ni q, jx_u_na (by omega), ls_up_lt (by omega)]
          unfold jd_P
          rw [if_pos rfl, if_pos (by omega), hL i (by omega)]
      · intro b hb
        unfold jd_K
        rw [if_neg (by omega)]
      · intro b j hb hba
        rw [jx_u_na hba]
        unfold jd_I
        rw [if_neg (by omega), jx_u_na hba]
      · intro b j hb hba hbe
        rw [jx_u_na (by omega), jx_u_na hba]
        unfold jd_P
        rw [if_neg (by omega)]
      · intro j hj
        rw [jx_u_na (by omega), jx_u_ni hj]
        unfold jd_P
        rw [if_neg (by omega)]
    · have hx0 : x = 0 := by omega
      subst hx0
      obtain ⟨rfl, -⟩ := h140.resolve_left (fun q => absurd q.2 (by omega))
      · refine (jd_add2 hk hp h1 hs hn (by omega) han hvn hv).mono ?_
        rintro _ _ ⟨rfl, rfl⟩
        refine ⟨rfl, _, _, _, _, _, n, 10, rfl, ⟨?_, if_pos rfl, ?_, by omega, by omega, ?_, by omega, Or.inl ⟨by omega, by omega⟩⟩, ?_, ?_, ?_, ?_, Or.inr ⟨rfl, rfl, rfl, rfl, rfl⟩⟩
        · rw [jx_u_na (by omega), jx_u_eq]
        · rw [jx_u_eq]
        · intro i hi
          have q : i = 0 := by omega
          subst q
          rw [jx_u_eq, ls_up_eq]
        · intro b hb
          unfold jd_K
          rw [if_neg (by omega)]
        · intro b j hb hba
          rw [jx_u_na hba]
          unfold jd_I
          rw [if_neg (by omega), jx_u_na hba]
        · intro b j hb hba hbe
          rw [jx_u_na (by omega), jx_u_na hba]
          unfold jd_P
          rw [if_neg (by omega)]
        · intro j hj
          rw [jx_u_na (by omega), jx_u_ni hj]
          unfold jd_P
          rw [if_neg (by omega)]
