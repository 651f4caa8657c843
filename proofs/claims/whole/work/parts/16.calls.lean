section J10
variable {G : jx_G} {y : MethodName} {cc : ByteArray} {nL : Nat} {ret : Option FieldType} {d : Nat} {Q : Option jx_V → jx_M → Prop} {pc : Nat} {ls : List (Option jx_V)} {st : List jx_V} {M : jx_M}
variable {y2 : MethodName} {cc2 : ByteArray} {nL2 : Nat} {ret2 : Option FieldType} {d2 n idx c b : Nat} {av : List jx_V} {Q2 : Option jx_V → jx_M → Prop}
theorem jx_cV (hd : decode cc pc = .ok (.invokevirtual idx, 3)) (L : jx_LV y.cls idx y2 cc2 nL2 ret2 n c) (hM : jx_C G y2 cc2 nL2 ret2 d2 (.inr (some b) :: av) M Q2) (hK : (M.2.2.1 b).1 = c) (hdep : d2 + 1 ≤ d) (hav : av.length = n) (hst : st.length ≤ 8) (kk : ∀ (v : Option jx_V) (M' : jx_M), Q2 v M' → M.1 ≤ M'.1 → M.2.1 ≤ M'.2.1 → jx_J G y cc nL ret d Q (pc + 3) ls (v.toList ++ st) M') : jx_J G y cc nL ret d Q pc ls (av.reverse ++ .inr (some b) :: st) M := by
  obtain ⟨l1, l2, l3, r, l4, l5⟩ := L
  exact jx_callV hd hM l1 l2 l3 l5 hK l4 hdep hav hst kk
theorem jx_cS (hd : decode cc pc = .ok (.invokestatic idx, 3)) (L : jx_LS y.cls idx y2 cc2 nL2 ret2 n) (hM : jx_C G y2 cc2 nL2 ret2 d2 av M Q2) (hdep : d2 + 1 ≤ d) (hav : av.length = n) (hst : st.length ≤ 8) (kk : ∀ (v : Option jx_V) (M' : jx_M), Q2 v M' → M.1 ≤ M'.1 → M.2.1 ≤ M'.2.1 → jx_J G y cc nL ret d Q (pc + 3) ls (v.toList ++ st) M') : jx_J G y cc nL ret d Q pc ls (av.reverse ++ st) M := by
  obtain ⟨l1, l2 | ⟨host, l2⟩, l3⟩ := L
  · exact jx_callS hd hM l1 l2 l3 hdep hav hst kk
  · exact jx_callSN hd hM l1 l2 l3 hdep hav hst kk
theorem jx_cI (hd : decode cc pc = .ok (.invokespecial idx, 3)) (L : jx_LI y.cls idx y2 cc2 nL2 n) (hM : jx_C G y2 cc2 nL2 none d2 (.inr (some b) :: av) M Q2) (hdep : d2 + 1 ≤ d) (hav : av.length = n) (hst : st.length ≤ 8) (kk : ∀ (v : Option jx_V) (M' : jx_M), Q2 v M' → M.1 ≤ M'.1 → M.2.1 ≤ M'.2.1 → jx_J G y cc nL ret d Q (pc + 3) ls (v.toList ++ st) M') : jx_J G y cc nL ret d Q pc ls (av.reverse ++ .inr (some b) :: st) M := by
  obtain ⟨l1, l2 | ⟨host, l2⟩, l3, l4⟩ := L
  · exact jx_callI hd hM l1 l2 l3 l4 hdep hav hst kk
  · exact jx_callIN hd hM l1 l2 l3 l4 hdep hav hst kk
theorem jx_cV0 (hd : decode cc pc = .ok (.invokevirtual idx, 3)) (L : jx_LV y.cls idx y2 cc2 nL2 ret2 0 c) (hM : jx_C G y2 cc2 nL2 ret2 d2 (.inr (some b) :: []) M Q2) (hK : (M.2.2.1 b).1 = c) (hdep : d2 + 1 ≤ d) (hst : st.length ≤ 8) (kk : ∀ (v : Option jx_V) (M' : jx_M), Q2 v M' → M.1 ≤ M'.1 → M.2.1 ≤ M'.2.1 → jx_J G y cc nL ret d Q (pc + 3) ls (v.toList ++ st) M') : jx_J G y cc nL ret d Q pc ls (.inr (some b) :: st) M := jx_cV (av := []) hd L hM hK hdep rfl hst kk
theorem jx_cS0 (hd : decode cc pc = .ok (.invokestatic idx, 3)) (L : jx_LS y.cls idx y2 cc2 nL2 ret2 0) (hM : jx_C G y2 cc2 nL2 ret2 d2 [] M Q2) (hdep : d2 + 1 ≤ d) (hst : st.length ≤ 8) (kk : ∀ (v : Option jx_V) (M' : jx_M), Q2 v M' → M.1 ≤ M'.1 → M.2.1 ≤ M'.2.1 → jx_J G y cc nL ret d Q (pc + 3) ls (v.toList ++ st) M') : jx_J G y cc nL ret d Q pc ls (st) M := jx_cS (av := []) hd L hM hdep rfl hst kk
theorem jx_cI0 (hd : decode cc pc = .ok (.invokespecial idx, 3)) (L : jx_LI y.cls idx y2 cc2 nL2 0) (hM : jx_C G y2 cc2 nL2 none d2 (.inr (some b) :: []) M Q2) (hdep : d2 + 1 ≤ d) (hst : st.length ≤ 8) (kk : ∀ (v : Option jx_V) (M' : jx_M), Q2 v M' → M.1 ≤ M'.1 → M.2.1 ≤ M'.2.1 → jx_J G y cc nL ret d Q (pc + 3) ls (v.toList ++ st) M') : jx_J G y cc nL ret d Q pc ls (.inr (some b) :: st) M := jx_cI (av := []) hd L hM hdep rfl hst kk
theorem jx_cV1 {v1 : jx_V} (hd : decode cc pc = .ok (.invokevirtual idx, 3)) (L : jx_LV y.cls idx y2 cc2 nL2 ret2 1 c) (hM : jx_C G y2 cc2 nL2 ret2 d2 (.inr (some b) :: [v1]) M Q2) (hK : (M.2.2.1 b).1 = c) (hdep : d2 + 1 ≤ d) (hst : st.length ≤ 8) (kk : ∀ (v : Option jx_V) (M' : jx_M), Q2 v M' → M.1 ≤ M'.1 → M.2.1 ≤ M'.2.1 → jx_J G y cc nL ret d Q (pc + 3) ls (v.toList ++ st) M') : jx_J G y cc nL ret d Q pc ls (v1 :: .inr (some b) :: st) M := jx_cV (av := [v1]) hd L hM hK hdep rfl hst kk
theorem jx_cS1 {v1 : jx_V} (hd : decode cc pc = .ok (.invokestatic idx, 3)) (L : jx_LS y.cls idx y2 cc2 nL2 ret2 1) (hM : jx_C G y2 cc2 nL2 ret2 d2 [v1] M Q2) (hdep : d2 + 1 ≤ d) (hst : st.length ≤ 8) (kk : ∀ (v : Option jx_V) (M' : jx_M), Q2 v M' → M.1 ≤ M'.1 → M.2.1 ≤ M'.2.1 → jx_J G y cc nL ret d Q (pc + 3) ls (v.toList ++ st) M') : jx_J G y cc nL ret d Q pc ls (v1 :: st) M := jx_cS (av := [v1]) hd L hM hdep rfl hst kk
theorem jx_cI1 {v1 : jx_V} (hd : decode cc pc = .ok (.invokespecial idx, 3)) (L : jx_LI y.cls idx y2 cc2 nL2 1) (hM : jx_C G y2 cc2 nL2 none d2 (.inr (some b) :: [v1]) M Q2) (hdep : d2 + 1 ≤ d) (hst : st.length ≤ 8) (kk : ∀ (v : Option jx_V) (M' : jx_M), Q2 v M' → M.1 ≤ M'.1 → M.2.1 ≤ M'.2.1 → jx_J G y cc nL ret d Q (pc + 3) ls (v.toList ++ st) M') : jx_J G y cc nL ret d Q pc ls (v1 :: .inr (some b) :: st) M := jx_cI (av := [v1]) hd L hM hdep rfl hst kk
theorem jx_cV2 {v1 v2 : jx_V} (hd : decode cc pc = .ok (.invokevirtual idx, 3)) (L : jx_LV y.cls idx y2 cc2 nL2 ret2 2 c) (hM : jx_C G y2 cc2 nL2 ret2 d2 (.inr (some b) :: [v1, v2]) M Q2) (hK : (M.2.2.1 b).1 = c) (hdep : d2 + 1 ≤ d) (hst : st.length ≤ 8) (kk : ∀ (v : Option jx_V) (M' : jx_M), Q2 v M' → M.1 ≤ M'.1 → M.2.1 ≤ M'.2.1 → jx_J G y cc nL ret d Q (pc + 3) ls (v.toList ++ st) M') : jx_J G y cc nL ret d Q pc ls (v2 :: v1 :: .inr (some b) :: st) M := jx_cV (av := [v1, v2]) hd L hM hK hdep rfl hst kk
theorem jx_cS2 {v1 v2 : jx_V} (hd : decode cc pc = .ok (.invokestatic idx, 3)) (L : jx_LS y.cls idx y2 cc2 nL2 ret2 2) (hM : jx_C G y2 cc2 nL2 ret2 d2 [v1, v2] M Q2) (hdep : d2 + 1 ≤ d) (hst : st.length ≤ 8) (kk : ∀ (v : Option jx_V) (M' : jx_M), Q2 v M' → M.1 ≤ M'.1 → M.2.1 ≤ M'.2.1 → jx_J G y cc nL ret d Q (pc + 3) ls (v.toList ++ st) M') : jx_J G y cc nL ret d Q pc ls (v2 :: v1 :: st) M := jx_cS (av := [v1, v2]) hd L hM hdep rfl hst kk
theorem jx_cV3 {v1 v2 v3 : jx_V} (hd : decode cc pc = .ok (.invokevirtual idx, 3)) (L : jx_LV y.cls idx y2 cc2 nL2 ret2 3 c) (hM : jx_C G y2 cc2 nL2 ret2 d2 (.inr (some b) :: [v1, v2, v3]) M Q2) (hK : (M.2.2.1 b).1 = c) (hdep : d2 + 1 ≤ d) (hst : st.length ≤ 8) (kk : ∀ (v : Option jx_V) (M' : jx_M), Q2 v M' → M.1 ≤ M'.1 → M.2.1 ≤ M'.2.1 → jx_J G y cc nL ret d Q (pc + 3) ls (v.toList ++ st) M') : jx_J G y cc nL ret d Q pc ls (v3 :: v2 :: v1 :: .inr (some b) :: st) M := jx_cV (av := [v1, v2, v3]) hd L hM hK hdep rfl hst kk
theorem jx_cS3 {v1 v2 v3 : jx_V} (hd : decode cc pc = .ok (.invokestatic idx, 3)) (L : jx_LS y.cls idx y2 cc2 nL2 ret2 3) (hM : jx_C G y2 cc2 nL2 ret2 d2 [v1, v2, v3] M Q2) (hdep : d2 + 1 ≤ d) (hst : st.length ≤ 8) (kk : ∀ (v : Option jx_V) (M' : jx_M), Q2 v M' → M.1 ≤ M'.1 → M.2.1 ≤ M'.2.1 → jx_J G y cc nL ret d Q (pc + 3) ls (v.toList ++ st) M') : jx_J G y cc nL ret d Q pc ls (v3 :: v2 :: v1 :: st) M := jx_cS (av := [v1, v2, v3]) hd L hM hdep rfl hst kk
theorem jx_cV4 {v1 v2 v3 v4 : jx_V} (hd : decode cc pc = .ok (.invokevirtual idx, 3)) (L : jx_LV y.cls idx y2 cc2 nL2 ret2 4 c) (hM : jx_C G y2 cc2 nL2 ret2 d2 (.inr (some b) :: [v1, v2, v3, v4]) M Q2) (hK : (M.2.2.1 b).1 = c) (hdep : d2 + 1 ≤ d) (hst : st.length ≤ 8) (kk : ∀ (v : Option jx_V) (M' : jx_M), Q2 v M' → M.1 ≤ M'.1 → M.2.1 ≤ M'.2.1 → jx_J G y cc nL ret d Q (pc + 3) ls (v.toList ++ st) M') : jx_J G y cc nL ret d Q pc ls (v4 :: v3 :: v2 :: v1 :: .inr (some b) :: st) M := jx_cV (av := [v1, v2, v3, v4]) hd L hM hK hdep rfl hst kk
theorem jx_cS4 {v1 v2 v3 v4 : jx_V} (hd : decode cc pc = .ok (.invokestatic idx, 3)) (L : jx_LS y.cls idx y2 cc2 nL2 ret2 4) (hM : jx_C G y2 cc2 nL2 ret2 d2 [v1, v2, v3, v4] M Q2) (hdep : d2 + 1 ≤ d) (hst : st.length ≤ 8) (kk : ∀ (v : Option jx_V) (M' : jx_M), Q2 v M' → M.1 ≤ M'.1 → M.2.1 ≤ M'.2.1 → jx_J G y cc nL ret d Q (pc + 3) ls (v.toList ++ st) M') : jx_J G y cc nL ret d Q pc ls (v4 :: v3 :: v2 :: v1 :: st) M := jx_cS (av := [v1, v2, v3, v4]) hd L hM hdep rfl hst kk
theorem jx_cV5 {v1 v2 v3 v4 v5 : jx_V} (hd : decode cc pc = .ok (.invokevirtual idx, 3)) (L : jx_LV y.cls idx y2 cc2 nL2 ret2 5 c) (hM : jx_C G y2 cc2 nL2 ret2 d2 (.inr (some b) :: [v1, v2, v3, v4, v5]) M Q2) (hK : (M.2.2.1 b).1 = c) (hdep : d2 + 1 ≤ d) (hst : st.length ≤ 8) (kk : ∀ (v : Option jx_V) (M' : jx_M), Q2 v M' → M.1 ≤ M'.1 → M.2.1 ≤ M'.2.1 → jx_J G y cc nL ret d Q (pc + 3) ls (v.toList ++ st) M') : jx_J G y cc nL ret d Q pc ls (v5 :: v4 :: v3 :: v2 :: v1 :: .inr (some b) :: st) M := jx_cV (av := [v1, v2, v3, v4, v5]) hd L hM hK hdep rfl hst kk
theorem jx_cS5 {v1 v2 v3 v4 v5 : jx_V} (hd : decode cc pc = .ok (.invokestatic idx, 3)) (L : jx_LS y.cls idx y2 cc2 nL2 ret2 5) (hM : jx_C G y2 cc2 nL2 ret2 d2 [v1, v2, v3, v4, v5] M Q2) (hdep : d2 + 1 ≤ d) (hst : st.length ≤ 8) (kk : ∀ (v : Option jx_V) (M' : jx_M), Q2 v M' → M.1 ≤ M'.1 → M.2.1 ≤ M'.2.1 → jx_J G y cc nL ret d Q (pc + 3) ls (v.toList ++ st) M') : jx_J G y cc nL ret d Q pc ls (v5 :: v4 :: v3 :: v2 :: v1 :: st) M := jx_cS (av := [v1, v2, v3, v4, v5]) hd L hM hdep rfl hst kk
theorem jx_cV6 {v1 v2 v3 v4 v5 v6 : jx_V} (hd : decode cc pc = .ok (.invokevirtual idx, 3)) (L : jx_LV y.cls idx y2 cc2 nL2 ret2 6 c) (hM : jx_C G y2 cc2 nL2 ret2 d2 (.inr (some b) :: [v1, v2, v3, v4, v5, v6]) M Q2) (hK : (M.2.2.1 b).1 = c) (hdep : d2 + 1 ≤ d) (hst : st.length ≤ 8) (kk : ∀ (v : Option jx_V) (M' : jx_M), Q2 v M' → M.1 ≤ M'.1 → M.2.1 ≤ M'.2.1 → jx_J G y cc nL ret d Q (pc + 3) ls (v.toList ++ st) M') : jx_J G y cc nL ret d Q pc ls (v6 :: v5 :: v4 :: v3 :: v2 :: v1 :: .inr (some b) :: st) M := jx_cV (av := [v1, v2, v3, v4, v5, v6]) hd L hM hK hdep rfl hst kk
theorem jx_cS6 {v1 v2 v3 v4 v5 v6 : jx_V} (hd : decode cc pc = .ok (.invokestatic idx, 3)) (L : jx_LS y.cls idx y2 cc2 nL2 ret2 6) (hM : jx_C G y2 cc2 nL2 ret2 d2 [v1, v2, v3, v4, v5, v6] M Q2) (hdep : d2 + 1 ≤ d) (hst : st.length ≤ 8) (kk : ∀ (v : Option jx_V) (M' : jx_M), Q2 v M' → M.1 ≤ M'.1 → M.2.1 ≤ M'.2.1 → jx_J G y cc nL ret d Q (pc + 3) ls (v.toList ++ st) M') : jx_J G y cc nL ret d Q pc ls (v6 :: v5 :: v4 :: v3 :: v2 :: v1 :: st) M := jx_cS (av := [v1, v2, v3, v4, v5, v6]) hd L hM hdep rfl hst kk
theorem jx_C.mono {Q3 : Option jx_V → jx_M → Prop} {av : List jx_V} (h : jx_C G y cc nL ret d av M Q) (k : ∀ v M', Q v M' → Q3 v M') : jx_C G y cc nL ret d av M Q3 := by
  unfold jx_C Met at h ⊢
  exact MetFree.mono h (fun _ _ h => h) (fun _ _ _ _ _ h => h) (fun a s o t hp hq => by obtain ⟨⟨r, M', a1, a2, a3⟩, b⟩ := hq; exact ⟨⟨r, M', a1, k _ _ a2, a3⟩, b⟩)
end J10
theorem jx_f0 : ((0 : Fin 4) : Nat) = 0 := rfl
theorem jx_f1 : ((1 : Fin 4) : Nat) = 1 := rfl
theorem jx_f2 : ((2 : Fin 4) : Nat) = 2 := rfl
theorem jx_f3 : ((3 : Fin 4) : Nat) = 3 := rfl
theorem jx_km1 : Int32.ofInt (-1) = -1 := rfl
theorem jx_k0 : Int32.ofInt (0) = 0 := rfl
theorem jx_k1 : Int32.ofInt (1) = 1 := rfl
theorem jx_k2 : Int32.ofInt (2) = 2 := rfl
theorem jx_k3 : Int32.ofInt (3) = 3 := rfl
theorem jx_k4 : Int32.ofInt (4) = 4 := rfl
theorem jx_k5 : Int32.ofInt (5) = 5 := rfl
theorem jx_bm2 : (Int8.ofInt (-2)).toInt32 = -2 := rfl
theorem jx_b10 : (Int8.ofInt (10)).toInt32 = 10 := rfl
theorem jx_b11 : (Int8.ofInt (11)).toInt32 = 11 := rfl
theorem jx_b12 : (Int8.ofInt (12)).toInt32 = 12 := rfl
theorem jx_b13 : (Int8.ofInt (13)).toInt32 = 13 := rfl
theorem jx_b14 : (Int8.ofInt (14)).toInt32 = 14 := rfl
theorem jx_b15 : (Int8.ofInt (15)).toInt32 = 15 := rfl
theorem jx_b16 : (Int8.ofInt (16)).toInt32 = 16 := rfl
theorem jx_b17 : (Int8.ofInt (17)).toInt32 = 17 := rfl
theorem jx_b18 : (Int8.ofInt (18)).toInt32 = 18 := rfl
theorem jx_b19 : (Int8.ofInt (19)).toInt32 = 19 := rfl
theorem jx_b20 : (Int8.ofInt (20)).toInt32 = 20 := rfl
theorem jx_b21 : (Int8.ofInt (21)).toInt32 = 21 := rfl
theorem jx_b22 : (Int8.ofInt (22)).toInt32 = 22 := rfl
theorem jx_b23 : (Int8.ofInt (23)).toInt32 = 23 := rfl
theorem jx_b24 : (Int8.ofInt (24)).toInt32 = 24 := rfl
theorem jx_b25 : (Int8.ofInt (25)).toInt32 = 25 := rfl
theorem jx_b26 : (Int8.ofInt (26)).toInt32 = 26 := rfl
theorem jx_b27 : (Int8.ofInt (27)).toInt32 = 27 := rfl
theorem jx_b28 : (Int8.ofInt (28)).toInt32 = 28 := rfl
theorem jx_b29 : (Int8.ofInt (29)).toInt32 = 29 := rfl
theorem jx_b30 : (Int8.ofInt (30)).toInt32 = 30 := rfl
theorem jx_b31 : (Int8.ofInt (31)).toInt32 = 31 := rfl
theorem jx_b32 : (Int8.ofInt (32)).toInt32 = 32 := rfl
theorem jx_b33 : (Int8.ofInt (33)).toInt32 = 33 := rfl
theorem jx_b34 : (Int8.ofInt (34)).toInt32 = 34 := rfl
theorem jx_b35 : (Int8.ofInt (35)).toInt32 = 35 := rfl
theorem jx_b36 : (Int8.ofInt (36)).toInt32 = 36 := rfl
theorem jx_b37 : (Int8.ofInt (37)).toInt32 = 37 := rfl
theorem jx_b38 : (Int8.ofInt (38)).toInt32 = 38 := rfl
theorem jx_b39 : (Int8.ofInt (39)).toInt32 = 39 := rfl
theorem jx_b40 : (Int8.ofInt (40)).toInt32 = 40 := rfl
theorem jx_b41 : (Int8.ofInt (41)).toInt32 = 41 := rfl
theorem jx_b42 : (Int8.ofInt (42)).toInt32 = 42 := rfl
theorem jx_b43 : (Int8.ofInt (43)).toInt32 = 43 := rfl
theorem jx_b44 : (Int8.ofInt (44)).toInt32 = 44 := rfl
theorem jx_b45 : (Int8.ofInt (45)).toInt32 = 45 := rfl
theorem jx_b46 : (Int8.ofInt (46)).toInt32 = 46 := rfl
theorem jx_b47 : (Int8.ofInt (47)).toInt32 = 47 := rfl
theorem jx_b48 : (Int8.ofInt (48)).toInt32 = 48 := rfl
theorem jx_b49 : (Int8.ofInt (49)).toInt32 = 49 := rfl
theorem jx_b50 : (Int8.ofInt (50)).toInt32 = 50 := rfl
theorem jx_b51 : (Int8.ofInt (51)).toInt32 = 51 := rfl
theorem jx_b52 : (Int8.ofInt (52)).toInt32 = 52 := rfl
theorem jx_b53 : (Int8.ofInt (53)).toInt32 = 53 := rfl
theorem jx_b54 : (Int8.ofInt (54)).toInt32 = 54 := rfl
theorem jx_b55 : (Int8.ofInt (55)).toInt32 = 55 := rfl
theorem jx_b56 : (Int8.ofInt (56)).toInt32 = 56 := rfl
theorem jx_b57 : (Int8.ofInt (57)).toInt32 = 57 := rfl
theorem jx_b58 : (Int8.ofInt (58)).toInt32 = 58 := rfl
theorem jx_b59 : (Int8.ofInt (59)).toInt32 = 59 := rfl
theorem jx_b6 : (Int8.ofInt (6)).toInt32 = 6 := rfl
theorem jx_b60 : (Int8.ofInt (60)).toInt32 = 60 := rfl
theorem jx_b61 : (Int8.ofInt (61)).toInt32 = 61 := rfl
theorem jx_b62 : (Int8.ofInt (62)).toInt32 = 62 := rfl
theorem jx_b63 : (Int8.ofInt (63)).toInt32 = 63 := rfl
theorem jx_b64 : (Int8.ofInt (64)).toInt32 = 64 := rfl
theorem jx_b65 : (Int8.ofInt (65)).toInt32 = 65 := rfl
theorem jx_b66 : (Int8.ofInt (66)).toInt32 = 66 := rfl
theorem jx_b7 : (Int8.ofInt (7)).toInt32 = 7 := rfl
theorem jx_b8 : (Int8.ofInt (8)).toInt32 = 8 := rfl
theorem jx_b9 : (Int8.ofInt (9)).toInt32 = 9 := rfl
theorem jx_h1000 : (Int16.ofInt (1000)).toInt32 = 1000 := rfl
theorem jx_h12345 : (Int16.ofInt (12345)).toInt32 = 12345 := rfl
theorem jx_h16000 : (Int16.ofInt (16000)).toInt32 = 16000 := rfl
theorem jx_h16384 : (Int16.ofInt (16384)).toInt32 = 16384 := rfl
theorem jx_h400 : (Int16.ofInt (400)).toInt32 = 400 := rfl
theorem tg_1_7 : jx_tg 1 (7) = some 8 := rfl
theorem tg_1_8 : jx_tg 1 (8) = some 9 := rfl
theorem tg_1_9 : jx_tg 1 (9) = some 10 := rfl
theorem tg_1_10 : jx_tg 1 (10) = some 11 := rfl
theorem tg_1_12 : jx_tg 1 (12) = some 13 := rfl
theorem tg_1_15 : jx_tg 1 (15) = some 16 := rfl
theorem tg_1_17 : jx_tg 1 (17) = some 18 := rfl
theorem tg_1_18 : jx_tg 1 (18) = some 19 := rfl
theorem tg_1_19 : jx_tg 1 (19) = some 20 := rfl
theorem tg_1_20 : jx_tg 1 (20) = some 21 := rfl
theorem tg_1_21 : jx_tg 1 (21) = some 22 := rfl
theorem tg_1_22 : jx_tg 1 (22) = some 23 := rfl
theorem tg_1_29 : jx_tg 1 (29) = some 30 := rfl
theorem tg_1_36 : jx_tg 1 (36) = some 37 := rfl
theorem tg_2_7 : jx_tg 2 (7) = some 9 := rfl
theorem tg_2_17 : jx_tg 2 (17) = some 19 := rfl
theorem tg_3_8 : jx_tg 3 (8) = some 11 := rfl
theorem tg_3_10 : jx_tg 3 (10) = some 13 := rfl
theorem tg_3_20 : jx_tg 3 (20) = some 23 := rfl
theorem tg_4_6 : jx_tg 4 (6) = some 10 := rfl
theorem tg_4_7 : jx_tg 4 (7) = some 11 := rfl
theorem tg_4_11 : jx_tg 4 (11) = some 15 := rfl
theorem tg_4_14 : jx_tg 4 (14) = some 18 := rfl
theorem tg_4_18 : jx_tg 4 (18) = some 22 := rfl
theorem tg_4_27 : jx_tg 4 (27) = some 31 := rfl
theorem tg_4_31 : jx_tg 4 (31) = some 35 := rfl
theorem tg_4_37 : jx_tg 4 (37) = some 41 := rfl
theorem tg_4_41 : jx_tg 4 (41) = some 45 := rfl
theorem tg_4_42 : jx_tg 4 (42) = some 46 := rfl
theorem tg_5_4 : jx_tg 5 (4) = some 9 := rfl
theorem tg_5_5 : jx_tg 5 (5) = some 10 := rfl
theorem tg_5_7 : jx_tg 5 (7) = some 12 := rfl
theorem tg_5_8 : jx_tg 5 (8) = some 13 := rfl
theorem tg_5_10 : jx_tg 5 (10) = some 15 := rfl
theorem tg_5_12 : jx_tg 5 (12) = some 17 := rfl
theorem tg_5_14 : jx_tg 5 (14) = some 19 := rfl
theorem tg_5_16 : jx_tg 5 (16) = some 21 := rfl
theorem tg_5_23 : jx_tg 5 (23) = some 28 := rfl
theorem tg_5_26 : jx_tg 5 (26) = some 31 := rfl
theorem tg_5_35 : jx_tg 5 (35) = some 40 := rfl
theorem tg_5_38 : jx_tg 5 (38) = some 43 := rfl
theorem tg_5_40 : jx_tg 5 (40) = some 45 := rfl
theorem tg_5_44 : jx_tg 5 (44) = some 49 := rfl
theorem tg_5_80 : jx_tg 5 (80) = some 85 := rfl
theorem tg_6_4 : jx_tg 6 (4) = some 10 := rfl
theorem tg_6_5 : jx_tg 6 (5) = some 11 := rfl
theorem tg_6_7 : jx_tg 6 (7) = some 13 := rfl
theorem tg_6_8 : jx_tg 6 (8) = some 14 := rfl
theorem tg_6_10 : jx_tg 6 (10) = some 16 := rfl
theorem tg_6_13 : jx_tg 6 (13) = some 19 := rfl
theorem tg_6_17 : jx_tg 6 (17) = some 23 := rfl
theorem tg_6_21 : jx_tg 6 (21) = some 27 := rfl
theorem tg_6_27 : jx_tg 6 (27) = some 33 := rfl
theorem tg_7_4 : jx_tg 7 (4) = some 11 := rfl
theorem tg_7_11 : jx_tg 7 (11) = some 18 := rfl
theorem tg_7_13 : jx_tg 7 (13) = some 20 := rfl
theorem tg_7_20 : jx_tg 7 (20) = some 27 := rfl
theorem tg_7_36 : jx_tg 7 (36) = some 43 := rfl
theorem tg_7_37 : jx_tg 7 (37) = some 44 := rfl
theorem tg_8_4 : jx_tg 8 (4) = some 12 := rfl
theorem tg_8_5 : jx_tg 8 (5) = some 13 := rfl
theorem tg_8_6 : jx_tg 8 (6) = some 14 := rfl
theorem tg_8_11 : jx_tg 8 (11) = some 19 := rfl
theorem tg_8_14 : jx_tg 8 (14) = some 22 := rfl
theorem tg_8_15 : jx_tg 8 (15) = some 23 := rfl
theorem tg_8_19 : jx_tg 8 (19) = some 27 := rfl
theorem tg_9_4 : jx_tg 9 (4) = some 13 := rfl
theorem tg_9_7 : jx_tg 9 (7) = some 16 := rfl
theorem tg_9_8 : jx_tg 9 (8) = some 17 := rfl
theorem tg_9_10 : jx_tg 9 (10) = some 19 := rfl
theorem tg_9_23 : jx_tg 9 (23) = some 32 := rfl
theorem tg_9_58 : jx_tg 9 (58) = some 67 := rfl
theorem tg_10_4 : jx_tg 10 (4) = some 14 := rfl
theorem tg_10_5 : jx_tg 10 (5) = some 15 := rfl
theorem tg_10_7 : jx_tg 10 (7) = some 17 := rfl
theorem tg_10_10 : jx_tg 10 (10) = some 20 := rfl
theorem tg_10_11 : jx_tg 10 (11) = some 21 := rfl
theorem tg_10_12 : jx_tg 10 (12) = some 22 := rfl
theorem tg_10_13 : jx_tg 10 (13) = some 23 := rfl
theorem tg_10_14 : jx_tg 10 (14) = some 24 := rfl
theorem tg_10_22 : jx_tg 10 (22) = some 32 := rfl
theorem tg_10_28 : jx_tg 10 (28) = some 38 := rfl
theorem tg_11_4 : jx_tg 11 (4) = some 15 := rfl
theorem tg_11_7 : jx_tg 11 (7) = some 18 := rfl
theorem tg_11_13 : jx_tg 11 (13) = some 24 := rfl
theorem tg_11_21 : jx_tg 11 (21) = some 32 := rfl
theorem tg_12_5 : jx_tg 12 (5) = some 17 := rfl
theorem tg_12_7 : jx_tg 12 (7) = some 19 := rfl
theorem tg_12_15 : jx_tg 12 (15) = some 27 := rfl
theorem tg_12_19 : jx_tg 12 (19) = some 31 := rfl
theorem tg_12_20 : jx_tg 12 (20) = some 32 := rfl
theorem tg_12_43 : jx_tg 12 (43) = some 55 := rfl
theorem tg_12_82 : jx_tg 12 (82) = some 94 := rfl
theorem tg_13_4 : jx_tg 13 (4) = some 17 := rfl
theorem tg_13_5 : jx_tg 13 (5) = some 18 := rfl
theorem tg_13_14 : jx_tg 13 (14) = some 27 := rfl
theorem tg_14_4 : jx_tg 14 (4) = some 18 := rfl
theorem tg_14_5 : jx_tg 14 (5) = some 19 := rfl
theorem tg_14_7 : jx_tg 14 (7) = some 21 := rfl
theorem tg_14_8 : jx_tg 14 (8) = some 22 := rfl
theorem tg_14_9 : jx_tg 14 (9) = some 23 := rfl
theorem tg_14_10 : jx_tg 14 (10) = some 24 := rfl
theorem tg_14_12 : jx_tg 14 (12) = some 26 := rfl
theorem tg_14_13 : jx_tg 14 (13) = some 27 := rfl
theorem tg_14_17 : jx_tg 14 (17) = some 31 := rfl
theorem tg_14_34 : jx_tg 14 (34) = some 48 := rfl
theorem tg_15_4 : jx_tg 15 (4) = some 19 := rfl
theorem tg_15_5 : jx_tg 15 (5) = some 20 := rfl
theorem tg_15_12 : jx_tg 15 (12) = some 27 := rfl
theorem tg_15_22 : jx_tg 15 (22) = some 37 := rfl
theorem tg_15_28 : jx_tg 15 (28) = some 43 := rfl
theorem tg_15_42 : jx_tg 15 (42) = some 57 := rfl
theorem tg_16_4 : jx_tg 16 (4) = some 20 := rfl
theorem tg_16_5 : jx_tg 16 (5) = some 21 := rfl
theorem tg_16_7 : jx_tg 16 (7) = some 23 := rfl
theorem tg_16_8 : jx_tg 16 (8) = some 24 := rfl
theorem tg_16_12 : jx_tg 16 (12) = some 28 := rfl
theorem tg_16_28 : jx_tg 16 (28) = some 44 := rfl
theorem tg_16_29 : jx_tg 16 (29) = some 45 := rfl
theorem tg_17_m12 : jx_tg 17 (-12) = some 5 := rfl
theorem tg_17_4 : jx_tg 17 (4) = some 21 := rfl
theorem tg_17_5 : jx_tg 17 (5) = some 22 := rfl
theorem tg_17_10 : jx_tg 17 (10) = some 27 := rfl
theorem tg_17_28 : jx_tg 17 (28) = some 45 := rfl
theorem tg_17_177 : jx_tg 17 (177) = some 194 := rfl
theorem tg_18_m14 : jx_tg 18 (-14) = some 4 := rfl
theorem tg_18_4 : jx_tg 18 (4) = some 22 := rfl
theorem tg_18_5 : jx_tg 18 (5) = some 23 := rfl
theorem tg_18_7 : jx_tg 18 (7) = some 25 := rfl
theorem tg_18_9 : jx_tg 18 (9) = some 27 := rfl
theorem tg_18_14 : jx_tg 18 (14) = some 32 := rfl
theorem tg_18_39 : jx_tg 18 (39) = some 57 := rfl
theorem tg_19_4 : jx_tg 19 (4) = some 23 := rfl
theorem tg_19_5 : jx_tg 19 (5) = some 24 := rfl
theorem tg_19_14 : jx_tg 19 (14) = some 33 := rfl
theorem tg_19_15 : jx_tg 19 (15) = some 34 := rfl
theorem tg_19_16 : jx_tg 19 (16) = some 35 := rfl
theorem tg_19_19 : jx_tg 19 (19) = some 38 := rfl
theorem tg_19_41 : jx_tg 19 (41) = some 60 := rfl
theorem tg_20_4 : jx_tg 20 (4) = some 24 := rfl
theorem tg_20_5 : jx_tg 20 (5) = some 25 := rfl
theorem tg_20_6 : jx_tg 20 (6) = some 26 := rfl
theorem tg_20_8 : jx_tg 20 (8) = some 28 := rfl
theorem tg_20_19 : jx_tg 20 (19) = some 39 := rfl
theorem tg_21_7 : jx_tg 21 (7) = some 28 := rfl
theorem tg_21_45 : jx_tg 21 (45) = some 66 := rfl
theorem tg_22_4 : jx_tg 22 (4) = some 26 := rfl
theorem tg_22_15 : jx_tg 22 (15) = some 37 := rfl
theorem tg_22_17 : jx_tg 22 (17) = some 39 := rfl
theorem tg_22_49 : jx_tg 22 (49) = some 71 := rfl
theorem tg_23_5 : jx_tg 23 (5) = some 28 := rfl
theorem tg_23_699 : jx_tg 23 (699) = some 722 := rfl
theorem tg_24_m20 : jx_tg 24 (-20) = some 4 := rfl
theorem tg_24_5 : jx_tg 24 (5) = some 29 := rfl
theorem tg_24_6 : jx_tg 24 (6) = some 30 := rfl
theorem tg_24_15 : jx_tg 24 (15) = some 39 := rfl
theorem tg_24_16 : jx_tg 24 (16) = some 40 := rfl
theorem tg_24_22 : jx_tg 24 (22) = some 46 := rfl
theorem tg_24_29 : jx_tg 24 (29) = some 53 := rfl
theorem tg_24_78 : jx_tg 24 (78) = some 102 := rfl
theorem tg_25_m23 : jx_tg 25 (-23) = some 2 := rfl
theorem tg_25_4 : jx_tg 25 (4) = some 29 := rfl
theorem tg_25_5 : jx_tg 25 (5) = some 30 := rfl
theorem tg_25_8 : jx_tg 25 (8) = some 33 := rfl
theorem tg_25_14 : jx_tg 25 (14) = some 39 := rfl
theorem tg_26_4 : jx_tg 26 (4) = some 30 := rfl
theorem tg_26_8 : jx_tg 26 (8) = some 34 := rfl
theorem tg_26_14 : jx_tg 26 (14) = some 40 := rfl
theorem tg_26_21 : jx_tg 26 (21) = some 47 := rfl
theorem tg_26_43 : jx_tg 26 (43) = some 69 := rfl
theorem tg_27_16 : jx_tg 27 (16) = some 43 := rfl
theorem tg_27_19 : jx_tg 27 (19) = some 46 := rfl
theorem tg_28_4 : jx_tg 28 (4) = some 32 := rfl
theorem tg_28_7 : jx_tg 28 (7) = some 35 := rfl
theorem tg_28_14 : jx_tg 28 (14) = some 42 := rfl
theorem tg_28_17 : jx_tg 28 (17) = some 45 := rfl
theorem tg_28_42 : jx_tg 28 (42) = some 70 := rfl
theorem tg_28_48 : jx_tg 28 (48) = some 76 := rfl
theorem tg_28_63 : jx_tg 28 (63) = some 91 := rfl
theorem tg_29_4 : jx_tg 29 (4) = some 33 := rfl
theorem tg_29_7 : jx_tg 29 (7) = some 36 := rfl
theorem tg_29_10 : jx_tg 29 (10) = some 39 := rfl
theorem tg_29_13 : jx_tg 29 (13) = some 42 := rfl
theorem tg_29_18 : jx_tg 29 (18) = some 47 := rfl
theorem tg_29_31 : jx_tg 29 (31) = some 60 := rfl
theorem tg_29_295 : jx_tg 29 (295) = some 324 := rfl
theorem tg_30_m26 : jx_tg 30 (-26) = some 4 := rfl
theorem tg_30_5 : jx_tg 30 (5) = some 35 := rfl
theorem tg_30_7 : jx_tg 30 (7) = some 37 := rfl
theorem tg_30_8 : jx_tg 30 (8) = some 38 := rfl
theorem tg_30_15 : jx_tg 30 (15) = some 45 := rfl
theorem tg_30_49 : jx_tg 30 (49) = some 79 := rfl
theorem tg_31_7 : jx_tg 31 (7) = some 38 := rfl
theorem tg_31_10 : jx_tg 31 (10) = some 41 := rfl
theorem tg_31_34 : jx_tg 31 (34) = some 65 := rfl
theorem tg_31_35 : jx_tg 31 (35) = some 66 := rfl
theorem tg_32_m30 : jx_tg 32 (-30) = some 2 := rfl
theorem tg_32_4 : jx_tg 32 (4) = some 36 := rfl
theorem tg_32_22 : jx_tg 32 (22) = some 54 := rfl
theorem tg_33_4 : jx_tg 33 (4) = some 37 := rfl
theorem tg_33_36 : jx_tg 33 (36) = some 69 := rfl
theorem tg_34_4 : jx_tg 34 (4) = some 38 := rfl
theorem tg_34_5 : jx_tg 34 (5) = some 39 := rfl
theorem tg_34_7 : jx_tg 34 (7) = some 41 := rfl
theorem tg_34_13 : jx_tg 34 (13) = some 47 := rfl
theorem tg_34_23 : jx_tg 34 (23) = some 57 := rfl
theorem tg_35_m33 : jx_tg 35 (-33) = some 2 := rfl
theorem tg_35_4 : jx_tg 35 (4) = some 39 := rfl
theorem tg_35_10 : jx_tg 35 (10) = some 45 := rfl
theorem tg_35_19 : jx_tg 35 (19) = some 54 := rfl
theorem tg_36_m19 : jx_tg 36 (-19) = some 17 := rfl
theorem tg_36_7 : jx_tg 36 (7) = some 43 := rfl
theorem tg_36_8 : jx_tg 36 (8) = some 44 := rfl
theorem tg_36_39 : jx_tg 36 (39) = some 75 := rfl
theorem tg_37_5 : jx_tg 37 (5) = some 42 := rfl
theorem tg_37_7 : jx_tg 37 (7) = some 44 := rfl
theorem tg_37_9 : jx_tg 37 (9) = some 46 := rfl
theorem tg_37_17 : jx_tg 37 (17) = some 54 := rfl
theorem tg_37_22 : jx_tg 37 (22) = some 59 := rfl
theorem tg_37_30 : jx_tg 37 (30) = some 67 := rfl
theorem tg_37_45 : jx_tg 37 (45) = some 82 := rfl
theorem tg_37_48 : jx_tg 37 (48) = some 85 := rfl
theorem tg_38_m36 : jx_tg 38 (-36) = some 2 := rfl
theorem tg_38_m13 : jx_tg 38 (-13) = some 25 := rfl
theorem tg_38_4 : jx_tg 38 (4) = some 42 := rfl
theorem tg_38_6 : jx_tg 38 (6) = some 44 := rfl
theorem tg_38_7 : jx_tg 38 (7) = some 45 := rfl
theorem tg_38_15 : jx_tg 38 (15) = some 53 := rfl
theorem tg_39_m12 : jx_tg 39 (-12) = some 27 := rfl
theorem tg_39_27 : jx_tg 39 (27) = some 66 := rfl
theorem tg_39_31 : jx_tg 39 (31) = some 70 := rfl
theorem tg_40_m38 : jx_tg 40 (-38) = some 2 := rfl
theorem tg_40_4 : jx_tg 40 (4) = some 44 := rfl
theorem tg_40_5 : jx_tg 40 (5) = some 45 := rfl
theorem tg_41_m38 : jx_tg 41 (-38) = some 3 := rfl
theorem tg_41_m28 : jx_tg 41 (-28) = some 13 := rfl
theorem tg_41_4 : jx_tg 41 (4) = some 45 := rfl
theorem tg_41_10 : jx_tg 41 (10) = some 51 := rfl
theorem tg_41_12 : jx_tg 41 (12) = some 53 := rfl
theorem tg_41_14 : jx_tg 41 (14) = some 55 := rfl
theorem tg_41_15 : jx_tg 41 (15) = some 56 := rfl
theorem tg_41_277 : jx_tg 41 (277) = some 318 := rfl
theorem tg_42_m40 : jx_tg 42 (-40) = some 2 := rfl
theorem tg_42_4 : jx_tg 42 (4) = some 46 := rfl
theorem tg_42_7 : jx_tg 42 (7) = some 49 := rfl
theorem tg_42_9 : jx_tg 42 (9) = some 51 := rfl
theorem tg_42_10 : jx_tg 42 (10) = some 52 := rfl
theorem tg_42_15 : jx_tg 42 (15) = some 57 := rfl
theorem tg_42_16 : jx_tg 42 (16) = some 58 := rfl
theorem tg_43_m41 : jx_tg 43 (-41) = some 2 := rfl
theorem tg_43_5 : jx_tg 43 (5) = some 48 := rfl
theorem tg_43_10 : jx_tg 43 (10) = some 53 := rfl
theorem tg_43_18 : jx_tg 43 (18) = some 61 := rfl
theorem tg_43_27 : jx_tg 43 (27) = some 70 := rfl
theorem tg_43_42 : jx_tg 43 (42) = some 85 := rfl
theorem tg_44_m22 : jx_tg 44 (-22) = some 22 := rfl
theorem tg_44_10 : jx_tg 44 (10) = some 54 := rfl
theorem tg_44_12 : jx_tg 44 (12) = some 56 := rfl
theorem tg_44_19 : jx_tg 44 (19) = some 63 := rfl
theorem tg_45_m34 : jx_tg 45 (-34) = some 11 := rfl
theorem tg_45_8 : jx_tg 45 (8) = some 53 := rfl
theorem tg_45_9 : jx_tg 45 (9) = some 54 := rfl
theorem tg_45_22 : jx_tg 45 (22) = some 67 := rfl
theorem tg_45_24 : jx_tg 45 (24) = some 69 := rfl
theorem tg_45_28 : jx_tg 45 (28) = some 73 := rfl
theorem tg_46_4 : jx_tg 46 (4) = some 50 := rfl
theorem tg_46_10 : jx_tg 46 (10) = some 56 := rfl
theorem tg_46_41 : jx_tg 46 (41) = some 87 := rfl
theorem tg_47_7 : jx_tg 47 (7) = some 54 := rfl
theorem tg_48_8 : jx_tg 48 (8) = some 56 := rfl
theorem tg_48_10 : jx_tg 48 (10) = some 58 := rfl
theorem tg_49_7 : jx_tg 49 (7) = some 56 := rfl
theorem tg_50_m30 : jx_tg 50 (-30) = some 20 := rfl
theorem tg_50_46 : jx_tg 50 (46) = some 96 := rfl
theorem tg_51_5 : jx_tg 51 (5) = some 56 := rfl
theorem tg_51_7 : jx_tg 51 (7) = some 58 := rfl
theorem tg_51_127 : jx_tg 51 (127) = some 178 := rfl
theorem tg_52_5 : jx_tg 52 (5) = some 57 := rfl
theorem tg_52_6 : jx_tg 52 (6) = some 58 := rfl
theorem tg_53_4 : jx_tg 53 (4) = some 57 := rfl
theorem tg_54_m22 : jx_tg 54 (-22) = some 32 := rfl
theorem tg_54_5 : jx_tg 54 (5) = some 59 := rfl
theorem tg_54_13 : jx_tg 54 (13) = some 67 := rfl
theorem tg_54_21 : jx_tg 54 (21) = some 75 := rfl
theorem tg_54_39 : jx_tg 54 (39) = some 93 := rfl
theorem tg_55_4 : jx_tg 55 (4) = some 59 := rfl
theorem tg_55_10 : jx_tg 55 (10) = some 65 := rfl
theorem tg_56_17 : jx_tg 56 (17) = some 73 := rfl
theorem tg_57_m43 : jx_tg 57 (-43) = some 14 := rfl
theorem tg_57_m33 : jx_tg 57 (-33) = some 24 := rfl
theorem tg_57_16 : jx_tg 57 (16) = some 73 := rfl
theorem tg_58_21 : jx_tg 58 (21) = some 79 := rfl
theorem tg_58_27 : jx_tg 58 (27) = some 85 := rfl
theorem tg_59_37 : jx_tg 59 (37) = some 96 := rfl
theorem tg_60_7 : jx_tg 60 (7) = some 67 := rfl
theorem tg_60_10 : jx_tg 60 (10) = some 70 := rfl
theorem tg_60_136 : jx_tg 60 (136) = some 196 := rfl
theorem tg_61_15 : jx_tg 61 (15) = some 76 := rfl
theorem tg_62_20 : jx_tg 62 (20) = some 82 := rfl
theorem tg_62_22 : jx_tg 62 (22) = some 84 := rfl
theorem tg_63_m45 : jx_tg 63 (-45) = some 18 := rfl
theorem tg_63_m27 : jx_tg 63 (-27) = some 36 := rfl
theorem tg_63_5 : jx_tg 63 (5) = some 68 := rfl
theorem tg_63_16 : jx_tg 63 (16) = some 79 := rfl
theorem tg_63_21 : jx_tg 63 (21) = some 84 := rfl
theorem tg_64_m57 : jx_tg 64 (-57) = some 7 := rfl
theorem tg_64_4 : jx_tg 64 (4) = some 68 := rfl
theorem tg_64_5 : jx_tg 64 (5) = some 69 := rfl
theorem tg_64_15 : jx_tg 64 (15) = some 79 := rfl
theorem tg_65_7 : jx_tg 65 (7) = some 72 := rfl
theorem tg_66_m43 : jx_tg 66 (-43) = some 23 := rfl
theorem tg_66_7 : jx_tg 66 (7) = some 73 := rfl
theorem tg_67_10 : jx_tg 67 (10) = some 77 := rfl
theorem tg_67_70 : jx_tg 67 (70) = some 137 := rfl
theorem tg_68_m52 : jx_tg 68 (-52) = some 16 := rfl
theorem tg_68_5 : jx_tg 68 (5) = some 73 := rfl
theorem tg_69_4 : jx_tg 69 (4) = some 73 := rfl
theorem tg_70_4 : jx_tg 70 (4) = some 74 := rfl
theorem tg_70_12 : jx_tg 70 (12) = some 82 := rfl
theorem tg_71_16 : jx_tg 71 (16) = some 87 := rfl
theorem tg_72_m39 : jx_tg 72 (-39) = some 33 := rfl
theorem tg_72_10 : jx_tg 72 (10) = some 82 := rfl
theorem tg_73_m47 : jx_tg 73 (-47) = some 26 := rfl
theorem tg_73_7 : jx_tg 73 (7) = some 80 := rfl
theorem tg_75_45 : jx_tg 75 (45) = some 120 := rfl
theorem tg_76_m48 : jx_tg 76 (-48) = some 28 := rfl
theorem tg_77_4 : jx_tg 77 (4) = some 81 := rfl
theorem tg_77_5 : jx_tg 77 (5) = some 82 := rfl
theorem tg_77_101 : jx_tg 77 (101) = some 178 := rfl
theorem tg_78_7 : jx_tg 78 (7) = some 85 := rfl
theorem tg_78_32 : jx_tg 78 (32) = some 110 := rfl
theorem tg_79_7 : jx_tg 79 (7) = some 86 := rfl
theorem tg_79_9 : jx_tg 79 (9) = some 88 := rfl
theorem tg_79_11 : jx_tg 79 (11) = some 90 := rfl
theorem tg_79_15 : jx_tg 79 (15) = some 94 := rfl
theorem tg_79_18 : jx_tg 79 (18) = some 97 := rfl
theorem tg_79_92 : jx_tg 79 (92) = some 171 := rfl
theorem tg_80_5 : jx_tg 80 (5) = some 85 := rfl
theorem tg_80_7 : jx_tg 80 (7) = some 87 := rfl
theorem tg_81_m25 : jx_tg 81 (-25) = some 56 := rfl
theorem tg_81_m22 : jx_tg 81 (-22) = some 59 := rfl
theorem tg_81_7 : jx_tg 81 (7) = some 88 := rfl
theorem tg_82_m80 : jx_tg 82 (-80) = some 2 := rfl
theorem tg_82_10 : jx_tg 82 (10) = some 92 := rfl
theorem tg_83_10 : jx_tg 83 (10) = some 93 := rfl
theorem tg_84_m16 : jx_tg 84 (-16) = some 68 := rfl
theorem tg_84_4 : jx_tg 84 (4) = some 88 := rfl
theorem tg_84_10 : jx_tg 84 (10) = some 94 := rfl
theorem tg_85_4 : jx_tg 85 (4) = some 89 := rfl
theorem tg_85_25 : jx_tg 85 (25) = some 110 := rfl
theorem tg_85_67 : jx_tg 85 (67) = some 152 := rfl
theorem tg_86_34 : jx_tg 86 (34) = some 120 := rfl
theorem tg_87_9 : jx_tg 87 (9) = some 96 := rfl
theorem tg_88_m66 : jx_tg 88 (-66) = some 22 := rfl
theorem tg_88_7 : jx_tg 88 (7) = some 95 := rfl
theorem tg_88_77 : jx_tg 88 (77) = some 165 := rfl
theorem tg_91_32 : jx_tg 91 (32) = some 123 := rfl
theorem tg_91_54 : jx_tg 91 (54) = some 145 := rfl
theorem tg_92_4 : jx_tg 92 (4) = some 96 := rfl
theorem tg_92_23 : jx_tg 92 (23) = some 115 := rfl
theorem tg_94_13 : jx_tg 94 (13) = some 107 := rfl
theorem tg_95_7 : jx_tg 95 (7) = some 102 := rfl
theorem tg_96_10 : jx_tg 96 (10) = some 106 := rfl
theorem tg_98_54 : jx_tg 98 (54) = some 152 := rfl
theorem tg_99_m81 : jx_tg 99 (-81) = some 18 := rfl
theorem tg_99_4 : jx_tg 99 (4) = some 103 := rfl
theorem tg_99_10 : jx_tg 99 (10) = some 109 := rfl
theorem tg_99_11 : jx_tg 99 (11) = some 110 := rfl
theorem tg_99_34 : jx_tg 99 (34) = some 133 := rfl
theorem tg_99_38 : jx_tg 99 (38) = some 137 := rfl
theorem tg_99_66 : jx_tg 99 (66) = some 165 := rfl
theorem tg_100_7 : jx_tg 100 (7) = some 107 := rfl
theorem tg_100_78 : jx_tg 100 (78) = some 178 := rfl
theorem tg_101_10 : jx_tg 101 (10) = some 111 := rfl
theorem tg_104_4 : jx_tg 104 (4) = some 108 := rfl
theorem tg_104_7 : jx_tg 104 (7) = some 111 := rfl
theorem tg_104_16 : jx_tg 104 (16) = some 120 := rfl
theorem tg_108_10 : jx_tg 108 (10) = some 118 := rfl
theorem tg_109_16 : jx_tg 109 (16) = some 125 := rfl
theorem tg_109_69 : jx_tg 109 (69) = some 178 := rfl
theorem tg_111_7 : jx_tg 111 (7) = some 118 := rfl
theorem tg_111_35 : jx_tg 111 (35) = some 146 := rfl
theorem tg_112_m26 : jx_tg 112 (-26) = some 86 := rfl
theorem tg_112_m23 : jx_tg 112 (-23) = some 89 := rfl
theorem tg_112_7 : jx_tg 112 (7) = some 119 := rfl
theorem tg_112_10 : jx_tg 112 (10) = some 122 := rfl
theorem tg_113_7 : jx_tg 113 (7) = some 120 := rfl
theorem tg_114_7 : jx_tg 114 (7) = some 121 := rfl
theorem tg_115_4 : jx_tg 115 (4) = some 119 := rfl
theorem tg_115_7 : jx_tg 115 (7) = some 122 := rfl
theorem tg_116_14 : jx_tg 116 (14) = some 130 := rfl
theorem tg_116_26 : jx_tg 116 (26) = some 142 := rfl
theorem tg_116_36 : jx_tg 116 (36) = some 152 := rfl
theorem tg_117_4 : jx_tg 117 (4) = some 121 := rfl
theorem tg_117_20 : jx_tg 117 (20) = some 137 := rfl
theorem tg_118_7 : jx_tg 118 (7) = some 125 := rfl
theorem tg_119_4 : jx_tg 119 (4) = some 123 := rfl
theorem tg_119_6 : jx_tg 119 (6) = some 125 := rfl
theorem tg_120_30 : jx_tg 120 (30) = some 150 := rfl
theorem tg_121_4 : jx_tg 121 (4) = some 125 := rfl
theorem tg_121_10 : jx_tg 121 (10) = some 131 := rfl
theorem tg_122_43 : jx_tg 122 (43) = some 165 := rfl
theorem tg_123_14 : jx_tg 123 (14) = some 137 := rfl
theorem tg_123_26 : jx_tg 123 (26) = some 149 := rfl
theorem tg_124_72 : jx_tg 124 (72) = some 196 := rfl
theorem tg_125_10 : jx_tg 125 (10) = some 135 := rfl
theorem tg_125_12 : jx_tg 125 (12) = some 137 := rfl
theorem tg_125_65 : jx_tg 125 (65) = some 190 := rfl
theorem tg_127_25 : jx_tg 127 (25) = some 152 := rfl
theorem tg_128_7 : jx_tg 128 (7) = some 135 := rfl
theorem tg_130_7 : jx_tg 130 (7) = some 137 := rfl
theorem tg_130_15 : jx_tg 130 (15) = some 145 := rfl
theorem tg_130_17 : jx_tg 130 (17) = some 147 := rfl
theorem tg_131_65 : jx_tg 131 (65) = some 196 := rfl
theorem tg_132_7 : jx_tg 132 (7) = some 139 := rfl
theorem tg_134_4 : jx_tg 134 (4) = some 138 := rfl
theorem tg_134_9 : jx_tg 134 (9) = some 143 := rfl
theorem tg_137_7 : jx_tg 137 (7) = some 144 := rfl
theorem tg_137_15 : jx_tg 137 (15) = some 152 := rfl
theorem tg_139_m25 : jx_tg 139 (-25) = some 114 := rfl
theorem tg_140_24 : jx_tg 140 (24) = some 164 := rfl
theorem tg_141_4 : jx_tg 141 (4) = some 145 := rfl
theorem tg_142_7 : jx_tg 142 (7) = some 149 := rfl
theorem tg_142_36 : jx_tg 142 (36) = some 178 := rfl
theorem tg_142_60 : jx_tg 142 (60) = some 202 := rfl
theorem tg_143_m36 : jx_tg 143 (-36) = some 107 := rfl
theorem tg_143_12 : jx_tg 143 (12) = some 155 := rfl
theorem tg_144_9 : jx_tg 144 (9) = some 153 := rfl
theorem tg_146_m25 : jx_tg 146 (-25) = some 121 := rfl
theorem tg_146_11 : jx_tg 146 (11) = some 157 := rfl
theorem tg_147_m30 : jx_tg 147 (-30) = some 117 := rfl
theorem tg_148_568 : jx_tg 148 (568) = some 716 := rfl
theorem tg_149_3 : jx_tg 149 (3) = some 152 := rfl
theorem tg_149_26 : jx_tg 149 (26) = some 175 := rfl
theorem tg_150_14 : jx_tg 150 (14) = some 164 := rfl
theorem tg_156_7 : jx_tg 156 (7) = some 163 := rfl
theorem tg_156_10 : jx_tg 156 (10) = some 166 := rfl
theorem tg_157_43 : jx_tg 157 (43) = some 200 := rfl
theorem tg_160_4 : jx_tg 160 (4) = some 164 := rfl
theorem tg_161_4 : jx_tg 161 (4) = some 165 := rfl
theorem tg_162_7 : jx_tg 162 (7) = some 169 := rfl
theorem tg_166_4 : jx_tg 166 (4) = some 170 := rfl
theorem tg_166_36 : jx_tg 166 (36) = some 202 := rfl
theorem tg_167_33 : jx_tg 167 (33) = some 200 := rfl
theorem tg_168_m95 : jx_tg 168 (-95) = some 73 := rfl
theorem tg_172_m25 : jx_tg 172 (-25) = some 147 := rfl
theorem tg_175_3 : jx_tg 175 (3) = some 178 := rfl
theorem tg_176_7 : jx_tg 176 (7) = some 183 := rfl
theorem tg_180_4 : jx_tg 180 (4) = some 184 := rfl
theorem tg_181_535 : jx_tg 181 (535) = some 716 := rfl
theorem tg_183_17 : jx_tg 183 (17) = some 200 := rfl
theorem tg_184_51 : jx_tg 184 (51) = some 235 := rfl
theorem tg_187_45 : jx_tg 187 (45) = some 232 := rfl
theorem tg_191_m179 : jx_tg 191 (-179) = some 12 := rfl
theorem tg_197_m23 : jx_tg 197 (-23) = some 174 := rfl
theorem tg_203_30 : jx_tg 203 (30) = some 233 := rfl
theorem tg_207_24 : jx_tg 207 (24) = some 231 := rfl
theorem tg_207_111 : jx_tg 207 (111) = some 318 := rfl
theorem tg_208_4 : jx_tg 208 (4) = some 212 := rfl
theorem tg_217_101 : jx_tg 217 (101) = some 318 := rfl
theorem tg_218_15 : jx_tg 218 (15) = some 233 := rfl
theorem tg_219_126 : jx_tg 219 (126) = some 345 := rfl
theorem tg_224_492 : jx_tg 224 (492) = some 716 := rfl
theorem tg_228_m29 : jx_tg 228 (-29) = some 199 := rfl
theorem tg_229_110 : jx_tg 229 (110) = some 339 := rfl
theorem tg_232_m50 : jx_tg 232 (-50) = some 182 := rfl
theorem tg_243_8 : jx_tg 243 (8) = some 251 := rfl
theorem tg_244_7 : jx_tg 244 (7) = some 251 := rfl
theorem tg_245_6 : jx_tg 245 (6) = some 251 := rfl
theorem tg_248_4 : jx_tg 248 (4) = some 252 := rfl
theorem tg_248_85 : jx_tg 248 (85) = some 333 := rfl
theorem tg_254_16 : jx_tg 254 (16) = some 270 := rfl
theorem tg_257_5 : jx_tg 257 (5) = some 262 := rfl
theorem tg_257_459 : jx_tg 257 (459) = some 716 := rfl
theorem tg_271_37 : jx_tg 271 (37) = some 308 := rfl
theorem tg_271_62 : jx_tg 271 (62) = some 333 := rfl
theorem tg_279_29 : jx_tg 279 (29) = some 308 := rfl
theorem tg_280_436 : jx_tg 280 (436) = some 716 := rfl
theorem tg_284_43 : jx_tg 284 (43) = some 327 := rfl
theorem tg_293_423 : jx_tg 293 (423) = some 716 := rfl
theorem tg_312_41 : jx_tg 312 (41) = some 353 := rfl
theorem tg_314_8 : jx_tg 314 (8) = some 322 := rfl
theorem tg_319_5 : jx_tg 319 (5) = some 324 := rfl
theorem tg_321_m296 : jx_tg 321 (-296) = some 25 := rfl
theorem tg_326_390 : jx_tg 326 (390) = some 716 := rfl
theorem tg_330_m65 : jx_tg 330 (-65) = some 265 := rfl
theorem tg_336_m111 : jx_tg 336 (-111) = some 225 := rfl
theorem tg_342_m131 : jx_tg 342 (-131) = some 211 := rfl
theorem tg_349_367 : jx_tg 349 (367) = some 716 := rfl
theorem tg_358_95 : jx_tg 358 (95) = some 453 := rfl
theorem tg_372_344 : jx_tg 372 (344) = some 716 := rfl
theorem tg_405_311 : jx_tg 405 (311) = some 716 := rfl
theorem tg_416_7 : jx_tg 416 (7) = some 423 := rfl
theorem tg_420_4 : jx_tg 420 (4) = some 424 := rfl
theorem tg_438_7 : jx_tg 438 (7) = some 445 := rfl
theorem tg_442_4 : jx_tg 442 (4) = some 446 := rfl
theorem tg_454_262 : jx_tg 454 (262) = some 716 := rfl
theorem tg_465_7 : jx_tg 465 (7) = some 472 := rfl
theorem tg_469_4 : jx_tg 469 (4) = some 473 := rfl
theorem tg_492_7 : jx_tg 492 (7) = some 499 := rfl
theorem tg_496_4 : jx_tg 496 (4) = some 500 := rfl
theorem tg_513_203 : jx_tg 513 (203) = some 716 := rfl
theorem tg_556_160 : jx_tg 556 (160) = some 716 := rfl
theorem tg_599_117 : jx_tg 599 (117) = some 716 := rfl
theorem tg_632_84 : jx_tg 632 (84) = some 716 := rfl
theorem tg_665_51 : jx_tg 665 (51) = some 716 := rfl
theorem tg_688_28 : jx_tg 688 (28) = some 716 := rfl
theorem tg_711_5 : jx_tg 711 (5) = some 716 := rfl
theorem tg_719_m701 : jx_tg 719 (-701) = some 18 := rfl
