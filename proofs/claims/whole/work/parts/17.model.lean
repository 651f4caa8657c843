/-! the reference's cells: the object at 98, its arrays from 99 on -/
def mo_K : Nat → Nat × Nat := fun a => match a with
  | 98 => (10, 62)
  | 99 => (11, 66)
  | 100 => (12, 11)
  | 101 => (11, 21)
  | 102 => (11, 21)
  | 103 => (11, 35)
  | 104 => (11, 35)
  | 105 => (11, 35)
  | 106 => (11, 16000)
  | 107 => (11, 16000)
  | 108 => (11, 16000)
  | 109 => (11, 16000)
  | 110 => (11, 16000)
  | 111 => (11, 16000)
  | 112 => (11, 16000)
  | 113 => (11, 16000)
  | 114 => (11, 16000)
  | 115 => (11, 16000)
  | 116 => (11, 16000)
  | 117 => (12, 16000)
  | 118 => (11, 96000)
  | 119 => (11, 60)
  | 120 => (11, 60)
  | 121 => (11, 60)
  | 122 => (11, 60)
  | 123 => (12, 60)
  | 124 => (11, 60)
  | 125 => (11, 60)
  | 126 => (11, 60)
  | 127 => (11, 60)
  | 128 => (11, 4)
  | 129 => (11, 4)
  | 130 => (11, 4)
  | 131 => (11, 4)
  | 132 => (11, 4)
  | 133 => (11, 4)
  | 134 => (11, 4)
  | 135 => (11, 4)
  | 136 => (11, 12)
  | 137 => (11, 12)
  | 138 => (11, 14)
  | 139 => (12, 245760)
  | _ => (99, 0)
def mo_P : Nat → Option Nat := fun k => match k with
  | 2 => some 99
  | 3 => some 100
  | 4 => some 101
  | 5 => some 102
  | 6 => some 103
  | 7 => some 104
  | 8 => some 105
  | 12 => some 106
  | 13 => some 107
  | 14 => some 108
  | 15 => some 109
  | 16 => some 110
  | 17 => some 111
  | 18 => some 112
  | 19 => some 113
  | 20 => some 114
  | 21 => some 115
  | 22 => some 116
  | 23 => some 117
  | 24 => some 118
  | 28 => some 119
  | 29 => some 120
  | 30 => some 121
  | 31 => some 122
  | 32 => some 123
  | 33 => some 124
  | 34 => some 125
  | 35 => some 126
  | 36 => some 127
  | 37 => some 128
  | 38 => some 129
  | 39 => some 130
  | 40 => some 131
  | 41 => some 132
  | 42 => some 133
  | 43 => some 134
  | 44 => some 135
  | 45 => some 136
  | 46 => some 137
  | 60 => some 138
  | 61 => some 139
  | _ => none
def mo_ok (K : Nat → Nat × Nat) (P : Nat → Nat → Option Nat) : Prop := (∀ a, 98 ≤ a → a < 140 → K a = mo_K a) ∧ ∀ k, P 98 k = mo_P k
theorem mo_k98 {K : Nat → Nat × Nat} {P : Nat → Nat → Option Nat} (h : mo_ok K P) : K 98 = (10, 62) := h.1 98 (by decide) (by decide)
theorem mo_k99 {K : Nat → Nat × Nat} {P : Nat → Nat → Option Nat} (h : mo_ok K P) : K 99 = (11, 66) := h.1 99 (by decide) (by decide)
theorem mo_p2 {K : Nat → Nat × Nat} {P : Nat → Nat → Option Nat} (h : mo_ok K P) : P 98 2 = some 99 := h.2 2
theorem mo_k100 {K : Nat → Nat × Nat} {P : Nat → Nat → Option Nat} (h : mo_ok K P) : K 100 = (12, 11) := h.1 100 (by decide) (by decide)
theorem mo_p3 {K : Nat → Nat × Nat} {P : Nat → Nat → Option Nat} (h : mo_ok K P) : P 98 3 = some 100 := h.2 3
theorem mo_k101 {K : Nat → Nat × Nat} {P : Nat → Nat → Option Nat} (h : mo_ok K P) : K 101 = (11, 21) := h.1 101 (by decide) (by decide)
theorem mo_p4 {K : Nat → Nat × Nat} {P : Nat → Nat → Option Nat} (h : mo_ok K P) : P 98 4 = some 101 := h.2 4
theorem mo_k102 {K : Nat → Nat × Nat} {P : Nat → Nat → Option Nat} (h : mo_ok K P) : K 102 = (11, 21) := h.1 102 (by decide) (by decide)
theorem mo_p5 {K : Nat → Nat × Nat} {P : Nat → Nat → Option Nat} (h : mo_ok K P) : P 98 5 = some 102 := h.2 5
theorem mo_k103 {K : Nat → Nat × Nat} {P : Nat → Nat → Option Nat} (h : mo_ok K P) : K 103 = (11, 35) := h.1 103 (by decide) (by decide)
theorem mo_p6 {K : Nat → Nat × Nat} {P : Nat → Nat → Option Nat} (h : mo_ok K P) : P 98 6 = some 103 := h.2 6
theorem mo_k104 {K : Nat → Nat × Nat} {P : Nat → Nat → Option Nat} (h : mo_ok K P) : K 104 = (11, 35) := h.1 104 (by decide) (by decide)
theorem mo_p7 {K : Nat → Nat × Nat} {P : Nat → Nat → Option Nat} (h : mo_ok K P) : P 98 7 = some 104 := h.2 7
theorem mo_k105 {K : Nat → Nat × Nat} {P : Nat → Nat → Option Nat} (h : mo_ok K P) : K 105 = (11, 35) := h.1 105 (by decide) (by decide)
theorem mo_p8 {K : Nat → Nat × Nat} {P : Nat → Nat → Option Nat} (h : mo_ok K P) : P 98 8 = some 105 := h.2 8
theorem mo_k106 {K : Nat → Nat × Nat} {P : Nat → Nat → Option Nat} (h : mo_ok K P) : K 106 = (11, 16000) := h.1 106 (by decide) (by decide)
theorem mo_p12 {K : Nat → Nat × Nat} {P : Nat → Nat → Option Nat} (h : mo_ok K P) : P 98 12 = some 106 := h.2 12
theorem mo_k107 {K : Nat → Nat × Nat} {P : Nat → Nat → Option Nat} (h : mo_ok K P) : K 107 = (11, 16000) := h.1 107 (by decide) (by decide)
theorem mo_p13 {K : Nat → Nat × Nat} {P : Nat → Nat → Option Nat} (h : mo_ok K P) : P 98 13 = some 107 := h.2 13
theorem mo_k108 {K : Nat → Nat × Nat} {P : Nat → Nat → Option Nat} (h : mo_ok K P) : K 108 = (11, 16000) := h.1 108 (by decide) (by decide)
theorem mo_p14 {K : Nat → Nat × Nat} {P : Nat → Nat → Option Nat} (h : mo_ok K P) : P 98 14 = some 108 := h.2 14
theorem mo_k109 {K : Nat → Nat × Nat} {P : Nat → Nat → Option Nat} (h : mo_ok K P) : K 109 = (11, 16000) := h.1 109 (by decide) (by decide)
theorem mo_p15 {K : Nat → Nat × Nat} {P : Nat → Nat → Option Nat} (h : mo_ok K P) : P 98 15 = some 109 := h.2 15
theorem mo_k110 {K : Nat → Nat × Nat} {P : Nat → Nat → Option Nat} (h : mo_ok K P) : K 110 = (11, 16000) := h.1 110 (by decide) (by decide)
theorem mo_p16 {K : Nat → Nat × Nat} {P : Nat → Nat → Option Nat} (h : mo_ok K P) : P 98 16 = some 110 := h.2 16
theorem mo_k111 {K : Nat → Nat × Nat} {P : Nat → Nat → Option Nat} (h : mo_ok K P) : K 111 = (11, 16000) := h.1 111 (by decide) (by decide)
theorem mo_p17 {K : Nat → Nat × Nat} {P : Nat → Nat → Option Nat} (h : mo_ok K P) : P 98 17 = some 111 := h.2 17
theorem mo_k112 {K : Nat → Nat × Nat} {P : Nat → Nat → Option Nat} (h : mo_ok K P) : K 112 = (11, 16000) := h.1 112 (by decide) (by decide)
theorem mo_p18 {K : Nat → Nat × Nat} {P : Nat → Nat → Option Nat} (h : mo_ok K P) : P 98 18 = some 112 := h.2 18
theorem mo_k113 {K : Nat → Nat × Nat} {P : Nat → Nat → Option Nat} (h : mo_ok K P) : K 113 = (11, 16000) := h.1 113 (by decide) (by decide)
theorem mo_p19 {K : Nat → Nat × Nat} {P : Nat → Nat → Option Nat} (h : mo_ok K P) : P 98 19 = some 113 := h.2 19
theorem mo_k114 {K : Nat → Nat × Nat} {P : Nat → Nat → Option Nat} (h : mo_ok K P) : K 114 = (11, 16000) := h.1 114 (by decide) (by decide)
theorem mo_p20 {K : Nat → Nat × Nat} {P : Nat → Nat → Option Nat} (h : mo_ok K P) : P 98 20 = some 114 := h.2 20
theorem mo_k115 {K : Nat → Nat × Nat} {P : Nat → Nat → Option Nat} (h : mo_ok K P) : K 115 = (11, 16000) := h.1 115 (by decide) (by decide)
theorem mo_p21 {K : Nat → Nat × Nat} {P : Nat → Nat → Option Nat} (h : mo_ok K P) : P 98 21 = some 115 := h.2 21
theorem mo_k116 {K : Nat → Nat × Nat} {P : Nat → Nat → Option Nat} (h : mo_ok K P) : K 116 = (11, 16000) := h.1 116 (by decide) (by decide)
theorem mo_p22 {K : Nat → Nat × Nat} {P : Nat → Nat → Option Nat} (h : mo_ok K P) : P 98 22 = some 116 := h.2 22
theorem mo_k117 {K : Nat → Nat × Nat} {P : Nat → Nat → Option Nat} (h : mo_ok K P) : K 117 = (12, 16000) := h.1 117 (by decide) (by decide)
theorem mo_p23 {K : Nat → Nat × Nat} {P : Nat → Nat → Option Nat} (h : mo_ok K P) : P 98 23 = some 117 := h.2 23
theorem mo_k118 {K : Nat → Nat × Nat} {P : Nat → Nat → Option Nat} (h : mo_ok K P) : K 118 = (11, 96000) := h.1 118 (by decide) (by decide)
theorem mo_p24 {K : Nat → Nat × Nat} {P : Nat → Nat → Option Nat} (h : mo_ok K P) : P 98 24 = some 118 := h.2 24
theorem mo_k119 {K : Nat → Nat × Nat} {P : Nat → Nat → Option Nat} (h : mo_ok K P) : K 119 = (11, 60) := h.1 119 (by decide) (by decide)
theorem mo_p28 {K : Nat → Nat × Nat} {P : Nat → Nat → Option Nat} (h : mo_ok K P) : P 98 28 = some 119 := h.2 28
theorem mo_k120 {K : Nat → Nat × Nat} {P : Nat → Nat → Option Nat} (h : mo_ok K P) : K 120 = (11, 60) := h.1 120 (by decide) (by decide)
theorem mo_p29 {K : Nat → Nat × Nat} {P : Nat → Nat → Option Nat} (h : mo_ok K P) : P 98 29 = some 120 := h.2 29
theorem mo_k121 {K : Nat → Nat × Nat} {P : Nat → Nat → Option Nat} (h : mo_ok K P) : K 121 = (11, 60) := h.1 121 (by decide) (by decide)
theorem mo_p30 {K : Nat → Nat × Nat} {P : Nat → Nat → Option Nat} (h : mo_ok K P) : P 98 30 = some 121 := h.2 30
theorem mo_k122 {K : Nat → Nat × Nat} {P : Nat → Nat → Option Nat} (h : mo_ok K P) : K 122 = (11, 60) := h.1 122 (by decide) (by decide)
theorem mo_p31 {K : Nat → Nat × Nat} {P : Nat → Nat → Option Nat} (h : mo_ok K P) : P 98 31 = some 122 := h.2 31
theorem mo_k123 {K : Nat → Nat × Nat} {P : Nat → Nat → Option Nat} (h : mo_ok K P) : K 123 = (12, 60) := h.1 123 (by decide) (by decide)
theorem mo_p32 {K : Nat → Nat × Nat} {P : Nat → Nat → Option Nat} (h : mo_ok K P) : P 98 32 = some 123 := h.2 32
theorem mo_k124 {K : Nat → Nat × Nat} {P : Nat → Nat → Option Nat} (h : mo_ok K P) : K 124 = (11, 60) := h.1 124 (by decide) (by decide)
theorem mo_p33 {K : Nat → Nat × Nat} {P : Nat → Nat → Option Nat} (h : mo_ok K P) : P 98 33 = some 124 := h.2 33
theorem mo_k125 {K : Nat → Nat × Nat} {P : Nat → Nat → Option Nat} (h : mo_ok K P) : K 125 = (11, 60) := h.1 125 (by decide) (by decide)
theorem mo_p34 {K : Nat → Nat × Nat} {P : Nat → Nat → Option Nat} (h : mo_ok K P) : P 98 34 = some 125 := h.2 34
theorem mo_k126 {K : Nat → Nat × Nat} {P : Nat → Nat → Option Nat} (h : mo_ok K P) : K 126 = (11, 60) := h.1 126 (by decide) (by decide)
theorem mo_p35 {K : Nat → Nat × Nat} {P : Nat → Nat → Option Nat} (h : mo_ok K P) : P 98 35 = some 126 := h.2 35
theorem mo_k127 {K : Nat → Nat × Nat} {P : Nat → Nat → Option Nat} (h : mo_ok K P) : K 127 = (11, 60) := h.1 127 (by decide) (by decide)
theorem mo_p36 {K : Nat → Nat × Nat} {P : Nat → Nat → Option Nat} (h : mo_ok K P) : P 98 36 = some 127 := h.2 36
theorem mo_k128 {K : Nat → Nat × Nat} {P : Nat → Nat → Option Nat} (h : mo_ok K P) : K 128 = (11, 4) := h.1 128 (by decide) (by decide)
theorem mo_p37 {K : Nat → Nat × Nat} {P : Nat → Nat → Option Nat} (h : mo_ok K P) : P 98 37 = some 128 := h.2 37
theorem mo_k129 {K : Nat → Nat × Nat} {P : Nat → Nat → Option Nat} (h : mo_ok K P) : K 129 = (11, 4) := h.1 129 (by decide) (by decide)
theorem mo_p38 {K : Nat → Nat × Nat} {P : Nat → Nat → Option Nat} (h : mo_ok K P) : P 98 38 = some 129 := h.2 38
theorem mo_k130 {K : Nat → Nat × Nat} {P : Nat → Nat → Option Nat} (h : mo_ok K P) : K 130 = (11, 4) := h.1 130 (by decide) (by decide)
theorem mo_p39 {K : Nat → Nat × Nat} {P : Nat → Nat → Option Nat} (h : mo_ok K P) : P 98 39 = some 130 := h.2 39
theorem mo_k131 {K : Nat → Nat × Nat} {P : Nat → Nat → Option Nat} (h : mo_ok K P) : K 131 = (11, 4) := h.1 131 (by decide) (by decide)
theorem mo_p40 {K : Nat → Nat × Nat} {P : Nat → Nat → Option Nat} (h : mo_ok K P) : P 98 40 = some 131 := h.2 40
theorem mo_k132 {K : Nat → Nat × Nat} {P : Nat → Nat → Option Nat} (h : mo_ok K P) : K 132 = (11, 4) := h.1 132 (by decide) (by decide)
theorem mo_p41 {K : Nat → Nat × Nat} {P : Nat → Nat → Option Nat} (h : mo_ok K P) : P 98 41 = some 132 := h.2 41
theorem mo_k133 {K : Nat → Nat × Nat} {P : Nat → Nat → Option Nat} (h : mo_ok K P) : K 133 = (11, 4) := h.1 133 (by decide) (by decide)
theorem mo_p42 {K : Nat → Nat × Nat} {P : Nat → Nat → Option Nat} (h : mo_ok K P) : P 98 42 = some 133 := h.2 42
theorem mo_k134 {K : Nat → Nat × Nat} {P : Nat → Nat → Option Nat} (h : mo_ok K P) : K 134 = (11, 4) := h.1 134 (by decide) (by decide)
theorem mo_p43 {K : Nat → Nat × Nat} {P : Nat → Nat → Option Nat} (h : mo_ok K P) : P 98 43 = some 134 := h.2 43
theorem mo_k135 {K : Nat → Nat × Nat} {P : Nat → Nat → Option Nat} (h : mo_ok K P) : K 135 = (11, 4) := h.1 135 (by decide) (by decide)
theorem mo_p44 {K : Nat → Nat × Nat} {P : Nat → Nat → Option Nat} (h : mo_ok K P) : P 98 44 = some 135 := h.2 44
theorem mo_k136 {K : Nat → Nat × Nat} {P : Nat → Nat → Option Nat} (h : mo_ok K P) : K 136 = (11, 12) := h.1 136 (by decide) (by decide)
theorem mo_p45 {K : Nat → Nat × Nat} {P : Nat → Nat → Option Nat} (h : mo_ok K P) : P 98 45 = some 136 := h.2 45
theorem mo_k137 {K : Nat → Nat × Nat} {P : Nat → Nat → Option Nat} (h : mo_ok K P) : K 137 = (11, 12) := h.1 137 (by decide) (by decide)
theorem mo_p46 {K : Nat → Nat × Nat} {P : Nat → Nat → Option Nat} (h : mo_ok K P) : P 98 46 = some 137 := h.2 46
theorem mo_k138 {K : Nat → Nat × Nat} {P : Nat → Nat → Option Nat} (h : mo_ok K P) : K 138 = (11, 14) := h.1 138 (by decide) (by decide)
theorem mo_p60 {K : Nat → Nat × Nat} {P : Nat → Nat → Option Nat} (h : mo_ok K P) : P 98 60 = some 138 := h.2 60
theorem mo_k139 {K : Nat → Nat × Nat} {P : Nat → Nat → Option Nat} (h : mo_ok K P) : K 139 = (12, 245760) := h.1 139 (by decide) (by decide)
theorem mo_p61 {K : Nat → Nat × Nat} {P : Nat → Nat → Option Nat} (h : mo_ok K P) : P 98 61 = some 139 := h.2 61
theorem jx_nb (x : Int32) : narrow .boolean (.int x) = .int (x &&& 1) := rfl
theorem jx_nb0 : narrow .boolean (.int 0) = .int 0 := rfl
theorem jx_nb1 : narrow .boolean (.int 1) = .int 1 := rfl
theorem jx_ni (x : Int32) : narrow .int (.int x) = .int x := rfl
theorem jx_a0 : (0 : Int32) &&& 1 = 0 := rfl
theorem jx_a1 : (1 : Int32) &&& 1 = 1 := rfl
theorem fv_0_0 (x : Int32) : jx_fitv (jx_ft 0 0) (.inl x) = True := eq_true ⟨rfl, rfl⟩
theorem fv_0_1 (r : Option Nat) : jx_fitv (jx_ft 0 1) (.inr r) = True := eq_true rfl
theorem fv_0_2 (x : Int32) : jx_fitv (jx_ft 0 2) (.inl x) = True := eq_true ⟨rfl, rfl⟩
theorem fv_1_0 (r : Option Nat) : jx_fitv (jx_ft 1 0) (.inr r) = True := eq_true rfl
theorem fv_1_1 (r : Option Nat) : jx_fitv (jx_ft 1 1) (.inr r) = True := eq_true rfl
theorem fv_1_2 (x : Int32) : jx_fitv (jx_ft 1 2) (.inl x) = True := eq_true ⟨rfl, rfl⟩
theorem fv_2_0 (x : Int32) : jx_fitv (jx_ft 2 0) (.inl x) = True := eq_true ⟨rfl, rfl⟩
theorem fv_2_1 (r : Option Nat) : jx_fitv (jx_ft 2 1) (.inr r) = True := eq_true rfl
theorem fv_2_2 (r : Option Nat) : jx_fitv (jx_ft 2 2) (.inr r) = True := eq_true rfl
theorem fv_2_3 (r : Option Nat) : jx_fitv (jx_ft 2 3) (.inr r) = True := eq_true rfl
theorem fv_2_4 (r : Option Nat) : jx_fitv (jx_ft 2 4) (.inr r) = True := eq_true rfl
theorem fv_2_5 (x : Int32) : jx_fitv (jx_ft 2 5) (.inl x) = (x &&& 1 = x) := propext ⟨fun h => by have h2 := h.2; exact Value.int.inj h2, fun h => ⟨rfl, by show Value.int (x &&& 1) = _; rw [h]⟩⟩
theorem fv_2_6 (x : Int32) : jx_fitv (jx_ft 2 6) (.inl x) = True := eq_true ⟨rfl, rfl⟩
theorem fv_2_7 (x : Int32) : jx_fitv (jx_ft 2 7) (.inl x) = True := eq_true ⟨rfl, rfl⟩
theorem fv_2_8 (x : Int32) : jx_fitv (jx_ft 2 8) (.inl x) = True := eq_true ⟨rfl, rfl⟩
theorem fv_2_9 (x : Int32) : jx_fitv (jx_ft 2 9) (.inl x) = True := eq_true ⟨rfl, rfl⟩
theorem fv_2_10 (x : Int32) : jx_fitv (jx_ft 2 10) (.inl x) = True := eq_true ⟨rfl, rfl⟩
theorem fv_2_11 (x : Int32) : jx_fitv (jx_ft 2 11) (.inl x) = True := eq_true ⟨rfl, rfl⟩
theorem fv_2_12 (x : Int32) : jx_fitv (jx_ft 2 12) (.inl x) = True := eq_true ⟨rfl, rfl⟩
theorem fv_2_13 (x : Int32) : jx_fitv (jx_ft 2 13) (.inl x) = True := eq_true ⟨rfl, rfl⟩
theorem fv_3_0 (r : Option Nat) : jx_fitv (jx_ft 3 0) (.inr r) = True := eq_true rfl
theorem fv_3_1 (x : Int32) : jx_fitv (jx_ft 3 1) (.inl x) = True := eq_true ⟨rfl, rfl⟩
theorem fv_3_2 (x : Int32) : jx_fitv (jx_ft 3 2) (.inl x) = True := eq_true ⟨rfl, rfl⟩
theorem fv_3_3 (x : Int32) : jx_fitv (jx_ft 3 3) (.inl x) = True := eq_true ⟨rfl, rfl⟩
theorem fv_4_0 (r : Option Nat) : jx_fitv (jx_ft 4 0) (.inr r) = True := eq_true rfl
theorem fv_4_1 (r : Option Nat) : jx_fitv (jx_ft 4 1) (.inr r) = True := eq_true rfl
theorem fv_4_2 (r : Option Nat) : jx_fitv (jx_ft 4 2) (.inr r) = True := eq_true rfl
theorem fv_4_3 (x : Int32) : jx_fitv (jx_ft 4 3) (.inl x) = True := eq_true ⟨rfl, rfl⟩
theorem fv_4_4 (x : Int32) : jx_fitv (jx_ft 4 4) (.inl x) = True := eq_true ⟨rfl, rfl⟩
theorem fv_4_5 (x : Int32) : jx_fitv (jx_ft 4 5) (.inl x) = True := eq_true ⟨rfl, rfl⟩
theorem fv_4_6 (x : Int32) : jx_fitv (jx_ft 4 6) (.inl x) = True := eq_true ⟨rfl, rfl⟩
theorem fv_4_7 (x : Int32) : jx_fitv (jx_ft 4 7) (.inl x) = True := eq_true ⟨rfl, rfl⟩
theorem fv_4_8 (x : Int32) : jx_fitv (jx_ft 4 8) (.inl x) = (x &&& 1 = x) := propext ⟨fun h => by have h2 := h.2; exact Value.int.inj h2, fun h => ⟨rfl, by show Value.int (x &&& 1) = _; rw [h]⟩⟩
theorem fv_5_0 (x : Int32) : jx_fitv (jx_ft 5 0) (.inl x) = True := eq_true ⟨rfl, rfl⟩
theorem fv_5_1 (x : Int32) : jx_fitv (jx_ft 5 1) (.inl x) = True := eq_true ⟨rfl, rfl⟩
theorem fv_5_2 (x : Int32) : jx_fitv (jx_ft 5 2) (.inl x) = True := eq_true ⟨rfl, rfl⟩
theorem fv_5_3 (x : Int32) : jx_fitv (jx_ft 5 3) (.inl x) = True := eq_true ⟨rfl, rfl⟩
theorem fv_5_4 (x : Int32) : jx_fitv (jx_ft 5 4) (.inl x) = True := eq_true ⟨rfl, rfl⟩
theorem fv_5_5 (x : Int32) : jx_fitv (jx_ft 5 5) (.inl x) = True := eq_true ⟨rfl, rfl⟩
theorem fv_5_6 (x : Int32) : jx_fitv (jx_ft 5 6) (.inl x) = True := eq_true ⟨rfl, rfl⟩
theorem fv_5_7 (x : Int32) : jx_fitv (jx_ft 5 7) (.inl x) = True := eq_true ⟨rfl, rfl⟩
theorem fv_5_8 (x : Int32) : jx_fitv (jx_ft 5 8) (.inl x) = True := eq_true ⟨rfl, rfl⟩
theorem fv_6_0 (r : Option Nat) : jx_fitv (jx_ft 6 0) (.inr r) = True := eq_true rfl
theorem fv_6_1 (r : Option Nat) : jx_fitv (jx_ft 6 1) (.inr r) = True := eq_true rfl
theorem fv_6_2 (r : Option Nat) : jx_fitv (jx_ft 6 2) (.inr r) = True := eq_true rfl
theorem fv_6_3 (r : Option Nat) : jx_fitv (jx_ft 6 3) (.inr r) = True := eq_true rfl
theorem fv_6_4 (r : Option Nat) : jx_fitv (jx_ft 6 4) (.inr r) = True := eq_true rfl
theorem fv_6_5 (r : Option Nat) : jx_fitv (jx_ft 6 5) (.inr r) = True := eq_true rfl
theorem fv_6_6 (x : Int32) : jx_fitv (jx_ft 6 6) (.inl x) = True := eq_true ⟨rfl, rfl⟩
theorem fv_7_0 (r : Option Nat) : jx_fitv (jx_ft 7 0) (.inr r) = True := eq_true rfl
theorem fv_7_1 (r : Option Nat) : jx_fitv (jx_ft 7 1) (.inr r) = True := eq_true rfl
theorem fv_7_2 (r : Option Nat) : jx_fitv (jx_ft 7 2) (.inr r) = True := eq_true rfl
theorem fv_7_3 (r : Option Nat) : jx_fitv (jx_ft 7 3) (.inr r) = True := eq_true rfl
theorem fv_7_4 (r : Option Nat) : jx_fitv (jx_ft 7 4) (.inr r) = True := eq_true rfl
theorem fv_7_5 (r : Option Nat) : jx_fitv (jx_ft 7 5) (.inr r) = True := eq_true rfl
theorem fv_7_6 (x : Int32) : jx_fitv (jx_ft 7 6) (.inl x) = (x &&& 1 = x) := propext ⟨fun h => by have h2 := h.2; exact Value.int.inj h2, fun h => ⟨rfl, by show Value.int (x &&& 1) = _; rw [h]⟩⟩
theorem fv_8_0 (r : Option Nat) : jx_fitv (jx_ft 8 0) (.inr r) = True := eq_true rfl
theorem fv_9_0 (r : Option Nat) : jx_fitv (jx_ft 9 0) (.inr r) = True := eq_true rfl
theorem fv_9_1 (r : Option Nat) : jx_fitv (jx_ft 9 1) (.inr r) = True := eq_true rfl
theorem fv_9_2 (r : Option Nat) : jx_fitv (jx_ft 9 2) (.inr r) = True := eq_true rfl
theorem fv_9_3 (r : Option Nat) : jx_fitv (jx_ft 9 3) (.inr r) = True := eq_true rfl
theorem fv_9_4 (r : Option Nat) : jx_fitv (jx_ft 9 4) (.inr r) = True := eq_true rfl
theorem fv_9_5 (x : Int32) : jx_fitv (jx_ft 9 5) (.inl x) = True := eq_true ⟨rfl, rfl⟩
theorem fv_9_6 (x : Int32) : jx_fitv (jx_ft 9 6) (.inl x) = True := eq_true ⟨rfl, rfl⟩
theorem fv_10_0 (x : Int32) : jx_fitv (jx_ft 10 0) (.inl x) = True := eq_true ⟨rfl, rfl⟩
theorem fv_10_1 (x : Int32) : jx_fitv (jx_ft 10 1) (.inl x) = True := eq_true ⟨rfl, rfl⟩
theorem fv_10_2 (r : Option Nat) : jx_fitv (jx_ft 10 2) (.inr r) = True := eq_true rfl
theorem fv_10_3 (r : Option Nat) : jx_fitv (jx_ft 10 3) (.inr r) = True := eq_true rfl
theorem fv_10_4 (r : Option Nat) : jx_fitv (jx_ft 10 4) (.inr r) = True := eq_true rfl
theorem fv_10_5 (r : Option Nat) : jx_fitv (jx_ft 10 5) (.inr r) = True := eq_true rfl
theorem fv_10_6 (r : Option Nat) : jx_fitv (jx_ft 10 6) (.inr r) = True := eq_true rfl
theorem fv_10_7 (r : Option Nat) : jx_fitv (jx_ft 10 7) (.inr r) = True := eq_true rfl
theorem fv_10_8 (r : Option Nat) : jx_fitv (jx_ft 10 8) (.inr r) = True := eq_true rfl
theorem fv_10_9 (x : Int32) : jx_fitv (jx_ft 10 9) (.inl x) = True := eq_true ⟨rfl, rfl⟩
theorem fv_10_10 (x : Int32) : jx_fitv (jx_ft 10 10) (.inl x) = True := eq_true ⟨rfl, rfl⟩
theorem fv_10_11 (x : Int32) : jx_fitv (jx_ft 10 11) (.inl x) = True := eq_true ⟨rfl, rfl⟩
theorem fv_10_12 (r : Option Nat) : jx_fitv (jx_ft 10 12) (.inr r) = True := eq_true rfl
theorem fv_10_13 (r : Option Nat) : jx_fitv (jx_ft 10 13) (.inr r) = True := eq_true rfl
theorem fv_10_14 (r : Option Nat) : jx_fitv (jx_ft 10 14) (.inr r) = True := eq_true rfl
theorem fv_10_15 (r : Option Nat) : jx_fitv (jx_ft 10 15) (.inr r) = True := eq_true rfl
theorem fv_10_16 (r : Option Nat) : jx_fitv (jx_ft 10 16) (.inr r) = True := eq_true rfl
theorem fv_10_17 (r : Option Nat) : jx_fitv (jx_ft 10 17) (.inr r) = True := eq_true rfl
theorem fv_10_18 (r : Option Nat) : jx_fitv (jx_ft 10 18) (.inr r) = True := eq_true rfl
theorem fv_10_19 (r : Option Nat) : jx_fitv (jx_ft 10 19) (.inr r) = True := eq_true rfl
theorem fv_10_20 (r : Option Nat) : jx_fitv (jx_ft 10 20) (.inr r) = True := eq_true rfl
theorem fv_10_21 (r : Option Nat) : jx_fitv (jx_ft 10 21) (.inr r) = True := eq_true rfl
theorem fv_10_22 (r : Option Nat) : jx_fitv (jx_ft 10 22) (.inr r) = True := eq_true rfl
theorem fv_10_23 (r : Option Nat) : jx_fitv (jx_ft 10 23) (.inr r) = True := eq_true rfl
theorem fv_10_24 (r : Option Nat) : jx_fitv (jx_ft 10 24) (.inr r) = True := eq_true rfl
theorem fv_10_25 (x : Int32) : jx_fitv (jx_ft 10 25) (.inl x) = True := eq_true ⟨rfl, rfl⟩
theorem fv_10_26 (x : Int32) : jx_fitv (jx_ft 10 26) (.inl x) = True := eq_true ⟨rfl, rfl⟩
theorem fv_10_27 (x : Int32) : jx_fitv (jx_ft 10 27) (.inl x) = True := eq_true ⟨rfl, rfl⟩
theorem fv_10_28 (r : Option Nat) : jx_fitv (jx_ft 10 28) (.inr r) = True := eq_true rfl
theorem fv_10_29 (r : Option Nat) : jx_fitv (jx_ft 10 29) (.inr r) = True := eq_true rfl
theorem fv_10_30 (r : Option Nat) : jx_fitv (jx_ft 10 30) (.inr r) = True := eq_true rfl
theorem fv_10_31 (r : Option Nat) : jx_fitv (jx_ft 10 31) (.inr r) = True := eq_true rfl
theorem fv_10_32 (r : Option Nat) : jx_fitv (jx_ft 10 32) (.inr r) = True := eq_true rfl
theorem fv_10_33 (r : Option Nat) : jx_fitv (jx_ft 10 33) (.inr r) = True := eq_true rfl
theorem fv_10_34 (r : Option Nat) : jx_fitv (jx_ft 10 34) (.inr r) = True := eq_true rfl
theorem fv_10_35 (r : Option Nat) : jx_fitv (jx_ft 10 35) (.inr r) = True := eq_true rfl
theorem fv_10_36 (r : Option Nat) : jx_fitv (jx_ft 10 36) (.inr r) = True := eq_true rfl
theorem fv_10_37 (r : Option Nat) : jx_fitv (jx_ft 10 37) (.inr r) = True := eq_true rfl
theorem fv_10_38 (r : Option Nat) : jx_fitv (jx_ft 10 38) (.inr r) = True := eq_true rfl
theorem fv_10_39 (r : Option Nat) : jx_fitv (jx_ft 10 39) (.inr r) = True := eq_true rfl
theorem fv_10_40 (r : Option Nat) : jx_fitv (jx_ft 10 40) (.inr r) = True := eq_true rfl
theorem fv_10_41 (r : Option Nat) : jx_fitv (jx_ft 10 41) (.inr r) = True := eq_true rfl
theorem fv_10_42 (r : Option Nat) : jx_fitv (jx_ft 10 42) (.inr r) = True := eq_true rfl
theorem fv_10_43 (r : Option Nat) : jx_fitv (jx_ft 10 43) (.inr r) = True := eq_true rfl
theorem fv_10_44 (r : Option Nat) : jx_fitv (jx_ft 10 44) (.inr r) = True := eq_true rfl
theorem fv_10_45 (r : Option Nat) : jx_fitv (jx_ft 10 45) (.inr r) = True := eq_true rfl
theorem fv_10_46 (r : Option Nat) : jx_fitv (jx_ft 10 46) (.inr r) = True := eq_true rfl
theorem fv_10_47 (x : Int32) : jx_fitv (jx_ft 10 47) (.inl x) = True := eq_true ⟨rfl, rfl⟩
theorem fv_10_48 (x : Int32) : jx_fitv (jx_ft 10 48) (.inl x) = True := eq_true ⟨rfl, rfl⟩
theorem fv_10_49 (x : Int32) : jx_fitv (jx_ft 10 49) (.inl x) = True := eq_true ⟨rfl, rfl⟩
theorem fv_10_50 (x : Int32) : jx_fitv (jx_ft 10 50) (.inl x) = True := eq_true ⟨rfl, rfl⟩
theorem fv_10_51 (x : Int32) : jx_fitv (jx_ft 10 51) (.inl x) = True := eq_true ⟨rfl, rfl⟩
theorem fv_10_52 (x : Int32) : jx_fitv (jx_ft 10 52) (.inl x) = True := eq_true ⟨rfl, rfl⟩
theorem fv_10_53 (x : Int32) : jx_fitv (jx_ft 10 53) (.inl x) = True := eq_true ⟨rfl, rfl⟩
theorem fv_10_54 (x : Int32) : jx_fitv (jx_ft 10 54) (.inl x) = True := eq_true ⟨rfl, rfl⟩
theorem fv_10_55 (x : Int32) : jx_fitv (jx_ft 10 55) (.inl x) = True := eq_true ⟨rfl, rfl⟩
theorem fv_10_56 (x : Int32) : jx_fitv (jx_ft 10 56) (.inl x) = True := eq_true ⟨rfl, rfl⟩
theorem fv_10_57 (x : Int32) : jx_fitv (jx_ft 10 57) (.inl x) = True := eq_true ⟨rfl, rfl⟩
theorem fv_10_58 (x : Int32) : jx_fitv (jx_ft 10 58) (.inl x) = (x &&& 1 = x) := propext ⟨fun h => by have h2 := h.2; exact Value.int.inj h2, fun h => ⟨rfl, by show Value.int (x &&& 1) = _; rw [h]⟩⟩
theorem fv_10_59 (x : Int32) : jx_fitv (jx_ft 10 59) (.inl x) = True := eq_true ⟨rfl, rfl⟩
theorem fv_10_60 (r : Option Nat) : jx_fitv (jx_ft 10 60) (.inr r) = True := eq_true rfl
theorem fv_10_61 (r : Option Nat) : jx_fitv (jx_ft 10 61) (.inr r) = True := eq_true rfl
