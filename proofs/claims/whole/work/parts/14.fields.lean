theorem jx_mt1 {w : Cond} (h : w ∈ tables_1_1) : w ∈ lw_tbl := List.mem_append_right _ (List.mem_append_left _ h)
theorem jx_mt2 {w : Cond} (h : w ∈ tables_1_2) : w ∈ lw_tbl := List.mem_append_right _ (List.mem_append_right _ (List.mem_append_left _ h))
theorem jx_mt3 {w : Cond} (h : w ∈ tables_1_3) : w ∈ lw_tbl := List.mem_append_right _ (List.mem_append_right _ (List.mem_append_right _ (List.mem_append_left _ h)))
theorem jx_mt4 {w : Cond} (h : w ∈ tables_1_4) : w ∈ lw_tbl := List.mem_append_right _ (List.mem_append_right _ (List.mem_append_right _ (List.mem_append_right _ (List.mem_append_left _ h))))
theorem jx_mt5 {w : Cond} (h : w ∈ tables_1_5) : w ∈ lw_tbl := List.mem_append_right _ (List.mem_append_right _ (List.mem_append_right _ (List.mem_append_right _ (List.mem_append_right _ (List.mem_append_left _ h)))))
theorem jx_mt6 {w : Cond} (h : w ∈ tables_1_6) : w ∈ lw_tbl := List.mem_append_right _ (List.mem_append_right _ (List.mem_append_right _ (List.mem_append_right _ (List.mem_append_right _ (List.mem_append_right _ (h))))))
theorem jx_sf : Cond.sameField "java/util/ArrayList" "java/util/AbstractList" "modCount" "I" ∈ jx_tb := jx_mem (jx_mt1 (List.mem_of_getElem? (i := 57) rfl)) rfl
def fl_Jx4a65c : Nat → Option (Nat × Nat) := fun i => match i with
  | 9 => some (0, 1)
  | 48 => some (0, 2)
  | 63 => some (0, 0)
  | _ => none
theorem fl_Jx4a65c_9 : fl_Jx4a65c 9 = some (0, 1) := rfl
theorem fl_Jx4a65c_48 : fl_Jx4a65c 48 = some (0, 2) := rfl
theorem fl_Jx4a65c_63 : fl_Jx4a65c 63 = some (0, 0) := rfl
theorem flok_Jx4a65c : ∀ i c k, fl_Jx4a65c i = some (c, k) → jx_Fl RJx4a65c i c k := by
  intro i c k h
  unfold fl_Jx4a65c at h
  split at h
  · cases h; exact ⟨(RJx4a65c, TJx4a65c, 3), "java/util/ArrayList", rfl, by decide, jx_mem (jx_mt1 (List.mem_of_getElem? (i := 53) rfl)) rfl, Or.inl rfl⟩
  · cases h; exact ⟨(RJx4a65c, TJx4a65c, 3), "java/util/ArrayList", rfl, by decide, jx_mem (jx_mt1 (List.mem_of_getElem? (i := 54) rfl)) rfl, Or.inl rfl⟩
  · cases h; exact ⟨(RJx4a65c, TJx4a65c, 3), "java/util/ArrayList", rfl, by decide, jx_mem (jx_mt1 (List.mem_of_getElem? (i := 56) rfl)) rfl, Or.inr jx_sf⟩
  · cases h
def fw_Jx4a65c : Nat → Option (Nat × Nat) := fun i => match i with
  | 9 => some (0, 1)
  | 48 => some (0, 2)
  | 63 => some (0, 0)
  | _ => none
theorem fw_Jx4a65c_9 : fw_Jx4a65c 9 = some (0, 1) := rfl
theorem fw_Jx4a65c_48 : fw_Jx4a65c 48 = some (0, 2) := rfl
theorem fw_Jx4a65c_63 : fw_Jx4a65c 63 = some (0, 0) := rfl
theorem fwok_Jx4a65c {y : MethodName} (hy : y.cls = RJx4a65c) : ∀ i c k, fw_Jx4a65c i = some (c, k) → jx_Fw y i c k := by
  intro i c k h
  unfold fw_Jx4a65c at h
  split at h
  · cases h; exact ⟨(RJx4a65c, TJx4a65c, 3), "java/util/ArrayList", rfl, by decide, by rw [hy]; exact jx_mem (jx_mt1 (List.mem_of_getElem? (i := 53) rfl)) rfl, Or.inl rfl, Or.inl rfl⟩
  · cases h; exact ⟨(RJx4a65c, TJx4a65c, 3), "java/util/ArrayList", rfl, by decide, by rw [hy]; exact jx_mem (jx_mt1 (List.mem_of_getElem? (i := 54) rfl)) rfl, Or.inl rfl, Or.inl rfl⟩
  · cases h; exact ⟨(RJx4a65c, TJx4a65c, 3), "java/util/ArrayList", rfl, by decide, by rw [hy]; exact jx_mem (jx_mt1 (List.mem_of_getElem? (i := 56) rfl)) rfl, Or.inr jx_sf, Or.inl rfl⟩
  · cases h
def fi_Jx4a65c : Nat → Option (Nat × Nat) := fun i => match i with
  | 9 => some (0, 1)
  | 48 => some (0, 2)
  | 63 => some (0, 0)
  | _ => none
theorem fi_Jx4a65c_9 : fi_Jx4a65c 9 = some (0, 1) := rfl
theorem fi_Jx4a65c_48 : fi_Jx4a65c 48 = some (0, 2) := rfl
theorem fi_Jx4a65c_63 : fi_Jx4a65c 63 = some (0, 0) := rfl
theorem fiok_Jx4a65c : ∀ i c k, fi_Jx4a65c i = some (c, k) → jx_Fw yJx4a65c_init_da8c8 i c k := by
  intro i c k h
  unfold fi_Jx4a65c at h
  split at h
  · cases h; exact ⟨(RJx4a65c, TJx4a65c, 3), "java/util/ArrayList", rfl, by decide, jx_mem (jx_mt1 (List.mem_of_getElem? (i := 53) rfl)) rfl, Or.inl rfl, Or.inl rfl⟩
  · cases h; exact ⟨(RJx4a65c, TJx4a65c, 3), "java/util/ArrayList", rfl, by decide, jx_mem (jx_mt1 (List.mem_of_getElem? (i := 54) rfl)) rfl, Or.inl rfl, Or.inl rfl⟩
  · cases h; exact ⟨(RJx4a65c, TJx4a65c, 3), "java/util/ArrayList", rfl, by decide, jx_mem (jx_mt1 (List.mem_of_getElem? (i := 56) rfl)) rfl, Or.inr jx_sf, Or.inl rfl⟩
  · cases h
def fl_Jxc12de : Nat → Option (Nat × Nat) := fun i => match i with
  | 7 => some (0, 0)
  | _ => none
theorem fl_Jxc12de_7 : fl_Jxc12de 7 = some (0, 0) := rfl
theorem flok_Jxc12de : ∀ i c k, fl_Jxc12de i = some (c, k) → jx_Fl RJxc12de i c k := by
  intro i c k h
  unfold fl_Jxc12de at h
  split at h
  · cases h; exact ⟨(RJx4a65c, TJx4a65c, 3), "java/util/AbstractList", rfl, by decide, jx_mem (jx_mt1 (List.mem_of_getElem? (i := 55) rfl)) rfl, Or.inl rfl⟩
  · cases h
def fw_Jxc12de : Nat → Option (Nat × Nat) := fun i => match i with
  | 7 => some (0, 0)
  | _ => none
theorem fw_Jxc12de_7 : fw_Jxc12de 7 = some (0, 0) := rfl
theorem fwok_Jxc12de {y : MethodName} (hy : y.cls = RJxc12de) : ∀ i c k, fw_Jxc12de i = some (c, k) → jx_Fw y i c k := by
  intro i c k h
  unfold fw_Jxc12de at h
  split at h
  · cases h; exact ⟨(RJx4a65c, TJx4a65c, 3), "java/util/AbstractList", rfl, by decide, by rw [hy]; exact jx_mem (jx_mt1 (List.mem_of_getElem? (i := 55) rfl)) rfl, Or.inl rfl, Or.inl rfl⟩
  · cases h
def fi_Jxc12de : Nat → Option (Nat × Nat) := fun i => match i with
  | 7 => some (0, 0)
  | _ => none
theorem fi_Jxc12de_7 : fi_Jxc12de 7 = some (0, 0) := rfl
theorem fiok_Jxc12de : ∀ i c k, fi_Jxc12de i = some (c, k) → jx_Fw yJxc12de_init_da8c8 i c k := by
  intro i c k h
  unfold fi_Jxc12de at h
  split at h
  · cases h; exact ⟨(RJx4a65c, TJx4a65c, 3), "java/util/AbstractList", rfl, by decide, jx_mem (jx_mt1 (List.mem_of_getElem? (i := 55) rfl)) rfl, Or.inl rfl, Or.inl rfl⟩
  · cases h
def fl_X0 : Nat → Option (Nat × Nat) := fun i => match i with
  | 10 => some (1, 0)
  | 16 => some (1, 1)
  | 36 => some (1, 2)
  | 54 => some (4, 3)
  | 57 => some (4, 4)
  | 60 => some (4, 5)
  | 63 => some (4, 0)
  | _ => none
theorem fl_X0_10 : fl_X0 10 = some (1, 0) := rfl
theorem fl_X0_16 : fl_X0 16 = some (1, 1) := rfl
theorem fl_X0_36 : fl_X0 36 = some (1, 2) := rfl
theorem fl_X0_54 : fl_X0 54 = some (4, 3) := rfl
theorem fl_X0_57 : fl_X0 57 = some (4, 4) := rfl
theorem fl_X0_60 : fl_X0 60 = some (4, 5) := rfl
theorem fl_X0_63 : fl_X0 63 = some (4, 0) := rfl
theorem flok_X0 : ∀ i c k, fl_X0 i = some (c, k) → jx_Fl RX0 i c k := by
  intro i c k h
  unfold fl_X0 at h
  split at h
  · cases h; exact ⟨(RX0, TX0, 3), "RegisterFleet$Bag", rfl, by decide, jx_mem (jx_mt1 (List.mem_of_getElem? (i := 65) rfl)) rfl, Or.inl rfl⟩
  · cases h; exact ⟨(RX0, TX0, 3), "RegisterFleet$Bag", rfl, by decide, jx_mem (jx_mt1 (List.mem_of_getElem? (i := 66) rfl)) rfl, Or.inl rfl⟩
  · cases h; exact ⟨(RX0, TX0, 3), "RegisterFleet$Bag", rfl, by decide, jx_mem (jx_mt1 (List.mem_of_getElem? (i := 67) rfl)) rfl, Or.inl rfl⟩
  · cases h; exact ⟨(RX3, TX3, 9), "RegisterFleet$Message", rfl, by decide, jx_mem (jx_mt3 (List.mem_of_getElem? (i := 46) rfl)) rfl, Or.inl rfl⟩
  · cases h; exact ⟨(RX3, TX3, 9), "RegisterFleet$Message", rfl, by decide, jx_mem (jx_mt3 (List.mem_of_getElem? (i := 50) rfl)) rfl, Or.inl rfl⟩
  · cases h; exact ⟨(RX3, TX3, 9), "RegisterFleet$Message", rfl, by decide, jx_mem (jx_mt3 (List.mem_of_getElem? (i := 52) rfl)) rfl, Or.inl rfl⟩
  · cases h; exact ⟨(RX3, TX3, 9), "RegisterFleet$Message", rfl, by decide, jx_mem (jx_mt3 (List.mem_of_getElem? (i := 35) rfl)) rfl, Or.inl rfl⟩
  · cases h
def fw_X0 : Nat → Option (Nat × Nat) := fun i => match i with
  | 36 => some (1, 2)
  | 54 => some (4, 3)
  | 57 => some (4, 4)
  | 60 => some (4, 5)
  | _ => none
theorem fw_X0_36 : fw_X0 36 = some (1, 2) := rfl
theorem fw_X0_54 : fw_X0 54 = some (4, 3) := rfl
theorem fw_X0_57 : fw_X0 57 = some (4, 4) := rfl
theorem fw_X0_60 : fw_X0 60 = some (4, 5) := rfl
theorem fwok_X0 {y : MethodName} (hy : y.cls = RX0) : ∀ i c k, fw_X0 i = some (c, k) → jx_Fw y i c k := by
  intro i c k h
  unfold fw_X0 at h
  split at h
  · cases h; exact ⟨(RX0, TX0, 3), "RegisterFleet$Bag", rfl, by decide, by rw [hy]; exact jx_mem (jx_mt1 (List.mem_of_getElem? (i := 67) rfl)) rfl, Or.inl rfl, Or.inl rfl⟩
  · cases h; exact ⟨(RX3, TX3, 9), "RegisterFleet$Message", rfl, by decide, by rw [hy]; exact jx_mem (jx_mt3 (List.mem_of_getElem? (i := 46) rfl)) rfl, Or.inl rfl, Or.inl rfl⟩
  · cases h; exact ⟨(RX3, TX3, 9), "RegisterFleet$Message", rfl, by decide, by rw [hy]; exact jx_mem (jx_mt3 (List.mem_of_getElem? (i := 50) rfl)) rfl, Or.inl rfl, Or.inl rfl⟩
  · cases h; exact ⟨(RX3, TX3, 9), "RegisterFleet$Message", rfl, by decide, by rw [hy]; exact jx_mem (jx_mt3 (List.mem_of_getElem? (i := 52) rfl)) rfl, Or.inl rfl, Or.inl rfl⟩
  · cases h
def fi_X0 : Nat → Option (Nat × Nat) := fun i => match i with
  | 10 => some (1, 0)
  | 16 => some (1, 1)
  | 36 => some (1, 2)
  | 54 => some (4, 3)
  | 57 => some (4, 4)
  | 60 => some (4, 5)
  | _ => none
theorem fi_X0_10 : fi_X0 10 = some (1, 0) := rfl
theorem fi_X0_16 : fi_X0 16 = some (1, 1) := rfl
theorem fi_X0_36 : fi_X0 36 = some (1, 2) := rfl
theorem fi_X0_54 : fi_X0 54 = some (4, 3) := rfl
theorem fi_X0_57 : fi_X0 57 = some (4, 4) := rfl
theorem fi_X0_60 : fi_X0 60 = some (4, 5) := rfl
theorem fiok_X0 : ∀ i c k, fi_X0 i = some (c, k) → jx_Fw yX0_init i c k := by
  intro i c k h
  unfold fi_X0 at h
  split at h
  · cases h; exact ⟨(RX0, TX0, 3), "RegisterFleet$Bag", rfl, by decide, jx_mem (jx_mt1 (List.mem_of_getElem? (i := 65) rfl)) rfl, Or.inl rfl, Or.inr ⟨rfl, rfl, rfl⟩⟩
  · cases h; exact ⟨(RX0, TX0, 3), "RegisterFleet$Bag", rfl, by decide, jx_mem (jx_mt1 (List.mem_of_getElem? (i := 66) rfl)) rfl, Or.inl rfl, Or.inr ⟨rfl, rfl, rfl⟩⟩
  · cases h; exact ⟨(RX0, TX0, 3), "RegisterFleet$Bag", rfl, by decide, jx_mem (jx_mt1 (List.mem_of_getElem? (i := 67) rfl)) rfl, Or.inl rfl, Or.inl rfl⟩
  · cases h; exact ⟨(RX3, TX3, 9), "RegisterFleet$Message", rfl, by decide, jx_mem (jx_mt3 (List.mem_of_getElem? (i := 46) rfl)) rfl, Or.inl rfl, Or.inl rfl⟩
  · cases h; exact ⟨(RX3, TX3, 9), "RegisterFleet$Message", rfl, by decide, jx_mem (jx_mt3 (List.mem_of_getElem? (i := 50) rfl)) rfl, Or.inl rfl, Or.inl rfl⟩
  · cases h; exact ⟨(RX3, TX3, 9), "RegisterFleet$Message", rfl, by decide, jx_mem (jx_mt3 (List.mem_of_getElem? (i := 52) rfl)) rfl, Or.inl rfl, Or.inl rfl⟩
  · cases h
def fl_X8 : Nat → Option (Nat × Nat) := fun i => match i with
  | 11 => some (9, 0)
  | 17 => some (9, 1)
  | 24 => some (9, 2)
  | 31 => some (9, 3)
  | 38 => some (9, 4)
  | 65 => some (9, 5)
  | 69 => some (2, 1)
  | 103 => some (4, 3)
  | 108 => some (4, 4)
  | 111 => some (4, 5)
  | 114 => some (4, 6)
  | 117 => some (4, 7)
  | 120 => some (4, 1)
  | 124 => some (4, 2)
  | 127 => some (4, 8)
  | 131 => some (4, 0)
  | 150 => some (2, 5)
  | 156 => some (7, 6)
  | 157 => some (7, 0)
  | 158 => some (7, 1)
  | 161 => some (7, 2)
  | 164 => some (7, 3)
  | 167 => some (7, 4)
  | 170 => some (7, 5)
  | 173 => some (2, 4)
  | 177 => some (5, 0)
  | 182 => some (2, 6)
  | 183 => some (2, 8)
  | 186 => some (2, 9)
  | 189 => some (2, 7)
  | 197 => some (3, 0)
  | 201 => some (5, 1)
  | 202 => some (5, 2)
  | 203 => some (5, 3)
  | 204 => some (5, 4)
  | 211 => some (5, 5)
  | 214 => some (5, 6)
  | 217 => some (5, 7)
  | 220 => some (5, 8)
  | 223 => some (3, 1)
  | 226 => some (3, 2)
  | 229 => some (3, 3)
  | 232 => some (1, 2)
  | 235 => some (9, 6)
  | 259 => some (2, 0)
  | 325 => some (2, 10)
  | 344 => some (2, 11)
  | 345 => some (2, 3)
  | 349 => some (2, 12)
  | 356 => some (2, 13)
  | _ => none
theorem fl_X8_11 : fl_X8 11 = some (9, 0) := rfl
theorem fl_X8_17 : fl_X8 17 = some (9, 1) := rfl
theorem fl_X8_24 : fl_X8 24 = some (9, 2) := rfl
theorem fl_X8_31 : fl_X8 31 = some (9, 3) := rfl
theorem fl_X8_38 : fl_X8 38 = some (9, 4) := rfl
theorem fl_X8_65 : fl_X8 65 = some (9, 5) := rfl
theorem fl_X8_69 : fl_X8 69 = some (2, 1) := rfl
theorem fl_X8_103 : fl_X8 103 = some (4, 3) := rfl
theorem fl_X8_108 : fl_X8 108 = some (4, 4) := rfl
theorem fl_X8_111 : fl_X8 111 = some (4, 5) := rfl
theorem fl_X8_114 : fl_X8 114 = some (4, 6) := rfl
theorem fl_X8_117 : fl_X8 117 = some (4, 7) := rfl
theorem fl_X8_120 : fl_X8 120 = some (4, 1) := rfl
theorem fl_X8_124 : fl_X8 124 = some (4, 2) := rfl
theorem fl_X8_127 : fl_X8 127 = some (4, 8) := rfl
theorem fl_X8_131 : fl_X8 131 = some (4, 0) := rfl
theorem fl_X8_150 : fl_X8 150 = some (2, 5) := rfl
theorem fl_X8_156 : fl_X8 156 = some (7, 6) := rfl
theorem fl_X8_157 : fl_X8 157 = some (7, 0) := rfl
theorem fl_X8_158 : fl_X8 158 = some (7, 1) := rfl
theorem fl_X8_161 : fl_X8 161 = some (7, 2) := rfl
theorem fl_X8_164 : fl_X8 164 = some (7, 3) := rfl
theorem fl_X8_167 : fl_X8 167 = some (7, 4) := rfl
theorem fl_X8_170 : fl_X8 170 = some (7, 5) := rfl
theorem fl_X8_173 : fl_X8 173 = some (2, 4) := rfl
theorem fl_X8_177 : fl_X8 177 = some (5, 0) := rfl
theorem fl_X8_182 : fl_X8 182 = some (2, 6) := rfl
theorem fl_X8_183 : fl_X8 183 = some (2, 8) := rfl
theorem fl_X8_186 : fl_X8 186 = some (2, 9) := rfl
theorem fl_X8_189 : fl_X8 189 = some (2, 7) := rfl
theorem fl_X8_197 : fl_X8 197 = some (3, 0) := rfl
theorem fl_X8_201 : fl_X8 201 = some (5, 1) := rfl
theorem fl_X8_202 : fl_X8 202 = some (5, 2) := rfl
theorem fl_X8_203 : fl_X8 203 = some (5, 3) := rfl
theorem fl_X8_204 : fl_X8 204 = some (5, 4) := rfl
theorem fl_X8_211 : fl_X8 211 = some (5, 5) := rfl
theorem fl_X8_214 : fl_X8 214 = some (5, 6) := rfl
theorem fl_X8_217 : fl_X8 217 = some (5, 7) := rfl
theorem fl_X8_220 : fl_X8 220 = some (5, 8) := rfl
theorem fl_X8_223 : fl_X8 223 = some (3, 1) := rfl
theorem fl_X8_226 : fl_X8 226 = some (3, 2) := rfl
theorem fl_X8_229 : fl_X8 229 = some (3, 3) := rfl
theorem fl_X8_232 : fl_X8 232 = some (1, 2) := rfl
theorem fl_X8_235 : fl_X8 235 = some (9, 6) := rfl
theorem fl_X8_259 : fl_X8 259 = some (2, 0) := rfl
theorem fl_X8_325 : fl_X8 325 = some (2, 10) := rfl
theorem fl_X8_344 : fl_X8 344 = some (2, 11) := rfl
theorem fl_X8_345 : fl_X8 345 = some (2, 3) := rfl
theorem fl_X8_349 : fl_X8 349 = some (2, 12) := rfl
theorem fl_X8_356 : fl_X8 356 = some (2, 13) := rfl
theorem flok_X8 : ∀ i c k, fl_X8 i = some (c, k) → jx_Fl RX8 i c k := by
  intro i c k h
  unfold fl_X8 at h
  split at h
  · cases h; exact ⟨(RX8, TX8, 7), "RegisterFleet", rfl, by decide, jx_mem (jx_mt2 (List.mem_of_getElem? (i := 112) rfl)) rfl, Or.inl rfl⟩
  · cases h; exact ⟨(RX8, TX8, 7), "RegisterFleet", rfl, by decide, jx_mem (jx_mt2 (List.mem_of_getElem? (i := 113) rfl)) rfl, Or.inl rfl⟩
  · cases h; exact ⟨(RX8, TX8, 7), "RegisterFleet", rfl, by decide, jx_mem (jx_mt2 (List.mem_of_getElem? (i := 114) rfl)) rfl, Or.inl rfl⟩
  · cases h; exact ⟨(RX8, TX8, 7), "RegisterFleet", rfl, by decide, jx_mem (jx_mt2 (List.mem_of_getElem? (i := 115) rfl)) rfl, Or.inl rfl⟩
  · cases h; exact ⟨(RX8, TX8, 7), "RegisterFleet", rfl, by decide, jx_mem (jx_mt2 (List.mem_of_getElem? (i := 116) rfl)) rfl, Or.inl rfl⟩
  · cases h; exact ⟨(RX8, TX8, 7), "RegisterFleet", rfl, by decide, jx_mem (jx_mt2 (List.mem_of_getElem? (i := 117) rfl)) rfl, Or.inl rfl⟩
  · cases h; exact ⟨(RX1, TX1, 14), "RegisterFleet$Client", rfl, by decide, jx_mem (jx_mt1 (List.mem_of_getElem? (i := 189) rfl)) rfl, Or.inl rfl⟩
  · cases h; exact ⟨(RX3, TX3, 9), "RegisterFleet$Message", rfl, by decide, jx_mem (jx_mt3 (List.mem_of_getElem? (i := 47) rfl)) rfl, Or.inl rfl⟩
  · cases h; exact ⟨(RX3, TX3, 9), "RegisterFleet$Message", rfl, by decide, jx_mem (jx_mt3 (List.mem_of_getElem? (i := 51) rfl)) rfl, Or.inl rfl⟩
  · cases h; exact ⟨(RX3, TX3, 9), "RegisterFleet$Message", rfl, by decide, jx_mem (jx_mt3 (List.mem_of_getElem? (i := 53) rfl)) rfl, Or.inl rfl⟩
  · cases h; exact ⟨(RX3, TX3, 9), "RegisterFleet$Message", rfl, by decide, jx_mem (jx_mt3 (List.mem_of_getElem? (i := 55) rfl)) rfl, Or.inl rfl⟩
  · cases h; exact ⟨(RX3, TX3, 9), "RegisterFleet$Message", rfl, by decide, jx_mem (jx_mt3 (List.mem_of_getElem? (i := 59) rfl)) rfl, Or.inl rfl⟩
  · cases h; exact ⟨(RX3, TX3, 9), "RegisterFleet$Message", rfl, by decide, jx_mem (jx_mt3 (List.mem_of_getElem? (i := 40) rfl)) rfl, Or.inl rfl⟩
  · cases h; exact ⟨(RX3, TX3, 9), "RegisterFleet$Message", rfl, by decide, jx_mem (jx_mt3 (List.mem_of_getElem? (i := 44) rfl)) rfl, Or.inl rfl⟩
  · cases h; exact ⟨(RX3, TX3, 9), "RegisterFleet$Message", rfl, by decide, jx_mem (jx_mt3 (List.mem_of_getElem? (i := 63) rfl)) rfl, Or.inl rfl⟩
  · cases h; exact ⟨(RX3, TX3, 9), "RegisterFleet$Message", rfl, by decide, jx_mem (jx_mt3 (List.mem_of_getElem? (i := 36) rfl)) rfl, Or.inl rfl⟩
  · cases h; exact ⟨(RX1, TX1, 14), "RegisterFleet$Client", rfl, by decide, jx_mem (jx_mt1 (List.mem_of_getElem? (i := 196) rfl)) rfl, Or.inl rfl⟩
  · cases h; exact ⟨(RX6, TX6, 7), "RegisterFleet$Server", rfl, by decide, jx_mem (jx_mt1 (List.mem_of_getElem? (i := 163) rfl)) rfl, Or.inl rfl⟩
  · cases h; exact ⟨(RX6, TX6, 7), "RegisterFleet$Server", rfl, by decide, jx_mem (jx_mt1 (List.mem_of_getElem? (i := 151) rfl)) rfl, Or.inl rfl⟩
  · cases h; exact ⟨(RX6, TX6, 7), "RegisterFleet$Server", rfl, by decide, jx_mem (jx_mt1 (List.mem_of_getElem? (i := 153) rfl)) rfl, Or.inl rfl⟩
  · cases h; exact ⟨(RX6, TX6, 7), "RegisterFleet$Server", rfl, by decide, jx_mem (jx_mt1 (List.mem_of_getElem? (i := 155) rfl)) rfl, Or.inl rfl⟩
  · cases h; exact ⟨(RX6, TX6, 7), "RegisterFleet$Server", rfl, by decide, jx_mem (jx_mt1 (List.mem_of_getElem? (i := 157) rfl)) rfl, Or.inl rfl⟩
  · cases h; exact ⟨(RX6, TX6, 7), "RegisterFleet$Server", rfl, by decide, jx_mem (jx_mt1 (List.mem_of_getElem? (i := 159) rfl)) rfl, Or.inl rfl⟩
  · cases h; exact ⟨(RX6, TX6, 7), "RegisterFleet$Server", rfl, by decide, jx_mem (jx_mt1 (List.mem_of_getElem? (i := 161) rfl)) rfl, Or.inl rfl⟩
  · cases h; exact ⟨(RX1, TX1, 14), "RegisterFleet$Client", rfl, by decide, jx_mem (jx_mt1 (List.mem_of_getElem? (i := 194) rfl)) rfl, Or.inl rfl⟩
  · cases h; exact ⟨(RX4, TX4, 9), "RegisterFleet$Operation", rfl, by decide, jx_mem (jx_mt2 (List.mem_of_getElem? (i := 176) rfl)) rfl, Or.inl rfl⟩
  · cases h; exact ⟨(RX1, TX1, 14), "RegisterFleet$Client", rfl, by decide, jx_mem (jx_mt1 (List.mem_of_getElem? (i := 198) rfl)) rfl, Or.inl rfl⟩
  · cases h; exact ⟨(RX1, TX1, 14), "RegisterFleet$Client", rfl, by decide, jx_mem (jx_mt1 (List.mem_of_getElem? (i := 202) rfl)) rfl, Or.inl rfl⟩
  · cases h; exact ⟨(RX1, TX1, 14), "RegisterFleet$Client", rfl, by decide, jx_mem (jx_mt1 (List.mem_of_getElem? (i := 204) rfl)) rfl, Or.inl rfl⟩
  · cases h; exact ⟨(RX1, TX1, 14), "RegisterFleet$Client", rfl, by decide, jx_mem (jx_mt1 (List.mem_of_getElem? (i := 200) rfl)) rfl, Or.inl rfl⟩
  · cases h; exact ⟨(RX2, TX2, 4), "RegisterFleet$Log", rfl, by decide, jx_mem (jx_mt1 (List.mem_of_getElem? (i := 86) rfl)) rfl, Or.inl rfl⟩
  · cases h; exact ⟨(RX4, TX4, 9), "RegisterFleet$Operation", rfl, by decide, jx_mem (jx_mt2 (List.mem_of_getElem? (i := 180) rfl)) rfl, Or.inl rfl⟩
  · cases h; exact ⟨(RX4, TX4, 9), "RegisterFleet$Operation", rfl, by decide, jx_mem (jx_mt2 (List.mem_of_getElem? (i := 183) rfl)) rfl, Or.inl rfl⟩
  · cases h; exact ⟨(RX4, TX4, 9), "RegisterFleet$Operation", rfl, by decide, jx_mem (jx_mt2 (List.mem_of_getElem? (i := 187) rfl)) rfl, Or.inl rfl⟩
  · cases h; exact ⟨(RX4, TX4, 9), "RegisterFleet$Operation", rfl, by decide, jx_mem (jx_mt2 (List.mem_of_getElem? (i := 191) rfl)) rfl, Or.inl rfl⟩
  · cases h; exact ⟨(RX4, TX4, 9), "RegisterFleet$Operation", rfl, by decide, jx_mem (jx_mt2 (List.mem_of_getElem? (i := 194) rfl)) rfl, Or.inl rfl⟩
  · cases h; exact ⟨(RX4, TX4, 9), "RegisterFleet$Operation", rfl, by decide, jx_mem (jx_mt2 (List.mem_of_getElem? (i := 197) rfl)) rfl, Or.inl rfl⟩
  · cases h; exact ⟨(RX4, TX4, 9), "RegisterFleet$Operation", rfl, by decide, jx_mem (jx_mt2 (List.mem_of_getElem? (i := 201) rfl)) rfl, Or.inl rfl⟩
  · cases h; exact ⟨(RX4, TX4, 9), "RegisterFleet$Operation", rfl, by decide, jx_mem (jx_mt2 (List.mem_of_getElem? (i := 203) rfl)) rfl, Or.inl rfl⟩
  · cases h; exact ⟨(RX2, TX2, 4), "RegisterFleet$Log", rfl, by decide, jx_mem (jx_mt1 (List.mem_of_getElem? (i := 89) rfl)) rfl, Or.inl rfl⟩
  · cases h; exact ⟨(RX2, TX2, 4), "RegisterFleet$Log", rfl, by decide, jx_mem (jx_mt1 (List.mem_of_getElem? (i := 91) rfl)) rfl, Or.inl rfl⟩
  · cases h; exact ⟨(RX2, TX2, 4), "RegisterFleet$Log", rfl, by decide, jx_mem (jx_mt1 (List.mem_of_getElem? (i := 93) rfl)) rfl, Or.inl rfl⟩
  · cases h; exact ⟨(RX0, TX0, 3), "RegisterFleet$Bag", rfl, by decide, jx_mem (jx_mt1 (List.mem_of_getElem? (i := 68) rfl)) rfl, Or.inl rfl⟩
  · cases h; exact ⟨(RX8, TX8, 7), "RegisterFleet", rfl, by decide, jx_mem (jx_mt2 (List.mem_of_getElem? (i := 118) rfl)) rfl, Or.inl rfl⟩
  · cases h; exact ⟨(RX1, TX1, 14), "RegisterFleet$Client", rfl, by decide, jx_mem (jx_mt1 (List.mem_of_getElem? (i := 187) rfl)) rfl, Or.inl rfl⟩
  · cases h; exact ⟨(RX1, TX1, 14), "RegisterFleet$Client", rfl, by decide, jx_mem (jx_mt1 (List.mem_of_getElem? (i := 206) rfl)) rfl, Or.inl rfl⟩
  · cases h; exact ⟨(RX1, TX1, 14), "RegisterFleet$Client", rfl, by decide, jx_mem (jx_mt1 (List.mem_of_getElem? (i := 208) rfl)) rfl, Or.inl rfl⟩
  · cases h; exact ⟨(RX1, TX1, 14), "RegisterFleet$Client", rfl, by decide, jx_mem (jx_mt1 (List.mem_of_getElem? (i := 192) rfl)) rfl, Or.inl rfl⟩
  · cases h; exact ⟨(RX1, TX1, 14), "RegisterFleet$Client", rfl, by decide, jx_mem (jx_mt1 (List.mem_of_getElem? (i := 210) rfl)) rfl, Or.inl rfl⟩
  · cases h; exact ⟨(RX1, TX1, 14), "RegisterFleet$Client", rfl, by decide, jx_mem (jx_mt1 (List.mem_of_getElem? (i := 212) rfl)) rfl, Or.inl rfl⟩
  · cases h
def fw_X8 : Nat → Option (Nat × Nat) := fun i => match i with
  | 65 => some (9, 5)
  | 103 => some (4, 3)
  | 108 => some (4, 4)
  | 111 => some (4, 5)
  | 114 => some (4, 6)
  | 117 => some (4, 7)
  | 127 => some (4, 8)
  | 150 => some (2, 5)
  | 156 => some (7, 6)
  | 173 => some (2, 4)
  | 182 => some (2, 6)
  | 183 => some (2, 8)
  | 186 => some (2, 9)
  | 189 => some (2, 7)
  | 201 => some (5, 1)
  | 202 => some (5, 2)
  | 203 => some (5, 3)
  | 204 => some (5, 4)
  | 211 => some (5, 5)
  | 214 => some (5, 6)
  | 217 => some (5, 7)
  | 220 => some (5, 8)
  | 223 => some (3, 1)
  | 226 => some (3, 2)
  | 229 => some (3, 3)
  | 232 => some (1, 2)
  | 235 => some (9, 6)
  | 325 => some (2, 10)
  | 344 => some (2, 11)
  | 349 => some (2, 12)
  | 356 => some (2, 13)
  | _ => none
theorem fw_X8_65 : fw_X8 65 = some (9, 5) := rfl
theorem fw_X8_103 : fw_X8 103 = some (4, 3) := rfl
theorem fw_X8_108 : fw_X8 108 = some (4, 4) := rfl
theorem fw_X8_111 : fw_X8 111 = some (4, 5) := rfl
theorem fw_X8_114 : fw_X8 114 = some (4, 6) := rfl
theorem fw_X8_117 : fw_X8 117 = some (4, 7) := rfl
theorem fw_X8_127 : fw_X8 127 = some (4, 8) := rfl
theorem fw_X8_150 : fw_X8 150 = some (2, 5) := rfl
theorem fw_X8_156 : fw_X8 156 = some (7, 6) := rfl
theorem fw_X8_173 : fw_X8 173 = some (2, 4) := rfl
theorem fw_X8_182 : fw_X8 182 = some (2, 6) := rfl
theorem fw_X8_183 : fw_X8 183 = some (2, 8) := rfl
theorem fw_X8_186 : fw_X8 186 = some (2, 9) := rfl
theorem fw_X8_189 : fw_X8 189 = some (2, 7) := rfl
theorem fw_X8_201 : fw_X8 201 = some (5, 1) := rfl
theorem fw_X8_202 : fw_X8 202 = some (5, 2) := rfl
theorem fw_X8_203 : fw_X8 203 = some (5, 3) := rfl
theorem fw_X8_204 : fw_X8 204 = some (5, 4) := rfl
theorem fw_X8_211 : fw_X8 211 = some (5, 5) := rfl
theorem fw_X8_214 : fw_X8 214 = some (5, 6) := rfl
theorem fw_X8_217 : fw_X8 217 = some (5, 7) := rfl
theorem fw_X8_220 : fw_X8 220 = some (5, 8) := rfl
theorem fw_X8_223 : fw_X8 223 = some (3, 1) := rfl
theorem fw_X8_226 : fw_X8 226 = some (3, 2) := rfl
theorem fw_X8_229 : fw_X8 229 = some (3, 3) := rfl
theorem fw_X8_232 : fw_X8 232 = some (1, 2) := rfl
theorem fw_X8_235 : fw_X8 235 = some (9, 6) := rfl
theorem fw_X8_325 : fw_X8 325 = some (2, 10) := rfl
theorem fw_X8_344 : fw_X8 344 = some (2, 11) := rfl
theorem fw_X8_349 : fw_X8 349 = some (2, 12) := rfl
theorem fw_X8_356 : fw_X8 356 = some (2, 13) := rfl
theorem fwok_X8 {y : MethodName} (hy : y.cls = RX8) : ∀ i c k, fw_X8 i = some (c, k) → jx_Fw y i c k := by
  intro i c k h
  unfold fw_X8 at h
  split at h
  · cases h; exact ⟨(RX8, TX8, 7), "RegisterFleet", rfl, by decide, by rw [hy]; exact jx_mem (jx_mt2 (List.mem_of_getElem? (i := 117) rfl)) rfl, Or.inl rfl, Or.inl rfl⟩
  · cases h; exact ⟨(RX3, TX3, 9), "RegisterFleet$Message", rfl, by decide, by rw [hy]; exact jx_mem (jx_mt3 (List.mem_of_getElem? (i := 47) rfl)) rfl, Or.inl rfl, Or.inl rfl⟩
  · cases h; exact ⟨(RX3, TX3, 9), "RegisterFleet$Message", rfl, by decide, by rw [hy]; exact jx_mem (jx_mt3 (List.mem_of_getElem? (i := 51) rfl)) rfl, Or.inl rfl, Or.inl rfl⟩
  · cases h; exact ⟨(RX3, TX3, 9), "RegisterFleet$Message", rfl, by decide, by rw [hy]; exact jx_mem (jx_mt3 (List.mem_of_getElem? (i := 53) rfl)) rfl, Or.inl rfl, Or.inl rfl⟩
  · cases h; exact ⟨(RX3, TX3, 9), "RegisterFleet$Message", rfl, by decide, by rw [hy]; exact jx_mem (jx_mt3 (List.mem_of_getElem? (i := 55) rfl)) rfl, Or.inl rfl, Or.inl rfl⟩
  · cases h; exact ⟨(RX3, TX3, 9), "RegisterFleet$Message", rfl, by decide, by rw [hy]; exact jx_mem (jx_mt3 (List.mem_of_getElem? (i := 59) rfl)) rfl, Or.inl rfl, Or.inl rfl⟩
  · cases h; exact ⟨(RX3, TX3, 9), "RegisterFleet$Message", rfl, by decide, by rw [hy]; exact jx_mem (jx_mt3 (List.mem_of_getElem? (i := 63) rfl)) rfl, Or.inl rfl, Or.inl rfl⟩
  · cases h; exact ⟨(RX1, TX1, 14), "RegisterFleet$Client", rfl, by decide, by rw [hy]; exact jx_mem (jx_mt1 (List.mem_of_getElem? (i := 196) rfl)) rfl, Or.inl rfl, Or.inl rfl⟩
  · cases h; exact ⟨(RX6, TX6, 7), "RegisterFleet$Server", rfl, by decide, by rw [hy]; exact jx_mem (jx_mt1 (List.mem_of_getElem? (i := 163) rfl)) rfl, Or.inl rfl, Or.inl rfl⟩
  · cases h; exact ⟨(RX1, TX1, 14), "RegisterFleet$Client", rfl, by decide, by rw [hy]; exact jx_mem (jx_mt1 (List.mem_of_getElem? (i := 194) rfl)) rfl, Or.inl rfl, Or.inl rfl⟩
  · cases h; exact ⟨(RX1, TX1, 14), "RegisterFleet$Client", rfl, by decide, by rw [hy]; exact jx_mem (jx_mt1 (List.mem_of_getElem? (i := 198) rfl)) rfl, Or.inl rfl, Or.inl rfl⟩
  · cases h; exact ⟨(RX1, TX1, 14), "RegisterFleet$Client", rfl, by decide, by rw [hy]; exact jx_mem (jx_mt1 (List.mem_of_getElem? (i := 202) rfl)) rfl, Or.inl rfl, Or.inl rfl⟩
  · cases h; exact ⟨(RX1, TX1, 14), "RegisterFleet$Client", rfl, by decide, by rw [hy]; exact jx_mem (jx_mt1 (List.mem_of_getElem? (i := 204) rfl)) rfl, Or.inl rfl, Or.inl rfl⟩
  · cases h; exact ⟨(RX1, TX1, 14), "RegisterFleet$Client", rfl, by decide, by rw [hy]; exact jx_mem (jx_mt1 (List.mem_of_getElem? (i := 200) rfl)) rfl, Or.inl rfl, Or.inl rfl⟩
  · cases h; exact ⟨(RX4, TX4, 9), "RegisterFleet$Operation", rfl, by decide, by rw [hy]; exact jx_mem (jx_mt2 (List.mem_of_getElem? (i := 180) rfl)) rfl, Or.inl rfl, Or.inl rfl⟩
  · cases h; exact ⟨(RX4, TX4, 9), "RegisterFleet$Operation", rfl, by decide, by rw [hy]; exact jx_mem (jx_mt2 (List.mem_of_getElem? (i := 183) rfl)) rfl, Or.inl rfl, Or.inl rfl⟩
  · cases h; exact ⟨(RX4, TX4, 9), "RegisterFleet$Operation", rfl, by decide, by rw [hy]; exact jx_mem (jx_mt2 (List.mem_of_getElem? (i := 187) rfl)) rfl, Or.inl rfl, Or.inl rfl⟩
  · cases h; exact ⟨(RX4, TX4, 9), "RegisterFleet$Operation", rfl, by decide, by rw [hy]; exact jx_mem (jx_mt2 (List.mem_of_getElem? (i := 191) rfl)) rfl, Or.inl rfl, Or.inl rfl⟩
  · cases h; exact ⟨(RX4, TX4, 9), "RegisterFleet$Operation", rfl, by decide, by rw [hy]; exact jx_mem (jx_mt2 (List.mem_of_getElem? (i := 194) rfl)) rfl, Or.inl rfl, Or.inl rfl⟩
  · cases h; exact ⟨(RX4, TX4, 9), "RegisterFleet$Operation", rfl, by decide, by rw [hy]; exact jx_mem (jx_mt2 (List.mem_of_getElem? (i := 197) rfl)) rfl, Or.inl rfl, Or.inl rfl⟩
  · cases h; exact ⟨(RX4, TX4, 9), "RegisterFleet$Operation", rfl, by decide, by rw [hy]; exact jx_mem (jx_mt2 (List.mem_of_getElem? (i := 201) rfl)) rfl, Or.inl rfl, Or.inl rfl⟩
  · cases h; exact ⟨(RX4, TX4, 9), "RegisterFleet$Operation", rfl, by decide, by rw [hy]; exact jx_mem (jx_mt2 (List.mem_of_getElem? (i := 203) rfl)) rfl, Or.inl rfl, Or.inl rfl⟩
  · cases h; exact ⟨(RX2, TX2, 4), "RegisterFleet$Log", rfl, by decide, by rw [hy]; exact jx_mem (jx_mt1 (List.mem_of_getElem? (i := 89) rfl)) rfl, Or.inl rfl, Or.inl rfl⟩
  · cases h; exact ⟨(RX2, TX2, 4), "RegisterFleet$Log", rfl, by decide, by rw [hy]; exact jx_mem (jx_mt1 (List.mem_of_getElem? (i := 91) rfl)) rfl, Or.inl rfl, Or.inl rfl⟩
  · cases h; exact ⟨(RX2, TX2, 4), "RegisterFleet$Log", rfl, by decide, by rw [hy]; exact jx_mem (jx_mt1 (List.mem_of_getElem? (i := 93) rfl)) rfl, Or.inl rfl, Or.inl rfl⟩
  · cases h; exact ⟨(RX0, TX0, 3), "RegisterFleet$Bag", rfl, by decide, by rw [hy]; exact jx_mem (jx_mt1 (List.mem_of_getElem? (i := 68) rfl)) rfl, Or.inl rfl, Or.inl rfl⟩
  · cases h; exact ⟨(RX8, TX8, 7), "RegisterFleet", rfl, by decide, by rw [hy]; exact jx_mem (jx_mt2 (List.mem_of_getElem? (i := 118) rfl)) rfl, Or.inl rfl, Or.inl rfl⟩
  · cases h; exact ⟨(RX1, TX1, 14), "RegisterFleet$Client", rfl, by decide, by rw [hy]; exact jx_mem (jx_mt1 (List.mem_of_getElem? (i := 206) rfl)) rfl, Or.inl rfl, Or.inl rfl⟩
  · cases h; exact ⟨(RX1, TX1, 14), "RegisterFleet$Client", rfl, by decide, by rw [hy]; exact jx_mem (jx_mt1 (List.mem_of_getElem? (i := 208) rfl)) rfl, Or.inl rfl, Or.inl rfl⟩
  · cases h; exact ⟨(RX1, TX1, 14), "RegisterFleet$Client", rfl, by decide, by rw [hy]; exact jx_mem (jx_mt1 (List.mem_of_getElem? (i := 210) rfl)) rfl, Or.inl rfl, Or.inl rfl⟩
  · cases h; exact ⟨(RX1, TX1, 14), "RegisterFleet$Client", rfl, by decide, by rw [hy]; exact jx_mem (jx_mt1 (List.mem_of_getElem? (i := 212) rfl)) rfl, Or.inl rfl, Or.inl rfl⟩
  · cases h
def fi_X8 : Nat → Option (Nat × Nat) := fun i => match i with
  | 11 => some (9, 0)
  | 17 => some (9, 1)
  | 24 => some (9, 2)
  | 31 => some (9, 3)
  | 38 => some (9, 4)
  | 65 => some (9, 5)
  | 103 => some (4, 3)
  | 108 => some (4, 4)
  | 111 => some (4, 5)
  | 114 => some (4, 6)
  | 117 => some (4, 7)
  | 127 => some (4, 8)
  | 150 => some (2, 5)
  | 156 => some (7, 6)
  | 173 => some (2, 4)
  | 182 => some (2, 6)
  | 183 => some (2, 8)
  | 186 => some (2, 9)
  | 189 => some (2, 7)
  | 201 => some (5, 1)
  | 202 => some (5, 2)
  | 203 => some (5, 3)
  | 204 => some (5, 4)
  | 211 => some (5, 5)
  | 214 => some (5, 6)
  | 217 => some (5, 7)
  | 220 => some (5, 8)
  | 223 => some (3, 1)
  | 226 => some (3, 2)
  | 229 => some (3, 3)
  | 232 => some (1, 2)
  | 235 => some (9, 6)
  | 325 => some (2, 10)
  | 344 => some (2, 11)
  | 349 => some (2, 12)
  | 356 => some (2, 13)
  | _ => none
theorem fi_X8_11 : fi_X8 11 = some (9, 0) := rfl
theorem fi_X8_17 : fi_X8 17 = some (9, 1) := rfl
theorem fi_X8_24 : fi_X8 24 = some (9, 2) := rfl
theorem fi_X8_31 : fi_X8 31 = some (9, 3) := rfl
theorem fi_X8_38 : fi_X8 38 = some (9, 4) := rfl
theorem fi_X8_65 : fi_X8 65 = some (9, 5) := rfl
theorem fi_X8_103 : fi_X8 103 = some (4, 3) := rfl
theorem fi_X8_108 : fi_X8 108 = some (4, 4) := rfl
theorem fi_X8_111 : fi_X8 111 = some (4, 5) := rfl
theorem fi_X8_114 : fi_X8 114 = some (4, 6) := rfl
theorem fi_X8_117 : fi_X8 117 = some (4, 7) := rfl
theorem fi_X8_127 : fi_X8 127 = some (4, 8) := rfl
theorem fi_X8_150 : fi_X8 150 = some (2, 5) := rfl
theorem fi_X8_156 : fi_X8 156 = some (7, 6) := rfl
theorem fi_X8_173 : fi_X8 173 = some (2, 4) := rfl
theorem fi_X8_182 : fi_X8 182 = some (2, 6) := rfl
theorem fi_X8_183 : fi_X8 183 = some (2, 8) := rfl
theorem fi_X8_186 : fi_X8 186 = some (2, 9) := rfl
theorem fi_X8_189 : fi_X8 189 = some (2, 7) := rfl
theorem fi_X8_201 : fi_X8 201 = some (5, 1) := rfl
theorem fi_X8_202 : fi_X8 202 = some (5, 2) := rfl
theorem fi_X8_203 : fi_X8 203 = some (5, 3) := rfl
theorem fi_X8_204 : fi_X8 204 = some (5, 4) := rfl
theorem fi_X8_211 : fi_X8 211 = some (5, 5) := rfl
theorem fi_X8_214 : fi_X8 214 = some (5, 6) := rfl
theorem fi_X8_217 : fi_X8 217 = some (5, 7) := rfl
theorem fi_X8_220 : fi_X8 220 = some (5, 8) := rfl
theorem fi_X8_223 : fi_X8 223 = some (3, 1) := rfl
theorem fi_X8_226 : fi_X8 226 = some (3, 2) := rfl
theorem fi_X8_229 : fi_X8 229 = some (3, 3) := rfl
theorem fi_X8_232 : fi_X8 232 = some (1, 2) := rfl
theorem fi_X8_235 : fi_X8 235 = some (9, 6) := rfl
theorem fi_X8_325 : fi_X8 325 = some (2, 10) := rfl
theorem fi_X8_344 : fi_X8 344 = some (2, 11) := rfl
theorem fi_X8_349 : fi_X8 349 = some (2, 12) := rfl
theorem fi_X8_356 : fi_X8 356 = some (2, 13) := rfl
theorem fiok_X8 : ∀ i c k, fi_X8 i = some (c, k) → jx_Fw yX8_init i c k := by
  intro i c k h
  unfold fi_X8 at h
  split at h
  · cases h; exact ⟨(RX8, TX8, 7), "RegisterFleet", rfl, by decide, jx_mem (jx_mt2 (List.mem_of_getElem? (i := 112) rfl)) rfl, Or.inl rfl, Or.inr ⟨rfl, rfl, rfl⟩⟩
  · cases h; exact ⟨(RX8, TX8, 7), "RegisterFleet", rfl, by decide, jx_mem (jx_mt2 (List.mem_of_getElem? (i := 113) rfl)) rfl, Or.inl rfl, Or.inr ⟨rfl, rfl, rfl⟩⟩
  · cases h; exact ⟨(RX8, TX8, 7), "RegisterFleet", rfl, by decide, jx_mem (jx_mt2 (List.mem_of_getElem? (i := 114) rfl)) rfl, Or.inl rfl, Or.inr ⟨rfl, rfl, rfl⟩⟩
  · cases h; exact ⟨(RX8, TX8, 7), "RegisterFleet", rfl, by decide, jx_mem (jx_mt2 (List.mem_of_getElem? (i := 115) rfl)) rfl, Or.inl rfl, Or.inr ⟨rfl, rfl, rfl⟩⟩
  · cases h; exact ⟨(RX8, TX8, 7), "RegisterFleet", rfl, by decide, jx_mem (jx_mt2 (List.mem_of_getElem? (i := 116) rfl)) rfl, Or.inl rfl, Or.inr ⟨rfl, rfl, rfl⟩⟩
  · cases h; exact ⟨(RX8, TX8, 7), "RegisterFleet", rfl, by decide, jx_mem (jx_mt2 (List.mem_of_getElem? (i := 117) rfl)) rfl, Or.inl rfl, Or.inl rfl⟩
  · cases h; exact ⟨(RX3, TX3, 9), "RegisterFleet$Message", rfl, by decide, jx_mem (jx_mt3 (List.mem_of_getElem? (i := 47) rfl)) rfl, Or.inl rfl, Or.inl rfl⟩
  · cases h; exact ⟨(RX3, TX3, 9), "RegisterFleet$Message", rfl, by decide, jx_mem (jx_mt3 (List.mem_of_getElem? (i := 51) rfl)) rfl, Or.inl rfl, Or.inl rfl⟩
  · cases h; exact ⟨(RX3, TX3, 9), "RegisterFleet$Message", rfl, by decide, jx_mem (jx_mt3 (List.mem_of_getElem? (i := 53) rfl)) rfl, Or.inl rfl, Or.inl rfl⟩
  · cases h; exact ⟨(RX3, TX3, 9), "RegisterFleet$Message", rfl, by decide, jx_mem (jx_mt3 (List.mem_of_getElem? (i := 55) rfl)) rfl, Or.inl rfl, Or.inl rfl⟩
  · cases h; exact ⟨(RX3, TX3, 9), "RegisterFleet$Message", rfl, by decide, jx_mem (jx_mt3 (List.mem_of_getElem? (i := 59) rfl)) rfl, Or.inl rfl, Or.inl rfl⟩
  · cases h; exact ⟨(RX3, TX3, 9), "RegisterFleet$Message", rfl, by decide, jx_mem (jx_mt3 (List.mem_of_getElem? (i := 63) rfl)) rfl, Or.inl rfl, Or.inl rfl⟩
  · cases h; exact ⟨(RX1, TX1, 14), "RegisterFleet$Client", rfl, by decide, jx_mem (jx_mt1 (List.mem_of_getElem? (i := 196) rfl)) rfl, Or.inl rfl, Or.inl rfl⟩
  · cases h; exact ⟨(RX6, TX6, 7), "RegisterFleet$Server", rfl, by decide, jx_mem (jx_mt1 (List.mem_of_getElem? (i := 163) rfl)) rfl, Or.inl rfl, Or.inl rfl⟩
  · cases h; exact ⟨(RX1, TX1, 14), "RegisterFleet$Client", rfl, by decide, jx_mem (jx_mt1 (List.mem_of_getElem? (i := 194) rfl)) rfl, Or.inl rfl, Or.inl rfl⟩
  · cases h; exact ⟨(RX1, TX1, 14), "RegisterFleet$Client", rfl, by decide, jx_mem (jx_mt1 (List.mem_of_getElem? (i := 198) rfl)) rfl, Or.inl rfl, Or.inl rfl⟩
  · cases h; exact ⟨(RX1, TX1, 14), "RegisterFleet$Client", rfl, by decide, jx_mem (jx_mt1 (List.mem_of_getElem? (i := 202) rfl)) rfl, Or.inl rfl, Or.inl rfl⟩
  · cases h; exact ⟨(RX1, TX1, 14), "RegisterFleet$Client", rfl, by decide, jx_mem (jx_mt1 (List.mem_of_getElem? (i := 204) rfl)) rfl, Or.inl rfl, Or.inl rfl⟩
  · cases h; exact ⟨(RX1, TX1, 14), "RegisterFleet$Client", rfl, by decide, jx_mem (jx_mt1 (List.mem_of_getElem? (i := 200) rfl)) rfl, Or.inl rfl, Or.inl rfl⟩
  · cases h; exact ⟨(RX4, TX4, 9), "RegisterFleet$Operation", rfl, by decide, jx_mem (jx_mt2 (List.mem_of_getElem? (i := 180) rfl)) rfl, Or.inl rfl, Or.inl rfl⟩
  · cases h; exact ⟨(RX4, TX4, 9), "RegisterFleet$Operation", rfl, by decide, jx_mem (jx_mt2 (List.mem_of_getElem? (i := 183) rfl)) rfl, Or.inl rfl, Or.inl rfl⟩
  · cases h; exact ⟨(RX4, TX4, 9), "RegisterFleet$Operation", rfl, by decide, jx_mem (jx_mt2 (List.mem_of_getElem? (i := 187) rfl)) rfl, Or.inl rfl, Or.inl rfl⟩
  · cases h; exact ⟨(RX4, TX4, 9), "RegisterFleet$Operation", rfl, by decide, jx_mem (jx_mt2 (List.mem_of_getElem? (i := 191) rfl)) rfl, Or.inl rfl, Or.inl rfl⟩
  · cases h; exact ⟨(RX4, TX4, 9), "RegisterFleet$Operation", rfl, by decide, jx_mem (jx_mt2 (List.mem_of_getElem? (i := 194) rfl)) rfl, Or.inl rfl, Or.inl rfl⟩
  · cases h; exact ⟨(RX4, TX4, 9), "RegisterFleet$Operation", rfl, by decide, jx_mem (jx_mt2 (List.mem_of_getElem? (i := 197) rfl)) rfl, Or.inl rfl, Or.inl rfl⟩
  · cases h; exact ⟨(RX4, TX4, 9), "RegisterFleet$Operation", rfl, by decide, jx_mem (jx_mt2 (List.mem_of_getElem? (i := 201) rfl)) rfl, Or.inl rfl, Or.inl rfl⟩
  · cases h; exact ⟨(RX4, TX4, 9), "RegisterFleet$Operation", rfl, by decide, jx_mem (jx_mt2 (List.mem_of_getElem? (i := 203) rfl)) rfl, Or.inl rfl, Or.inl rfl⟩
  · cases h; exact ⟨(RX2, TX2, 4), "RegisterFleet$Log", rfl, by decide, jx_mem (jx_mt1 (List.mem_of_getElem? (i := 89) rfl)) rfl, Or.inl rfl, Or.inl rfl⟩
  · cases h; exact ⟨(RX2, TX2, 4), "RegisterFleet$Log", rfl, by decide, jx_mem (jx_mt1 (List.mem_of_getElem? (i := 91) rfl)) rfl, Or.inl rfl, Or.inl rfl⟩
  · cases h; exact ⟨(RX2, TX2, 4), "RegisterFleet$Log", rfl, by decide, jx_mem (jx_mt1 (List.mem_of_getElem? (i := 93) rfl)) rfl, Or.inl rfl, Or.inl rfl⟩
  · cases h; exact ⟨(RX0, TX0, 3), "RegisterFleet$Bag", rfl, by decide, jx_mem (jx_mt1 (List.mem_of_getElem? (i := 68) rfl)) rfl, Or.inl rfl, Or.inl rfl⟩
  · cases h; exact ⟨(RX8, TX8, 7), "RegisterFleet", rfl, by decide, jx_mem (jx_mt2 (List.mem_of_getElem? (i := 118) rfl)) rfl, Or.inl rfl, Or.inl rfl⟩
  · cases h; exact ⟨(RX1, TX1, 14), "RegisterFleet$Client", rfl, by decide, jx_mem (jx_mt1 (List.mem_of_getElem? (i := 206) rfl)) rfl, Or.inl rfl, Or.inl rfl⟩
  · cases h; exact ⟨(RX1, TX1, 14), "RegisterFleet$Client", rfl, by decide, jx_mem (jx_mt1 (List.mem_of_getElem? (i := 208) rfl)) rfl, Or.inl rfl, Or.inl rfl⟩
  · cases h; exact ⟨(RX1, TX1, 14), "RegisterFleet$Client", rfl, by decide, jx_mem (jx_mt1 (List.mem_of_getElem? (i := 210) rfl)) rfl, Or.inl rfl, Or.inl rfl⟩
  · cases h; exact ⟨(RX1, TX1, 14), "RegisterFleet$Client", rfl, by decide, jx_mem (jx_mt1 (List.mem_of_getElem? (i := 212) rfl)) rfl, Or.inl rfl, Or.inl rfl⟩
  · cases h
def fl_X2 : Nat → Option (Nat × Nat) := fun i => match i with
  | 11 => some (3, 0)
  | 17 => some (3, 1)
  | 21 => some (3, 2)
  | 24 => some (3, 3)
  | 30 => some (5, 1)
  | 33 => some (5, 2)
  | 36 => some (5, 3)
  | 39 => some (5, 4)
  | 42 => some (5, 5)
  | 45 => some (5, 6)
  | 48 => some (5, 7)
  | 51 => some (5, 8)
  | _ => none
theorem fl_X2_11 : fl_X2 11 = some (3, 0) := rfl
theorem fl_X2_17 : fl_X2 17 = some (3, 1) := rfl
theorem fl_X2_21 : fl_X2 21 = some (3, 2) := rfl
theorem fl_X2_24 : fl_X2 24 = some (3, 3) := rfl
theorem fl_X2_30 : fl_X2 30 = some (5, 1) := rfl
theorem fl_X2_33 : fl_X2 33 = some (5, 2) := rfl
theorem fl_X2_36 : fl_X2 36 = some (5, 3) := rfl
theorem fl_X2_39 : fl_X2 39 = some (5, 4) := rfl
theorem fl_X2_42 : fl_X2 42 = some (5, 5) := rfl
theorem fl_X2_45 : fl_X2 45 = some (5, 6) := rfl
theorem fl_X2_48 : fl_X2 48 = some (5, 7) := rfl
theorem fl_X2_51 : fl_X2 51 = some (5, 8) := rfl
theorem flok_X2 : ∀ i c k, fl_X2 i = some (c, k) → jx_Fl RX2 i c k := by
  intro i c k h
  unfold fl_X2 at h
  split at h
  · cases h; exact ⟨(RX2, TX2, 4), "RegisterFleet$Log", rfl, by decide, jx_mem (jx_mt1 (List.mem_of_getElem? (i := 84) rfl)) rfl, Or.inl rfl⟩
  · cases h; exact ⟨(RX2, TX2, 4), "RegisterFleet$Log", rfl, by decide, jx_mem (jx_mt1 (List.mem_of_getElem? (i := 87) rfl)) rfl, Or.inl rfl⟩
  · cases h; exact ⟨(RX2, TX2, 4), "RegisterFleet$Log", rfl, by decide, jx_mem (jx_mt1 (List.mem_of_getElem? (i := 90) rfl)) rfl, Or.inl rfl⟩
  · cases h; exact ⟨(RX2, TX2, 4), "RegisterFleet$Log", rfl, by decide, jx_mem (jx_mt1 (List.mem_of_getElem? (i := 92) rfl)) rfl, Or.inl rfl⟩
  · cases h; exact ⟨(RX4, TX4, 9), "RegisterFleet$Operation", rfl, by decide, jx_mem (jx_mt2 (List.mem_of_getElem? (i := 178) rfl)) rfl, Or.inl rfl⟩
  · cases h; exact ⟨(RX4, TX4, 9), "RegisterFleet$Operation", rfl, by decide, jx_mem (jx_mt2 (List.mem_of_getElem? (i := 182) rfl)) rfl, Or.inl rfl⟩
  · cases h; exact ⟨(RX4, TX4, 9), "RegisterFleet$Operation", rfl, by decide, jx_mem (jx_mt2 (List.mem_of_getElem? (i := 185) rfl)) rfl, Or.inl rfl⟩
  · cases h; exact ⟨(RX4, TX4, 9), "RegisterFleet$Operation", rfl, by decide, jx_mem (jx_mt2 (List.mem_of_getElem? (i := 188) rfl)) rfl, Or.inl rfl⟩
  · cases h; exact ⟨(RX4, TX4, 9), "RegisterFleet$Operation", rfl, by decide, jx_mem (jx_mt2 (List.mem_of_getElem? (i := 192) rfl)) rfl, Or.inl rfl⟩
  · cases h; exact ⟨(RX4, TX4, 9), "RegisterFleet$Operation", rfl, by decide, jx_mem (jx_mt2 (List.mem_of_getElem? (i := 195) rfl)) rfl, Or.inl rfl⟩
  · cases h; exact ⟨(RX4, TX4, 9), "RegisterFleet$Operation", rfl, by decide, jx_mem (jx_mt2 (List.mem_of_getElem? (i := 199) rfl)) rfl, Or.inl rfl⟩
  · cases h; exact ⟨(RX4, TX4, 9), "RegisterFleet$Operation", rfl, by decide, jx_mem (jx_mt2 (List.mem_of_getElem? (i := 202) rfl)) rfl, Or.inl rfl⟩
  · cases h
def fw_X2 : Nat → Option (Nat × Nat) := fun i => match i with
  | 17 => some (3, 1)
  | 21 => some (3, 2)
  | 24 => some (3, 3)
  | 30 => some (5, 1)
  | 33 => some (5, 2)
  | 36 => some (5, 3)
  | 39 => some (5, 4)
  | 42 => some (5, 5)
  | 45 => some (5, 6)
  | 48 => some (5, 7)
  | 51 => some (5, 8)
  | _ => none
theorem fw_X2_17 : fw_X2 17 = some (3, 1) := rfl
theorem fw_X2_21 : fw_X2 21 = some (3, 2) := rfl
theorem fw_X2_24 : fw_X2 24 = some (3, 3) := rfl
theorem fw_X2_30 : fw_X2 30 = some (5, 1) := rfl
theorem fw_X2_33 : fw_X2 33 = some (5, 2) := rfl
theorem fw_X2_36 : fw_X2 36 = some (5, 3) := rfl
theorem fw_X2_39 : fw_X2 39 = some (5, 4) := rfl
theorem fw_X2_42 : fw_X2 42 = some (5, 5) := rfl
theorem fw_X2_45 : fw_X2 45 = some (5, 6) := rfl
theorem fw_X2_48 : fw_X2 48 = some (5, 7) := rfl
theorem fw_X2_51 : fw_X2 51 = some (5, 8) := rfl
theorem fwok_X2 {y : MethodName} (hy : y.cls = RX2) : ∀ i c k, fw_X2 i = some (c, k) → jx_Fw y i c k := by
  intro i c k h
  unfold fw_X2 at h
  split at h
  · cases h; exact ⟨(RX2, TX2, 4), "RegisterFleet$Log", rfl, by decide, by rw [hy]; exact jx_mem (jx_mt1 (List.mem_of_getElem? (i := 87) rfl)) rfl, Or.inl rfl, Or.inl rfl⟩
  · cases h; exact ⟨(RX2, TX2, 4), "RegisterFleet$Log", rfl, by decide, by rw [hy]; exact jx_mem (jx_mt1 (List.mem_of_getElem? (i := 90) rfl)) rfl, Or.inl rfl, Or.inl rfl⟩
  · cases h; exact ⟨(RX2, TX2, 4), "RegisterFleet$Log", rfl, by decide, by rw [hy]; exact jx_mem (jx_mt1 (List.mem_of_getElem? (i := 92) rfl)) rfl, Or.inl rfl, Or.inl rfl⟩
  · cases h; exact ⟨(RX4, TX4, 9), "RegisterFleet$Operation", rfl, by decide, by rw [hy]; exact jx_mem (jx_mt2 (List.mem_of_getElem? (i := 178) rfl)) rfl, Or.inl rfl, Or.inl rfl⟩
  · cases h; exact ⟨(RX4, TX4, 9), "RegisterFleet$Operation", rfl, by decide, by rw [hy]; exact jx_mem (jx_mt2 (List.mem_of_getElem? (i := 182) rfl)) rfl, Or.inl rfl, Or.inl rfl⟩
  · cases h; exact ⟨(RX4, TX4, 9), "RegisterFleet$Operation", rfl, by decide, by rw [hy]; exact jx_mem (jx_mt2 (List.mem_of_getElem? (i := 185) rfl)) rfl, Or.inl rfl, Or.inl rfl⟩
  · cases h; exact ⟨(RX4, TX4, 9), "RegisterFleet$Operation", rfl, by decide, by rw [hy]; exact jx_mem (jx_mt2 (List.mem_of_getElem? (i := 188) rfl)) rfl, Or.inl rfl, Or.inl rfl⟩
  · cases h; exact ⟨(RX4, TX4, 9), "RegisterFleet$Operation", rfl, by decide, by rw [hy]; exact jx_mem (jx_mt2 (List.mem_of_getElem? (i := 192) rfl)) rfl, Or.inl rfl, Or.inl rfl⟩
  · cases h; exact ⟨(RX4, TX4, 9), "RegisterFleet$Operation", rfl, by decide, by rw [hy]; exact jx_mem (jx_mt2 (List.mem_of_getElem? (i := 195) rfl)) rfl, Or.inl rfl, Or.inl rfl⟩
  · cases h; exact ⟨(RX4, TX4, 9), "RegisterFleet$Operation", rfl, by decide, by rw [hy]; exact jx_mem (jx_mt2 (List.mem_of_getElem? (i := 199) rfl)) rfl, Or.inl rfl, Or.inl rfl⟩
  · cases h; exact ⟨(RX4, TX4, 9), "RegisterFleet$Operation", rfl, by decide, by rw [hy]; exact jx_mem (jx_mt2 (List.mem_of_getElem? (i := 202) rfl)) rfl, Or.inl rfl, Or.inl rfl⟩
  · cases h
def fi_X2 : Nat → Option (Nat × Nat) := fun i => match i with
  | 11 => some (3, 0)
  | 17 => some (3, 1)
  | 21 => some (3, 2)
  | 24 => some (3, 3)
  | 30 => some (5, 1)
  | 33 => some (5, 2)
  | 36 => some (5, 3)
  | 39 => some (5, 4)
  | 42 => some (5, 5)
  | 45 => some (5, 6)
  | 48 => some (5, 7)
  | 51 => some (5, 8)
  | _ => none
theorem fi_X2_11 : fi_X2 11 = some (3, 0) := rfl
theorem fi_X2_17 : fi_X2 17 = some (3, 1) := rfl
theorem fi_X2_21 : fi_X2 21 = some (3, 2) := rfl
theorem fi_X2_24 : fi_X2 24 = some (3, 3) := rfl
theorem fi_X2_30 : fi_X2 30 = some (5, 1) := rfl
theorem fi_X2_33 : fi_X2 33 = some (5, 2) := rfl
theorem fi_X2_36 : fi_X2 36 = some (5, 3) := rfl
theorem fi_X2_39 : fi_X2 39 = some (5, 4) := rfl
theorem fi_X2_42 : fi_X2 42 = some (5, 5) := rfl
theorem fi_X2_45 : fi_X2 45 = some (5, 6) := rfl
theorem fi_X2_48 : fi_X2 48 = some (5, 7) := rfl
theorem fi_X2_51 : fi_X2 51 = some (5, 8) := rfl
theorem fiok_X2 : ∀ i c k, fi_X2 i = some (c, k) → jx_Fw yX2_init i c k := by
  intro i c k h
  unfold fi_X2 at h
  split at h
  · cases h; exact ⟨(RX2, TX2, 4), "RegisterFleet$Log", rfl, by decide, jx_mem (jx_mt1 (List.mem_of_getElem? (i := 84) rfl)) rfl, Or.inl rfl, Or.inr ⟨rfl, rfl, rfl⟩⟩
  · cases h; exact ⟨(RX2, TX2, 4), "RegisterFleet$Log", rfl, by decide, jx_mem (jx_mt1 (List.mem_of_getElem? (i := 87) rfl)) rfl, Or.inl rfl, Or.inl rfl⟩
  · cases h; exact ⟨(RX2, TX2, 4), "RegisterFleet$Log", rfl, by decide, jx_mem (jx_mt1 (List.mem_of_getElem? (i := 90) rfl)) rfl, Or.inl rfl, Or.inl rfl⟩
  · cases h; exact ⟨(RX2, TX2, 4), "RegisterFleet$Log", rfl, by decide, jx_mem (jx_mt1 (List.mem_of_getElem? (i := 92) rfl)) rfl, Or.inl rfl, Or.inl rfl⟩
  · cases h; exact ⟨(RX4, TX4, 9), "RegisterFleet$Operation", rfl, by decide, jx_mem (jx_mt2 (List.mem_of_getElem? (i := 178) rfl)) rfl, Or.inl rfl, Or.inl rfl⟩
  · cases h; exact ⟨(RX4, TX4, 9), "RegisterFleet$Operation", rfl, by decide, jx_mem (jx_mt2 (List.mem_of_getElem? (i := 182) rfl)) rfl, Or.inl rfl, Or.inl rfl⟩
  · cases h; exact ⟨(RX4, TX4, 9), "RegisterFleet$Operation", rfl, by decide, jx_mem (jx_mt2 (List.mem_of_getElem? (i := 185) rfl)) rfl, Or.inl rfl, Or.inl rfl⟩
  · cases h; exact ⟨(RX4, TX4, 9), "RegisterFleet$Operation", rfl, by decide, jx_mem (jx_mt2 (List.mem_of_getElem? (i := 188) rfl)) rfl, Or.inl rfl, Or.inl rfl⟩
  · cases h; exact ⟨(RX4, TX4, 9), "RegisterFleet$Operation", rfl, by decide, jx_mem (jx_mt2 (List.mem_of_getElem? (i := 192) rfl)) rfl, Or.inl rfl, Or.inl rfl⟩
  · cases h; exact ⟨(RX4, TX4, 9), "RegisterFleet$Operation", rfl, by decide, jx_mem (jx_mt2 (List.mem_of_getElem? (i := 195) rfl)) rfl, Or.inl rfl, Or.inl rfl⟩
  · cases h; exact ⟨(RX4, TX4, 9), "RegisterFleet$Operation", rfl, by decide, jx_mem (jx_mt2 (List.mem_of_getElem? (i := 199) rfl)) rfl, Or.inl rfl, Or.inl rfl⟩
  · cases h; exact ⟨(RX4, TX4, 9), "RegisterFleet$Operation", rfl, by decide, jx_mem (jx_mt2 (List.mem_of_getElem? (i := 202) rfl)) rfl, Or.inl rfl, Or.inl rfl⟩
  · cases h
def fl_X5 : Nat → Option (Nat × Nat) := fun i => match i with
  | 13 => some (6, 0)
  | 19 => some (6, 1)
  | 22 => some (6, 2)
  | 26 => some (6, 3)
  | 29 => some (6, 4)
  | 32 => some (6, 5)
  | 35 => some (6, 6)
  | 45 => some (3, 1)
  | 50 => some (3, 0)
  | 53 => some (5, 1)
  | 56 => some (5, 3)
  | 67 => some (5, 2)
  | 98 => some (5, 6)
  | 101 => some (5, 7)
  | 104 => some (5, 5)
  | 111 => some (5, 4)
  | _ => none
theorem fl_X5_13 : fl_X5 13 = some (6, 0) := rfl
theorem fl_X5_19 : fl_X5 19 = some (6, 1) := rfl
theorem fl_X5_22 : fl_X5 22 = some (6, 2) := rfl
theorem fl_X5_26 : fl_X5 26 = some (6, 3) := rfl
theorem fl_X5_29 : fl_X5 29 = some (6, 4) := rfl
theorem fl_X5_32 : fl_X5 32 = some (6, 5) := rfl
theorem fl_X5_35 : fl_X5 35 = some (6, 6) := rfl
theorem fl_X5_45 : fl_X5 45 = some (3, 1) := rfl
theorem fl_X5_50 : fl_X5 50 = some (3, 0) := rfl
theorem fl_X5_53 : fl_X5 53 = some (5, 1) := rfl
theorem fl_X5_56 : fl_X5 56 = some (5, 3) := rfl
theorem fl_X5_67 : fl_X5 67 = some (5, 2) := rfl
theorem fl_X5_98 : fl_X5 98 = some (5, 6) := rfl
theorem fl_X5_101 : fl_X5 101 = some (5, 7) := rfl
theorem fl_X5_104 : fl_X5 104 = some (5, 5) := rfl
theorem fl_X5_111 : fl_X5 111 = some (5, 4) := rfl
theorem flok_X5 : ∀ i c k, fl_X5 i = some (c, k) → jx_Fl RX5 i c k := by
  intro i c k h
  unfold fl_X5 at h
  split at h
  · cases h; exact ⟨(RX5, TX5, 7), "RegisterFleet$RowSearch", rfl, by decide, jx_mem (jx_mt1 (List.mem_of_getElem? (i := 112) rfl)) rfl, Or.inl rfl⟩
  · cases h; exact ⟨(RX5, TX5, 7), "RegisterFleet$RowSearch", rfl, by decide, jx_mem (jx_mt1 (List.mem_of_getElem? (i := 113) rfl)) rfl, Or.inl rfl⟩
  · cases h; exact ⟨(RX5, TX5, 7), "RegisterFleet$RowSearch", rfl, by decide, jx_mem (jx_mt1 (List.mem_of_getElem? (i := 114) rfl)) rfl, Or.inl rfl⟩
  · cases h; exact ⟨(RX5, TX5, 7), "RegisterFleet$RowSearch", rfl, by decide, jx_mem (jx_mt1 (List.mem_of_getElem? (i := 115) rfl)) rfl, Or.inl rfl⟩
  · cases h; exact ⟨(RX5, TX5, 7), "RegisterFleet$RowSearch", rfl, by decide, jx_mem (jx_mt1 (List.mem_of_getElem? (i := 116) rfl)) rfl, Or.inl rfl⟩
  · cases h; exact ⟨(RX5, TX5, 7), "RegisterFleet$RowSearch", rfl, by decide, jx_mem (jx_mt1 (List.mem_of_getElem? (i := 117) rfl)) rfl, Or.inl rfl⟩
  · cases h; exact ⟨(RX5, TX5, 7), "RegisterFleet$RowSearch", rfl, by decide, jx_mem (jx_mt1 (List.mem_of_getElem? (i := 118) rfl)) rfl, Or.inl rfl⟩
  · cases h; exact ⟨(RX2, TX2, 4), "RegisterFleet$Log", rfl, by decide, jx_mem (jx_mt1 (List.mem_of_getElem? (i := 88) rfl)) rfl, Or.inl rfl⟩
  · cases h; exact ⟨(RX2, TX2, 4), "RegisterFleet$Log", rfl, by decide, jx_mem (jx_mt1 (List.mem_of_getElem? (i := 85) rfl)) rfl, Or.inl rfl⟩
  · cases h; exact ⟨(RX4, TX4, 9), "RegisterFleet$Operation", rfl, by decide, jx_mem (jx_mt2 (List.mem_of_getElem? (i := 177) rfl)) rfl, Or.inl rfl⟩
  · cases h; exact ⟨(RX4, TX4, 9), "RegisterFleet$Operation", rfl, by decide, jx_mem (jx_mt2 (List.mem_of_getElem? (i := 184) rfl)) rfl, Or.inl rfl⟩
  · cases h; exact ⟨(RX4, TX4, 9), "RegisterFleet$Operation", rfl, by decide, jx_mem (jx_mt2 (List.mem_of_getElem? (i := 181) rfl)) rfl, Or.inl rfl⟩
  · cases h; exact ⟨(RX4, TX4, 9), "RegisterFleet$Operation", rfl, by decide, jx_mem (jx_mt2 (List.mem_of_getElem? (i := 196) rfl)) rfl, Or.inl rfl⟩
  · cases h; exact ⟨(RX4, TX4, 9), "RegisterFleet$Operation", rfl, by decide, jx_mem (jx_mt2 (List.mem_of_getElem? (i := 200) rfl)) rfl, Or.inl rfl⟩
  · cases h; exact ⟨(RX4, TX4, 9), "RegisterFleet$Operation", rfl, by decide, jx_mem (jx_mt2 (List.mem_of_getElem? (i := 193) rfl)) rfl, Or.inl rfl⟩
  · cases h; exact ⟨(RX4, TX4, 9), "RegisterFleet$Operation", rfl, by decide, jx_mem (jx_mt2 (List.mem_of_getElem? (i := 190) rfl)) rfl, Or.inl rfl⟩
  · cases h
def fw_X5 : Nat → Option (Nat × Nat) := fun i => match i with
  | 35 => some (6, 6)
  | 45 => some (3, 1)
  | 53 => some (5, 1)
  | 56 => some (5, 3)
  | 67 => some (5, 2)
  | 98 => some (5, 6)
  | 101 => some (5, 7)
  | 104 => some (5, 5)
  | 111 => some (5, 4)
  | _ => none
theorem fw_X5_35 : fw_X5 35 = some (6, 6) := rfl
theorem fw_X5_45 : fw_X5 45 = some (3, 1) := rfl
theorem fw_X5_53 : fw_X5 53 = some (5, 1) := rfl
theorem fw_X5_56 : fw_X5 56 = some (5, 3) := rfl
theorem fw_X5_67 : fw_X5 67 = some (5, 2) := rfl
theorem fw_X5_98 : fw_X5 98 = some (5, 6) := rfl
theorem fw_X5_101 : fw_X5 101 = some (5, 7) := rfl
theorem fw_X5_104 : fw_X5 104 = some (5, 5) := rfl
theorem fw_X5_111 : fw_X5 111 = some (5, 4) := rfl
theorem fwok_X5 {y : MethodName} (hy : y.cls = RX5) : ∀ i c k, fw_X5 i = some (c, k) → jx_Fw y i c k := by
  intro i c k h
  unfold fw_X5 at h
  split at h
  · cases h; exact ⟨(RX5, TX5, 7), "RegisterFleet$RowSearch", rfl, by decide, by rw [hy]; exact jx_mem (jx_mt1 (List.mem_of_getElem? (i := 118) rfl)) rfl, Or.inl rfl, Or.inl rfl⟩
  · cases h; exact ⟨(RX2, TX2, 4), "RegisterFleet$Log", rfl, by decide, by rw [hy]; exact jx_mem (jx_mt1 (List.mem_of_getElem? (i := 88) rfl)) rfl, Or.inl rfl, Or.inl rfl⟩
  · cases h; exact ⟨(RX4, TX4, 9), "RegisterFleet$Operation", rfl, by decide, by rw [hy]; exact jx_mem (jx_mt2 (List.mem_of_getElem? (i := 177) rfl)) rfl, Or.inl rfl, Or.inl rfl⟩
  · cases h; exact ⟨(RX4, TX4, 9), "RegisterFleet$Operation", rfl, by decide, by rw [hy]; exact jx_mem (jx_mt2 (List.mem_of_getElem? (i := 184) rfl)) rfl, Or.inl rfl, Or.inl rfl⟩
  · cases h; exact ⟨(RX4, TX4, 9), "RegisterFleet$Operation", rfl, by decide, by rw [hy]; exact jx_mem (jx_mt2 (List.mem_of_getElem? (i := 181) rfl)) rfl, Or.inl rfl, Or.inl rfl⟩
  · cases h; exact ⟨(RX4, TX4, 9), "RegisterFleet$Operation", rfl, by decide, by rw [hy]; exact jx_mem (jx_mt2 (List.mem_of_getElem? (i := 196) rfl)) rfl, Or.inl rfl, Or.inl rfl⟩
  · cases h; exact ⟨(RX4, TX4, 9), "RegisterFleet$Operation", rfl, by decide, by rw [hy]; exact jx_mem (jx_mt2 (List.mem_of_getElem? (i := 200) rfl)) rfl, Or.inl rfl, Or.inl rfl⟩
  · cases h; exact ⟨(RX4, TX4, 9), "RegisterFleet$Operation", rfl, by decide, by rw [hy]; exact jx_mem (jx_mt2 (List.mem_of_getElem? (i := 193) rfl)) rfl, Or.inl rfl, Or.inl rfl⟩
  · cases h; exact ⟨(RX4, TX4, 9), "RegisterFleet$Operation", rfl, by decide, by rw [hy]; exact jx_mem (jx_mt2 (List.mem_of_getElem? (i := 190) rfl)) rfl, Or.inl rfl, Or.inl rfl⟩
  · cases h
def fi_X5 : Nat → Option (Nat × Nat) := fun i => match i with
  | 13 => some (6, 0)
  | 19 => some (6, 1)
  | 22 => some (6, 2)
  | 26 => some (6, 3)
  | 29 => some (6, 4)
  | 32 => some (6, 5)
  | 35 => some (6, 6)
  | 45 => some (3, 1)
  | 53 => some (5, 1)
  | 56 => some (5, 3)
  | 67 => some (5, 2)
  | 98 => some (5, 6)
  | 101 => some (5, 7)
  | 104 => some (5, 5)
  | 111 => some (5, 4)
  | _ => none
theorem fi_X5_13 : fi_X5 13 = some (6, 0) := rfl
theorem fi_X5_19 : fi_X5 19 = some (6, 1) := rfl
theorem fi_X5_22 : fi_X5 22 = some (6, 2) := rfl
theorem fi_X5_26 : fi_X5 26 = some (6, 3) := rfl
theorem fi_X5_29 : fi_X5 29 = some (6, 4) := rfl
theorem fi_X5_32 : fi_X5 32 = some (6, 5) := rfl
theorem fi_X5_35 : fi_X5 35 = some (6, 6) := rfl
theorem fi_X5_45 : fi_X5 45 = some (3, 1) := rfl
theorem fi_X5_53 : fi_X5 53 = some (5, 1) := rfl
theorem fi_X5_56 : fi_X5 56 = some (5, 3) := rfl
theorem fi_X5_67 : fi_X5 67 = some (5, 2) := rfl
theorem fi_X5_98 : fi_X5 98 = some (5, 6) := rfl
theorem fi_X5_101 : fi_X5 101 = some (5, 7) := rfl
theorem fi_X5_104 : fi_X5 104 = some (5, 5) := rfl
theorem fi_X5_111 : fi_X5 111 = some (5, 4) := rfl
theorem fiok_X5 : ∀ i c k, fi_X5 i = some (c, k) → jx_Fw yX5_init i c k := by
  intro i c k h
  unfold fi_X5 at h
  split at h
  · cases h; exact ⟨(RX5, TX5, 7), "RegisterFleet$RowSearch", rfl, by decide, jx_mem (jx_mt1 (List.mem_of_getElem? (i := 112) rfl)) rfl, Or.inl rfl, Or.inr ⟨rfl, rfl, rfl⟩⟩
  · cases h; exact ⟨(RX5, TX5, 7), "RegisterFleet$RowSearch", rfl, by decide, jx_mem (jx_mt1 (List.mem_of_getElem? (i := 113) rfl)) rfl, Or.inl rfl, Or.inr ⟨rfl, rfl, rfl⟩⟩
  · cases h; exact ⟨(RX5, TX5, 7), "RegisterFleet$RowSearch", rfl, by decide, jx_mem (jx_mt1 (List.mem_of_getElem? (i := 114) rfl)) rfl, Or.inl rfl, Or.inr ⟨rfl, rfl, rfl⟩⟩
  · cases h; exact ⟨(RX5, TX5, 7), "RegisterFleet$RowSearch", rfl, by decide, jx_mem (jx_mt1 (List.mem_of_getElem? (i := 115) rfl)) rfl, Or.inl rfl, Or.inr ⟨rfl, rfl, rfl⟩⟩
  · cases h; exact ⟨(RX5, TX5, 7), "RegisterFleet$RowSearch", rfl, by decide, jx_mem (jx_mt1 (List.mem_of_getElem? (i := 116) rfl)) rfl, Or.inl rfl, Or.inr ⟨rfl, rfl, rfl⟩⟩
  · cases h; exact ⟨(RX5, TX5, 7), "RegisterFleet$RowSearch", rfl, by decide, jx_mem (jx_mt1 (List.mem_of_getElem? (i := 117) rfl)) rfl, Or.inl rfl, Or.inr ⟨rfl, rfl, rfl⟩⟩
  · cases h; exact ⟨(RX5, TX5, 7), "RegisterFleet$RowSearch", rfl, by decide, jx_mem (jx_mt1 (List.mem_of_getElem? (i := 118) rfl)) rfl, Or.inl rfl, Or.inl rfl⟩
  · cases h; exact ⟨(RX2, TX2, 4), "RegisterFleet$Log", rfl, by decide, jx_mem (jx_mt1 (List.mem_of_getElem? (i := 88) rfl)) rfl, Or.inl rfl, Or.inl rfl⟩
  · cases h; exact ⟨(RX4, TX4, 9), "RegisterFleet$Operation", rfl, by decide, jx_mem (jx_mt2 (List.mem_of_getElem? (i := 177) rfl)) rfl, Or.inl rfl, Or.inl rfl⟩
  · cases h; exact ⟨(RX4, TX4, 9), "RegisterFleet$Operation", rfl, by decide, jx_mem (jx_mt2 (List.mem_of_getElem? (i := 184) rfl)) rfl, Or.inl rfl, Or.inl rfl⟩
  · cases h; exact ⟨(RX4, TX4, 9), "RegisterFleet$Operation", rfl, by decide, jx_mem (jx_mt2 (List.mem_of_getElem? (i := 181) rfl)) rfl, Or.inl rfl, Or.inl rfl⟩
  · cases h; exact ⟨(RX4, TX4, 9), "RegisterFleet$Operation", rfl, by decide, jx_mem (jx_mt2 (List.mem_of_getElem? (i := 196) rfl)) rfl, Or.inl rfl, Or.inl rfl⟩
  · cases h; exact ⟨(RX4, TX4, 9), "RegisterFleet$Operation", rfl, by decide, jx_mem (jx_mt2 (List.mem_of_getElem? (i := 200) rfl)) rfl, Or.inl rfl, Or.inl rfl⟩
  · cases h; exact ⟨(RX4, TX4, 9), "RegisterFleet$Operation", rfl, by decide, jx_mem (jx_mt2 (List.mem_of_getElem? (i := 193) rfl)) rfl, Or.inl rfl, Or.inl rfl⟩
  · cases h; exact ⟨(RX4, TX4, 9), "RegisterFleet$Operation", rfl, by decide, jx_mem (jx_mt2 (List.mem_of_getElem? (i := 190) rfl)) rfl, Or.inl rfl, Or.inl rfl⟩
  · cases h
def fl_X7 : Nat → Option (Nat × Nat) := fun i => match i with
  | 9 => some (8, 0)
  | _ => none
theorem fl_X7_9 : fl_X7 9 = some (8, 0) := rfl
theorem flok_X7 : ∀ i c k, fl_X7 i = some (c, k) → jx_Fl RX7 i c k := by
  intro i c k h
  unfold fl_X7 at h
  split at h
  · cases h; exact ⟨(RX7, TX7, 1), "RegisterFleet$SetMap", rfl, by decide, jx_mem (jx_mt1 (List.mem_of_getElem? (i := 146) rfl)) rfl, Or.inl rfl⟩
  · cases h
def fw_X7 : Nat → Option (Nat × Nat) := fun i => match i with
  | _ => none
theorem fwok_X7 {y : MethodName} (hy : y.cls = RX7) : ∀ i c k, fw_X7 i = some (c, k) → jx_Fw y i c k := by
  intro i c k h
  unfold fw_X7 at h
  split at h
  · cases h
def fi_X7 : Nat → Option (Nat × Nat) := fun i => match i with
  | 9 => some (8, 0)
  | _ => none
theorem fi_X7_9 : fi_X7 9 = some (8, 0) := rfl
theorem fiok_X7 : ∀ i c k, fi_X7 i = some (c, k) → jx_Fw yX7_init i c k := by
  intro i c k h
  unfold fi_X7 at h
  split at h
  · cases h; exact ⟨(RX7, TX7, 1), "RegisterFleet$SetMap", rfl, by decide, jx_mem (jx_mt1 (List.mem_of_getElem? (i := 146) rfl)) rfl, Or.inl rfl, Or.inr ⟨rfl, rfl, rfl⟩⟩
  · cases h
def fl_X6 : Nat → Option (Nat × Nat) := fun i => match i with
  | 12 => some (7, 0)
  | 18 => some (7, 1)
  | 22 => some (7, 2)
  | 25 => some (7, 3)
  | 28 => some (7, 4)
  | 31 => some (7, 5)
  | 44 => some (7, 6)
  | 48 => some (4, 3)
  | 54 => some (4, 7)
  | 65 => some (4, 1)
  | 68 => some (4, 2)
  | 78 => some (4, 8)
  | _ => none
theorem fl_X6_12 : fl_X6 12 = some (7, 0) := rfl
theorem fl_X6_18 : fl_X6 18 = some (7, 1) := rfl
theorem fl_X6_22 : fl_X6 22 = some (7, 2) := rfl
theorem fl_X6_25 : fl_X6 25 = some (7, 3) := rfl
theorem fl_X6_28 : fl_X6 28 = some (7, 4) := rfl
theorem fl_X6_31 : fl_X6 31 = some (7, 5) := rfl
theorem fl_X6_44 : fl_X6 44 = some (7, 6) := rfl
theorem fl_X6_48 : fl_X6 48 = some (4, 3) := rfl
theorem fl_X6_54 : fl_X6 54 = some (4, 7) := rfl
theorem fl_X6_65 : fl_X6 65 = some (4, 1) := rfl
theorem fl_X6_68 : fl_X6 68 = some (4, 2) := rfl
theorem fl_X6_78 : fl_X6 78 = some (4, 8) := rfl
theorem flok_X6 : ∀ i c k, fl_X6 i = some (c, k) → jx_Fl RX6 i c k := by
  intro i c k h
  unfold fl_X6 at h
  split at h
  · cases h; exact ⟨(RX6, TX6, 7), "RegisterFleet$Server", rfl, by decide, jx_mem (jx_mt1 (List.mem_of_getElem? (i := 150) rfl)) rfl, Or.inl rfl⟩
  · cases h; exact ⟨(RX6, TX6, 7), "RegisterFleet$Server", rfl, by decide, jx_mem (jx_mt1 (List.mem_of_getElem? (i := 152) rfl)) rfl, Or.inl rfl⟩
  · cases h; exact ⟨(RX6, TX6, 7), "RegisterFleet$Server", rfl, by decide, jx_mem (jx_mt1 (List.mem_of_getElem? (i := 154) rfl)) rfl, Or.inl rfl⟩
  · cases h; exact ⟨(RX6, TX6, 7), "RegisterFleet$Server", rfl, by decide, jx_mem (jx_mt1 (List.mem_of_getElem? (i := 156) rfl)) rfl, Or.inl rfl⟩
  · cases h; exact ⟨(RX6, TX6, 7), "RegisterFleet$Server", rfl, by decide, jx_mem (jx_mt1 (List.mem_of_getElem? (i := 158) rfl)) rfl, Or.inl rfl⟩
  · cases h; exact ⟨(RX6, TX6, 7), "RegisterFleet$Server", rfl, by decide, jx_mem (jx_mt1 (List.mem_of_getElem? (i := 160) rfl)) rfl, Or.inl rfl⟩
  · cases h; exact ⟨(RX6, TX6, 7), "RegisterFleet$Server", rfl, by decide, jx_mem (jx_mt1 (List.mem_of_getElem? (i := 162) rfl)) rfl, Or.inl rfl⟩
  · cases h; exact ⟨(RX3, TX3, 9), "RegisterFleet$Message", rfl, by decide, jx_mem (jx_mt3 (List.mem_of_getElem? (i := 45) rfl)) rfl, Or.inl rfl⟩
  · cases h; exact ⟨(RX3, TX3, 9), "RegisterFleet$Message", rfl, by decide, jx_mem (jx_mt3 (List.mem_of_getElem? (i := 58) rfl)) rfl, Or.inl rfl⟩
  · cases h; exact ⟨(RX3, TX3, 9), "RegisterFleet$Message", rfl, by decide, jx_mem (jx_mt3 (List.mem_of_getElem? (i := 38) rfl)) rfl, Or.inl rfl⟩
  · cases h; exact ⟨(RX3, TX3, 9), "RegisterFleet$Message", rfl, by decide, jx_mem (jx_mt3 (List.mem_of_getElem? (i := 42) rfl)) rfl, Or.inl rfl⟩
  · cases h; exact ⟨(RX3, TX3, 9), "RegisterFleet$Message", rfl, by decide, jx_mem (jx_mt3 (List.mem_of_getElem? (i := 62) rfl)) rfl, Or.inl rfl⟩
  · cases h
def fw_X6 : Nat → Option (Nat × Nat) := fun i => match i with
  | 44 => some (7, 6)
  | 48 => some (4, 3)
  | 54 => some (4, 7)
  | 78 => some (4, 8)
  | _ => none
theorem fw_X6_44 : fw_X6 44 = some (7, 6) := rfl
theorem fw_X6_48 : fw_X6 48 = some (4, 3) := rfl
theorem fw_X6_54 : fw_X6 54 = some (4, 7) := rfl
theorem fw_X6_78 : fw_X6 78 = some (4, 8) := rfl
theorem fwok_X6 {y : MethodName} (hy : y.cls = RX6) : ∀ i c k, fw_X6 i = some (c, k) → jx_Fw y i c k := by
  intro i c k h
  unfold fw_X6 at h
  split at h
  · cases h; exact ⟨(RX6, TX6, 7), "RegisterFleet$Server", rfl, by decide, by rw [hy]; exact jx_mem (jx_mt1 (List.mem_of_getElem? (i := 162) rfl)) rfl, Or.inl rfl, Or.inl rfl⟩
  · cases h; exact ⟨(RX3, TX3, 9), "RegisterFleet$Message", rfl, by decide, by rw [hy]; exact jx_mem (jx_mt3 (List.mem_of_getElem? (i := 45) rfl)) rfl, Or.inl rfl, Or.inl rfl⟩
  · cases h; exact ⟨(RX3, TX3, 9), "RegisterFleet$Message", rfl, by decide, by rw [hy]; exact jx_mem (jx_mt3 (List.mem_of_getElem? (i := 58) rfl)) rfl, Or.inl rfl, Or.inl rfl⟩
  · cases h; exact ⟨(RX3, TX3, 9), "RegisterFleet$Message", rfl, by decide, by rw [hy]; exact jx_mem (jx_mt3 (List.mem_of_getElem? (i := 62) rfl)) rfl, Or.inl rfl, Or.inl rfl⟩
  · cases h
def fi_X6 : Nat → Option (Nat × Nat) := fun i => match i with
  | 12 => some (7, 0)
  | 18 => some (7, 1)
  | 22 => some (7, 2)
  | 25 => some (7, 3)
  | 28 => some (7, 4)
  | 31 => some (7, 5)
  | 44 => some (7, 6)
  | 48 => some (4, 3)
  | 54 => some (4, 7)
  | 78 => some (4, 8)
  | _ => none
theorem fi_X6_12 : fi_X6 12 = some (7, 0) := rfl
theorem fi_X6_18 : fi_X6 18 = some (7, 1) := rfl
theorem fi_X6_22 : fi_X6 22 = some (7, 2) := rfl
theorem fi_X6_25 : fi_X6 25 = some (7, 3) := rfl
theorem fi_X6_28 : fi_X6 28 = some (7, 4) := rfl
theorem fi_X6_31 : fi_X6 31 = some (7, 5) := rfl
theorem fi_X6_44 : fi_X6 44 = some (7, 6) := rfl
theorem fi_X6_48 : fi_X6 48 = some (4, 3) := rfl
theorem fi_X6_54 : fi_X6 54 = some (4, 7) := rfl
theorem fi_X6_78 : fi_X6 78 = some (4, 8) := rfl
theorem fiok_X6 : ∀ i c k, fi_X6 i = some (c, k) → jx_Fw yX6_init i c k := by
  intro i c k h
  unfold fi_X6 at h
  split at h
  · cases h; exact ⟨(RX6, TX6, 7), "RegisterFleet$Server", rfl, by decide, jx_mem (jx_mt1 (List.mem_of_getElem? (i := 150) rfl)) rfl, Or.inl rfl, Or.inr ⟨rfl, rfl, rfl⟩⟩
  · cases h; exact ⟨(RX6, TX6, 7), "RegisterFleet$Server", rfl, by decide, jx_mem (jx_mt1 (List.mem_of_getElem? (i := 152) rfl)) rfl, Or.inl rfl, Or.inr ⟨rfl, rfl, rfl⟩⟩
  · cases h; exact ⟨(RX6, TX6, 7), "RegisterFleet$Server", rfl, by decide, jx_mem (jx_mt1 (List.mem_of_getElem? (i := 154) rfl)) rfl, Or.inl rfl, Or.inr ⟨rfl, rfl, rfl⟩⟩
  · cases h; exact ⟨(RX6, TX6, 7), "RegisterFleet$Server", rfl, by decide, jx_mem (jx_mt1 (List.mem_of_getElem? (i := 156) rfl)) rfl, Or.inl rfl, Or.inr ⟨rfl, rfl, rfl⟩⟩
  · cases h; exact ⟨(RX6, TX6, 7), "RegisterFleet$Server", rfl, by decide, jx_mem (jx_mt1 (List.mem_of_getElem? (i := 158) rfl)) rfl, Or.inl rfl, Or.inr ⟨rfl, rfl, rfl⟩⟩
  · cases h; exact ⟨(RX6, TX6, 7), "RegisterFleet$Server", rfl, by decide, jx_mem (jx_mt1 (List.mem_of_getElem? (i := 160) rfl)) rfl, Or.inl rfl, Or.inr ⟨rfl, rfl, rfl⟩⟩
  · cases h; exact ⟨(RX6, TX6, 7), "RegisterFleet$Server", rfl, by decide, jx_mem (jx_mt1 (List.mem_of_getElem? (i := 162) rfl)) rfl, Or.inl rfl, Or.inl rfl⟩
  · cases h; exact ⟨(RX3, TX3, 9), "RegisterFleet$Message", rfl, by decide, jx_mem (jx_mt3 (List.mem_of_getElem? (i := 45) rfl)) rfl, Or.inl rfl, Or.inl rfl⟩
  · cases h; exact ⟨(RX3, TX3, 9), "RegisterFleet$Message", rfl, by decide, jx_mem (jx_mt3 (List.mem_of_getElem? (i := 58) rfl)) rfl, Or.inl rfl, Or.inl rfl⟩
  · cases h; exact ⟨(RX3, TX3, 9), "RegisterFleet$Message", rfl, by decide, jx_mem (jx_mt3 (List.mem_of_getElem? (i := 62) rfl)) rfl, Or.inl rfl, Or.inl rfl⟩
  · cases h
def fl_X1 : Nat → Option (Nat × Nat) := fun i => match i with
  | 12 => some (2, 1)
  | 18 => some (2, 2)
  | 22 => some (2, 3)
  | 25 => some (2, 0)
  | 33 => some (2, 4)
  | 37 => some (2, 5)
  | 41 => some (2, 6)
  | 44 => some (2, 11)
  | 47 => some (2, 12)
  | 50 => some (2, 13)
  | 57 => some (2, 10)
  | 72 => some (5, 1)
  | 77 => some (5, 4)
  | 80 => some (2, 7)
  | 83 => some (2, 8)
  | 86 => some (2, 9)
  | 89 => some (4, 4)
  | 94 => some (4, 1)
  | 95 => some (4, 2)
  | 100 => some (5, 3)
  | 119 => some (4, 6)
  | 120 => some (4, 7)
  | 121 => some (4, 3)
  | _ => none
theorem fl_X1_12 : fl_X1 12 = some (2, 1) := rfl
theorem fl_X1_18 : fl_X1 18 = some (2, 2) := rfl
theorem fl_X1_22 : fl_X1 22 = some (2, 3) := rfl
theorem fl_X1_25 : fl_X1 25 = some (2, 0) := rfl
theorem fl_X1_33 : fl_X1 33 = some (2, 4) := rfl
theorem fl_X1_37 : fl_X1 37 = some (2, 5) := rfl
theorem fl_X1_41 : fl_X1 41 = some (2, 6) := rfl
theorem fl_X1_44 : fl_X1 44 = some (2, 11) := rfl
theorem fl_X1_47 : fl_X1 47 = some (2, 12) := rfl
theorem fl_X1_50 : fl_X1 50 = some (2, 13) := rfl
theorem fl_X1_57 : fl_X1 57 = some (2, 10) := rfl
theorem fl_X1_72 : fl_X1 72 = some (5, 1) := rfl
theorem fl_X1_77 : fl_X1 77 = some (5, 4) := rfl
theorem fl_X1_80 : fl_X1 80 = some (2, 7) := rfl
theorem fl_X1_83 : fl_X1 83 = some (2, 8) := rfl
theorem fl_X1_86 : fl_X1 86 = some (2, 9) := rfl
theorem fl_X1_89 : fl_X1 89 = some (4, 4) := rfl
theorem fl_X1_94 : fl_X1 94 = some (4, 1) := rfl
theorem fl_X1_95 : fl_X1 95 = some (4, 2) := rfl
theorem fl_X1_100 : fl_X1 100 = some (5, 3) := rfl
theorem fl_X1_119 : fl_X1 119 = some (4, 6) := rfl
theorem fl_X1_120 : fl_X1 120 = some (4, 7) := rfl
theorem fl_X1_121 : fl_X1 121 = some (4, 3) := rfl
theorem flok_X1 : ∀ i c k, fl_X1 i = some (c, k) → jx_Fl RX1 i c k := by
  intro i c k h
  unfold fl_X1 at h
  split at h
  · cases h; exact ⟨(RX1, TX1, 14), "RegisterFleet$Client", rfl, by decide, jx_mem (jx_mt1 (List.mem_of_getElem? (i := 188) rfl)) rfl, Or.inl rfl⟩
  · cases h; exact ⟨(RX1, TX1, 14), "RegisterFleet$Client", rfl, by decide, jx_mem (jx_mt1 (List.mem_of_getElem? (i := 190) rfl)) rfl, Or.inl rfl⟩
  · cases h; exact ⟨(RX1, TX1, 14), "RegisterFleet$Client", rfl, by decide, jx_mem (jx_mt1 (List.mem_of_getElem? (i := 191) rfl)) rfl, Or.inl rfl⟩
  · cases h; exact ⟨(RX1, TX1, 14), "RegisterFleet$Client", rfl, by decide, jx_mem (jx_mt1 (List.mem_of_getElem? (i := 186) rfl)) rfl, Or.inl rfl⟩
  · cases h; exact ⟨(RX1, TX1, 14), "RegisterFleet$Client", rfl, by decide, jx_mem (jx_mt1 (List.mem_of_getElem? (i := 193) rfl)) rfl, Or.inl rfl⟩
  · cases h; exact ⟨(RX1, TX1, 14), "RegisterFleet$Client", rfl, by decide, jx_mem (jx_mt1 (List.mem_of_getElem? (i := 195) rfl)) rfl, Or.inl rfl⟩
  · cases h; exact ⟨(RX1, TX1, 14), "RegisterFleet$Client", rfl, by decide, jx_mem (jx_mt1 (List.mem_of_getElem? (i := 197) rfl)) rfl, Or.inl rfl⟩
  · cases h; exact ⟨(RX1, TX1, 14), "RegisterFleet$Client", rfl, by decide, jx_mem (jx_mt1 (List.mem_of_getElem? (i := 207) rfl)) rfl, Or.inl rfl⟩
  · cases h; exact ⟨(RX1, TX1, 14), "RegisterFleet$Client", rfl, by decide, jx_mem (jx_mt1 (List.mem_of_getElem? (i := 209) rfl)) rfl, Or.inl rfl⟩
  · cases h; exact ⟨(RX1, TX1, 14), "RegisterFleet$Client", rfl, by decide, jx_mem (jx_mt1 (List.mem_of_getElem? (i := 211) rfl)) rfl, Or.inl rfl⟩
  · cases h; exact ⟨(RX1, TX1, 14), "RegisterFleet$Client", rfl, by decide, jx_mem (jx_mt1 (List.mem_of_getElem? (i := 205) rfl)) rfl, Or.inl rfl⟩
  · cases h; exact ⟨(RX4, TX4, 9), "RegisterFleet$Operation", rfl, by decide, jx_mem (jx_mt2 (List.mem_of_getElem? (i := 179) rfl)) rfl, Or.inl rfl⟩
  · cases h; exact ⟨(RX4, TX4, 9), "RegisterFleet$Operation", rfl, by decide, jx_mem (jx_mt2 (List.mem_of_getElem? (i := 189) rfl)) rfl, Or.inl rfl⟩
  · cases h; exact ⟨(RX1, TX1, 14), "RegisterFleet$Client", rfl, by decide, jx_mem (jx_mt1 (List.mem_of_getElem? (i := 199) rfl)) rfl, Or.inl rfl⟩
  · cases h; exact ⟨(RX1, TX1, 14), "RegisterFleet$Client", rfl, by decide, jx_mem (jx_mt1 (List.mem_of_getElem? (i := 201) rfl)) rfl, Or.inl rfl⟩
  · cases h; exact ⟨(RX1, TX1, 14), "RegisterFleet$Client", rfl, by decide, jx_mem (jx_mt1 (List.mem_of_getElem? (i := 203) rfl)) rfl, Or.inl rfl⟩
  · cases h; exact ⟨(RX3, TX3, 9), "RegisterFleet$Message", rfl, by decide, jx_mem (jx_mt3 (List.mem_of_getElem? (i := 49) rfl)) rfl, Or.inl rfl⟩
  · cases h; exact ⟨(RX3, TX3, 9), "RegisterFleet$Message", rfl, by decide, jx_mem (jx_mt3 (List.mem_of_getElem? (i := 39) rfl)) rfl, Or.inl rfl⟩
  · cases h; exact ⟨(RX3, TX3, 9), "RegisterFleet$Message", rfl, by decide, jx_mem (jx_mt3 (List.mem_of_getElem? (i := 43) rfl)) rfl, Or.inl rfl⟩
  · cases h; exact ⟨(RX4, TX4, 9), "RegisterFleet$Operation", rfl, by decide, jx_mem (jx_mt2 (List.mem_of_getElem? (i := 186) rfl)) rfl, Or.inl rfl⟩
  · cases h; exact ⟨(RX3, TX3, 9), "RegisterFleet$Message", rfl, by decide, jx_mem (jx_mt3 (List.mem_of_getElem? (i := 56) rfl)) rfl, Or.inl rfl⟩
  · cases h; exact ⟨(RX3, TX3, 9), "RegisterFleet$Message", rfl, by decide, jx_mem (jx_mt3 (List.mem_of_getElem? (i := 60) rfl)) rfl, Or.inl rfl⟩
  · cases h; exact ⟨(RX3, TX3, 9), "RegisterFleet$Message", rfl, by decide, jx_mem (jx_mt3 (List.mem_of_getElem? (i := 48) rfl)) rfl, Or.inl rfl⟩
  · cases h
def fw_X1 : Nat → Option (Nat × Nat) := fun i => match i with
  | 33 => some (2, 4)
  | 37 => some (2, 5)
  | 41 => some (2, 6)
  | 44 => some (2, 11)
  | 47 => some (2, 12)
  | 50 => some (2, 13)
  | 57 => some (2, 10)
  | 72 => some (5, 1)
  | 77 => some (5, 4)
  | 80 => some (2, 7)
  | 83 => some (2, 8)
  | 86 => some (2, 9)
  | 89 => some (4, 4)
  | 100 => some (5, 3)
  | 119 => some (4, 6)
  | 120 => some (4, 7)
  | 121 => some (4, 3)
  | _ => none
theorem fw_X1_33 : fw_X1 33 = some (2, 4) := rfl
theorem fw_X1_37 : fw_X1 37 = some (2, 5) := rfl
theorem fw_X1_41 : fw_X1 41 = some (2, 6) := rfl
theorem fw_X1_44 : fw_X1 44 = some (2, 11) := rfl
theorem fw_X1_47 : fw_X1 47 = some (2, 12) := rfl
theorem fw_X1_50 : fw_X1 50 = some (2, 13) := rfl
theorem fw_X1_57 : fw_X1 57 = some (2, 10) := rfl
theorem fw_X1_72 : fw_X1 72 = some (5, 1) := rfl
theorem fw_X1_77 : fw_X1 77 = some (5, 4) := rfl
theorem fw_X1_80 : fw_X1 80 = some (2, 7) := rfl
theorem fw_X1_83 : fw_X1 83 = some (2, 8) := rfl
theorem fw_X1_86 : fw_X1 86 = some (2, 9) := rfl
theorem fw_X1_89 : fw_X1 89 = some (4, 4) := rfl
theorem fw_X1_100 : fw_X1 100 = some (5, 3) := rfl
theorem fw_X1_119 : fw_X1 119 = some (4, 6) := rfl
theorem fw_X1_120 : fw_X1 120 = some (4, 7) := rfl
theorem fw_X1_121 : fw_X1 121 = some (4, 3) := rfl
theorem fwok_X1 {y : MethodName} (hy : y.cls = RX1) : ∀ i c k, fw_X1 i = some (c, k) → jx_Fw y i c k := by
  intro i c k h
  unfold fw_X1 at h
  split at h
  · cases h; exact ⟨(RX1, TX1, 14), "RegisterFleet$Client", rfl, by decide, by rw [hy]; exact jx_mem (jx_mt1 (List.mem_of_getElem? (i := 193) rfl)) rfl, Or.inl rfl, Or.inl rfl⟩
  · cases h; exact ⟨(RX1, TX1, 14), "RegisterFleet$Client", rfl, by decide, by rw [hy]; exact jx_mem (jx_mt1 (List.mem_of_getElem? (i := 195) rfl)) rfl, Or.inl rfl, Or.inl rfl⟩
  · cases h; exact ⟨(RX1, TX1, 14), "RegisterFleet$Client", rfl, by decide, by rw [hy]; exact jx_mem (jx_mt1 (List.mem_of_getElem? (i := 197) rfl)) rfl, Or.inl rfl, Or.inl rfl⟩
  · cases h; exact ⟨(RX1, TX1, 14), "RegisterFleet$Client", rfl, by decide, by rw [hy]; exact jx_mem (jx_mt1 (List.mem_of_getElem? (i := 207) rfl)) rfl, Or.inl rfl, Or.inl rfl⟩
  · cases h; exact ⟨(RX1, TX1, 14), "RegisterFleet$Client", rfl, by decide, by rw [hy]; exact jx_mem (jx_mt1 (List.mem_of_getElem? (i := 209) rfl)) rfl, Or.inl rfl, Or.inl rfl⟩
  · cases h; exact ⟨(RX1, TX1, 14), "RegisterFleet$Client", rfl, by decide, by rw [hy]; exact jx_mem (jx_mt1 (List.mem_of_getElem? (i := 211) rfl)) rfl, Or.inl rfl, Or.inl rfl⟩
  · cases h; exact ⟨(RX1, TX1, 14), "RegisterFleet$Client", rfl, by decide, by rw [hy]; exact jx_mem (jx_mt1 (List.mem_of_getElem? (i := 205) rfl)) rfl, Or.inl rfl, Or.inl rfl⟩
  · cases h; exact ⟨(RX4, TX4, 9), "RegisterFleet$Operation", rfl, by decide, by rw [hy]; exact jx_mem (jx_mt2 (List.mem_of_getElem? (i := 179) rfl)) rfl, Or.inl rfl, Or.inl rfl⟩
  · cases h; exact ⟨(RX4, TX4, 9), "RegisterFleet$Operation", rfl, by decide, by rw [hy]; exact jx_mem (jx_mt2 (List.mem_of_getElem? (i := 189) rfl)) rfl, Or.inl rfl, Or.inl rfl⟩
  · cases h; exact ⟨(RX1, TX1, 14), "RegisterFleet$Client", rfl, by decide, by rw [hy]; exact jx_mem (jx_mt1 (List.mem_of_getElem? (i := 199) rfl)) rfl, Or.inl rfl, Or.inl rfl⟩
  · cases h; exact ⟨(RX1, TX1, 14), "RegisterFleet$Client", rfl, by decide, by rw [hy]; exact jx_mem (jx_mt1 (List.mem_of_getElem? (i := 201) rfl)) rfl, Or.inl rfl, Or.inl rfl⟩
  · cases h; exact ⟨(RX1, TX1, 14), "RegisterFleet$Client", rfl, by decide, by rw [hy]; exact jx_mem (jx_mt1 (List.mem_of_getElem? (i := 203) rfl)) rfl, Or.inl rfl, Or.inl rfl⟩
  · cases h; exact ⟨(RX3, TX3, 9), "RegisterFleet$Message", rfl, by decide, by rw [hy]; exact jx_mem (jx_mt3 (List.mem_of_getElem? (i := 49) rfl)) rfl, Or.inl rfl, Or.inl rfl⟩
  · cases h; exact ⟨(RX4, TX4, 9), "RegisterFleet$Operation", rfl, by decide, by rw [hy]; exact jx_mem (jx_mt2 (List.mem_of_getElem? (i := 186) rfl)) rfl, Or.inl rfl, Or.inl rfl⟩
  · cases h; exact ⟨(RX3, TX3, 9), "RegisterFleet$Message", rfl, by decide, by rw [hy]; exact jx_mem (jx_mt3 (List.mem_of_getElem? (i := 56) rfl)) rfl, Or.inl rfl, Or.inl rfl⟩
  · cases h; exact ⟨(RX3, TX3, 9), "RegisterFleet$Message", rfl, by decide, by rw [hy]; exact jx_mem (jx_mt3 (List.mem_of_getElem? (i := 60) rfl)) rfl, Or.inl rfl, Or.inl rfl⟩
  · cases h; exact ⟨(RX3, TX3, 9), "RegisterFleet$Message", rfl, by decide, by rw [hy]; exact jx_mem (jx_mt3 (List.mem_of_getElem? (i := 48) rfl)) rfl, Or.inl rfl, Or.inl rfl⟩
  · cases h
def fi_X1 : Nat → Option (Nat × Nat) := fun i => match i with
  | 12 => some (2, 1)
  | 18 => some (2, 2)
  | 22 => some (2, 3)
  | 25 => some (2, 0)
  | 33 => some (2, 4)
  | 37 => some (2, 5)
  | 41 => some (2, 6)
  | 44 => some (2, 11)
  | 47 => some (2, 12)
  | 50 => some (2, 13)
  | 57 => some (2, 10)
  | 72 => some (5, 1)
  | 77 => some (5, 4)
  | 80 => some (2, 7)
  | 83 => some (2, 8)
  | 86 => some (2, 9)
  | 89 => some (4, 4)
  | 100 => some (5, 3)
  | 119 => some (4, 6)
  | 120 => some (4, 7)
  | 121 => some (4, 3)
  | _ => none
theorem fi_X1_12 : fi_X1 12 = some (2, 1) := rfl
theorem fi_X1_18 : fi_X1 18 = some (2, 2) := rfl
theorem fi_X1_22 : fi_X1 22 = some (2, 3) := rfl
theorem fi_X1_25 : fi_X1 25 = some (2, 0) := rfl
theorem fi_X1_33 : fi_X1 33 = some (2, 4) := rfl
theorem fi_X1_37 : fi_X1 37 = some (2, 5) := rfl
theorem fi_X1_41 : fi_X1 41 = some (2, 6) := rfl
theorem fi_X1_44 : fi_X1 44 = some (2, 11) := rfl
theorem fi_X1_47 : fi_X1 47 = some (2, 12) := rfl
theorem fi_X1_50 : fi_X1 50 = some (2, 13) := rfl
theorem fi_X1_57 : fi_X1 57 = some (2, 10) := rfl
theorem fi_X1_72 : fi_X1 72 = some (5, 1) := rfl
theorem fi_X1_77 : fi_X1 77 = some (5, 4) := rfl
theorem fi_X1_80 : fi_X1 80 = some (2, 7) := rfl
theorem fi_X1_83 : fi_X1 83 = some (2, 8) := rfl
theorem fi_X1_86 : fi_X1 86 = some (2, 9) := rfl
theorem fi_X1_89 : fi_X1 89 = some (4, 4) := rfl
theorem fi_X1_100 : fi_X1 100 = some (5, 3) := rfl
theorem fi_X1_119 : fi_X1 119 = some (4, 6) := rfl
theorem fi_X1_120 : fi_X1 120 = some (4, 7) := rfl
theorem fi_X1_121 : fi_X1 121 = some (4, 3) := rfl
theorem fiok_X1 : ∀ i c k, fi_X1 i = some (c, k) → jx_Fw yX1_init i c k := by
  intro i c k h
  unfold fi_X1 at h
  split at h
  · cases h; exact ⟨(RX1, TX1, 14), "RegisterFleet$Client", rfl, by decide, jx_mem (jx_mt1 (List.mem_of_getElem? (i := 188) rfl)) rfl, Or.inl rfl, Or.inr ⟨rfl, rfl, rfl⟩⟩
  · cases h; exact ⟨(RX1, TX1, 14), "RegisterFleet$Client", rfl, by decide, jx_mem (jx_mt1 (List.mem_of_getElem? (i := 190) rfl)) rfl, Or.inl rfl, Or.inr ⟨rfl, rfl, rfl⟩⟩
  · cases h; exact ⟨(RX1, TX1, 14), "RegisterFleet$Client", rfl, by decide, jx_mem (jx_mt1 (List.mem_of_getElem? (i := 191) rfl)) rfl, Or.inl rfl, Or.inr ⟨rfl, rfl, rfl⟩⟩
  · cases h; exact ⟨(RX1, TX1, 14), "RegisterFleet$Client", rfl, by decide, jx_mem (jx_mt1 (List.mem_of_getElem? (i := 186) rfl)) rfl, Or.inl rfl, Or.inr ⟨rfl, rfl, rfl⟩⟩
  · cases h; exact ⟨(RX1, TX1, 14), "RegisterFleet$Client", rfl, by decide, jx_mem (jx_mt1 (List.mem_of_getElem? (i := 193) rfl)) rfl, Or.inl rfl, Or.inl rfl⟩
  · cases h; exact ⟨(RX1, TX1, 14), "RegisterFleet$Client", rfl, by decide, jx_mem (jx_mt1 (List.mem_of_getElem? (i := 195) rfl)) rfl, Or.inl rfl, Or.inl rfl⟩
  · cases h; exact ⟨(RX1, TX1, 14), "RegisterFleet$Client", rfl, by decide, jx_mem (jx_mt1 (List.mem_of_getElem? (i := 197) rfl)) rfl, Or.inl rfl, Or.inl rfl⟩
  · cases h; exact ⟨(RX1, TX1, 14), "RegisterFleet$Client", rfl, by decide, jx_mem (jx_mt1 (List.mem_of_getElem? (i := 207) rfl)) rfl, Or.inl rfl, Or.inl rfl⟩
  · cases h; exact ⟨(RX1, TX1, 14), "RegisterFleet$Client", rfl, by decide, jx_mem (jx_mt1 (List.mem_of_getElem? (i := 209) rfl)) rfl, Or.inl rfl, Or.inl rfl⟩
  · cases h; exact ⟨(RX1, TX1, 14), "RegisterFleet$Client", rfl, by decide, jx_mem (jx_mt1 (List.mem_of_getElem? (i := 211) rfl)) rfl, Or.inl rfl, Or.inl rfl⟩
  · cases h; exact ⟨(RX1, TX1, 14), "RegisterFleet$Client", rfl, by decide, jx_mem (jx_mt1 (List.mem_of_getElem? (i := 205) rfl)) rfl, Or.inl rfl, Or.inl rfl⟩
  · cases h; exact ⟨(RX4, TX4, 9), "RegisterFleet$Operation", rfl, by decide, jx_mem (jx_mt2 (List.mem_of_getElem? (i := 179) rfl)) rfl, Or.inl rfl, Or.inl rfl⟩
  · cases h; exact ⟨(RX4, TX4, 9), "RegisterFleet$Operation", rfl, by decide, jx_mem (jx_mt2 (List.mem_of_getElem? (i := 189) rfl)) rfl, Or.inl rfl, Or.inl rfl⟩
  · cases h; exact ⟨(RX1, TX1, 14), "RegisterFleet$Client", rfl, by decide, jx_mem (jx_mt1 (List.mem_of_getElem? (i := 199) rfl)) rfl, Or.inl rfl, Or.inl rfl⟩
  · cases h; exact ⟨(RX1, TX1, 14), "RegisterFleet$Client", rfl, by decide, jx_mem (jx_mt1 (List.mem_of_getElem? (i := 201) rfl)) rfl, Or.inl rfl, Or.inl rfl⟩
  · cases h; exact ⟨(RX1, TX1, 14), "RegisterFleet$Client", rfl, by decide, jx_mem (jx_mt1 (List.mem_of_getElem? (i := 203) rfl)) rfl, Or.inl rfl, Or.inl rfl⟩
  · cases h; exact ⟨(RX3, TX3, 9), "RegisterFleet$Message", rfl, by decide, jx_mem (jx_mt3 (List.mem_of_getElem? (i := 49) rfl)) rfl, Or.inl rfl, Or.inl rfl⟩
  · cases h; exact ⟨(RX4, TX4, 9), "RegisterFleet$Operation", rfl, by decide, jx_mem (jx_mt2 (List.mem_of_getElem? (i := 186) rfl)) rfl, Or.inl rfl, Or.inl rfl⟩
  · cases h; exact ⟨(RX3, TX3, 9), "RegisterFleet$Message", rfl, by decide, jx_mem (jx_mt3 (List.mem_of_getElem? (i := 56) rfl)) rfl, Or.inl rfl, Or.inl rfl⟩
  · cases h; exact ⟨(RX3, TX3, 9), "RegisterFleet$Message", rfl, by decide, jx_mem (jx_mt3 (List.mem_of_getElem? (i := 60) rfl)) rfl, Or.inl rfl, Or.inl rfl⟩
  · cases h; exact ⟨(RX3, TX3, 9), "RegisterFleet$Message", rfl, by decide, jx_mem (jx_mt3 (List.mem_of_getElem? (i := 48) rfl)) rfl, Or.inl rfl, Or.inl rfl⟩
  · cases h
def fl_X4 : Nat → Option (Nat × Nat) := fun i => match i with
  | 7 => some (5, 0)
  | 13 => some (5, 7)
  | _ => none
theorem fl_X4_7 : fl_X4 7 = some (5, 0) := rfl
theorem fl_X4_13 : fl_X4 13 = some (5, 7) := rfl
theorem flok_X4 : ∀ i c k, fl_X4 i = some (c, k) → jx_Fl RX4 i c k := by
  intro i c k h
  unfold fl_X4 at h
  split at h
  · cases h; exact ⟨(RX4, TX4, 9), "RegisterFleet$Operation", rfl, by decide, jx_mem (jx_mt2 (List.mem_of_getElem? (i := 175) rfl)) rfl, Or.inl rfl⟩
  · cases h; exact ⟨(RX4, TX4, 9), "RegisterFleet$Operation", rfl, by decide, jx_mem (jx_mt2 (List.mem_of_getElem? (i := 198) rfl)) rfl, Or.inl rfl⟩
  · cases h
def fw_X4 : Nat → Option (Nat × Nat) := fun i => match i with
  | 13 => some (5, 7)
  | _ => none
theorem fw_X4_13 : fw_X4 13 = some (5, 7) := rfl
theorem fwok_X4 {y : MethodName} (hy : y.cls = RX4) : ∀ i c k, fw_X4 i = some (c, k) → jx_Fw y i c k := by
  intro i c k h
  unfold fw_X4 at h
  split at h
  · cases h; exact ⟨(RX4, TX4, 9), "RegisterFleet$Operation", rfl, by decide, by rw [hy]; exact jx_mem (jx_mt2 (List.mem_of_getElem? (i := 198) rfl)) rfl, Or.inl rfl, Or.inl rfl⟩
  · cases h
def fi_X4 : Nat → Option (Nat × Nat) := fun i => match i with
  | 7 => some (5, 0)
  | 13 => some (5, 7)
  | _ => none
theorem fi_X4_7 : fi_X4 7 = some (5, 0) := rfl
theorem fi_X4_13 : fi_X4 13 = some (5, 7) := rfl
theorem fiok_X4 : ∀ i c k, fi_X4 i = some (c, k) → jx_Fw yX4_init i c k := by
  intro i c k h
  unfold fi_X4 at h
  split at h
  · cases h; exact ⟨(RX4, TX4, 9), "RegisterFleet$Operation", rfl, by decide, jx_mem (jx_mt2 (List.mem_of_getElem? (i := 175) rfl)) rfl, Or.inl rfl, Or.inr ⟨rfl, rfl, rfl⟩⟩
  · cases h; exact ⟨(RX4, TX4, 9), "RegisterFleet$Operation", rfl, by decide, jx_mem (jx_mt2 (List.mem_of_getElem? (i := 198) rfl)) rfl, Or.inl rfl, Or.inl rfl⟩
  · cases h
def fl_X3 : Nat → Option (Nat × Nat) := fun i => match i with
  | 9 => some (4, 1)
  | 15 => some (4, 2)
  | 18 => some (4, 0)
  | 28 => some (4, 6)
  | 32 => some (4, 7)
  | 35 => some (4, 8)
  | _ => none
theorem fl_X3_9 : fl_X3 9 = some (4, 1) := rfl
theorem fl_X3_15 : fl_X3 15 = some (4, 2) := rfl
theorem fl_X3_18 : fl_X3 18 = some (4, 0) := rfl
theorem fl_X3_28 : fl_X3 28 = some (4, 6) := rfl
theorem fl_X3_32 : fl_X3 32 = some (4, 7) := rfl
theorem fl_X3_35 : fl_X3 35 = some (4, 8) := rfl
theorem flok_X3 : ∀ i c k, fl_X3 i = some (c, k) → jx_Fl RX3 i c k := by
  intro i c k h
  unfold fl_X3 at h
  split at h
  · cases h; exact ⟨(RX3, TX3, 9), "RegisterFleet$Message", rfl, by decide, jx_mem (jx_mt3 (List.mem_of_getElem? (i := 37) rfl)) rfl, Or.inl rfl⟩
  · cases h; exact ⟨(RX3, TX3, 9), "RegisterFleet$Message", rfl, by decide, jx_mem (jx_mt3 (List.mem_of_getElem? (i := 41) rfl)) rfl, Or.inl rfl⟩
  · cases h; exact ⟨(RX3, TX3, 9), "RegisterFleet$Message", rfl, by decide, jx_mem (jx_mt3 (List.mem_of_getElem? (i := 34) rfl)) rfl, Or.inl rfl⟩
  · cases h; exact ⟨(RX3, TX3, 9), "RegisterFleet$Message", rfl, by decide, jx_mem (jx_mt3 (List.mem_of_getElem? (i := 54) rfl)) rfl, Or.inl rfl⟩
  · cases h; exact ⟨(RX3, TX3, 9), "RegisterFleet$Message", rfl, by decide, jx_mem (jx_mt3 (List.mem_of_getElem? (i := 57) rfl)) rfl, Or.inl rfl⟩
  · cases h; exact ⟨(RX3, TX3, 9), "RegisterFleet$Message", rfl, by decide, jx_mem (jx_mt3 (List.mem_of_getElem? (i := 61) rfl)) rfl, Or.inl rfl⟩
  · cases h
def fw_X3 : Nat → Option (Nat × Nat) := fun i => match i with
  | 28 => some (4, 6)
  | 32 => some (4, 7)
  | 35 => some (4, 8)
  | _ => none
theorem fw_X3_28 : fw_X3 28 = some (4, 6) := rfl
theorem fw_X3_32 : fw_X3 32 = some (4, 7) := rfl
theorem fw_X3_35 : fw_X3 35 = some (4, 8) := rfl
theorem fwok_X3 {y : MethodName} (hy : y.cls = RX3) : ∀ i c k, fw_X3 i = some (c, k) → jx_Fw y i c k := by
  intro i c k h
  unfold fw_X3 at h
  split at h
  · cases h; exact ⟨(RX3, TX3, 9), "RegisterFleet$Message", rfl, by decide, by rw [hy]; exact jx_mem (jx_mt3 (List.mem_of_getElem? (i := 54) rfl)) rfl, Or.inl rfl, Or.inl rfl⟩
  · cases h; exact ⟨(RX3, TX3, 9), "RegisterFleet$Message", rfl, by decide, by rw [hy]; exact jx_mem (jx_mt3 (List.mem_of_getElem? (i := 57) rfl)) rfl, Or.inl rfl, Or.inl rfl⟩
  · cases h; exact ⟨(RX3, TX3, 9), "RegisterFleet$Message", rfl, by decide, by rw [hy]; exact jx_mem (jx_mt3 (List.mem_of_getElem? (i := 61) rfl)) rfl, Or.inl rfl, Or.inl rfl⟩
  · cases h
def fi_X3 : Nat → Option (Nat × Nat) := fun i => match i with
  | 9 => some (4, 1)
  | 15 => some (4, 2)
  | 18 => some (4, 0)
  | 28 => some (4, 6)
  | 32 => some (4, 7)
  | 35 => some (4, 8)
  | _ => none
theorem fi_X3_9 : fi_X3 9 = some (4, 1) := rfl
theorem fi_X3_15 : fi_X3 15 = some (4, 2) := rfl
theorem fi_X3_18 : fi_X3 18 = some (4, 0) := rfl
theorem fi_X3_28 : fi_X3 28 = some (4, 6) := rfl
theorem fi_X3_32 : fi_X3 32 = some (4, 7) := rfl
theorem fi_X3_35 : fi_X3 35 = some (4, 8) := rfl
theorem fiok_X3 : ∀ i c k, fi_X3 i = some (c, k) → jx_Fw yX3_init i c k := by
  intro i c k h
  unfold fi_X3 at h
  split at h
  · cases h; exact ⟨(RX3, TX3, 9), "RegisterFleet$Message", rfl, by decide, jx_mem (jx_mt3 (List.mem_of_getElem? (i := 37) rfl)) rfl, Or.inl rfl, Or.inr ⟨rfl, rfl, rfl⟩⟩
  · cases h; exact ⟨(RX3, TX3, 9), "RegisterFleet$Message", rfl, by decide, jx_mem (jx_mt3 (List.mem_of_getElem? (i := 41) rfl)) rfl, Or.inl rfl, Or.inr ⟨rfl, rfl, rfl⟩⟩
  · cases h; exact ⟨(RX3, TX3, 9), "RegisterFleet$Message", rfl, by decide, jx_mem (jx_mt3 (List.mem_of_getElem? (i := 34) rfl)) rfl, Or.inl rfl, Or.inr ⟨rfl, rfl, rfl⟩⟩
  · cases h; exact ⟨(RX3, TX3, 9), "RegisterFleet$Message", rfl, by decide, jx_mem (jx_mt3 (List.mem_of_getElem? (i := 54) rfl)) rfl, Or.inl rfl, Or.inl rfl⟩
  · cases h; exact ⟨(RX3, TX3, 9), "RegisterFleet$Message", rfl, by decide, jx_mem (jx_mt3 (List.mem_of_getElem? (i := 57) rfl)) rfl, Or.inl rfl, Or.inl rfl⟩
  · cases h; exact ⟨(RX3, TX3, 9), "RegisterFleet$Message", rfl, by decide, jx_mem (jx_mt3 (List.mem_of_getElem? (i := 61) rfl)) rfl, Or.inl rfl, Or.inl rfl⟩
  · cases h
def fl_X9 : Nat → Option (Nat × Nat) := fun i => match i with
  | 7 => some (10, 1)
  | 13 => some (10, 2)
  | 17 => some (10, 3)
  | 21 => some (10, 4)
  | 24 => some (10, 5)
  | 27 => some (10, 6)
  | 30 => some (10, 7)
  | 33 => some (10, 8)
  | 36 => some (10, 12)
  | 39 => some (10, 13)
  | 42 => some (10, 14)
  | 45 => some (10, 15)
  | 48 => some (10, 16)
  | 51 => some (10, 17)
  | 54 => some (10, 18)
  | 57 => some (10, 19)
  | 60 => some (10, 20)
  | 63 => some (10, 21)
  | 66 => some (10, 22)
  | 69 => some (10, 23)
  | 73 => some (10, 24)
  | 76 => some (10, 28)
  | 79 => some (10, 29)
  | 82 => some (10, 30)
  | 85 => some (10, 31)
  | 88 => some (10, 32)
  | 91 => some (10, 33)
  | 94 => some (10, 34)
  | 97 => some (10, 35)
  | 100 => some (10, 36)
  | 103 => some (10, 37)
  | 106 => some (10, 38)
  | 109 => some (10, 39)
  | 112 => some (10, 40)
  | 115 => some (10, 41)
  | 118 => some (10, 42)
  | 121 => some (10, 43)
  | 124 => some (10, 44)
  | 127 => some (10, 45)
  | 130 => some (10, 46)
  | 133 => some (10, 60)
  | 137 => some (10, 61)
  | 140 => some (10, 0)
  | 143 => some (10, 9)
  | 146 => some (10, 10)
  | 149 => some (10, 11)
  | 152 => some (10, 25)
  | 155 => some (10, 26)
  | 158 => some (10, 27)
  | 217 => some (10, 47)
  | 220 => some (10, 48)
  | 223 => some (10, 49)
  | 226 => some (10, 50)
  | 229 => some (10, 51)
  | 232 => some (10, 52)
  | 235 => some (10, 53)
  | 238 => some (10, 54)
  | 241 => some (10, 55)
  | 244 => some (10, 56)
  | 247 => some (10, 57)
  | 250 => some (10, 58)
  | 306 => some (10, 59)
  | _ => none
theorem fl_X9_7 : fl_X9 7 = some (10, 1) := rfl
theorem fl_X9_13 : fl_X9 13 = some (10, 2) := rfl
theorem fl_X9_17 : fl_X9 17 = some (10, 3) := rfl
theorem fl_X9_21 : fl_X9 21 = some (10, 4) := rfl
theorem fl_X9_24 : fl_X9 24 = some (10, 5) := rfl
theorem fl_X9_27 : fl_X9 27 = some (10, 6) := rfl
theorem fl_X9_30 : fl_X9 30 = some (10, 7) := rfl
theorem fl_X9_33 : fl_X9 33 = some (10, 8) := rfl
theorem fl_X9_36 : fl_X9 36 = some (10, 12) := rfl
theorem fl_X9_39 : fl_X9 39 = some (10, 13) := rfl
theorem fl_X9_42 : fl_X9 42 = some (10, 14) := rfl
theorem fl_X9_45 : fl_X9 45 = some (10, 15) := rfl
theorem fl_X9_48 : fl_X9 48 = some (10, 16) := rfl
theorem fl_X9_51 : fl_X9 51 = some (10, 17) := rfl
theorem fl_X9_54 : fl_X9 54 = some (10, 18) := rfl
theorem fl_X9_57 : fl_X9 57 = some (10, 19) := rfl
theorem fl_X9_60 : fl_X9 60 = some (10, 20) := rfl
theorem fl_X9_63 : fl_X9 63 = some (10, 21) := rfl
theorem fl_X9_66 : fl_X9 66 = some (10, 22) := rfl
theorem fl_X9_69 : fl_X9 69 = some (10, 23) := rfl
theorem fl_X9_73 : fl_X9 73 = some (10, 24) := rfl
theorem fl_X9_76 : fl_X9 76 = some (10, 28) := rfl
theorem fl_X9_79 : fl_X9 79 = some (10, 29) := rfl
theorem fl_X9_82 : fl_X9 82 = some (10, 30) := rfl
theorem fl_X9_85 : fl_X9 85 = some (10, 31) := rfl
theorem fl_X9_88 : fl_X9 88 = some (10, 32) := rfl
theorem fl_X9_91 : fl_X9 91 = some (10, 33) := rfl
theorem fl_X9_94 : fl_X9 94 = some (10, 34) := rfl
theorem fl_X9_97 : fl_X9 97 = some (10, 35) := rfl
theorem fl_X9_100 : fl_X9 100 = some (10, 36) := rfl
theorem fl_X9_103 : fl_X9 103 = some (10, 37) := rfl
theorem fl_X9_106 : fl_X9 106 = some (10, 38) := rfl
theorem fl_X9_109 : fl_X9 109 = some (10, 39) := rfl
theorem fl_X9_112 : fl_X9 112 = some (10, 40) := rfl
theorem fl_X9_115 : fl_X9 115 = some (10, 41) := rfl
theorem fl_X9_118 : fl_X9 118 = some (10, 42) := rfl
theorem fl_X9_121 : fl_X9 121 = some (10, 43) := rfl
theorem fl_X9_124 : fl_X9 124 = some (10, 44) := rfl
theorem fl_X9_127 : fl_X9 127 = some (10, 45) := rfl
theorem fl_X9_130 : fl_X9 130 = some (10, 46) := rfl
theorem fl_X9_133 : fl_X9 133 = some (10, 60) := rfl
theorem fl_X9_137 : fl_X9 137 = some (10, 61) := rfl
theorem fl_X9_140 : fl_X9 140 = some (10, 0) := rfl
theorem fl_X9_143 : fl_X9 143 = some (10, 9) := rfl
theorem fl_X9_146 : fl_X9 146 = some (10, 10) := rfl
theorem fl_X9_149 : fl_X9 149 = some (10, 11) := rfl
theorem fl_X9_152 : fl_X9 152 = some (10, 25) := rfl
theorem fl_X9_155 : fl_X9 155 = some (10, 26) := rfl
theorem fl_X9_158 : fl_X9 158 = some (10, 27) := rfl
theorem fl_X9_217 : fl_X9 217 = some (10, 47) := rfl
theorem fl_X9_220 : fl_X9 220 = some (10, 48) := rfl
theorem fl_X9_223 : fl_X9 223 = some (10, 49) := rfl
theorem fl_X9_226 : fl_X9 226 = some (10, 50) := rfl
theorem fl_X9_229 : fl_X9 229 = some (10, 51) := rfl
theorem fl_X9_232 : fl_X9 232 = some (10, 52) := rfl
theorem fl_X9_235 : fl_X9 235 = some (10, 53) := rfl
theorem fl_X9_238 : fl_X9 238 = some (10, 54) := rfl
theorem fl_X9_241 : fl_X9 241 = some (10, 55) := rfl
theorem fl_X9_244 : fl_X9 244 = some (10, 56) := rfl
theorem fl_X9_247 : fl_X9 247 = some (10, 57) := rfl
theorem fl_X9_250 : fl_X9 250 = some (10, 58) := rfl
theorem fl_X9_306 : fl_X9 306 = some (10, 59) := rfl
theorem flok_X9 : ∀ i c k, fl_X9 i = some (c, k) → jx_Fl RX9 i c k := by
  intro i c k h
  unfold fl_X9 at h
  split at h
  · cases h; exact ⟨(RX9, TX9, 62), "RegisterFleetModel", rfl, by decide, jx_mem (jx_mt4 (List.mem_of_getElem? (i := 133) rfl)) rfl, Or.inl rfl⟩
  · cases h; exact ⟨(RX9, TX9, 62), "RegisterFleetModel", rfl, by decide, jx_mem (jx_mt4 (List.mem_of_getElem? (i := 134) rfl)) rfl, Or.inl rfl⟩
  · cases h; exact ⟨(RX9, TX9, 62), "RegisterFleetModel", rfl, by decide, jx_mem (jx_mt4 (List.mem_of_getElem? (i := 135) rfl)) rfl, Or.inl rfl⟩
  · cases h; exact ⟨(RX9, TX9, 62), "RegisterFleetModel", rfl, by decide, jx_mem (jx_mt4 (List.mem_of_getElem? (i := 136) rfl)) rfl, Or.inl rfl⟩
  · cases h; exact ⟨(RX9, TX9, 62), "RegisterFleetModel", rfl, by decide, jx_mem (jx_mt4 (List.mem_of_getElem? (i := 137) rfl)) rfl, Or.inl rfl⟩
  · cases h; exact ⟨(RX9, TX9, 62), "RegisterFleetModel", rfl, by decide, jx_mem (jx_mt4 (List.mem_of_getElem? (i := 138) rfl)) rfl, Or.inl rfl⟩
  · cases h; exact ⟨(RX9, TX9, 62), "RegisterFleetModel", rfl, by decide, jx_mem (jx_mt4 (List.mem_of_getElem? (i := 139) rfl)) rfl, Or.inl rfl⟩
  · cases h; exact ⟨(RX9, TX9, 62), "RegisterFleetModel", rfl, by decide, jx_mem (jx_mt4 (List.mem_of_getElem? (i := 140) rfl)) rfl, Or.inl rfl⟩
  · cases h; exact ⟨(RX9, TX9, 62), "RegisterFleetModel", rfl, by decide, jx_mem (jx_mt4 (List.mem_of_getElem? (i := 144) rfl)) rfl, Or.inl rfl⟩
  · cases h; exact ⟨(RX9, TX9, 62), "RegisterFleetModel", rfl, by decide, jx_mem (jx_mt4 (List.mem_of_getElem? (i := 145) rfl)) rfl, Or.inl rfl⟩
  · cases h; exact ⟨(RX9, TX9, 62), "RegisterFleetModel", rfl, by decide, jx_mem (jx_mt4 (List.mem_of_getElem? (i := 146) rfl)) rfl, Or.inl rfl⟩
  · cases h; exact ⟨(RX9, TX9, 62), "RegisterFleetModel", rfl, by decide, jx_mem (jx_mt4 (List.mem_of_getElem? (i := 147) rfl)) rfl, Or.inl rfl⟩
  · cases h; exact ⟨(RX9, TX9, 62), "RegisterFleetModel", rfl, by decide, jx_mem (jx_mt4 (List.mem_of_getElem? (i := 148) rfl)) rfl, Or.inl rfl⟩
  · cases h; exact ⟨(RX9, TX9, 62), "RegisterFleetModel", rfl, by decide, jx_mem (jx_mt4 (List.mem_of_getElem? (i := 149) rfl)) rfl, Or.inl rfl⟩
  · cases h; exact ⟨(RX9, TX9, 62), "RegisterFleetModel", rfl, by decide, jx_mem (jx_mt4 (List.mem_of_getElem? (i := 150) rfl)) rfl, Or.inl rfl⟩
  · cases h; exact ⟨(RX9, TX9, 62), "RegisterFleetModel", rfl, by decide, jx_mem (jx_mt4 (List.mem_of_getElem? (i := 151) rfl)) rfl, Or.inl rfl⟩
  · cases h; exact ⟨(RX9, TX9, 62), "RegisterFleetModel", rfl, by decide, jx_mem (jx_mt4 (List.mem_of_getElem? (i := 152) rfl)) rfl, Or.inl rfl⟩
  · cases h; exact ⟨(RX9, TX9, 62), "RegisterFleetModel", rfl, by decide, jx_mem (jx_mt4 (List.mem_of_getElem? (i := 153) rfl)) rfl, Or.inl rfl⟩
  · cases h; exact ⟨(RX9, TX9, 62), "RegisterFleetModel", rfl, by decide, jx_mem (jx_mt4 (List.mem_of_getElem? (i := 154) rfl)) rfl, Or.inl rfl⟩
  · cases h; exact ⟨(RX9, TX9, 62), "RegisterFleetModel", rfl, by decide, jx_mem (jx_mt4 (List.mem_of_getElem? (i := 155) rfl)) rfl, Or.inl rfl⟩
  · cases h; exact ⟨(RX9, TX9, 62), "RegisterFleetModel", rfl, by decide, jx_mem (jx_mt4 (List.mem_of_getElem? (i := 156) rfl)) rfl, Or.inl rfl⟩
  · cases h; exact ⟨(RX9, TX9, 62), "RegisterFleetModel", rfl, by decide, jx_mem (jx_mt4 (List.mem_of_getElem? (i := 160) rfl)) rfl, Or.inl rfl⟩
  · cases h; exact ⟨(RX9, TX9, 62), "RegisterFleetModel", rfl, by decide, jx_mem (jx_mt4 (List.mem_of_getElem? (i := 161) rfl)) rfl, Or.inl rfl⟩
  · cases h; exact ⟨(RX9, TX9, 62), "RegisterFleetModel", rfl, by decide, jx_mem (jx_mt4 (List.mem_of_getElem? (i := 162) rfl)) rfl, Or.inl rfl⟩
  · cases h; exact ⟨(RX9, TX9, 62), "RegisterFleetModel", rfl, by decide, jx_mem (jx_mt4 (List.mem_of_getElem? (i := 163) rfl)) rfl, Or.inl rfl⟩
  · cases h; exact ⟨(RX9, TX9, 62), "RegisterFleetModel", rfl, by decide, jx_mem (jx_mt4 (List.mem_of_getElem? (i := 164) rfl)) rfl, Or.inl rfl⟩
  · cases h; exact ⟨(RX9, TX9, 62), "RegisterFleetModel", rfl, by decide, jx_mem (jx_mt4 (List.mem_of_getElem? (i := 165) rfl)) rfl, Or.inl rfl⟩
  · cases h; exact ⟨(RX9, TX9, 62), "RegisterFleetModel", rfl, by decide, jx_mem (jx_mt4 (List.mem_of_getElem? (i := 166) rfl)) rfl, Or.inl rfl⟩
  · cases h; exact ⟨(RX9, TX9, 62), "RegisterFleetModel", rfl, by decide, jx_mem (jx_mt4 (List.mem_of_getElem? (i := 167) rfl)) rfl, Or.inl rfl⟩
  · cases h; exact ⟨(RX9, TX9, 62), "RegisterFleetModel", rfl, by decide, jx_mem (jx_mt4 (List.mem_of_getElem? (i := 168) rfl)) rfl, Or.inl rfl⟩
  · cases h; exact ⟨(RX9, TX9, 62), "RegisterFleetModel", rfl, by decide, jx_mem (jx_mt4 (List.mem_of_getElem? (i := 169) rfl)) rfl, Or.inl rfl⟩
  · cases h; exact ⟨(RX9, TX9, 62), "RegisterFleetModel", rfl, by decide, jx_mem (jx_mt4 (List.mem_of_getElem? (i := 170) rfl)) rfl, Or.inl rfl⟩
  · cases h; exact ⟨(RX9, TX9, 62), "RegisterFleetModel", rfl, by decide, jx_mem (jx_mt4 (List.mem_of_getElem? (i := 171) rfl)) rfl, Or.inl rfl⟩
  · cases h; exact ⟨(RX9, TX9, 62), "RegisterFleetModel", rfl, by decide, jx_mem (jx_mt4 (List.mem_of_getElem? (i := 172) rfl)) rfl, Or.inl rfl⟩
  · cases h; exact ⟨(RX9, TX9, 62), "RegisterFleetModel", rfl, by decide, jx_mem (jx_mt4 (List.mem_of_getElem? (i := 173) rfl)) rfl, Or.inl rfl⟩
  · cases h; exact ⟨(RX9, TX9, 62), "RegisterFleetModel", rfl, by decide, jx_mem (jx_mt4 (List.mem_of_getElem? (i := 174) rfl)) rfl, Or.inl rfl⟩
  · cases h; exact ⟨(RX9, TX9, 62), "RegisterFleetModel", rfl, by decide, jx_mem (jx_mt4 (List.mem_of_getElem? (i := 175) rfl)) rfl, Or.inl rfl⟩
  · cases h; exact ⟨(RX9, TX9, 62), "RegisterFleetModel", rfl, by decide, jx_mem (jx_mt4 (List.mem_of_getElem? (i := 176) rfl)) rfl, Or.inl rfl⟩
  · cases h; exact ⟨(RX9, TX9, 62), "RegisterFleetModel", rfl, by decide, jx_mem (jx_mt4 (List.mem_of_getElem? (i := 177) rfl)) rfl, Or.inl rfl⟩
  · cases h; exact ⟨(RX9, TX9, 62), "RegisterFleetModel", rfl, by decide, jx_mem (jx_mt4 (List.mem_of_getElem? (i := 178) rfl)) rfl, Or.inl rfl⟩
  · cases h; exact ⟨(RX9, TX9, 62), "RegisterFleetModel", rfl, by decide, jx_mem (jx_mt4 (List.mem_of_getElem? (i := 192) rfl)) rfl, Or.inl rfl⟩
  · cases h; exact ⟨(RX9, TX9, 62), "RegisterFleetModel", rfl, by decide, jx_mem (jx_mt4 (List.mem_of_getElem? (i := 193) rfl)) rfl, Or.inl rfl⟩
  · cases h; exact ⟨(RX9, TX9, 62), "RegisterFleetModel", rfl, by decide, jx_mem (jx_mt4 (List.mem_of_getElem? (i := 132) rfl)) rfl, Or.inl rfl⟩
  · cases h; exact ⟨(RX9, TX9, 62), "RegisterFleetModel", rfl, by decide, jx_mem (jx_mt4 (List.mem_of_getElem? (i := 141) rfl)) rfl, Or.inl rfl⟩
  · cases h; exact ⟨(RX9, TX9, 62), "RegisterFleetModel", rfl, by decide, jx_mem (jx_mt4 (List.mem_of_getElem? (i := 142) rfl)) rfl, Or.inl rfl⟩
  · cases h; exact ⟨(RX9, TX9, 62), "RegisterFleetModel", rfl, by decide, jx_mem (jx_mt4 (List.mem_of_getElem? (i := 143) rfl)) rfl, Or.inl rfl⟩
  · cases h; exact ⟨(RX9, TX9, 62), "RegisterFleetModel", rfl, by decide, jx_mem (jx_mt4 (List.mem_of_getElem? (i := 157) rfl)) rfl, Or.inl rfl⟩
  · cases h; exact ⟨(RX9, TX9, 62), "RegisterFleetModel", rfl, by decide, jx_mem (jx_mt4 (List.mem_of_getElem? (i := 158) rfl)) rfl, Or.inl rfl⟩
  · cases h; exact ⟨(RX9, TX9, 62), "RegisterFleetModel", rfl, by decide, jx_mem (jx_mt4 (List.mem_of_getElem? (i := 159) rfl)) rfl, Or.inl rfl⟩
  · cases h; exact ⟨(RX9, TX9, 62), "RegisterFleetModel", rfl, by decide, jx_mem (jx_mt4 (List.mem_of_getElem? (i := 179) rfl)) rfl, Or.inl rfl⟩
  · cases h; exact ⟨(RX9, TX9, 62), "RegisterFleetModel", rfl, by decide, jx_mem (jx_mt4 (List.mem_of_getElem? (i := 180) rfl)) rfl, Or.inl rfl⟩
  · cases h; exact ⟨(RX9, TX9, 62), "RegisterFleetModel", rfl, by decide, jx_mem (jx_mt4 (List.mem_of_getElem? (i := 181) rfl)) rfl, Or.inl rfl⟩
  · cases h; exact ⟨(RX9, TX9, 62), "RegisterFleetModel", rfl, by decide, jx_mem (jx_mt4 (List.mem_of_getElem? (i := 182) rfl)) rfl, Or.inl rfl⟩
  · cases h; exact ⟨(RX9, TX9, 62), "RegisterFleetModel", rfl, by decide, jx_mem (jx_mt4 (List.mem_of_getElem? (i := 183) rfl)) rfl, Or.inl rfl⟩
  · cases h; exact ⟨(RX9, TX9, 62), "RegisterFleetModel", rfl, by decide, jx_mem (jx_mt4 (List.mem_of_getElem? (i := 184) rfl)) rfl, Or.inl rfl⟩
  · cases h; exact ⟨(RX9, TX9, 62), "RegisterFleetModel", rfl, by decide, jx_mem (jx_mt4 (List.mem_of_getElem? (i := 185) rfl)) rfl, Or.inl rfl⟩
  · cases h; exact ⟨(RX9, TX9, 62), "RegisterFleetModel", rfl, by decide, jx_mem (jx_mt4 (List.mem_of_getElem? (i := 186) rfl)) rfl, Or.inl rfl⟩
  · cases h; exact ⟨(RX9, TX9, 62), "RegisterFleetModel", rfl, by decide, jx_mem (jx_mt4 (List.mem_of_getElem? (i := 187) rfl)) rfl, Or.inl rfl⟩
  · cases h; exact ⟨(RX9, TX9, 62), "RegisterFleetModel", rfl, by decide, jx_mem (jx_mt4 (List.mem_of_getElem? (i := 188) rfl)) rfl, Or.inl rfl⟩
  · cases h; exact ⟨(RX9, TX9, 62), "RegisterFleetModel", rfl, by decide, jx_mem (jx_mt4 (List.mem_of_getElem? (i := 189) rfl)) rfl, Or.inl rfl⟩
  · cases h; exact ⟨(RX9, TX9, 62), "RegisterFleetModel", rfl, by decide, jx_mem (jx_mt4 (List.mem_of_getElem? (i := 190) rfl)) rfl, Or.inl rfl⟩
  · cases h; exact ⟨(RX9, TX9, 62), "RegisterFleetModel", rfl, by decide, jx_mem (jx_mt4 (List.mem_of_getElem? (i := 191) rfl)) rfl, Or.inl rfl⟩
  · cases h
def fw_X9 : Nat → Option (Nat × Nat) := fun i => match i with
  | 7 => some (10, 1)
  | 140 => some (10, 0)
  | 143 => some (10, 9)
  | 146 => some (10, 10)
  | 149 => some (10, 11)
  | 152 => some (10, 25)
  | 155 => some (10, 26)
  | 158 => some (10, 27)
  | 217 => some (10, 47)
  | 220 => some (10, 48)
  | 223 => some (10, 49)
  | 226 => some (10, 50)
  | 229 => some (10, 51)
  | 232 => some (10, 52)
  | 235 => some (10, 53)
  | 238 => some (10, 54)
  | 241 => some (10, 55)
  | 244 => some (10, 56)
  | 247 => some (10, 57)
  | 250 => some (10, 58)
  | 306 => some (10, 59)
  | _ => none
theorem fw_X9_7 : fw_X9 7 = some (10, 1) := rfl
theorem fw_X9_140 : fw_X9 140 = some (10, 0) := rfl
theorem fw_X9_143 : fw_X9 143 = some (10, 9) := rfl
theorem fw_X9_146 : fw_X9 146 = some (10, 10) := rfl
theorem fw_X9_149 : fw_X9 149 = some (10, 11) := rfl
theorem fw_X9_152 : fw_X9 152 = some (10, 25) := rfl
theorem fw_X9_155 : fw_X9 155 = some (10, 26) := rfl
theorem fw_X9_158 : fw_X9 158 = some (10, 27) := rfl
theorem fw_X9_217 : fw_X9 217 = some (10, 47) := rfl
theorem fw_X9_220 : fw_X9 220 = some (10, 48) := rfl
theorem fw_X9_223 : fw_X9 223 = some (10, 49) := rfl
theorem fw_X9_226 : fw_X9 226 = some (10, 50) := rfl
theorem fw_X9_229 : fw_X9 229 = some (10, 51) := rfl
theorem fw_X9_232 : fw_X9 232 = some (10, 52) := rfl
theorem fw_X9_235 : fw_X9 235 = some (10, 53) := rfl
theorem fw_X9_238 : fw_X9 238 = some (10, 54) := rfl
theorem fw_X9_241 : fw_X9 241 = some (10, 55) := rfl
theorem fw_X9_244 : fw_X9 244 = some (10, 56) := rfl
theorem fw_X9_247 : fw_X9 247 = some (10, 57) := rfl
theorem fw_X9_250 : fw_X9 250 = some (10, 58) := rfl
theorem fw_X9_306 : fw_X9 306 = some (10, 59) := rfl
theorem fwok_X9 {y : MethodName} (hy : y.cls = RX9) : ∀ i c k, fw_X9 i = some (c, k) → jx_Fw y i c k := by
  intro i c k h
  unfold fw_X9 at h
  split at h
  · cases h; exact ⟨(RX9, TX9, 62), "RegisterFleetModel", rfl, by decide, by rw [hy]; exact jx_mem (jx_mt4 (List.mem_of_getElem? (i := 133) rfl)) rfl, Or.inl rfl, Or.inl rfl⟩
  · cases h; exact ⟨(RX9, TX9, 62), "RegisterFleetModel", rfl, by decide, by rw [hy]; exact jx_mem (jx_mt4 (List.mem_of_getElem? (i := 132) rfl)) rfl, Or.inl rfl, Or.inl rfl⟩
  · cases h; exact ⟨(RX9, TX9, 62), "RegisterFleetModel", rfl, by decide, by rw [hy]; exact jx_mem (jx_mt4 (List.mem_of_getElem? (i := 141) rfl)) rfl, Or.inl rfl, Or.inl rfl⟩
  · cases h; exact ⟨(RX9, TX9, 62), "RegisterFleetModel", rfl, by decide, by rw [hy]; exact jx_mem (jx_mt4 (List.mem_of_getElem? (i := 142) rfl)) rfl, Or.inl rfl, Or.inl rfl⟩
  · cases h; exact ⟨(RX9, TX9, 62), "RegisterFleetModel", rfl, by decide, by rw [hy]; exact jx_mem (jx_mt4 (List.mem_of_getElem? (i := 143) rfl)) rfl, Or.inl rfl, Or.inl rfl⟩
  · cases h; exact ⟨(RX9, TX9, 62), "RegisterFleetModel", rfl, by decide, by rw [hy]; exact jx_mem (jx_mt4 (List.mem_of_getElem? (i := 157) rfl)) rfl, Or.inl rfl, Or.inl rfl⟩
  · cases h; exact ⟨(RX9, TX9, 62), "RegisterFleetModel", rfl, by decide, by rw [hy]; exact jx_mem (jx_mt4 (List.mem_of_getElem? (i := 158) rfl)) rfl, Or.inl rfl, Or.inl rfl⟩
  · cases h; exact ⟨(RX9, TX9, 62), "RegisterFleetModel", rfl, by decide, by rw [hy]; exact jx_mem (jx_mt4 (List.mem_of_getElem? (i := 159) rfl)) rfl, Or.inl rfl, Or.inl rfl⟩
  · cases h; exact ⟨(RX9, TX9, 62), "RegisterFleetModel", rfl, by decide, by rw [hy]; exact jx_mem (jx_mt4 (List.mem_of_getElem? (i := 179) rfl)) rfl, Or.inl rfl, Or.inl rfl⟩
  · cases h; exact ⟨(RX9, TX9, 62), "RegisterFleetModel", rfl, by decide, by rw [hy]; exact jx_mem (jx_mt4 (List.mem_of_getElem? (i := 180) rfl)) rfl, Or.inl rfl, Or.inl rfl⟩
  · cases h; exact ⟨(RX9, TX9, 62), "RegisterFleetModel", rfl, by decide, by rw [hy]; exact jx_mem (jx_mt4 (List.mem_of_getElem? (i := 181) rfl)) rfl, Or.inl rfl, Or.inl rfl⟩
  · cases h; exact ⟨(RX9, TX9, 62), "RegisterFleetModel", rfl, by decide, by rw [hy]; exact jx_mem (jx_mt4 (List.mem_of_getElem? (i := 182) rfl)) rfl, Or.inl rfl, Or.inl rfl⟩
  · cases h; exact ⟨(RX9, TX9, 62), "RegisterFleetModel", rfl, by decide, by rw [hy]; exact jx_mem (jx_mt4 (List.mem_of_getElem? (i := 183) rfl)) rfl, Or.inl rfl, Or.inl rfl⟩
  · cases h; exact ⟨(RX9, TX9, 62), "RegisterFleetModel", rfl, by decide, by rw [hy]; exact jx_mem (jx_mt4 (List.mem_of_getElem? (i := 184) rfl)) rfl, Or.inl rfl, Or.inl rfl⟩
  · cases h; exact ⟨(RX9, TX9, 62), "RegisterFleetModel", rfl, by decide, by rw [hy]; exact jx_mem (jx_mt4 (List.mem_of_getElem? (i := 185) rfl)) rfl, Or.inl rfl, Or.inl rfl⟩
  · cases h; exact ⟨(RX9, TX9, 62), "RegisterFleetModel", rfl, by decide, by rw [hy]; exact jx_mem (jx_mt4 (List.mem_of_getElem? (i := 186) rfl)) rfl, Or.inl rfl, Or.inl rfl⟩
  · cases h; exact ⟨(RX9, TX9, 62), "RegisterFleetModel", rfl, by decide, by rw [hy]; exact jx_mem (jx_mt4 (List.mem_of_getElem? (i := 187) rfl)) rfl, Or.inl rfl, Or.inl rfl⟩
  · cases h; exact ⟨(RX9, TX9, 62), "RegisterFleetModel", rfl, by decide, by rw [hy]; exact jx_mem (jx_mt4 (List.mem_of_getElem? (i := 188) rfl)) rfl, Or.inl rfl, Or.inl rfl⟩
  · cases h; exact ⟨(RX9, TX9, 62), "RegisterFleetModel", rfl, by decide, by rw [hy]; exact jx_mem (jx_mt4 (List.mem_of_getElem? (i := 189) rfl)) rfl, Or.inl rfl, Or.inl rfl⟩
  · cases h; exact ⟨(RX9, TX9, 62), "RegisterFleetModel", rfl, by decide, by rw [hy]; exact jx_mem (jx_mt4 (List.mem_of_getElem? (i := 190) rfl)) rfl, Or.inl rfl, Or.inl rfl⟩
  · cases h; exact ⟨(RX9, TX9, 62), "RegisterFleetModel", rfl, by decide, by rw [hy]; exact jx_mem (jx_mt4 (List.mem_of_getElem? (i := 191) rfl)) rfl, Or.inl rfl, Or.inl rfl⟩
  · cases h
def fi_X9 : Nat → Option (Nat × Nat) := fun i => match i with
  | 7 => some (10, 1)
  | 13 => some (10, 2)
  | 17 => some (10, 3)
  | 21 => some (10, 4)
  | 24 => some (10, 5)
  | 27 => some (10, 6)
  | 30 => some (10, 7)
  | 33 => some (10, 8)
  | 36 => some (10, 12)
  | 39 => some (10, 13)
  | 42 => some (10, 14)
  | 45 => some (10, 15)
  | 48 => some (10, 16)
  | 51 => some (10, 17)
  | 54 => some (10, 18)
  | 57 => some (10, 19)
  | 60 => some (10, 20)
  | 63 => some (10, 21)
  | 66 => some (10, 22)
  | 69 => some (10, 23)
  | 73 => some (10, 24)
  | 76 => some (10, 28)
  | 79 => some (10, 29)
  | 82 => some (10, 30)
  | 85 => some (10, 31)
  | 88 => some (10, 32)
  | 91 => some (10, 33)
  | 94 => some (10, 34)
  | 97 => some (10, 35)
  | 100 => some (10, 36)
  | 103 => some (10, 37)
  | 106 => some (10, 38)
  | 109 => some (10, 39)
  | 112 => some (10, 40)
  | 115 => some (10, 41)
  | 118 => some (10, 42)
  | 121 => some (10, 43)
  | 124 => some (10, 44)
  | 127 => some (10, 45)
  | 130 => some (10, 46)
  | 133 => some (10, 60)
  | 137 => some (10, 61)
  | 140 => some (10, 0)
  | 143 => some (10, 9)
  | 146 => some (10, 10)
  | 149 => some (10, 11)
  | 152 => some (10, 25)
  | 155 => some (10, 26)
  | 158 => some (10, 27)
  | 217 => some (10, 47)
  | 220 => some (10, 48)
  | 223 => some (10, 49)
  | 226 => some (10, 50)
  | 229 => some (10, 51)
  | 232 => some (10, 52)
  | 235 => some (10, 53)
  | 238 => some (10, 54)
  | 241 => some (10, 55)
  | 244 => some (10, 56)
  | 247 => some (10, 57)
  | 250 => some (10, 58)
  | 306 => some (10, 59)
  | _ => none
theorem fi_X9_7 : fi_X9 7 = some (10, 1) := rfl
theorem fi_X9_13 : fi_X9 13 = some (10, 2) := rfl
theorem fi_X9_17 : fi_X9 17 = some (10, 3) := rfl
theorem fi_X9_21 : fi_X9 21 = some (10, 4) := rfl
theorem fi_X9_24 : fi_X9 24 = some (10, 5) := rfl
theorem fi_X9_27 : fi_X9 27 = some (10, 6) := rfl
theorem fi_X9_30 : fi_X9 30 = some (10, 7) := rfl
theorem fi_X9_33 : fi_X9 33 = some (10, 8) := rfl
theorem fi_X9_36 : fi_X9 36 = some (10, 12) := rfl
theorem fi_X9_39 : fi_X9 39 = some (10, 13) := rfl
theorem fi_X9_42 : fi_X9 42 = some (10, 14) := rfl
theorem fi_X9_45 : fi_X9 45 = some (10, 15) := rfl
theorem fi_X9_48 : fi_X9 48 = some (10, 16) := rfl
theorem fi_X9_51 : fi_X9 51 = some (10, 17) := rfl
theorem fi_X9_54 : fi_X9 54 = some (10, 18) := rfl
theorem fi_X9_57 : fi_X9 57 = some (10, 19) := rfl
theorem fi_X9_60 : fi_X9 60 = some (10, 20) := rfl
theorem fi_X9_63 : fi_X9 63 = some (10, 21) := rfl
theorem fi_X9_66 : fi_X9 66 = some (10, 22) := rfl
theorem fi_X9_69 : fi_X9 69 = some (10, 23) := rfl
theorem fi_X9_73 : fi_X9 73 = some (10, 24) := rfl
theorem fi_X9_76 : fi_X9 76 = some (10, 28) := rfl
theorem fi_X9_79 : fi_X9 79 = some (10, 29) := rfl
theorem fi_X9_82 : fi_X9 82 = some (10, 30) := rfl
theorem fi_X9_85 : fi_X9 85 = some (10, 31) := rfl
theorem fi_X9_88 : fi_X9 88 = some (10, 32) := rfl
theorem fi_X9_91 : fi_X9 91 = some (10, 33) := rfl
theorem fi_X9_94 : fi_X9 94 = some (10, 34) := rfl
theorem fi_X9_97 : fi_X9 97 = some (10, 35) := rfl
theorem fi_X9_100 : fi_X9 100 = some (10, 36) := rfl
theorem fi_X9_103 : fi_X9 103 = some (10, 37) := rfl
theorem fi_X9_106 : fi_X9 106 = some (10, 38) := rfl
theorem fi_X9_109 : fi_X9 109 = some (10, 39) := rfl
theorem fi_X9_112 : fi_X9 112 = some (10, 40) := rfl
theorem fi_X9_115 : fi_X9 115 = some (10, 41) := rfl
theorem fi_X9_118 : fi_X9 118 = some (10, 42) := rfl
theorem fi_X9_121 : fi_X9 121 = some (10, 43) := rfl
theorem fi_X9_124 : fi_X9 124 = some (10, 44) := rfl
theorem fi_X9_127 : fi_X9 127 = some (10, 45) := rfl
theorem fi_X9_130 : fi_X9 130 = some (10, 46) := rfl
theorem fi_X9_133 : fi_X9 133 = some (10, 60) := rfl
theorem fi_X9_137 : fi_X9 137 = some (10, 61) := rfl
theorem fi_X9_140 : fi_X9 140 = some (10, 0) := rfl
theorem fi_X9_143 : fi_X9 143 = some (10, 9) := rfl
theorem fi_X9_146 : fi_X9 146 = some (10, 10) := rfl
theorem fi_X9_149 : fi_X9 149 = some (10, 11) := rfl
theorem fi_X9_152 : fi_X9 152 = some (10, 25) := rfl
theorem fi_X9_155 : fi_X9 155 = some (10, 26) := rfl
theorem fi_X9_158 : fi_X9 158 = some (10, 27) := rfl
theorem fi_X9_217 : fi_X9 217 = some (10, 47) := rfl
theorem fi_X9_220 : fi_X9 220 = some (10, 48) := rfl
theorem fi_X9_223 : fi_X9 223 = some (10, 49) := rfl
theorem fi_X9_226 : fi_X9 226 = some (10, 50) := rfl
theorem fi_X9_229 : fi_X9 229 = some (10, 51) := rfl
theorem fi_X9_232 : fi_X9 232 = some (10, 52) := rfl
theorem fi_X9_235 : fi_X9 235 = some (10, 53) := rfl
theorem fi_X9_238 : fi_X9 238 = some (10, 54) := rfl
theorem fi_X9_241 : fi_X9 241 = some (10, 55) := rfl
theorem fi_X9_244 : fi_X9 244 = some (10, 56) := rfl
theorem fi_X9_247 : fi_X9 247 = some (10, 57) := rfl
theorem fi_X9_250 : fi_X9 250 = some (10, 58) := rfl
theorem fi_X9_306 : fi_X9 306 = some (10, 59) := rfl
theorem fiok_X9 : ∀ i c k, fi_X9 i = some (c, k) → jx_Fw yX9_init i c k := by
  intro i c k h
  unfold fi_X9 at h
  split at h
  · cases h; exact ⟨(RX9, TX9, 62), "RegisterFleetModel", rfl, by decide, jx_mem (jx_mt4 (List.mem_of_getElem? (i := 133) rfl)) rfl, Or.inl rfl, Or.inl rfl⟩
  · cases h; exact ⟨(RX9, TX9, 62), "RegisterFleetModel", rfl, by decide, jx_mem (jx_mt4 (List.mem_of_getElem? (i := 134) rfl)) rfl, Or.inl rfl, Or.inr ⟨rfl, rfl, rfl⟩⟩
  · cases h; exact ⟨(RX9, TX9, 62), "RegisterFleetModel", rfl, by decide, jx_mem (jx_mt4 (List.mem_of_getElem? (i := 135) rfl)) rfl, Or.inl rfl, Or.inr ⟨rfl, rfl, rfl⟩⟩
  · cases h; exact ⟨(RX9, TX9, 62), "RegisterFleetModel", rfl, by decide, jx_mem (jx_mt4 (List.mem_of_getElem? (i := 136) rfl)) rfl, Or.inl rfl, Or.inr ⟨rfl, rfl, rfl⟩⟩
  · cases h; exact ⟨(RX9, TX9, 62), "RegisterFleetModel", rfl, by decide, jx_mem (jx_mt4 (List.mem_of_getElem? (i := 137) rfl)) rfl, Or.inl rfl, Or.inr ⟨rfl, rfl, rfl⟩⟩
  · cases h; exact ⟨(RX9, TX9, 62), "RegisterFleetModel", rfl, by decide, jx_mem (jx_mt4 (List.mem_of_getElem? (i := 138) rfl)) rfl, Or.inl rfl, Or.inr ⟨rfl, rfl, rfl⟩⟩
  · cases h; exact ⟨(RX9, TX9, 62), "RegisterFleetModel", rfl, by decide, jx_mem (jx_mt4 (List.mem_of_getElem? (i := 139) rfl)) rfl, Or.inl rfl, Or.inr ⟨rfl, rfl, rfl⟩⟩
  · cases h; exact ⟨(RX9, TX9, 62), "RegisterFleetModel", rfl, by decide, jx_mem (jx_mt4 (List.mem_of_getElem? (i := 140) rfl)) rfl, Or.inl rfl, Or.inr ⟨rfl, rfl, rfl⟩⟩
  · cases h; exact ⟨(RX9, TX9, 62), "RegisterFleetModel", rfl, by decide, jx_mem (jx_mt4 (List.mem_of_getElem? (i := 144) rfl)) rfl, Or.inl rfl, Or.inr ⟨rfl, rfl, rfl⟩⟩
  · cases h; exact ⟨(RX9, TX9, 62), "RegisterFleetModel", rfl, by decide, jx_mem (jx_mt4 (List.mem_of_getElem? (i := 145) rfl)) rfl, Or.inl rfl, Or.inr ⟨rfl, rfl, rfl⟩⟩
  · cases h; exact ⟨(RX9, TX9, 62), "RegisterFleetModel", rfl, by decide, jx_mem (jx_mt4 (List.mem_of_getElem? (i := 146) rfl)) rfl, Or.inl rfl, Or.inr ⟨rfl, rfl, rfl⟩⟩
  · cases h; exact ⟨(RX9, TX9, 62), "RegisterFleetModel", rfl, by decide, jx_mem (jx_mt4 (List.mem_of_getElem? (i := 147) rfl)) rfl, Or.inl rfl, Or.inr ⟨rfl, rfl, rfl⟩⟩
  · cases h; exact ⟨(RX9, TX9, 62), "RegisterFleetModel", rfl, by decide, jx_mem (jx_mt4 (List.mem_of_getElem? (i := 148) rfl)) rfl, Or.inl rfl, Or.inr ⟨rfl, rfl, rfl⟩⟩
  · cases h; exact ⟨(RX9, TX9, 62), "RegisterFleetModel", rfl, by decide, jx_mem (jx_mt4 (List.mem_of_getElem? (i := 149) rfl)) rfl, Or.inl rfl, Or.inr ⟨rfl, rfl, rfl⟩⟩
  · cases h; exact ⟨(RX9, TX9, 62), "RegisterFleetModel", rfl, by decide, jx_mem (jx_mt4 (List.mem_of_getElem? (i := 150) rfl)) rfl, Or.inl rfl, Or.inr ⟨rfl, rfl, rfl⟩⟩
  · cases h; exact ⟨(RX9, TX9, 62), "RegisterFleetModel", rfl, by decide, jx_mem (jx_mt4 (List.mem_of_getElem? (i := 151) rfl)) rfl, Or.inl rfl, Or.inr ⟨rfl, rfl, rfl⟩⟩
  · cases h; exact ⟨(RX9, TX9, 62), "RegisterFleetModel", rfl, by decide, jx_mem (jx_mt4 (List.mem_of_getElem? (i := 152) rfl)) rfl, Or.inl rfl, Or.inr ⟨rfl, rfl, rfl⟩⟩
  · cases h; exact ⟨(RX9, TX9, 62), "RegisterFleetModel", rfl, by decide, jx_mem (jx_mt4 (List.mem_of_getElem? (i := 153) rfl)) rfl, Or.inl rfl, Or.inr ⟨rfl, rfl, rfl⟩⟩
  · cases h; exact ⟨(RX9, TX9, 62), "RegisterFleetModel", rfl, by decide, jx_mem (jx_mt4 (List.mem_of_getElem? (i := 154) rfl)) rfl, Or.inl rfl, Or.inr ⟨rfl, rfl, rfl⟩⟩
  · cases h; exact ⟨(RX9, TX9, 62), "RegisterFleetModel", rfl, by decide, jx_mem (jx_mt4 (List.mem_of_getElem? (i := 155) rfl)) rfl, Or.inl rfl, Or.inr ⟨rfl, rfl, rfl⟩⟩
  · cases h; exact ⟨(RX9, TX9, 62), "RegisterFleetModel", rfl, by decide, jx_mem (jx_mt4 (List.mem_of_getElem? (i := 156) rfl)) rfl, Or.inl rfl, Or.inr ⟨rfl, rfl, rfl⟩⟩
  · cases h; exact ⟨(RX9, TX9, 62), "RegisterFleetModel", rfl, by decide, jx_mem (jx_mt4 (List.mem_of_getElem? (i := 160) rfl)) rfl, Or.inl rfl, Or.inr ⟨rfl, rfl, rfl⟩⟩
  · cases h; exact ⟨(RX9, TX9, 62), "RegisterFleetModel", rfl, by decide, jx_mem (jx_mt4 (List.mem_of_getElem? (i := 161) rfl)) rfl, Or.inl rfl, Or.inr ⟨rfl, rfl, rfl⟩⟩
  · cases h; exact ⟨(RX9, TX9, 62), "RegisterFleetModel", rfl, by decide, jx_mem (jx_mt4 (List.mem_of_getElem? (i := 162) rfl)) rfl, Or.inl rfl, Or.inr ⟨rfl, rfl, rfl⟩⟩
  · cases h; exact ⟨(RX9, TX9, 62), "RegisterFleetModel", rfl, by decide, jx_mem (jx_mt4 (List.mem_of_getElem? (i := 163) rfl)) rfl, Or.inl rfl, Or.inr ⟨rfl, rfl, rfl⟩⟩
  · cases h; exact ⟨(RX9, TX9, 62), "RegisterFleetModel", rfl, by decide, jx_mem (jx_mt4 (List.mem_of_getElem? (i := 164) rfl)) rfl, Or.inl rfl, Or.inr ⟨rfl, rfl, rfl⟩⟩
  · cases h; exact ⟨(RX9, TX9, 62), "RegisterFleetModel", rfl, by decide, jx_mem (jx_mt4 (List.mem_of_getElem? (i := 165) rfl)) rfl, Or.inl rfl, Or.inr ⟨rfl, rfl, rfl⟩⟩
  · cases h; exact ⟨(RX9, TX9, 62), "RegisterFleetModel", rfl, by decide, jx_mem (jx_mt4 (List.mem_of_getElem? (i := 166) rfl)) rfl, Or.inl rfl, Or.inr ⟨rfl, rfl, rfl⟩⟩
  · cases h; exact ⟨(RX9, TX9, 62), "RegisterFleetModel", rfl, by decide, jx_mem (jx_mt4 (List.mem_of_getElem? (i := 167) rfl)) rfl, Or.inl rfl, Or.inr ⟨rfl, rfl, rfl⟩⟩
  · cases h; exact ⟨(RX9, TX9, 62), "RegisterFleetModel", rfl, by decide, jx_mem (jx_mt4 (List.mem_of_getElem? (i := 168) rfl)) rfl, Or.inl rfl, Or.inr ⟨rfl, rfl, rfl⟩⟩
  · cases h; exact ⟨(RX9, TX9, 62), "RegisterFleetModel", rfl, by decide, jx_mem (jx_mt4 (List.mem_of_getElem? (i := 169) rfl)) rfl, Or.inl rfl, Or.inr ⟨rfl, rfl, rfl⟩⟩
  · cases h; exact ⟨(RX9, TX9, 62), "RegisterFleetModel", rfl, by decide, jx_mem (jx_mt4 (List.mem_of_getElem? (i := 170) rfl)) rfl, Or.inl rfl, Or.inr ⟨rfl, rfl, rfl⟩⟩
  · cases h; exact ⟨(RX9, TX9, 62), "RegisterFleetModel", rfl, by decide, jx_mem (jx_mt4 (List.mem_of_getElem? (i := 171) rfl)) rfl, Or.inl rfl, Or.inr ⟨rfl, rfl, rfl⟩⟩
  · cases h; exact ⟨(RX9, TX9, 62), "RegisterFleetModel", rfl, by decide, jx_mem (jx_mt4 (List.mem_of_getElem? (i := 172) rfl)) rfl, Or.inl rfl, Or.inr ⟨rfl, rfl, rfl⟩⟩
  · cases h; exact ⟨(RX9, TX9, 62), "RegisterFleetModel", rfl, by decide, jx_mem (jx_mt4 (List.mem_of_getElem? (i := 173) rfl)) rfl, Or.inl rfl, Or.inr ⟨rfl, rfl, rfl⟩⟩
  · cases h; exact ⟨(RX9, TX9, 62), "RegisterFleetModel", rfl, by decide, jx_mem (jx_mt4 (List.mem_of_getElem? (i := 174) rfl)) rfl, Or.inl rfl, Or.inr ⟨rfl, rfl, rfl⟩⟩
  · cases h; exact ⟨(RX9, TX9, 62), "RegisterFleetModel", rfl, by decide, jx_mem (jx_mt4 (List.mem_of_getElem? (i := 175) rfl)) rfl, Or.inl rfl, Or.inr ⟨rfl, rfl, rfl⟩⟩
  · cases h; exact ⟨(RX9, TX9, 62), "RegisterFleetModel", rfl, by decide, jx_mem (jx_mt4 (List.mem_of_getElem? (i := 176) rfl)) rfl, Or.inl rfl, Or.inr ⟨rfl, rfl, rfl⟩⟩
  · cases h; exact ⟨(RX9, TX9, 62), "RegisterFleetModel", rfl, by decide, jx_mem (jx_mt4 (List.mem_of_getElem? (i := 177) rfl)) rfl, Or.inl rfl, Or.inr ⟨rfl, rfl, rfl⟩⟩
  · cases h; exact ⟨(RX9, TX9, 62), "RegisterFleetModel", rfl, by decide, jx_mem (jx_mt4 (List.mem_of_getElem? (i := 178) rfl)) rfl, Or.inl rfl, Or.inr ⟨rfl, rfl, rfl⟩⟩
  · cases h; exact ⟨(RX9, TX9, 62), "RegisterFleetModel", rfl, by decide, jx_mem (jx_mt4 (List.mem_of_getElem? (i := 192) rfl)) rfl, Or.inl rfl, Or.inr ⟨rfl, rfl, rfl⟩⟩
  · cases h; exact ⟨(RX9, TX9, 62), "RegisterFleetModel", rfl, by decide, jx_mem (jx_mt4 (List.mem_of_getElem? (i := 193) rfl)) rfl, Or.inl rfl, Or.inr ⟨rfl, rfl, rfl⟩⟩
  · cases h; exact ⟨(RX9, TX9, 62), "RegisterFleetModel", rfl, by decide, jx_mem (jx_mt4 (List.mem_of_getElem? (i := 132) rfl)) rfl, Or.inl rfl, Or.inl rfl⟩
  · cases h; exact ⟨(RX9, TX9, 62), "RegisterFleetModel", rfl, by decide, jx_mem (jx_mt4 (List.mem_of_getElem? (i := 141) rfl)) rfl, Or.inl rfl, Or.inl rfl⟩
  · cases h; exact ⟨(RX9, TX9, 62), "RegisterFleetModel", rfl, by decide, jx_mem (jx_mt4 (List.mem_of_getElem? (i := 142) rfl)) rfl, Or.inl rfl, Or.inl rfl⟩
  · cases h; exact ⟨(RX9, TX9, 62), "RegisterFleetModel", rfl, by decide, jx_mem (jx_mt4 (List.mem_of_getElem? (i := 143) rfl)) rfl, Or.inl rfl, Or.inl rfl⟩
  · cases h; exact ⟨(RX9, TX9, 62), "RegisterFleetModel", rfl, by decide, jx_mem (jx_mt4 (List.mem_of_getElem? (i := 157) rfl)) rfl, Or.inl rfl, Or.inl rfl⟩
  · cases h; exact ⟨(RX9, TX9, 62), "RegisterFleetModel", rfl, by decide, jx_mem (jx_mt4 (List.mem_of_getElem? (i := 158) rfl)) rfl, Or.inl rfl, Or.inl rfl⟩
  · cases h; exact ⟨(RX9, TX9, 62), "RegisterFleetModel", rfl, by decide, jx_mem (jx_mt4 (List.mem_of_getElem? (i := 159) rfl)) rfl, Or.inl rfl, Or.inl rfl⟩
  · cases h; exact ⟨(RX9, TX9, 62), "RegisterFleetModel", rfl, by decide, jx_mem (jx_mt4 (List.mem_of_getElem? (i := 179) rfl)) rfl, Or.inl rfl, Or.inl rfl⟩
  · cases h; exact ⟨(RX9, TX9, 62), "RegisterFleetModel", rfl, by decide, jx_mem (jx_mt4 (List.mem_of_getElem? (i := 180) rfl)) rfl, Or.inl rfl, Or.inl rfl⟩
  · cases h; exact ⟨(RX9, TX9, 62), "RegisterFleetModel", rfl, by decide, jx_mem (jx_mt4 (List.mem_of_getElem? (i := 181) rfl)) rfl, Or.inl rfl, Or.inl rfl⟩
  · cases h; exact ⟨(RX9, TX9, 62), "RegisterFleetModel", rfl, by decide, jx_mem (jx_mt4 (List.mem_of_getElem? (i := 182) rfl)) rfl, Or.inl rfl, Or.inl rfl⟩
  · cases h; exact ⟨(RX9, TX9, 62), "RegisterFleetModel", rfl, by decide, jx_mem (jx_mt4 (List.mem_of_getElem? (i := 183) rfl)) rfl, Or.inl rfl, Or.inl rfl⟩
  · cases h; exact ⟨(RX9, TX9, 62), "RegisterFleetModel", rfl, by decide, jx_mem (jx_mt4 (List.mem_of_getElem? (i := 184) rfl)) rfl, Or.inl rfl, Or.inl rfl⟩
  · cases h; exact ⟨(RX9, TX9, 62), "RegisterFleetModel", rfl, by decide, jx_mem (jx_mt4 (List.mem_of_getElem? (i := 185) rfl)) rfl, Or.inl rfl, Or.inl rfl⟩
  · cases h; exact ⟨(RX9, TX9, 62), "RegisterFleetModel", rfl, by decide, jx_mem (jx_mt4 (List.mem_of_getElem? (i := 186) rfl)) rfl, Or.inl rfl, Or.inl rfl⟩
  · cases h; exact ⟨(RX9, TX9, 62), "RegisterFleetModel", rfl, by decide, jx_mem (jx_mt4 (List.mem_of_getElem? (i := 187) rfl)) rfl, Or.inl rfl, Or.inl rfl⟩
  · cases h; exact ⟨(RX9, TX9, 62), "RegisterFleetModel", rfl, by decide, jx_mem (jx_mt4 (List.mem_of_getElem? (i := 188) rfl)) rfl, Or.inl rfl, Or.inl rfl⟩
  · cases h; exact ⟨(RX9, TX9, 62), "RegisterFleetModel", rfl, by decide, jx_mem (jx_mt4 (List.mem_of_getElem? (i := 189) rfl)) rfl, Or.inl rfl, Or.inl rfl⟩
  · cases h; exact ⟨(RX9, TX9, 62), "RegisterFleetModel", rfl, by decide, jx_mem (jx_mt4 (List.mem_of_getElem? (i := 190) rfl)) rfl, Or.inl rfl, Or.inl rfl⟩
  · cases h; exact ⟨(RX9, TX9, 62), "RegisterFleetModel", rfl, by decide, jx_mem (jx_mt4 (List.mem_of_getElem? (i := 191) rfl)) rfl, Or.inl rfl, Or.inl rfl⟩
  · cases h
theorem ft_0_0 : jx_prim (jx_ft 0 0) = true := rfl
theorem ft_0_1 : jx_prim (jx_ft 0 1) = false := rfl
theorem ft_0_2 : jx_prim (jx_ft 0 2) = true := rfl
theorem ft_1_0 : jx_prim (jx_ft 1 0) = false := rfl
theorem ft_1_1 : jx_prim (jx_ft 1 1) = false := rfl
theorem ft_1_2 : jx_prim (jx_ft 1 2) = true := rfl
theorem ft_2_0 : jx_prim (jx_ft 2 0) = true := rfl
theorem ft_2_1 : jx_prim (jx_ft 2 1) = false := rfl
theorem ft_2_2 : jx_prim (jx_ft 2 2) = false := rfl
theorem ft_2_3 : jx_prim (jx_ft 2 3) = false := rfl
theorem ft_2_4 : jx_prim (jx_ft 2 4) = false := rfl
theorem ft_2_5 : jx_prim (jx_ft 2 5) = true := rfl
theorem ft_2_6 : jx_prim (jx_ft 2 6) = true := rfl
theorem ft_2_7 : jx_prim (jx_ft 2 7) = true := rfl
theorem ft_2_8 : jx_prim (jx_ft 2 8) = true := rfl
theorem ft_2_9 : jx_prim (jx_ft 2 9) = true := rfl
theorem ft_2_10 : jx_prim (jx_ft 2 10) = true := rfl
theorem ft_2_11 : jx_prim (jx_ft 2 11) = true := rfl
theorem ft_2_12 : jx_prim (jx_ft 2 12) = true := rfl
theorem ft_2_13 : jx_prim (jx_ft 2 13) = true := rfl
theorem ft_3_0 : jx_prim (jx_ft 3 0) = false := rfl
theorem ft_3_1 : jx_prim (jx_ft 3 1) = true := rfl
theorem ft_3_2 : jx_prim (jx_ft 3 2) = true := rfl
theorem ft_3_3 : jx_prim (jx_ft 3 3) = true := rfl
theorem ft_4_0 : jx_prim (jx_ft 4 0) = false := rfl
theorem ft_4_1 : jx_prim (jx_ft 4 1) = false := rfl
theorem ft_4_2 : jx_prim (jx_ft 4 2) = false := rfl
theorem ft_4_3 : jx_prim (jx_ft 4 3) = true := rfl
theorem ft_4_4 : jx_prim (jx_ft 4 4) = true := rfl
theorem ft_4_5 : jx_prim (jx_ft 4 5) = true := rfl
theorem ft_4_6 : jx_prim (jx_ft 4 6) = true := rfl
theorem ft_4_7 : jx_prim (jx_ft 4 7) = true := rfl
theorem ft_4_8 : jx_prim (jx_ft 4 8) = true := rfl
theorem ft_5_0 : jx_prim (jx_ft 5 0) = true := rfl
theorem ft_5_1 : jx_prim (jx_ft 5 1) = true := rfl
theorem ft_5_2 : jx_prim (jx_ft 5 2) = true := rfl
theorem ft_5_3 : jx_prim (jx_ft 5 3) = true := rfl
theorem ft_5_4 : jx_prim (jx_ft 5 4) = true := rfl
theorem ft_5_5 : jx_prim (jx_ft 5 5) = true := rfl
theorem ft_5_6 : jx_prim (jx_ft 5 6) = true := rfl
theorem ft_5_7 : jx_prim (jx_ft 5 7) = true := rfl
theorem ft_5_8 : jx_prim (jx_ft 5 8) = true := rfl
theorem ft_6_0 : jx_prim (jx_ft 6 0) = false := rfl
theorem ft_6_1 : jx_prim (jx_ft 6 1) = false := rfl
theorem ft_6_2 : jx_prim (jx_ft 6 2) = false := rfl
theorem ft_6_3 : jx_prim (jx_ft 6 3) = false := rfl
theorem ft_6_4 : jx_prim (jx_ft 6 4) = false := rfl
theorem ft_6_5 : jx_prim (jx_ft 6 5) = false := rfl
theorem ft_6_6 : jx_prim (jx_ft 6 6) = true := rfl
theorem ft_7_0 : jx_prim (jx_ft 7 0) = false := rfl
theorem ft_7_1 : jx_prim (jx_ft 7 1) = false := rfl
theorem ft_7_2 : jx_prim (jx_ft 7 2) = false := rfl
theorem ft_7_3 : jx_prim (jx_ft 7 3) = false := rfl
theorem ft_7_4 : jx_prim (jx_ft 7 4) = false := rfl
theorem ft_7_5 : jx_prim (jx_ft 7 5) = false := rfl
theorem ft_7_6 : jx_prim (jx_ft 7 6) = true := rfl
theorem ft_8_0 : jx_prim (jx_ft 8 0) = false := rfl
theorem ft_9_0 : jx_prim (jx_ft 9 0) = false := rfl
theorem ft_9_1 : jx_prim (jx_ft 9 1) = false := rfl
theorem ft_9_2 : jx_prim (jx_ft 9 2) = false := rfl
theorem ft_9_3 : jx_prim (jx_ft 9 3) = false := rfl
theorem ft_9_4 : jx_prim (jx_ft 9 4) = false := rfl
theorem ft_9_5 : jx_prim (jx_ft 9 5) = true := rfl
theorem ft_9_6 : jx_prim (jx_ft 9 6) = true := rfl
theorem ft_10_0 : jx_prim (jx_ft 10 0) = true := rfl
theorem ft_10_1 : jx_prim (jx_ft 10 1) = true := rfl
theorem ft_10_2 : jx_prim (jx_ft 10 2) = false := rfl
theorem ft_10_3 : jx_prim (jx_ft 10 3) = false := rfl
theorem ft_10_4 : jx_prim (jx_ft 10 4) = false := rfl
theorem ft_10_5 : jx_prim (jx_ft 10 5) = false := rfl
theorem ft_10_6 : jx_prim (jx_ft 10 6) = false := rfl
theorem ft_10_7 : jx_prim (jx_ft 10 7) = false := rfl
theorem ft_10_8 : jx_prim (jx_ft 10 8) = false := rfl
theorem ft_10_9 : jx_prim (jx_ft 10 9) = true := rfl
theorem ft_10_10 : jx_prim (jx_ft 10 10) = true := rfl
theorem ft_10_11 : jx_prim (jx_ft 10 11) = true := rfl
theorem ft_10_12 : jx_prim (jx_ft 10 12) = false := rfl
theorem ft_10_13 : jx_prim (jx_ft 10 13) = false := rfl
theorem ft_10_14 : jx_prim (jx_ft 10 14) = false := rfl
theorem ft_10_15 : jx_prim (jx_ft 10 15) = false := rfl
theorem ft_10_16 : jx_prim (jx_ft 10 16) = false := rfl
theorem ft_10_17 : jx_prim (jx_ft 10 17) = false := rfl
theorem ft_10_18 : jx_prim (jx_ft 10 18) = false := rfl
theorem ft_10_19 : jx_prim (jx_ft 10 19) = false := rfl
theorem ft_10_20 : jx_prim (jx_ft 10 20) = false := rfl
theorem ft_10_21 : jx_prim (jx_ft 10 21) = false := rfl
theorem ft_10_22 : jx_prim (jx_ft 10 22) = false := rfl
theorem ft_10_23 : jx_prim (jx_ft 10 23) = false := rfl
theorem ft_10_24 : jx_prim (jx_ft 10 24) = false := rfl
theorem ft_10_25 : jx_prim (jx_ft 10 25) = true := rfl
theorem ft_10_26 : jx_prim (jx_ft 10 26) = true := rfl
theorem ft_10_27 : jx_prim (jx_ft 10 27) = true := rfl
theorem ft_10_28 : jx_prim (jx_ft 10 28) = false := rfl
theorem ft_10_29 : jx_prim (jx_ft 10 29) = false := rfl
theorem ft_10_30 : jx_prim (jx_ft 10 30) = false := rfl
theorem ft_10_31 : jx_prim (jx_ft 10 31) = false := rfl
theorem ft_10_32 : jx_prim (jx_ft 10 32) = false := rfl
theorem ft_10_33 : jx_prim (jx_ft 10 33) = false := rfl
theorem ft_10_34 : jx_prim (jx_ft 10 34) = false := rfl
theorem ft_10_35 : jx_prim (jx_ft 10 35) = false := rfl
theorem ft_10_36 : jx_prim (jx_ft 10 36) = false := rfl
theorem ft_10_37 : jx_prim (jx_ft 10 37) = false := rfl
theorem ft_10_38 : jx_prim (jx_ft 10 38) = false := rfl
theorem ft_10_39 : jx_prim (jx_ft 10 39) = false := rfl
theorem ft_10_40 : jx_prim (jx_ft 10 40) = false := rfl
theorem ft_10_41 : jx_prim (jx_ft 10 41) = false := rfl
theorem ft_10_42 : jx_prim (jx_ft 10 42) = false := rfl
theorem ft_10_43 : jx_prim (jx_ft 10 43) = false := rfl
theorem ft_10_44 : jx_prim (jx_ft 10 44) = false := rfl
theorem ft_10_45 : jx_prim (jx_ft 10 45) = false := rfl
theorem ft_10_46 : jx_prim (jx_ft 10 46) = false := rfl
theorem ft_10_47 : jx_prim (jx_ft 10 47) = true := rfl
theorem ft_10_48 : jx_prim (jx_ft 10 48) = true := rfl
theorem ft_10_49 : jx_prim (jx_ft 10 49) = true := rfl
theorem ft_10_50 : jx_prim (jx_ft 10 50) = true := rfl
theorem ft_10_51 : jx_prim (jx_ft 10 51) = true := rfl
theorem ft_10_52 : jx_prim (jx_ft 10 52) = true := rfl
theorem ft_10_53 : jx_prim (jx_ft 10 53) = true := rfl
theorem ft_10_54 : jx_prim (jx_ft 10 54) = true := rfl
theorem ft_10_55 : jx_prim (jx_ft 10 55) = true := rfl
theorem ft_10_56 : jx_prim (jx_ft 10 56) = true := rfl
theorem ft_10_57 : jx_prim (jx_ft 10 57) = true := rfl
theorem ft_10_58 : jx_prim (jx_ft 10 58) = true := rfl
theorem ft_10_59 : jx_prim (jx_ft 10 59) = true := rfl
theorem ft_10_60 : jx_prim (jx_ft 10 60) = false := rfl
theorem ft_10_61 : jx_prim (jx_ft 10 61) = false := rfl
