/-! ===== the words of the tables that keep, by their places ===== -/
def jw : List Cond := lw_tbl.filter goodWord
theorem jw_good : ∀ w ∈ jw, goodWord w = true := fun w h => (List.mem_filter.mp h).2
theorem jw_in : ∀ w ∈ jw, w ∈ lw_tbl := fun w h => (List.mem_filter.mp h).1
theorem jw_c1 {i : Nat} {w : Cond} (h : tables_1_1[i]? = some w) (hg : goodWord w = true) : w ∈ jw := List.mem_filter.mpr ⟨List.mem_append_right _ (List.mem_append_left _ (List.mem_of_getElem? h)), hg⟩
theorem jw_c2 {i : Nat} {w : Cond} (h : tables_1_2[i]? = some w) (hg : goodWord w = true) : w ∈ jw := List.mem_filter.mpr ⟨List.mem_append_right _ (List.mem_append_right _ (List.mem_append_left _ (List.mem_of_getElem? h))), hg⟩
theorem jw_c3 {i : Nat} {w : Cond} (h : tables_1_3[i]? = some w) (hg : goodWord w = true) : w ∈ jw := List.mem_filter.mpr ⟨List.mem_append_right _ (List.mem_append_right _ (List.mem_append_right _ (List.mem_append_left _ (List.mem_of_getElem? h)))), hg⟩
theorem jw_c4 {i : Nat} {w : Cond} (h : tables_1_4[i]? = some w) (hg : goodWord w = true) : w ∈ jw := List.mem_filter.mpr ⟨List.mem_append_right _ (List.mem_append_right _ (List.mem_append_right _ (List.mem_append_right _ (List.mem_append_left _ (List.mem_of_getElem? h))))), hg⟩
theorem jw_c5 {i : Nat} {w : Cond} (h : tables_1_5[i]? = some w) (hg : goodWord w = true) : w ∈ jw := List.mem_filter.mpr ⟨List.mem_append_right _ (List.mem_append_right _ (List.mem_append_right _ (List.mem_append_right _ (List.mem_append_right _ (List.mem_of_getElem? h))))), hg⟩
theorem jw_p {i : Nat} {q : MethodName × Nat} (h : lw_privs[i]? = some q) (hg : goodWord (Cond.selects q.1.cls q.1 q.1) = true) : Cond.selects q.1.cls q.1 q.1 ∈ jw := List.mem_filter.mpr ⟨List.mem_append_left _ (List.mem_map.mpr ⟨q, List.mem_of_getElem? h, rfl⟩), hg⟩
/-- a field: pool index idx of class own, slot j of class number ci -/
def jF (own : String) (idx ci j : Nat) : Prop := ∃ (C : String) (T : u_T) (N : Nat) (ty : Nat → FieldType), vwCl[ci]? = some (C, T, N) ∧ j < N ∧ Cond.fieldLink own idx (T j).1 (T j).2.1 (T j).2.2.1 ∈ jw ∧ (∀ w ∈ u_ws C T N, w ∈ jw) ∧ (∀ k, k < N → parseFieldDescriptor (T k).2.2.1 = some (ty k)) ∧ (∀ a, a < N → ∀ b, b < N → a ≠ b → (T a).2.1 ≠ (T b).2.1)
/-- an int field that isn't final -/
def jG (own : String) (idx ci j : Nat) : Prop := ∃ (C : String) (T : u_T) (N : Nat) (ty : Nat → FieldType), vwCl[ci]? = some (C, T, N) ∧ j < N ∧ Cond.fieldLink own idx (T j).1 (T j).2.1 (T j).2.2.1 ∈ jw ∧ (∀ w ∈ u_ws C T N, w ∈ jw) ∧ (∀ k, k < N → parseFieldDescriptor (T k).2.2.1 = some (ty k)) ∧ (∀ a, a < N → ∀ b, b < N → a ≠ b → (T a).2.1 ≠ (T b).2.1) ∧ (T j).2.2.2 = false ∧ parseFieldDescriptor (T j).2.2.1 = some .int
/-- a method: what every call of it needs -/
def jM (C : String) (y : MethodName) (cc : ByteArray) (nL : Nat) (ret : Option FieldType) (n : Nat) : Prop := Cond.instanceMethod y ∈ jw ∧ Cond.selects C y y ∈ jw ∧ Cond.initialized y.cls ∈ jw ∧ Cond.code y cc nL ret ∈ jw ∧ (y.cls ≠ "java/lang/invoke/MethodHandle" ∧ y.cls ≠ "java/lang/invoke/VarHandle" ∧ (parseMethodDescriptor y.desc).map (fun d => d.parameters.length) = some n) ∧ nL ≤ 20
def jMs (y : MethodName) (cc : ByteArray) (nL : Nat) (ret : Option FieldType) (n : Nat) : Prop := Cond.static y ∈ jw ∧ Cond.initialized y.cls ∈ jw ∧ Cond.code y cc nL ret ∈ jw ∧ (y.cls ≠ "java/lang/invoke/MethodHandle" ∧ y.cls ≠ "java/lang/invoke/VarHandle" ∧ (parseMethodDescriptor y.desc).map (fun d => d.parameters.length) = some n) ∧ nL ≤ 20
theorem inX0k : ∀ k, k < 1 → u_lay RX0 TX0 k ∈ jw
  | 0, _ => jw_c1 (i := 93) (by decide +kernel) rfl
  | k + 1, h => absurd h (by omega)
theorem inX0 : ∀ w ∈ u_ws RX0 TX0 1, w ∈ jw := fun w h => by
  obtain ⟨k, hk, e⟩ := List.mem_map.mp h
  rw [← e]
  exact inX0k k (List.mem_range.mp hk)
theorem inX1k : ∀ k, k < 1 → u_lay RX1 TX1 k ∈ jw
  | 0, _ => jw_c1 (i := 103) (by decide +kernel) rfl
  | k + 1, h => absurd h (by omega)
theorem inX1 : ∀ w ∈ u_ws RX1 TX1 1, w ∈ jw := fun w h => by
  obtain ⟨k, hk, e⟩ := List.mem_map.mp h
  rw [← e]
  exact inX1k k (List.mem_range.mp hk)
theorem inX2k : ∀ k, k < 2 → u_lay RX2 TX2 k ∈ jw
  | 0, _ => jw_c1 (i := 116) (by decide +kernel) rfl
  | 1, _ => jw_c1 (i := 118) (by decide +kernel) rfl
  | k + 2, h => absurd h (by omega)
theorem inX2 : ∀ w ∈ u_ws RX2 TX2 2, w ∈ jw := fun w h => by
  obtain ⟨k, hk, e⟩ := List.mem_map.mp h
  rw [← e]
  exact inX2k k (List.mem_range.mp hk)
theorem inX3k : ∀ k, k < 3 → u_lay RX3 TX3 k ∈ jw
  | 0, _ => jw_c1 (i := 149) (by decide +kernel) rfl
  | 1, _ => jw_c1 (i := 151) (by decide +kernel) rfl
  | 2, _ => jw_c1 (i := 153) (by decide +kernel) rfl
  | k + 3, h => absurd h (by omega)
theorem inX3 : ∀ w ∈ u_ws RX3 TX3 3, w ∈ jw := fun w h => by
  obtain ⟨k, hk, e⟩ := List.mem_map.mp h
  rw [← e]
  exact inX3k k (List.mem_range.mp hk)
theorem inX4k : ∀ k, k < 3 → u_lay RX4 TX4 k ∈ jw
  | 0, _ => jw_c1 (i := 132) (by decide +kernel) rfl
  | 1, _ => jw_c1 (i := 134) (by decide +kernel) rfl
  | 2, _ => jw_c1 (i := 136) (by decide +kernel) rfl
  | k + 3, h => absurd h (by omega)
theorem inX4 : ∀ w ∈ u_ws RX4 TX4 3, w ∈ jw := fun w h => by
  obtain ⟨k, hk, e⟩ := List.mem_map.mp h
  rw [← e]
  exact inX4k k (List.mem_range.mp hk)
theorem inX5k : ∀ k, k < 3 → u_lay RX5 TX5 k ∈ jw
  | 0, _ => jw_c1 (i := 169) (by decide +kernel) rfl
  | 1, _ => jw_c1 (i := 171) (by decide +kernel) rfl
  | 2, _ => jw_c1 (i := 173) (by decide +kernel) rfl
  | k + 3, h => absurd h (by omega)
theorem inX5 : ∀ w ∈ u_ws RX5 TX5 3, w ∈ jw := fun w h => by
  obtain ⟨k, hk, e⟩ := List.mem_map.mp h
  rw [← e]
  exact inX5k k (List.mem_range.mp hk)
theorem inX6k : ∀ k, k < 0 → u_lay RX6 TX6 k ∈ jw
  | k + 0, h => absurd h (by omega)
theorem inX6 : ∀ w ∈ u_ws RX6 TX6 0, w ∈ jw := fun w h => by
  obtain ⟨k, hk, e⟩ := List.mem_map.mp h
  rw [← e]
  exact inX6k k (List.mem_range.mp hk)
theorem inX7k : ∀ k, k < 10 → u_lay RX7 TX7 k ∈ jw
  | 0, _ => jw_c1 (i := 57) (by decide +kernel) rfl
  | 1, _ => jw_c1 (i := 59) (by decide +kernel) rfl
  | 2, _ => jw_c1 (i := 61) (by decide +kernel) rfl
  | 3, _ => jw_c1 (i := 63) (by decide +kernel) rfl
  | 4, _ => jw_c1 (i := 65) (by decide +kernel) rfl
  | 5, _ => jw_c1 (i := 67) (by decide +kernel) rfl
  | 6, _ => jw_c1 (i := 69) (by decide +kernel) rfl
  | 7, _ => jw_c1 (i := 71) (by decide +kernel) rfl
  | 8, _ => jw_c1 (i := 73) (by decide +kernel) rfl
  | 9, _ => jw_c1 (i := 75) (by decide +kernel) rfl
  | k + 10, h => absurd h (by omega)
theorem inX7 : ∀ w ∈ u_ws RX7 TX7 10, w ∈ jw := fun w h => by
  obtain ⟨k, hk, e⟩ := List.mem_map.mp h
  rw [← e]
  exact inX7k k (List.mem_range.mp hk)
theorem inX8k : ∀ k, k < 11 → u_lay RX8 TX8 k ∈ jw
  | 0, _ => jw_c1 (i := 187) (by decide +kernel) rfl
  | 1, _ => jw_c1 (i := 189) (by decide +kernel) rfl
  | 2, _ => jw_c1 (i := 191) (by decide +kernel) rfl
  | 3, _ => jw_c1 (i := 193) (by decide +kernel) rfl
  | 4, _ => jw_c1 (i := 195) (by decide +kernel) rfl
  | 5, _ => jw_c1 (i := 197) (by decide +kernel) rfl
  | 6, _ => jw_c1 (i := 199) (by decide +kernel) rfl
  | 7, _ => jw_c1 (i := 201) (by decide +kernel) rfl
  | 8, _ => jw_c1 (i := 203) (by decide +kernel) rfl
  | 9, _ => jw_c1 (i := 205) (by decide +kernel) rfl
  | 10, _ => jw_c1 (i := 207) (by decide +kernel) rfl
  | k + 11, h => absurd h (by omega)
theorem inX8 : ∀ w ∈ u_ws RX8 TX8 11, w ∈ jw := fun w h => by
  obtain ⟨k, hk, e⟩ := List.mem_map.mp h
  rw [← e]
  exact inX8k k (List.mem_range.mp hk)
theorem inX9k : ∀ k, k < 41 → u_lay RX9 TX9 k ∈ jw
  | 0, _ => jw_c4 (i := 2) (by decide +kernel) rfl
  | 1, _ => jw_c4 (i := 4) (by decide +kernel) rfl
  | 2, _ => jw_c4 (i := 6) (by decide +kernel) rfl
  | 3, _ => jw_c4 (i := 8) (by decide +kernel) rfl
  | 4, _ => jw_c4 (i := 10) (by decide +kernel) rfl
  | 5, _ => jw_c4 (i := 12) (by decide +kernel) rfl
  | 6, _ => jw_c4 (i := 14) (by decide +kernel) rfl
  | 7, _ => jw_c4 (i := 16) (by decide +kernel) rfl
  | 8, _ => jw_c4 (i := 18) (by decide +kernel) rfl
  | 9, _ => jw_c4 (i := 20) (by decide +kernel) rfl
  | 10, _ => jw_c4 (i := 22) (by decide +kernel) rfl
  | 11, _ => jw_c4 (i := 24) (by decide +kernel) rfl
  | 12, _ => jw_c4 (i := 26) (by decide +kernel) rfl
  | 13, _ => jw_c4 (i := 28) (by decide +kernel) rfl
  | 14, _ => jw_c4 (i := 30) (by decide +kernel) rfl
  | 15, _ => jw_c4 (i := 32) (by decide +kernel) rfl
  | 16, _ => jw_c4 (i := 34) (by decide +kernel) rfl
  | 17, _ => jw_c4 (i := 36) (by decide +kernel) rfl
  | 18, _ => jw_c4 (i := 38) (by decide +kernel) rfl
  | 19, _ => jw_c4 (i := 40) (by decide +kernel) rfl
  | 20, _ => jw_c4 (i := 42) (by decide +kernel) rfl
  | 21, _ => jw_c4 (i := 44) (by decide +kernel) rfl
  | 22, _ => jw_c4 (i := 46) (by decide +kernel) rfl
  | 23, _ => jw_c4 (i := 48) (by decide +kernel) rfl
  | 24, _ => jw_c4 (i := 50) (by decide +kernel) rfl
  | 25, _ => jw_c4 (i := 52) (by decide +kernel) rfl
  | 26, _ => jw_c4 (i := 54) (by decide +kernel) rfl
  | 27, _ => jw_c4 (i := 56) (by decide +kernel) rfl
  | 28, _ => jw_c4 (i := 58) (by decide +kernel) rfl
  | 29, _ => jw_c4 (i := 60) (by decide +kernel) rfl
  | 30, _ => jw_c4 (i := 62) (by decide +kernel) rfl
  | 31, _ => jw_c4 (i := 64) (by decide +kernel) rfl
  | 32, _ => jw_c4 (i := 66) (by decide +kernel) rfl
  | 33, _ => jw_c4 (i := 68) (by decide +kernel) rfl
  | 34, _ => jw_c4 (i := 70) (by decide +kernel) rfl
  | 35, _ => jw_c4 (i := 72) (by decide +kernel) rfl
  | 36, _ => jw_c4 (i := 74) (by decide +kernel) rfl
  | 37, _ => jw_c4 (i := 76) (by decide +kernel) rfl
  | 38, _ => jw_c4 (i := 78) (by decide +kernel) rfl
  | 39, _ => jw_c4 (i := 80) (by decide +kernel) rfl
  | 40, _ => jw_c4 (i := 82) (by decide +kernel) rfl
  | k + 41, h => absurd h (by omega)
theorem inX9 : ∀ w ∈ u_ws RX9 TX9 41, w ∈ jw := fun w h => by
  obtain ⟨k, hk, e⟩ := List.mem_map.mp h
  rw [← e]
  exact inX9k k (List.mem_range.mp hk)
theorem fX7_9 : jF RX7 9 7 0 := ⟨RX7, TX7, 10, tyX7, rfl, by decide, jw_c1 (i := 28) (by decide +kernel) rfl, inX7, tyX7_ok, nmX7⟩
theorem gX7_9 : jG RX7 9 7 0 := ⟨RX7, TX7, 10, tyX7, rfl, by decide, (jw_c1 (i := 28) (by decide +kernel) rfl), inX7, tyX7_ok, nmX7, rfl, by decide +kernel⟩
theorem fX6_40 : jF RX6 40 7 0 := ⟨RX7, TX7, 10, tyX7, rfl, by decide, jw_c1 (i := 29) (by decide +kernel) rfl, inX7, tyX7_ok, nmX7⟩
theorem gX6_40 : jG RX6 40 7 0 := ⟨RX7, TX7, 10, tyX7, rfl, by decide, (jw_c1 (i := 29) (by decide +kernel) rfl), inX7, tyX7_ok, nmX7, rfl, by decide +kernel⟩
theorem fX8_208 : jF RX8 208 7 0 := ⟨RX7, TX7, 10, tyX7, rfl, by decide, jw_c1 (i := 30) (by decide +kernel) rfl, inX7, tyX7_ok, nmX7⟩
theorem gX8_208 : jG RX8 208 7 0 := ⟨RX7, TX7, 10, tyX7, rfl, by decide, (jw_c1 (i := 30) (by decide +kernel) rfl), inX7, tyX7_ok, nmX7, rfl, by decide +kernel⟩
theorem fX7_15 : jF RX7 15 7 1 := ⟨RX7, TX7, 10, tyX7, rfl, by decide, jw_c1 (i := 31) (by decide +kernel) rfl, inX7, tyX7_ok, nmX7⟩
theorem gX7_15 : jG RX7 15 7 1 := ⟨RX7, TX7, 10, tyX7, rfl, by decide, (jw_c1 (i := 31) (by decide +kernel) rfl), inX7, tyX7_ok, nmX7, rfl, by decide +kernel⟩
theorem fX8_106 : jF RX8 106 7 1 := ⟨RX7, TX7, 10, tyX7, rfl, by decide, jw_c1 (i := 32) (by decide +kernel) rfl, inX7, tyX7_ok, nmX7⟩
theorem gX8_106 : jG RX8 106 7 1 := ⟨RX7, TX7, 10, tyX7, rfl, by decide, (jw_c1 (i := 32) (by decide +kernel) rfl), inX7, tyX7_ok, nmX7, rfl, by decide +kernel⟩
theorem fX6_33 : jF RX6 33 7 1 := ⟨RX7, TX7, 10, tyX7, rfl, by decide, jw_c1 (i := 33) (by decide +kernel) rfl, inX7, tyX7_ok, nmX7⟩
theorem gX6_33 : jG RX6 33 7 1 := ⟨RX7, TX7, 10, tyX7, rfl, by decide, (jw_c1 (i := 33) (by decide +kernel) rfl), inX7, tyX7_ok, nmX7, rfl, by decide +kernel⟩
theorem fX7_18 : jF RX7 18 7 2 := ⟨RX7, TX7, 10, tyX7, rfl, by decide, jw_c1 (i := 34) (by decide +kernel) rfl, inX7, tyX7_ok, nmX7⟩
theorem gX7_18 : jG RX7 18 7 2 := ⟨RX7, TX7, 10, tyX7, rfl, by decide, (jw_c1 (i := 34) (by decide +kernel) rfl), inX7, tyX7_ok, nmX7, rfl, by decide +kernel⟩
theorem fX8_166 : jF RX8 166 7 2 := ⟨RX7, TX7, 10, tyX7, rfl, by decide, jw_c1 (i := 35) (by decide +kernel) rfl, inX7, tyX7_ok, nmX7⟩
theorem gX8_166 : jG RX8 166 7 2 := ⟨RX7, TX7, 10, tyX7, rfl, by decide, (jw_c1 (i := 35) (by decide +kernel) rfl), inX7, tyX7_ok, nmX7, rfl, by decide +kernel⟩
theorem fX7_21 : jF RX7 21 7 3 := ⟨RX7, TX7, 10, tyX7, rfl, by decide, jw_c1 (i := 36) (by decide +kernel) rfl, inX7, tyX7_ok, nmX7⟩
theorem gX7_21 : jG RX7 21 7 3 := ⟨RX7, TX7, 10, tyX7, rfl, by decide, (jw_c1 (i := 36) (by decide +kernel) rfl), inX7, tyX7_ok, nmX7, rfl, by decide +kernel⟩
theorem fX8_169 : jF RX8 169 7 3 := ⟨RX7, TX7, 10, tyX7, rfl, by decide, jw_c1 (i := 37) (by decide +kernel) rfl, inX7, tyX7_ok, nmX7⟩
theorem gX8_169 : jG RX8 169 7 3 := ⟨RX7, TX7, 10, tyX7, rfl, by decide, (jw_c1 (i := 37) (by decide +kernel) rfl), inX7, tyX7_ok, nmX7, rfl, by decide +kernel⟩
theorem fX7_24 : jF RX7 24 7 4 := ⟨RX7, TX7, 10, tyX7, rfl, by decide, jw_c1 (i := 38) (by decide +kernel) rfl, inX7, tyX7_ok, nmX7⟩
theorem fX2_37 : jF RX2 37 7 4 := ⟨RX7, TX7, 10, tyX7, rfl, by decide, jw_c1 (i := 39) (by decide +kernel) rfl, inX7, tyX7_ok, nmX7⟩
theorem fX8_147 : jF RX8 147 7 4 := ⟨RX7, TX7, 10, tyX7, rfl, by decide, jw_c1 (i := 40) (by decide +kernel) rfl, inX7, tyX7_ok, nmX7⟩
theorem fX6_47 : jF RX6 47 7 4 := ⟨RX7, TX7, 10, tyX7, rfl, by decide, jw_c1 (i := 41) (by decide +kernel) rfl, inX7, tyX7_ok, nmX7⟩
theorem fX7_28 : jF RX7 28 7 5 := ⟨RX7, TX7, 10, tyX7, rfl, by decide, jw_c1 (i := 42) (by decide +kernel) rfl, inX7, tyX7_ok, nmX7⟩
theorem fX8_112 : jF RX8 112 7 5 := ⟨RX7, TX7, 10, tyX7, rfl, by decide, jw_c1 (i := 43) (by decide +kernel) rfl, inX7, tyX7_ok, nmX7⟩
theorem fX6_57 : jF RX6 57 7 5 := ⟨RX7, TX7, 10, tyX7, rfl, by decide, jw_c1 (i := 44) (by decide +kernel) rfl, inX7, tyX7_ok, nmX7⟩
theorem fX7_31 : jF RX7 31 7 6 := ⟨RX7, TX7, 10, tyX7, rfl, by decide, jw_c1 (i := 45) (by decide +kernel) rfl, inX7, tyX7_ok, nmX7⟩
theorem fX8_116 : jF RX8 116 7 6 := ⟨RX7, TX7, 10, tyX7, rfl, by decide, jw_c1 (i := 46) (by decide +kernel) rfl, inX7, tyX7_ok, nmX7⟩
theorem fX6_60 : jF RX6 60 7 6 := ⟨RX7, TX7, 10, tyX7, rfl, by decide, jw_c1 (i := 47) (by decide +kernel) rfl, inX7, tyX7_ok, nmX7⟩
theorem fX7_34 : jF RX7 34 7 7 := ⟨RX7, TX7, 10, tyX7, rfl, by decide, jw_c1 (i := 48) (by decide +kernel) rfl, inX7, tyX7_ok, nmX7⟩
theorem fX8_119 : jF RX8 119 7 7 := ⟨RX7, TX7, 10, tyX7, rfl, by decide, jw_c1 (i := 49) (by decide +kernel) rfl, inX7, tyX7_ok, nmX7⟩
theorem fX6_63 : jF RX6 63 7 7 := ⟨RX7, TX7, 10, tyX7, rfl, by decide, jw_c1 (i := 50) (by decide +kernel) rfl, inX7, tyX7_ok, nmX7⟩
theorem fX7_37 : jF RX7 37 7 8 := ⟨RX7, TX7, 10, tyX7, rfl, by decide, jw_c1 (i := 51) (by decide +kernel) rfl, inX7, tyX7_ok, nmX7⟩
theorem fX8_122 : jF RX8 122 7 8 := ⟨RX7, TX7, 10, tyX7, rfl, by decide, jw_c1 (i := 52) (by decide +kernel) rfl, inX7, tyX7_ok, nmX7⟩
theorem fX6_66 : jF RX6 66 7 8 := ⟨RX7, TX7, 10, tyX7, rfl, by decide, jw_c1 (i := 53) (by decide +kernel) rfl, inX7, tyX7_ok, nmX7⟩
theorem fX7_40 : jF RX7 40 7 9 := ⟨RX7, TX7, 10, tyX7, rfl, by decide, jw_c1 (i := 54) (by decide +kernel) rfl, inX7, tyX7_ok, nmX7⟩
theorem fX8_125 : jF RX8 125 7 9 := ⟨RX7, TX7, 10, tyX7, rfl, by decide, jw_c1 (i := 55) (by decide +kernel) rfl, inX7, tyX7_ok, nmX7⟩
theorem fX6_69 : jF RX6 69 7 9 := ⟨RX7, TX7, 10, tyX7, rfl, by decide, jw_c1 (i := 56) (by decide +kernel) rfl, inX7, tyX7_ok, nmX7⟩
theorem fX0_9 : jF RX0 9 0 0 := ⟨RX0, TX0, 1, tyX0, rfl, by decide, jw_c1 (i := 92) (by decide +kernel) rfl, inX0, tyX0_ok, nmX0⟩
theorem fX1_9 : jF RX1 9 1 0 := ⟨RX1, TX1, 1, tyX1, rfl, by decide, jw_c1 (i := 102) (by decide +kernel) rfl, inX1, tyX1_ok, nmX1⟩
theorem fX2_9 : jF RX2 9 2 0 := ⟨RX2, TX2, 2, tyX2, rfl, by decide, jw_c1 (i := 112) (by decide +kernel) rfl, inX2, tyX2_ok, nmX2⟩
theorem fX8_217 : jF RX8 217 2 0 := ⟨RX2, TX2, 2, tyX2, rfl, by decide, jw_c1 (i := 113) (by decide +kernel) rfl, inX2, tyX2_ok, nmX2⟩
theorem fX2_15 : jF RX2 15 2 1 := ⟨RX2, TX2, 2, tyX2, rfl, by decide, jw_c1 (i := 114) (by decide +kernel) rfl, inX2, tyX2_ok, nmX2⟩
theorem gX2_15 : jG RX2 15 2 1 := ⟨RX2, TX2, 2, tyX2, rfl, by decide, (jw_c1 (i := 114) (by decide +kernel) rfl), inX2, tyX2_ok, nmX2, rfl, by decide +kernel⟩
theorem fX8_214 : jF RX8 214 2 1 := ⟨RX2, TX2, 2, tyX2, rfl, by decide, jw_c1 (i := 115) (by decide +kernel) rfl, inX2, tyX2_ok, nmX2⟩
theorem gX8_214 : jG RX8 214 2 1 := ⟨RX2, TX2, 2, tyX2, rfl, by decide, (jw_c1 (i := 115) (by decide +kernel) rfl), inX2, tyX2_ok, nmX2, rfl, by decide +kernel⟩
theorem fX4_9 : jF RX4 9 4 0 := ⟨RX4, TX4, 3, tyX4, rfl, by decide, jw_c1 (i := 127) (by decide +kernel) rfl, inX4, tyX4_ok, nmX4⟩
theorem fX4_15 : jF RX4 15 4 1 := ⟨RX4, TX4, 3, tyX4, rfl, by decide, jw_c1 (i := 128) (by decide +kernel) rfl, inX4, tyX4_ok, nmX4⟩
theorem gX4_15 : jG RX4 15 4 1 := ⟨RX4, TX4, 3, tyX4, rfl, by decide, (jw_c1 (i := 128) (by decide +kernel) rfl), inX4, tyX4_ok, nmX4, rfl, by decide +kernel⟩
theorem fX8_227 : jF RX8 227 4 1 := ⟨RX4, TX4, 3, tyX4, rfl, by decide, jw_c1 (i := 129) (by decide +kernel) rfl, inX4, tyX4_ok, nmX4⟩
theorem gX8_227 : jG RX8 227 4 1 := ⟨RX4, TX4, 3, tyX4, rfl, by decide, (jw_c1 (i := 129) (by decide +kernel) rfl), inX4, tyX4_ok, nmX4, rfl, by decide +kernel⟩
theorem fX4_19 : jF RX4 19 4 2 := ⟨RX4, TX4, 3, tyX4, rfl, by decide, jw_c1 (i := 130) (by decide +kernel) rfl, inX4, tyX4_ok, nmX4⟩
theorem gX4_19 : jG RX4 19 4 2 := ⟨RX4, TX4, 3, tyX4, rfl, by decide, (jw_c1 (i := 130) (by decide +kernel) rfl), inX4, tyX4_ok, nmX4, rfl, by decide +kernel⟩
theorem fX8_230 : jF RX8 230 4 2 := ⟨RX4, TX4, 3, tyX4, rfl, by decide, jw_c1 (i := 131) (by decide +kernel) rfl, inX4, tyX4_ok, nmX4⟩
theorem gX8_230 : jG RX8 230 4 2 := ⟨RX4, TX4, 3, tyX4, rfl, by decide, (jw_c1 (i := 131) (by decide +kernel) rfl), inX4, tyX4_ok, nmX4, rfl, by decide +kernel⟩
theorem fX3_9 : jF RX3 9 3 0 := ⟨RX3, TX3, 3, tyX3, rfl, by decide, jw_c1 (i := 145) (by decide +kernel) rfl, inX3, tyX3_ok, nmX3⟩
theorem fX3_15 : jF RX3 15 3 1 := ⟨RX3, TX3, 3, tyX3, rfl, by decide, jw_c1 (i := 146) (by decide +kernel) rfl, inX3, tyX3_ok, nmX3⟩
theorem fX3_18 : jF RX3 18 3 2 := ⟨RX3, TX3, 3, tyX3, rfl, by decide, jw_c1 (i := 147) (by decide +kernel) rfl, inX3, tyX3_ok, nmX3⟩
theorem gX3_18 : jG RX3 18 3 2 := ⟨RX3, TX3, 3, tyX3, rfl, by decide, (jw_c1 (i := 147) (by decide +kernel) rfl), inX3, tyX3_ok, nmX3, rfl, by decide +kernel⟩
theorem fX8_103 : jF RX8 103 3 2 := ⟨RX3, TX3, 3, tyX3, rfl, by decide, jw_c1 (i := 148) (by decide +kernel) rfl, inX3, tyX3_ok, nmX3⟩
theorem gX8_103 : jG RX8 103 3 2 := ⟨RX3, TX3, 3, tyX3, rfl, by decide, (jw_c1 (i := 148) (by decide +kernel) rfl), inX3, tyX3_ok, nmX3, rfl, by decide +kernel⟩
theorem fX5_9 : jF RX5 9 5 0 := ⟨RX5, TX5, 3, tyX5, rfl, by decide, jw_c1 (i := 163) (by decide +kernel) rfl, inX5, tyX5_ok, nmX5⟩
theorem fX6_16 : jF RX6 16 5 0 := ⟨RX5, TX5, 3, tyX5, rfl, by decide, jw_c1 (i := 164) (by decide +kernel) rfl, inX5, tyX5_ok, nmX5⟩
theorem fX8_270 : jF RX8 270 5 0 := ⟨RX5, TX5, 3, tyX5, rfl, by decide, jw_c1 (i := 165) (by decide +kernel) rfl, inX5, tyX5_ok, nmX5⟩
theorem fX5_15 : jF RX5 15 5 1 := ⟨RX5, TX5, 3, tyX5, rfl, by decide, jw_c1 (i := 166) (by decide +kernel) rfl, inX5, tyX5_ok, nmX5⟩
theorem gX5_15 : jG RX5 15 5 1 := ⟨RX5, TX5, 3, tyX5, rfl, by decide, (jw_c1 (i := 166) (by decide +kernel) rfl), inX5, tyX5_ok, nmX5, rfl, by decide +kernel⟩
theorem fX8_276 : jF RX8 276 5 1 := ⟨RX5, TX5, 3, tyX5, rfl, by decide, jw_c1 (i := 167) (by decide +kernel) rfl, inX5, tyX5_ok, nmX5⟩
theorem gX8_276 : jG RX8 276 5 1 := ⟨RX5, TX5, 3, tyX5, rfl, by decide, (jw_c1 (i := 167) (by decide +kernel) rfl), inX5, tyX5_ok, nmX5, rfl, by decide +kernel⟩
theorem fX5_19 : jF RX5 19 5 2 := ⟨RX5, TX5, 3, tyX5, rfl, by decide, jw_c1 (i := 168) (by decide +kernel) rfl, inX5, tyX5_ok, nmX5⟩
theorem gX5_19 : jG RX5 19 5 2 := ⟨RX5, TX5, 3, tyX5, rfl, by decide, (jw_c1 (i := 168) (by decide +kernel) rfl), inX5, tyX5_ok, nmX5, rfl, by decide +kernel⟩
theorem fX8_14 : jF RX8 14 8 0 := ⟨RX8, TX8, 11, tyX8, rfl, by decide, jw_c1 (i := 176) (by decide +kernel) rfl, inX8, tyX8_ok, nmX8⟩
theorem fX8_18 : jF RX8 18 8 1 := ⟨RX8, TX8, 11, tyX8, rfl, by decide, jw_c1 (i := 177) (by decide +kernel) rfl, inX8, tyX8_ok, nmX8⟩
theorem fX8_24 : jF RX8 24 8 2 := ⟨RX8, TX8, 11, tyX8, rfl, by decide, jw_c1 (i := 178) (by decide +kernel) rfl, inX8, tyX8_ok, nmX8⟩
theorem fX8_31 : jF RX8 31 8 3 := ⟨RX8, TX8, 11, tyX8, rfl, by decide, jw_c1 (i := 179) (by decide +kernel) rfl, inX8, tyX8_ok, nmX8⟩
theorem fX8_38 : jF RX8 38 8 4 := ⟨RX8, TX8, 11, tyX8, rfl, by decide, jw_c1 (i := 180) (by decide +kernel) rfl, inX8, tyX8_ok, nmX8⟩
theorem fX8_45 : jF RX8 45 8 5 := ⟨RX8, TX8, 11, tyX8, rfl, by decide, jw_c1 (i := 181) (by decide +kernel) rfl, inX8, tyX8_ok, nmX8⟩
theorem fX8_52 : jF RX8 52 8 6 := ⟨RX8, TX8, 11, tyX8, rfl, by decide, jw_c1 (i := 182) (by decide +kernel) rfl, inX8, tyX8_ok, nmX8⟩
theorem fX8_59 : jF RX8 59 8 7 := ⟨RX8, TX8, 11, tyX8, rfl, by decide, jw_c1 (i := 183) (by decide +kernel) rfl, inX8, tyX8_ok, nmX8⟩
theorem fX8_66 : jF RX8 66 8 8 := ⟨RX8, TX8, 11, tyX8, rfl, by decide, jw_c1 (i := 184) (by decide +kernel) rfl, inX8, tyX8_ok, nmX8⟩
theorem fX8_70 : jF RX8 70 8 9 := ⟨RX8, TX8, 11, tyX8, rfl, by decide, jw_c1 (i := 185) (by decide +kernel) rfl, inX8, tyX8_ok, nmX8⟩
theorem gX8_70 : jG RX8 70 8 9 := ⟨RX8, TX8, 11, tyX8, rfl, by decide, (jw_c1 (i := 185) (by decide +kernel) rfl), inX8, tyX8_ok, nmX8, rfl, by decide +kernel⟩
theorem fX8_74 : jF RX8 74 8 10 := ⟨RX8, TX8, 11, tyX8, rfl, by decide, jw_c1 (i := 186) (by decide +kernel) rfl, inX8, tyX8_ok, nmX8⟩
theorem gX8_74 : jG RX8 74 8 10 := ⟨RX8, TX8, 11, tyX8, rfl, by decide, (jw_c1 (i := 186) (by decide +kernel) rfl), inX8, tyX8_ok, nmX8, rfl, by decide +kernel⟩
theorem fX9_96 : jF RX9 96 9 0 := ⟨RX9, TX9, 41, tyX9, rfl, by decide, jw_c3 (i := 201) (by decide +kernel) rfl, inX9, tyX9_ok, nmX9⟩
theorem gX9_96 : jG RX9 96 9 0 := ⟨RX9, TX9, 41, tyX9, rfl, by decide, (jw_c3 (i := 201) (by decide +kernel) rfl), inX9, tyX9_ok, nmX9, rfl, by decide +kernel⟩
theorem fX9_111 : jF RX9 111 9 1 := ⟨RX9, TX9, 41, tyX9, rfl, by decide, jw_c3 (i := 202) (by decide +kernel) rfl, inX9, tyX9_ok, nmX9⟩
theorem gX9_111 : jG RX9 111 9 1 := ⟨RX9, TX9, 41, tyX9, rfl, by decide, (jw_c3 (i := 202) (by decide +kernel) rfl), inX9, tyX9_ok, nmX9, rfl, by decide +kernel⟩
theorem fX9_104 : jF RX9 104 9 2 := ⟨RX9, TX9, 41, tyX9, rfl, by decide, jw_c3 (i := 203) (by decide +kernel) rfl, inX9, tyX9_ok, nmX9⟩
theorem gX9_104 : jG RX9 104 9 2 := ⟨RX9, TX9, 41, tyX9, rfl, by decide, (jw_c3 (i := 203) (by decide +kernel) rfl), inX9, tyX9_ok, nmX9, rfl, by decide +kernel⟩
theorem fX9_162 : jF RX9 162 9 3 := ⟨RX9, TX9, 41, tyX9, rfl, by decide, jw_c3 (i := 204) (by decide +kernel) rfl, inX9, tyX9_ok, nmX9⟩
theorem gX9_162 : jG RX9 162 9 3 := ⟨RX9, TX9, 41, tyX9, rfl, by decide, (jw_c3 (i := 204) (by decide +kernel) rfl), inX9, tyX9_ok, nmX9, rfl, by decide +kernel⟩
theorem fX9_165 : jF RX9 165 9 4 := ⟨RX9, TX9, 41, tyX9, rfl, by decide, jw_c3 (i := 205) (by decide +kernel) rfl, inX9, tyX9_ok, nmX9⟩
theorem gX9_165 : jG RX9 165 9 4 := ⟨RX9, TX9, 41, tyX9, rfl, by decide, (jw_c3 (i := 205) (by decide +kernel) rfl), inX9, tyX9_ok, nmX9, rfl, by decide +kernel⟩
theorem fX9_7 : jF RX9 7 9 5 := ⟨RX9, TX9, 41, tyX9, rfl, by decide, jw_c3 (i := 206) (by decide +kernel) rfl, inX9, tyX9_ok, nmX9⟩
theorem fX9_13 : jF RX9 13 9 6 := ⟨RX9, TX9, 41, tyX9, rfl, by decide, jw_c3 (i := 207) (by decide +kernel) rfl, inX9, tyX9_ok, nmX9⟩
theorem fX9_16 : jF RX9 16 9 7 := ⟨RX9, TX9, 41, tyX9, rfl, by decide, jw_c3 (i := 208) (by decide +kernel) rfl, inX9, tyX9_ok, nmX9⟩
theorem fX9_19 : jF RX9 19 9 8 := ⟨RX9, TX9, 41, tyX9, rfl, by decide, jw_c3 (i := 209) (by decide +kernel) rfl, inX9, tyX9_ok, nmX9⟩
theorem fX9_22 : jF RX9 22 9 9 := ⟨RX9, TX9, 41, tyX9, rfl, by decide, jw_c3 (i := 210) (by decide +kernel) rfl, inX9, tyX9_ok, nmX9⟩
theorem fX9_25 : jF RX9 25 9 10 := ⟨RX9, TX9, 41, tyX9, rfl, by decide, jw_c3 (i := 211) (by decide +kernel) rfl, inX9, tyX9_ok, nmX9⟩
theorem fX9_28 : jF RX9 28 9 11 := ⟨RX9, TX9, 41, tyX9, rfl, by decide, jw_c3 (i := 212) (by decide +kernel) rfl, inX9, tyX9_ok, nmX9⟩
theorem fX9_114 : jF RX9 114 9 12 := ⟨RX9, TX9, 41, tyX9, rfl, by decide, jw_c3 (i := 213) (by decide +kernel) rfl, inX9, tyX9_ok, nmX9⟩
theorem gX9_114 : jG RX9 114 9 12 := ⟨RX9, TX9, 41, tyX9, rfl, by decide, (jw_c3 (i := 213) (by decide +kernel) rfl), inX9, tyX9_ok, nmX9, rfl, by decide +kernel⟩
theorem fX9_121 : jF RX9 121 9 13 := ⟨RX9, TX9, 41, tyX9, rfl, by decide, jw_c3 (i := 214) (by decide +kernel) rfl, inX9, tyX9_ok, nmX9⟩
theorem gX9_121 : jG RX9 121 9 13 := ⟨RX9, TX9, 41, tyX9, rfl, by decide, (jw_c3 (i := 214) (by decide +kernel) rfl), inX9, tyX9_ok, nmX9, rfl, by decide +kernel⟩
theorem fX9_128 : jF RX9 128 9 14 := ⟨RX9, TX9, 41, tyX9, rfl, by decide, jw_c3 (i := 215) (by decide +kernel) rfl, inX9, tyX9_ok, nmX9⟩
theorem gX9_128 : jG RX9 128 9 14 := ⟨RX9, TX9, 41, tyX9, rfl, by decide, (jw_c3 (i := 215) (by decide +kernel) rfl), inX9, tyX9_ok, nmX9, rfl, by decide +kernel⟩
theorem fX9_31 : jF RX9 31 9 15 := ⟨RX9, TX9, 41, tyX9, rfl, by decide, jw_c3 (i := 216) (by decide +kernel) rfl, inX9, tyX9_ok, nmX9⟩
theorem fX9_34 : jF RX9 34 9 16 := ⟨RX9, TX9, 41, tyX9, rfl, by decide, jw_c3 (i := 217) (by decide +kernel) rfl, inX9, tyX9_ok, nmX9⟩
theorem fX9_37 : jF RX9 37 9 17 := ⟨RX9, TX9, 41, tyX9, rfl, by decide, jw_c3 (i := 218) (by decide +kernel) rfl, inX9, tyX9_ok, nmX9⟩
theorem fX9_40 : jF RX9 40 9 18 := ⟨RX9, TX9, 41, tyX9, rfl, by decide, jw_c3 (i := 219) (by decide +kernel) rfl, inX9, tyX9_ok, nmX9⟩
theorem fX9_43 : jF RX9 43 9 19 := ⟨RX9, TX9, 41, tyX9, rfl, by decide, jw_c3 (i := 220) (by decide +kernel) rfl, inX9, tyX9_ok, nmX9⟩
theorem fX9_46 : jF RX9 46 9 20 := ⟨RX9, TX9, 41, tyX9, rfl, by decide, jw_c3 (i := 221) (by decide +kernel) rfl, inX9, tyX9_ok, nmX9⟩
theorem fX9_49 : jF RX9 49 9 21 := ⟨RX9, TX9, 41, tyX9, rfl, by decide, jw_c3 (i := 222) (by decide +kernel) rfl, inX9, tyX9_ok, nmX9⟩
theorem fX9_52 : jF RX9 52 9 22 := ⟨RX9, TX9, 41, tyX9, rfl, by decide, jw_c3 (i := 223) (by decide +kernel) rfl, inX9, tyX9_ok, nmX9⟩
theorem fX9_55 : jF RX9 55 9 23 := ⟨RX9, TX9, 41, tyX9, rfl, by decide, jw_c3 (i := 224) (by decide +kernel) rfl, inX9, tyX9_ok, nmX9⟩
theorem fX9_223 : jF RX9 223 9 24 := ⟨RX9, TX9, 41, tyX9, rfl, by decide, jw_c3 (i := 225) (by decide +kernel) rfl, inX9, tyX9_ok, nmX9⟩
theorem gX9_223 : jG RX9 223 9 24 := ⟨RX9, TX9, 41, tyX9, rfl, by decide, (jw_c3 (i := 225) (by decide +kernel) rfl), inX9, tyX9_ok, nmX9, rfl, by decide +kernel⟩
theorem fX9_226 : jF RX9 226 9 25 := ⟨RX9, TX9, 41, tyX9, rfl, by decide, jw_c3 (i := 226) (by decide +kernel) rfl, inX9, tyX9_ok, nmX9⟩
theorem gX9_226 : jG RX9 226 9 25 := ⟨RX9, TX9, 41, tyX9, rfl, by decide, (jw_c3 (i := 226) (by decide +kernel) rfl), inX9, tyX9_ok, nmX9, rfl, by decide +kernel⟩
theorem fX9_58 : jF RX9 58 9 26 := ⟨RX9, TX9, 41, tyX9, rfl, by decide, jw_c3 (i := 227) (by decide +kernel) rfl, inX9, tyX9_ok, nmX9⟩
theorem fX9_61 : jF RX9 61 9 27 := ⟨RX9, TX9, 41, tyX9, rfl, by decide, jw_c3 (i := 228) (by decide +kernel) rfl, inX9, tyX9_ok, nmX9⟩
theorem fX9_64 : jF RX9 64 9 28 := ⟨RX9, TX9, 41, tyX9, rfl, by decide, jw_c3 (i := 229) (by decide +kernel) rfl, inX9, tyX9_ok, nmX9⟩
theorem fX9_269 : jF RX9 269 9 29 := ⟨RX9, TX9, 41, tyX9, rfl, by decide, jw_c3 (i := 230) (by decide +kernel) rfl, inX9, tyX9_ok, nmX9⟩
theorem gX9_269 : jG RX9 269 9 29 := ⟨RX9, TX9, 41, tyX9, rfl, by decide, (jw_c3 (i := 230) (by decide +kernel) rfl), inX9, tyX9_ok, nmX9, rfl, by decide +kernel⟩
theorem fX9_67 : jF RX9 67 9 30 := ⟨RX9, TX9, 41, tyX9, rfl, by decide, jw_c3 (i := 231) (by decide +kernel) rfl, inX9, tyX9_ok, nmX9⟩
theorem fX9_70 : jF RX9 70 9 31 := ⟨RX9, TX9, 41, tyX9, rfl, by decide, jw_c3 (i := 232) (by decide +kernel) rfl, inX9, tyX9_ok, nmX9⟩
theorem fX9_73 : jF RX9 73 9 32 := ⟨RX9, TX9, 41, tyX9, rfl, by decide, jw_c3 (i := 233) (by decide +kernel) rfl, inX9, tyX9_ok, nmX9⟩
theorem fX9_168 : jF RX9 168 9 33 := ⟨RX9, TX9, 41, tyX9, rfl, by decide, jw_c3 (i := 234) (by decide +kernel) rfl, inX9, tyX9_ok, nmX9⟩
theorem gX9_168 : jG RX9 168 9 33 := ⟨RX9, TX9, 41, tyX9, rfl, by decide, (jw_c3 (i := 234) (by decide +kernel) rfl), inX9, tyX9_ok, nmX9, rfl, by decide +kernel⟩
theorem fX9_76 : jF RX9 76 9 34 := ⟨RX9, TX9, 41, tyX9, rfl, by decide, jw_c3 (i := 235) (by decide +kernel) rfl, inX9, tyX9_ok, nmX9⟩
theorem fX9_79 : jF RX9 79 9 35 := ⟨RX9, TX9, 41, tyX9, rfl, by decide, jw_c3 (i := 236) (by decide +kernel) rfl, inX9, tyX9_ok, nmX9⟩
theorem fX9_82 : jF RX9 82 9 36 := ⟨RX9, TX9, 41, tyX9, rfl, by decide, jw_c3 (i := 237) (by decide +kernel) rfl, inX9, tyX9_ok, nmX9⟩
theorem fX9_85 : jF RX9 85 9 37 := ⟨RX9, TX9, 41, tyX9, rfl, by decide, jw_c3 (i := 238) (by decide +kernel) rfl, inX9, tyX9_ok, nmX9⟩
theorem fX9_88 : jF RX9 88 9 38 := ⟨RX9, TX9, 41, tyX9, rfl, by decide, jw_c3 (i := 239) (by decide +kernel) rfl, inX9, tyX9_ok, nmX9⟩
theorem fX9_91 : jF RX9 91 9 39 := ⟨RX9, TX9, 41, tyX9, rfl, by decide, jw_c4 (i := 0) (by decide +kernel) rfl, inX9, tyX9_ok, nmX9⟩
theorem fX9_312 : jF RX9 312 9 40 := ⟨RX9, TX9, 41, tyX9, rfl, by decide, jw_c4 (i := 1) (by decide +kernel) rfl, inX9, tyX9_ok, nmX9⟩
theorem gX9_312 : jG RX9 312 9 40 := ⟨RX9, TX9, 41, tyX9, rfl, by decide, (jw_c4 (i := 1) (by decide +kernel) rfl), inX9, tyX9_ok, nmX9, rfl, by decide +kernel⟩
