abbrev fs0X0 : List Value := [.null]
theorem dfX0 : ∀ j, j < 1 → defaultValue (tyX0 j) = vp_V fs0X0 j
  | 0, _ => rfl
  | j + 1, h => absurd h (by omega)
abbrev fs0X1 : List Value := [.null]
theorem dfX1 : ∀ j, j < 1 → defaultValue (tyX1 j) = vp_V fs0X1 j
  | 0, _ => rfl
  | j + 1, h => absurd h (by omega)
abbrev fs0X2 : List Value := [.null, vi 0]
theorem dfX2 : ∀ j, j < 2 → defaultValue (tyX2 j) = vp_V fs0X2 j
  | 0, _ => rfl
  | 1, _ => rfl
  | j + 2, h => absurd h (by omega)
abbrev fs0X3 : List Value := [.null, .null, vi 0]
theorem dfX3 : ∀ j, j < 3 → defaultValue (tyX3 j) = vp_V fs0X3 j
  | 0, _ => rfl
  | 1, _ => rfl
  | 2, _ => rfl
  | j + 3, h => absurd h (by omega)
abbrev fs0X4 : List Value := [.null, vi 0, vi 0]
theorem dfX4 : ∀ j, j < 3 → defaultValue (tyX4 j) = vp_V fs0X4 j
  | 0, _ => rfl
  | 1, _ => rfl
  | 2, _ => rfl
  | j + 3, h => absurd h (by omega)
abbrev fs0X5 : List Value := [.null, vi 0, vi 0]
theorem dfX5 : ∀ j, j < 3 → defaultValue (tyX5 j) = vp_V fs0X5 j
  | 0, _ => rfl
  | 1, _ => rfl
  | 2, _ => rfl
  | j + 3, h => absurd h (by omega)
abbrev fs0X6 : List Value := []
theorem dfX6 : ∀ j, j < 0 → defaultValue (tyX6 j) = vp_V fs0X6 j
  | j + 0, h => absurd h (by omega)
abbrev fs0X7 : List Value := [vi 0, vi 0, vi 0, vi 0, .null, .null, .null, .null, .null, .null]
theorem dfX7 : ∀ j, j < 10 → defaultValue (tyX7 j) = vp_V fs0X7 j
  | 0, _ => rfl
  | 1, _ => rfl
  | 2, _ => rfl
  | 3, _ => rfl
  | 4, _ => rfl
  | 5, _ => rfl
  | 6, _ => rfl
  | 7, _ => rfl
  | 8, _ => rfl
  | 9, _ => rfl
  | j + 10, h => absurd h (by omega)
abbrev fs0X8 : List Value := [.null, .null, .null, .null, .null, .null, .null, .null, .null, vi 0, vi 0]
theorem dfX8 : ∀ j, j < 11 → defaultValue (tyX8 j) = vp_V fs0X8 j
  | 0, _ => rfl
  | 1, _ => rfl
  | 2, _ => rfl
  | 3, _ => rfl
  | 4, _ => rfl
  | 5, _ => rfl
  | 6, _ => rfl
  | 7, _ => rfl
  | 8, _ => rfl
  | 9, _ => rfl
  | 10, _ => rfl
  | j + 11, h => absurd h (by omega)
abbrev fs0X9 : List Value := [vi 0, vi 0, vi 0, vi 0, vi 0, .null, .null, .null, .null, .null, .null, .null, vi 0, vi 0, vi 0, .null, .null, .null, .null, .null, .null, .null, .null, .null, vi 0, vi 0, .null, .null, .null, vi 0, .null, .null, .null, vi 0, .null, .null, .null, .null, .null, .null, vi 0]
theorem dfX9 : ∀ j, j < 41 → defaultValue (tyX9 j) = vp_V fs0X9 j
  | 0, _ => rfl
  | 1, _ => rfl
  | 2, _ => rfl
  | 3, _ => rfl
  | 4, _ => rfl
  | 5, _ => rfl
  | 6, _ => rfl
  | 7, _ => rfl
  | 8, _ => rfl
  | 9, _ => rfl
  | 10, _ => rfl
  | 11, _ => rfl
  | 12, _ => rfl
  | 13, _ => rfl
  | 14, _ => rfl
  | 15, _ => rfl
  | 16, _ => rfl
  | 17, _ => rfl
  | 18, _ => rfl
  | 19, _ => rfl
  | 20, _ => rfl
  | 21, _ => rfl
  | 22, _ => rfl
  | 23, _ => rfl
  | 24, _ => rfl
  | 25, _ => rfl
  | 26, _ => rfl
  | 27, _ => rfl
  | 28, _ => rfl
  | 29, _ => rfl
  | 30, _ => rfl
  | 31, _ => rfl
  | 32, _ => rfl
  | 33, _ => rfl
  | 34, _ => rfl
  | 35, _ => rfl
  | 36, _ => rfl
  | 37, _ => rfl
  | 38, _ => rfl
  | 39, _ => rfl
  | 40, _ => rfl
  | j + 41, h => absurd h (by omega)
theorem nwL_7 : jNw RL 7 8 fs0X8 11 := ⟨RX8, TX8, tyX8, rfl, inX8, tyX8_ok, jw_c1 (i := 14) (by decide +kernel) rfl, jw_c1 (i := 15) (by decide +kernel) rfl, jw_c1 (i := 1) (by decide +kernel) rfl, dfX8⟩
theorem nwX8_11 : jNw RX8 11 7 fs0X7 10 := ⟨RX7, TX7, tyX7, rfl, inX7, tyX7_ok, jw_c1 (i := 22) (by decide +kernel) rfl, jw_c1 (i := 23) (by decide +kernel) rfl, jw_c1 (i := 2) (by decide +kernel) rfl, dfX7⟩
theorem nwX8_21 : jNw RX8 21 6 fs0X6 0 := ⟨RX6, TX6, tyX6, rfl, inX6, tyX6_ok, jw_c1 (i := 79) (by decide +kernel) rfl, jw_c1 (i := 80) (by decide +kernel) rfl, jw_c1 (i := 3) (by decide +kernel) rfl, dfX6⟩
theorem nwX8_28 : jNw RX8 28 0 fs0X0 1 := ⟨RX0, TX0, tyX0, rfl, inX0, tyX0_ok, jw_c1 (i := 86) (by decide +kernel) rfl, jw_c1 (i := 87) (by decide +kernel) rfl, jw_c1 (i := 4) (by decide +kernel) rfl, dfX0⟩
theorem nwX8_35 : jNw RX8 35 1 fs0X1 1 := ⟨RX1, TX1, tyX1, rfl, inX1, tyX1_ok, jw_c1 (i := 96) (by decide +kernel) rfl, jw_c1 (i := 97) (by decide +kernel) rfl, jw_c1 (i := 5) (by decide +kernel) rfl, dfX1⟩
theorem nwX8_42 : jNw RX8 42 2 fs0X2 2 := ⟨RX2, TX2, tyX2, rfl, inX2, tyX2_ok, jw_c1 (i := 106) (by decide +kernel) rfl, jw_c1 (i := 107) (by decide +kernel) rfl, jw_c1 (i := 6) (by decide +kernel) rfl, dfX2⟩
theorem nwX8_49 : jNw RX8 49 4 fs0X4 3 := ⟨RX4, TX4, tyX4, rfl, inX4, tyX4_ok, jw_c1 (i := 121) (by decide +kernel) rfl, jw_c1 (i := 122) (by decide +kernel) rfl, jw_c1 (i := 7) (by decide +kernel) rfl, dfX4⟩
theorem nwX8_56 : jNw RX8 56 3 fs0X3 3 := ⟨RX3, TX3, tyX3, rfl, inX3, tyX3_ok, jw_c1 (i := 139) (by decide +kernel) rfl, jw_c1 (i := 140) (by decide +kernel) rfl, jw_c1 (i := 8) (by decide +kernel) rfl, dfX3⟩
theorem nwX8_63 : jNw RX8 63 5 fs0X5 3 := ⟨RX5, TX5, tyX5, rfl, inX5, tyX5_ok, jw_c1 (i := 156) (by decide +kernel) rfl, jw_c1 (i := 158) (by decide +kernel) rfl, jw_c1 (i := 9) (by decide +kernel) rfl, dfX5⟩
theorem nwL_10 : jNw RL 10 9 fs0X9 41 := ⟨RX9, TX9, tyX9, rfl, inX9, tyX9_ok, jw_c3 (i := 195) (by decide +kernel) rfl, jw_c3 (i := 196) (by decide +kernel) rfl, jw_c1 (i := 10) (by decide +kernel) rfl, dfX9⟩
theorem clX8_63 : Cond.classLink RX8 63 "LoafGates$Sheet" ∈ jw := jw_c1 (i := 156) (by decide +kernel) rfl
theorem niX0 : jIn yX0_init cX0_init 1 := ⟨jw_c1 (i := 89) (by decide +kernel) rfl, jw_c1 (i := 4) (by decide +kernel) rfl, jw_c1 (i := 90) (by decide +kernel) rfl, rfl, ⟨by decide +kernel, by decide +kernel, by decide +kernel⟩, by decide⟩
theorem niX1 : jIn yX1_init cX1_init 1 := ⟨jw_c1 (i := 99) (by decide +kernel) rfl, jw_c1 (i := 5) (by decide +kernel) rfl, jw_c1 (i := 100) (by decide +kernel) rfl, rfl, ⟨by decide +kernel, by decide +kernel, by decide +kernel⟩, by decide⟩
theorem niX2 : jIn yX2_init cX2_init 1 := ⟨jw_c1 (i := 109) (by decide +kernel) rfl, jw_c1 (i := 6) (by decide +kernel) rfl, jw_c1 (i := 110) (by decide +kernel) rfl, rfl, ⟨by decide +kernel, by decide +kernel, by decide +kernel⟩, by decide⟩
theorem niX3 : jIn yX3_init cX3_init 1 := ⟨jw_c1 (i := 142) (by decide +kernel) rfl, jw_c1 (i := 8) (by decide +kernel) rfl, jw_c1 (i := 143) (by decide +kernel) rfl, rfl, ⟨by decide +kernel, by decide +kernel, by decide +kernel⟩, by decide⟩
theorem niX4 : jIn yX4_init cX4_init 1 := ⟨jw_c1 (i := 124) (by decide +kernel) rfl, jw_c1 (i := 7) (by decide +kernel) rfl, jw_c1 (i := 125) (by decide +kernel) rfl, rfl, ⟨by decide +kernel, by decide +kernel, by decide +kernel⟩, by decide⟩
theorem niX5 : jIn yX5_init cX5_init 1 := ⟨jw_c1 (i := 160) (by decide +kernel) rfl, jw_c1 (i := 9) (by decide +kernel) rfl, jw_c1 (i := 161) (by decide +kernel) rfl, rfl, ⟨by decide +kernel, by decide +kernel, by decide +kernel⟩, by decide⟩
theorem niX6 : jIn yX6_init cX6_init 1 := ⟨jw_c1 (i := 82) (by decide +kernel) rfl, jw_c1 (i := 3) (by decide +kernel) rfl, jw_c1 (i := 83) (by decide +kernel) rfl, rfl, ⟨by decide +kernel, by decide +kernel, by decide +kernel⟩, by decide⟩
theorem niX7 : jIn yX7_init cX7_init 1 := ⟨jw_c1 (i := 25) (by decide +kernel) rfl, jw_c1 (i := 2) (by decide +kernel) rfl, jw_c1 (i := 26) (by decide +kernel) rfl, rfl, ⟨by decide +kernel, by decide +kernel, by decide +kernel⟩, by decide⟩
theorem niX8 : jIn yX8_init cX8_init 1 := ⟨jw_c1 (i := 17) (by decide +kernel) rfl, jw_c1 (i := 1) (by decide +kernel) rfl, jw_c1 (i := 18) (by decide +kernel) rfl, rfl, ⟨by decide +kernel, by decide +kernel, by decide +kernel⟩, by decide⟩
theorem niX9 : jIn yX9_init cX9_init 2 := ⟨jw_c3 (i := 198) (by decide +kernel) rfl, jw_c1 (i := 10) (by decide +kernel) rfl, jw_c3 (i := 199) (by decide +kernel) rfl, rfl, ⟨by decide +kernel, by decide +kernel, by decide +kernel⟩, by decide⟩
theorem hX0_9 : jH9 RX0 9 0 0 := ⟨RX0, TX0, 1, tyX0, .array .int, rfl, by decide, (jw_c1 (i := 92) (by decide +kernel) rfl), inX0, tyX0_ok, nmX0, rfl, rfl, by decide +kernel, fun _ => ⟨rfl, rfl⟩⟩
theorem hX1_9 : jH9 RX1 9 1 0 := ⟨RX1, TX1, 1, tyX1, .array .int, rfl, by decide, (jw_c1 (i := 102) (by decide +kernel) rfl), inX1, tyX1_ok, nmX1, rfl, rfl, by decide +kernel, fun _ => ⟨rfl, rfl⟩⟩
theorem hX2_9 : jH9 RX2 9 2 0 := ⟨RX2, TX2, 2, tyX2, .array .int, rfl, by decide, (jw_c1 (i := 112) (by decide +kernel) rfl), inX2, tyX2_ok, nmX2, rfl, rfl, by decide +kernel, fun _ => ⟨rfl, rfl⟩⟩
theorem hX3_9 : jH9 RX3 9 3 0 := ⟨RX3, TX3, 3, tyX3, .array .int, rfl, by decide, (jw_c1 (i := 145) (by decide +kernel) rfl), inX3, tyX3_ok, nmX3, rfl, rfl, by decide +kernel, fun _ => ⟨rfl, rfl⟩⟩
theorem hX3_15 : jH9 RX3 15 3 1 := ⟨RX3, TX3, 3, tyX3, .array .int, rfl, by decide, (jw_c1 (i := 146) (by decide +kernel) rfl), inX3, tyX3_ok, nmX3, rfl, rfl, by decide +kernel, fun _ => ⟨rfl, rfl⟩⟩
theorem hX4_9 : jH9 RX4 9 4 0 := ⟨RX4, TX4, 3, tyX4, .array .int, rfl, by decide, (jw_c1 (i := 127) (by decide +kernel) rfl), inX4, tyX4_ok, nmX4, rfl, rfl, by decide +kernel, fun _ => ⟨rfl, rfl⟩⟩
theorem hX5_9 : jH9 RX5 9 5 0 := ⟨RX5, TX5, 3, tyX5, .array .int, rfl, by decide, (jw_c1 (i := 163) (by decide +kernel) rfl), inX5, tyX5_ok, nmX5, rfl, rfl, by decide +kernel, fun _ => ⟨rfl, rfl⟩⟩
theorem hX7_24 : jH9 RX7 24 7 4 := ⟨RX7, TX7, 10, tyX7, .array .int, rfl, by decide, (jw_c1 (i := 38) (by decide +kernel) rfl), inX7, tyX7_ok, nmX7, rfl, rfl, by decide +kernel, fun _ => ⟨rfl, rfl⟩⟩
theorem hX7_28 : jH9 RX7 28 7 5 := ⟨RX7, TX7, 10, tyX7, .array .int, rfl, by decide, (jw_c1 (i := 42) (by decide +kernel) rfl), inX7, tyX7_ok, nmX7, rfl, rfl, by decide +kernel, fun _ => ⟨rfl, rfl⟩⟩
theorem hX7_31 : jH9 RX7 31 7 6 := ⟨RX7, TX7, 10, tyX7, .array .int, rfl, by decide, (jw_c1 (i := 45) (by decide +kernel) rfl), inX7, tyX7_ok, nmX7, rfl, rfl, by decide +kernel, fun _ => ⟨rfl, rfl⟩⟩
theorem hX7_34 : jH9 RX7 34 7 7 := ⟨RX7, TX7, 10, tyX7, .array .int, rfl, by decide, (jw_c1 (i := 48) (by decide +kernel) rfl), inX7, tyX7_ok, nmX7, rfl, rfl, by decide +kernel, fun _ => ⟨rfl, rfl⟩⟩
theorem hX7_37 : jH9 RX7 37 7 8 := ⟨RX7, TX7, 10, tyX7, .array .int, rfl, by decide, (jw_c1 (i := 51) (by decide +kernel) rfl), inX7, tyX7_ok, nmX7, rfl, rfl, by decide +kernel, fun _ => ⟨rfl, rfl⟩⟩
theorem hX7_40 : jH9 RX7 40 7 9 := ⟨RX7, TX7, 10, tyX7, .array .int, rfl, by decide, (jw_c1 (i := 54) (by decide +kernel) rfl), inX7, tyX7_ok, nmX7, rfl, rfl, by decide +kernel, fun _ => ⟨rfl, rfl⟩⟩
theorem hX8_14 : jH9 RX8 14 8 0 := ⟨RX8, TX8, 11, tyX8, .object "LoafGates$Winter", rfl, by decide, (jw_c1 (i := 176) (by decide +kernel) rfl), inX8, tyX8_ok, nmX8, rfl, rfl, by decide +kernel, fun _ => ⟨rfl, rfl⟩⟩
theorem hX8_18 : jH9 RX8 18 8 1 := ⟨RX8, TX8, 11, tyX8, .object "LoafGates$Winter", rfl, by decide, (jw_c1 (i := 177) (by decide +kernel) rfl), inX8, tyX8_ok, nmX8, rfl, rfl, by decide +kernel, fun _ => ⟨rfl, rfl⟩⟩
theorem hX8_24 : jH9 RX8 24 8 2 := ⟨RX8, TX8, 11, tyX8, .object "LoafGates$TextReader", rfl, by decide, (jw_c1 (i := 178) (by decide +kernel) rfl), inX8, tyX8_ok, nmX8, rfl, rfl, by decide +kernel, fun _ => ⟨rfl, rfl⟩⟩
theorem hX8_31 : jH9 RX8 31 8 3 := ⟨RX8, TX8, 11, tyX8, .object "LoafGates$Circle", rfl, by decide, (jw_c1 (i := 179) (by decide +kernel) rfl), inX8, tyX8_ok, nmX8, rfl, rfl, by decide +kernel, fun _ => ⟨rfl, rfl⟩⟩
theorem hX8_38 : jH9 RX8 38 8 4 := ⟨RX8, TX8, 11, tyX8, .object "LoafGates$Giving", rfl, by decide, (jw_c1 (i := 180) (by decide +kernel) rfl), inX8, tyX8_ok, nmX8, rfl, rfl, by decide +kernel, fun _ => ⟨rfl, rfl⟩⟩
theorem hX8_45 : jH9 RX8 45 8 5 := ⟨RX8, TX8, 11, tyX8, .object "LoafGates$Parting", rfl, by decide, (jw_c1 (i := 181) (by decide +kernel) rfl), inX8, tyX8_ok, nmX8, rfl, rfl, by decide +kernel, fun _ => ⟨rfl, rfl⟩⟩
theorem hX8_52 : jH9 RX8 52 8 6 := ⟨RX8, TX8, 11, tyX8, .object "LoafGates$Settling", rfl, by decide, (jw_c1 (i := 182) (by decide +kernel) rfl), inX8, tyX8_ok, nmX8, rfl, rfl, by decide +kernel, fun _ => ⟨rfl, rfl⟩⟩
theorem hX8_59 : jH9 RX8 59 8 7 := ⟨RX8, TX8, 11, tyX8, .object "LoafGates$Readings", rfl, by decide, (jw_c1 (i := 183) (by decide +kernel) rfl), inX8, tyX8_ok, nmX8, rfl, rfl, by decide +kernel, fun _ => ⟨rfl, rfl⟩⟩
theorem hX8_66 : jH9 RX8 66 8 8 := ⟨RX8, TX8, 11, tyX8, .array (.object "LoafGates$Sheet"), rfl, by decide, (jw_c1 (i := 184) (by decide +kernel) rfl), inX8, tyX8_ok, nmX8, rfl, rfl, by decide +kernel, fun _ => ⟨rfl, rfl⟩⟩
theorem hX9_7 : jH9 RX9 7 9 5 := ⟨RX9, TX9, 41, tyX9, .array .int, rfl, by decide, (jw_c3 (i := 206) (by decide +kernel) rfl), inX9, tyX9_ok, nmX9, rfl, rfl, by decide +kernel, fun _ => ⟨rfl, rfl⟩⟩
theorem hX9_13 : jH9 RX9 13 9 6 := ⟨RX9, TX9, 41, tyX9, .array .int, rfl, by decide, (jw_c3 (i := 207) (by decide +kernel) rfl), inX9, tyX9_ok, nmX9, rfl, rfl, by decide +kernel, fun _ => ⟨rfl, rfl⟩⟩
theorem hX9_16 : jH9 RX9 16 9 7 := ⟨RX9, TX9, 41, tyX9, .array .int, rfl, by decide, (jw_c3 (i := 208) (by decide +kernel) rfl), inX9, tyX9_ok, nmX9, rfl, rfl, by decide +kernel, fun _ => ⟨rfl, rfl⟩⟩
theorem hX9_19 : jH9 RX9 19 9 8 := ⟨RX9, TX9, 41, tyX9, .array .int, rfl, by decide, (jw_c3 (i := 209) (by decide +kernel) rfl), inX9, tyX9_ok, nmX9, rfl, rfl, by decide +kernel, fun _ => ⟨rfl, rfl⟩⟩
theorem hX9_22 : jH9 RX9 22 9 9 := ⟨RX9, TX9, 41, tyX9, .array .int, rfl, by decide, (jw_c3 (i := 210) (by decide +kernel) rfl), inX9, tyX9_ok, nmX9, rfl, rfl, by decide +kernel, fun _ => ⟨rfl, rfl⟩⟩
theorem hX9_25 : jH9 RX9 25 9 10 := ⟨RX9, TX9, 41, tyX9, .array .int, rfl, by decide, (jw_c3 (i := 211) (by decide +kernel) rfl), inX9, tyX9_ok, nmX9, rfl, rfl, by decide +kernel, fun _ => ⟨rfl, rfl⟩⟩
theorem hX9_28 : jH9 RX9 28 9 11 := ⟨RX9, TX9, 41, tyX9, .array .int, rfl, by decide, (jw_c3 (i := 212) (by decide +kernel) rfl), inX9, tyX9_ok, nmX9, rfl, rfl, by decide +kernel, fun _ => ⟨rfl, rfl⟩⟩
theorem hX9_31 : jH9 RX9 31 9 15 := ⟨RX9, TX9, 41, tyX9, .array .int, rfl, by decide, (jw_c3 (i := 216) (by decide +kernel) rfl), inX9, tyX9_ok, nmX9, rfl, rfl, by decide +kernel, fun _ => ⟨rfl, rfl⟩⟩
theorem hX9_34 : jH9 RX9 34 9 16 := ⟨RX9, TX9, 41, tyX9, .array .int, rfl, by decide, (jw_c3 (i := 217) (by decide +kernel) rfl), inX9, tyX9_ok, nmX9, rfl, rfl, by decide +kernel, fun _ => ⟨rfl, rfl⟩⟩
theorem hX9_37 : jH9 RX9 37 9 17 := ⟨RX9, TX9, 41, tyX9, .array .int, rfl, by decide, (jw_c3 (i := 218) (by decide +kernel) rfl), inX9, tyX9_ok, nmX9, rfl, rfl, by decide +kernel, fun _ => ⟨rfl, rfl⟩⟩
theorem hX9_40 : jH9 RX9 40 9 18 := ⟨RX9, TX9, 41, tyX9, .array .int, rfl, by decide, (jw_c3 (i := 219) (by decide +kernel) rfl), inX9, tyX9_ok, nmX9, rfl, rfl, by decide +kernel, fun _ => ⟨rfl, rfl⟩⟩
theorem hX9_43 : jH9 RX9 43 9 19 := ⟨RX9, TX9, 41, tyX9, .array .int, rfl, by decide, (jw_c3 (i := 220) (by decide +kernel) rfl), inX9, tyX9_ok, nmX9, rfl, rfl, by decide +kernel, fun _ => ⟨rfl, rfl⟩⟩
theorem hX9_46 : jH9 RX9 46 9 20 := ⟨RX9, TX9, 41, tyX9, .array .int, rfl, by decide, (jw_c3 (i := 221) (by decide +kernel) rfl), inX9, tyX9_ok, nmX9, rfl, rfl, by decide +kernel, fun _ => ⟨rfl, rfl⟩⟩
theorem hX9_49 : jH9 RX9 49 9 21 := ⟨RX9, TX9, 41, tyX9, .array .int, rfl, by decide, (jw_c3 (i := 222) (by decide +kernel) rfl), inX9, tyX9_ok, nmX9, rfl, rfl, by decide +kernel, fun _ => ⟨rfl, rfl⟩⟩
theorem hX9_52 : jH9 RX9 52 9 22 := ⟨RX9, TX9, 41, tyX9, .array .int, rfl, by decide, (jw_c3 (i := 223) (by decide +kernel) rfl), inX9, tyX9_ok, nmX9, rfl, rfl, by decide +kernel, fun _ => ⟨rfl, rfl⟩⟩
theorem hX9_55 : jH9 RX9 55 9 23 := ⟨RX9, TX9, 41, tyX9, .array .int, rfl, by decide, (jw_c3 (i := 224) (by decide +kernel) rfl), inX9, tyX9_ok, nmX9, rfl, rfl, by decide +kernel, fun _ => ⟨rfl, rfl⟩⟩
theorem hX9_58 : jH9 RX9 58 9 26 := ⟨RX9, TX9, 41, tyX9, .array .int, rfl, by decide, (jw_c3 (i := 227) (by decide +kernel) rfl), inX9, tyX9_ok, nmX9, rfl, rfl, by decide +kernel, fun _ => ⟨rfl, rfl⟩⟩
theorem hX9_61 : jH9 RX9 61 9 27 := ⟨RX9, TX9, 41, tyX9, .array .int, rfl, by decide, (jw_c3 (i := 228) (by decide +kernel) rfl), inX9, tyX9_ok, nmX9, rfl, rfl, by decide +kernel, fun _ => ⟨rfl, rfl⟩⟩
theorem hX9_64 : jH9 RX9 64 9 28 := ⟨RX9, TX9, 41, tyX9, .array .int, rfl, by decide, (jw_c3 (i := 229) (by decide +kernel) rfl), inX9, tyX9_ok, nmX9, rfl, rfl, by decide +kernel, fun _ => ⟨rfl, rfl⟩⟩
theorem hX9_67 : jH9 RX9 67 9 30 := ⟨RX9, TX9, 41, tyX9, .array .int, rfl, by decide, (jw_c3 (i := 231) (by decide +kernel) rfl), inX9, tyX9_ok, nmX9, rfl, rfl, by decide +kernel, fun _ => ⟨rfl, rfl⟩⟩
theorem hX9_70 : jH9 RX9 70 9 31 := ⟨RX9, TX9, 41, tyX9, .array .int, rfl, by decide, (jw_c3 (i := 232) (by decide +kernel) rfl), inX9, tyX9_ok, nmX9, rfl, rfl, by decide +kernel, fun _ => ⟨rfl, rfl⟩⟩
theorem hX9_73 : jH9 RX9 73 9 32 := ⟨RX9, TX9, 41, tyX9, .array .int, rfl, by decide, (jw_c3 (i := 233) (by decide +kernel) rfl), inX9, tyX9_ok, nmX9, rfl, rfl, by decide +kernel, fun _ => ⟨rfl, rfl⟩⟩
theorem hX9_76 : jH9 RX9 76 9 34 := ⟨RX9, TX9, 41, tyX9, .array .int, rfl, by decide, (jw_c3 (i := 235) (by decide +kernel) rfl), inX9, tyX9_ok, nmX9, rfl, rfl, by decide +kernel, fun _ => ⟨rfl, rfl⟩⟩
theorem hX9_79 : jH9 RX9 79 9 35 := ⟨RX9, TX9, 41, tyX9, .array .int, rfl, by decide, (jw_c3 (i := 236) (by decide +kernel) rfl), inX9, tyX9_ok, nmX9, rfl, rfl, by decide +kernel, fun _ => ⟨rfl, rfl⟩⟩
theorem hX9_82 : jH9 RX9 82 9 36 := ⟨RX9, TX9, 41, tyX9, .array .int, rfl, by decide, (jw_c3 (i := 237) (by decide +kernel) rfl), inX9, tyX9_ok, nmX9, rfl, rfl, by decide +kernel, fun _ => ⟨rfl, rfl⟩⟩
theorem hX9_85 : jH9 RX9 85 9 37 := ⟨RX9, TX9, 41, tyX9, .array .int, rfl, by decide, (jw_c3 (i := 238) (by decide +kernel) rfl), inX9, tyX9_ok, nmX9, rfl, rfl, by decide +kernel, fun _ => ⟨rfl, rfl⟩⟩
theorem hX9_88 : jH9 RX9 88 9 38 := ⟨RX9, TX9, 41, tyX9, .array .int, rfl, by decide, (jw_c3 (i := 239) (by decide +kernel) rfl), inX9, tyX9_ok, nmX9, rfl, rfl, by decide +kernel, fun _ => ⟨rfl, rfl⟩⟩
theorem hX9_91 : jH9 RX9 91 9 39 := ⟨RX9, TX9, 41, tyX9, .array .int, rfl, by decide, (jw_c4 (i := 0) (by decide +kernel) rfl), inX9, tyX9_ok, nmX9, rfl, rfl, by decide +kernel, fun _ => ⟨rfl, rfl⟩⟩
/-- the world's start -/
def σ0 (k : Nat) (j : Int) : Int :=
  if k = 20 then (if j = 1 then -9 else 0)
  else if k = 22 then (if j = 1 then -9 else if j = 2 then -9 else 0)
  else if k = 28 ∨ k = 30 ∨ k = 32 ∨ k = 34 then (if j = 1 then -1 else 0)
  else if k = 61 then -1 else 0
theorem arrV_cong {cA : ClassId} {N : Nat} {f g : Nat → Value} (h : ∀ j, j < N → f j = g j) : arrV cA N f = arrV cA N g := by
  have e : (fun j : Fin N => f j.val) = fun j => g j.val := funext fun j => h j.val j.isLt
  unfold arrV
  rw [e]
theorem N_eqv {D : va_G} {cI cS : ClassId} {dp mc ms : Nat} {A : Nat → Prop} {M : jMt} {cells slots : Nat} {L : List (Nat × Value)} {pc : Nat} {st : List Value} {ws : va_W} {Q : va_W → Prop} {k a : Nat} {e : va_E} (e2 : va_E) (hk : ws[k]? = some (a, e)) (he : ∀ H : Heap, va_at D vwCl (a, e) H → va_at D vwCl (a, e2) H) (h : JN D cI cS dp mc ms A M cells slots L pc st (ws.set k (a, e2)) Q) : JN D cI cS dp mc ms A M cells slots L pc st ws Q := by
  intro p l e' R s m args below meth c C r1 r2 r3 r4 H locs hP hD hS ls hl
  exact h p l e' R s m args below meth c C r1 r2 r3 r4 H locs (hP.set hD hk (he H (hP k _ hk)) (fun _ _ => rfl)) (hD.set hk) hS ls hl
def wX0 (cI : ClassId) (h : Nat) (u : Nat → Nat) : va_W := [(h, .inr (0, [.ref (u 0)])), (u 0, .inl (cI, 6, .inl (fun _ => iI 0)))]
def wX1 (cI : ClassId) (h : Nat) (u : Nat → Nat) : va_W := [(h, .inr (1, [.ref (u 0)])), (u 0, .inl (cI, 6, .inl (fun _ => iI 0)))]
def wX2 (cI : ClassId) (h : Nat) (u : Nat → Nat) : va_W := [(h, .inr (2, [.ref (u 0), vi (-9)])), (u 0, .inl (cI, 3, .inl (fun _ => iI 0)))]
def wX3 (cI : ClassId) (h : Nat) (u : Nat → Nat) : va_W := [(h, .inr (3, [.ref (u 0), .ref (u 1), vi 0])), (u 0, .inl (cI, 8, .inl (fun _ => iI 0))), (u 1, .inl (cI, 8, .inl (fun _ => iI 0)))]
def wX4 (cI : ClassId) (h : Nat) (u : Nat → Nat) : va_W := [(h, .inr (4, [.ref (u 0), vi (-9), vi (-9)])), (u 0, .inl (cI, 301, .inl (fun _ => iI 0)))]
def wX5 (cI : ClassId) (h : Nat) (u : Nat → Nat) : va_W := [(h, .inr (5, [.ref (u 0), vi (-1), vi 0])), (u 0, .inl (cI, 60, .inl (fun _ => iI 0)))]
def wX6 (cI : ClassId) (h : Nat) (u : Nat → Nat) : va_W := [(h, .inr (6, []))]
def wX7 (cI : ClassId) (h : Nat) (u : Nat → Nat) : va_W := [(h, .inr (7, [vi 0, vi 0, vi 0, vi 0, .ref (u 0), .ref (u 1), .ref (u 2), .ref (u 3), .ref (u 4), .ref (u 5)])), (u 0, .inl (cI, 3, .inl (fun _ => iI 0))), (u 1, .inl (cI, 6, .inl (fun _ => iI 0))), (u 2, .inl (cI, 6, .inl (fun _ => iI 0))), (u 3, .inl (cI, 6, .inl (fun _ => iI 0))), (u 4, .inl (cI, 6, .inl (fun _ => iI 0))), (u 5, .inl (cI, 6, .inl (fun _ => iI 0)))]
section CT
variable {D : va_G} {cI cS : ClassId}
set_option maxHeartbeats 2000000 in
theorem c_X0_init : nCt D cI cS 1 1 6 yX0_init cX0_init 1 0 fs0X0 (fun h ws => ∃ u, ws = wX0 cI h u) := by
  refine nCt.of rfl rfl rfl (by decide) (fun h0 A => ?_)
  refine N_aload 1 dX0_init_0 rfl rfl (List.mem_of_getElem? (i := 0) rfl) ?_
  refine N_oi 4 dX0_init_1 rfl kX0_3 (by decide) ?_
  refine N_aload 5 dX0_init_4 rfl rfl (List.mem_of_getElem? (i := 0) rfl) ?_
  refine N_bipush 7 dX0_init_5 rfl (by decide) ?_
  refine N_newarr (N := 6) 9 dX0_init_7 rfl rfl (by decide) (by decide) (by decide) (fun q0 => ?_)
  refine N_putF 12 dX0_init_9 rfl hX0_9 rfl (by simp) ?_
  exact N_ret dX0_init_12 rfl (by decide) (by decide) ⟨fun i => [q0].getD i 0, rfl⟩
set_option maxHeartbeats 2000000 in
theorem c_X1_init : nCt D cI cS 1 1 6 yX1_init cX1_init 1 1 fs0X1 (fun h ws => ∃ u, ws = wX1 cI h u) := by
  refine nCt.of rfl rfl rfl (by decide) (fun h0 A => ?_)
  refine N_aload 1 dX1_init_0 rfl rfl (List.mem_of_getElem? (i := 0) rfl) ?_
  refine N_oi 4 dX1_init_1 rfl kX1_3 (by decide) ?_
  refine N_aload 5 dX1_init_4 rfl rfl (List.mem_of_getElem? (i := 0) rfl) ?_
  refine N_bipush 7 dX1_init_5 rfl (by decide) ?_
  refine N_newarr (N := 6) 9 dX1_init_7 rfl rfl (by decide) (by decide) (by decide) (fun q0 => ?_)
  refine N_putF 12 dX1_init_9 rfl hX1_9 rfl (by simp) ?_
  exact N_ret dX1_init_12 rfl (by decide) (by decide) ⟨fun i => [q0].getD i 0, rfl⟩
set_option maxHeartbeats 2000000 in
theorem c_X2_init : nCt D cI cS 1 1 3 yX2_init cX2_init 1 2 fs0X2 (fun h ws => ∃ u, ws = wX2 cI h u) := by
  refine nCt.of rfl rfl rfl (by decide) (fun h0 A => ?_)
  refine N_aload 1 dX2_init_0 rfl rfl (List.mem_of_getElem? (i := 0) rfl) ?_
  refine N_oi 4 dX2_init_1 rfl kX2_3 (by decide) ?_
  refine N_aload 5 dX2_init_4 rfl rfl (List.mem_of_getElem? (i := 0) rfl) ?_
  refine N_iconst 6 dX2_init_5 rfl ?_
  refine N_newarr (N := 3) 8 dX2_init_6 rfl rfl (by decide) (by decide) (by decide) (fun q0 => ?_)
  refine N_putF 11 dX2_init_8 rfl hX2_9 rfl (by simp) ?_
  refine N_aload 12 dX2_init_11 rfl rfl (List.mem_of_getElem? (i := 0) rfl) ?_
  refine N_bipush 14 dX2_init_12 rfl (by decide) ?_
  refine N_putI 17 dX2_init_14 rfl gX2_15 rfl (by simp) ?_
  exact N_ret dX2_init_17 rfl (by decide) (by decide) ⟨fun i => [q0].getD i 0, rfl⟩
set_option maxHeartbeats 2000000 in
theorem c_X3_init : nCt D cI cS 1 2 16 yX3_init cX3_init 1 3 fs0X3 (fun h ws => ∃ u, ws = wX3 cI h u) := by
  refine nCt.of rfl rfl rfl (by decide) (fun h0 A => ?_)
  refine N_aload 1 dX3_init_0 rfl rfl (List.mem_of_getElem? (i := 0) rfl) ?_
  refine N_oi 4 dX3_init_1 rfl kX3_3 (by decide) ?_
  refine N_aload 5 dX3_init_4 rfl rfl (List.mem_of_getElem? (i := 0) rfl) ?_
  refine N_bipush 7 dX3_init_5 rfl (by decide) ?_
  refine N_newarr (N := 8) 9 dX3_init_7 rfl rfl (by decide) (by decide) (by decide) (fun q0 => ?_)
  refine N_putF 12 dX3_init_9 rfl hX3_9 rfl (by simp) ?_
  refine N_aload 13 dX3_init_12 rfl rfl (List.mem_of_getElem? (i := 0) rfl) ?_
  refine N_bipush 15 dX3_init_13 rfl (by decide) ?_
  refine N_newarr (N := 8) 17 dX3_init_15 rfl rfl (by decide) (by decide) (by decide) (fun q1 => ?_)
  refine N_putF 20 dX3_init_17 rfl hX3_15 rfl (by simp) ?_
  refine N_aload 21 dX3_init_20 rfl rfl (List.mem_of_getElem? (i := 0) rfl) ?_
  refine N_iconst 22 dX3_init_21 rfl ?_
  refine N_putI 25 dX3_init_22 rfl gX3_18 rfl (by simp) ?_
  exact N_ret dX3_init_25 rfl (by decide) (by decide) ⟨fun i => [q0, q1].getD i 0, rfl⟩
set_option maxHeartbeats 2000000 in
theorem c_X4_init : nCt D cI cS 1 1 301 yX4_init cX4_init 1 4 fs0X4 (fun h ws => ∃ u, ws = wX4 cI h u) := by
  refine nCt.of rfl rfl rfl (by decide) (fun h0 A => ?_)
  refine N_aload 1 dX4_init_0 rfl rfl (List.mem_of_getElem? (i := 0) rfl) ?_
  refine N_oi 4 dX4_init_1 rfl kX4_3 (by decide) ?_
  refine N_aload 5 dX4_init_4 rfl rfl (List.mem_of_getElem? (i := 0) rfl) ?_
  refine N_sipush 8 dX4_init_5 rfl (by decide) ?_
  refine N_newarr (N := 301) 10 dX4_init_8 rfl rfl (by decide) (by decide) (by decide) (fun q0 => ?_)
  refine N_putF 13 dX4_init_10 rfl hX4_9 rfl (by simp) ?_
  refine N_aload 14 dX4_init_13 rfl rfl (List.mem_of_getElem? (i := 0) rfl) ?_
  refine N_bipush 16 dX4_init_14 rfl (by decide) ?_
  refine N_putI 19 dX4_init_16 rfl gX4_15 rfl (by simp) ?_
  refine N_aload 20 dX4_init_19 rfl rfl (List.mem_of_getElem? (i := 0) rfl) ?_
  refine N_bipush 22 dX4_init_20 rfl (by decide) ?_
  refine N_putI 25 dX4_init_22 rfl gX4_19 rfl (by simp) ?_
  exact N_ret dX4_init_25 rfl (by decide) (by decide) ⟨fun i => [q0].getD i 0, rfl⟩
set_option maxHeartbeats 2000000 in
theorem c_X5_init : nCt D cI cS 1 1 60 yX5_init cX5_init 1 5 fs0X5 (fun h ws => ∃ u, ws = wX5 cI h u) := by
  refine nCt.of rfl rfl rfl (by decide) (fun h0 A => ?_)
  refine N_aload 1 dX5_init_0 rfl rfl (List.mem_of_getElem? (i := 0) rfl) ?_
  refine N_oi 4 dX5_init_1 rfl kX5_3 (by decide) ?_
  refine N_aload 5 dX5_init_4 rfl rfl (List.mem_of_getElem? (i := 0) rfl) ?_
  refine N_bipush 7 dX5_init_5 rfl (by decide) ?_
  refine N_newarr (N := 60) 9 dX5_init_7 rfl rfl (by decide) (by decide) (by decide) (fun q0 => ?_)
  refine N_putF 12 dX5_init_9 rfl hX5_9 rfl (by simp) ?_
  refine N_aload 13 dX5_init_12 rfl rfl (List.mem_of_getElem? (i := 0) rfl) ?_
  refine N_iconst 14 dX5_init_13 rfl ?_
  refine N_putI 17 dX5_init_14 rfl gX5_15 rfl (by simp) ?_
  refine N_aload 18 dX5_init_17 rfl rfl (List.mem_of_getElem? (i := 0) rfl) ?_
  refine N_iconst 19 dX5_init_18 rfl ?_
  refine N_putI 22 dX5_init_19 rfl gX5_19 rfl (by simp) ?_
  exact N_ret dX5_init_22 rfl (by decide) (by decide) ⟨fun i => [q0].getD i 0, rfl⟩
set_option maxHeartbeats 2000000 in
theorem c_X6_init : nCt D cI cS 1 0 0 yX6_init cX6_init 1 6 fs0X6 (fun h ws => ∃ u, ws = wX6 cI h u) := by
  refine nCt.of rfl rfl rfl (by decide) (fun h0 A => ?_)
  refine N_aload 1 dX6_init_0 rfl rfl (List.mem_of_getElem? (i := 0) rfl) ?_
  refine N_oi 4 dX6_init_1 rfl kX6_3 (by decide) ?_
  exact N_ret dX6_init_4 rfl (by decide) (by decide) ⟨fun i => [].getD i 0, rfl⟩
set_option maxHeartbeats 2000000 in
theorem c_X7_init : nCt D cI cS 1 6 33 yX7_init cX7_init 1 7 fs0X7 (fun h ws => ∃ u, ws = wX7 cI h u) := by
  refine nCt.of rfl rfl rfl (by decide) (fun h0 A => ?_)
  refine N_aload 1 dX7_init_0 rfl rfl (List.mem_of_getElem? (i := 0) rfl) ?_
  refine N_oi 4 dX7_init_1 rfl kX7_3 (by decide) ?_
  refine N_aload 5 dX7_init_4 rfl rfl (List.mem_of_getElem? (i := 0) rfl) ?_
  refine N_iconst 6 dX7_init_5 rfl ?_
  refine N_putI 9 dX7_init_6 rfl gX7_9 rfl (by simp) ?_
  refine N_aload 10 dX7_init_9 rfl rfl (List.mem_of_getElem? (i := 0) rfl) ?_
  refine N_iconst 11 dX7_init_10 rfl ?_
  refine N_putI 14 dX7_init_11 rfl gX7_15 rfl (by simp) ?_
  refine N_aload 15 dX7_init_14 rfl rfl (List.mem_of_getElem? (i := 0) rfl) ?_
  refine N_iconst 16 dX7_init_15 rfl ?_
  refine N_putI 19 dX7_init_16 rfl gX7_18 rfl (by simp) ?_
  refine N_aload 20 dX7_init_19 rfl rfl (List.mem_of_getElem? (i := 0) rfl) ?_
  refine N_iconst 21 dX7_init_20 rfl ?_
  refine N_putI 24 dX7_init_21 rfl gX7_21 rfl (by simp) ?_
  refine N_aload 25 dX7_init_24 rfl rfl (List.mem_of_getElem? (i := 0) rfl) ?_
  refine N_iconst 26 dX7_init_25 rfl ?_
  refine N_newarr (N := 3) 28 dX7_init_26 rfl rfl (by decide) (by decide) (by decide) (fun q0 => ?_)
  refine N_putF 31 dX7_init_28 rfl hX7_24 rfl (by simp) ?_
  refine N_aload 32 dX7_init_31 rfl rfl (List.mem_of_getElem? (i := 0) rfl) ?_
  refine N_bipush 34 dX7_init_32 rfl (by decide) ?_
  refine N_newarr (N := 6) 36 dX7_init_34 rfl rfl (by decide) (by decide) (by decide) (fun q1 => ?_)
  refine N_putF 39 dX7_init_36 rfl hX7_28 rfl (by simp) ?_
  refine N_aload 40 dX7_init_39 rfl rfl (List.mem_of_getElem? (i := 0) rfl) ?_
  refine N_bipush 42 dX7_init_40 rfl (by decide) ?_
  refine N_newarr (N := 6) 44 dX7_init_42 rfl rfl (by decide) (by decide) (by decide) (fun q2 => ?_)
  refine N_putF 47 dX7_init_44 rfl hX7_31 rfl (by simp) ?_
  refine N_aload 48 dX7_init_47 rfl rfl (List.mem_of_getElem? (i := 0) rfl) ?_
  refine N_bipush 50 dX7_init_48 rfl (by decide) ?_
  refine N_newarr (N := 6) 52 dX7_init_50 rfl rfl (by decide) (by decide) (by decide) (fun q3 => ?_)
  refine N_putF 55 dX7_init_52 rfl hX7_34 rfl (by simp) ?_
  refine N_aload 56 dX7_init_55 rfl rfl (List.mem_of_getElem? (i := 0) rfl) ?_
  refine N_bipush 58 dX7_init_56 rfl (by decide) ?_
  refine N_newarr (N := 6) 60 dX7_init_58 rfl rfl (by decide) (by decide) (by decide) (fun q4 => ?_)
  refine N_putF 63 dX7_init_60 rfl hX7_37 rfl (by simp) ?_
  refine N_aload 64 dX7_init_63 rfl rfl (List.mem_of_getElem? (i := 0) rfl) ?_
  refine N_bipush 66 dX7_init_64 rfl (by decide) ?_
  refine N_newarr (N := 6) 68 dX7_init_66 rfl rfl (by decide) (by decide) (by decide) (fun q5 => ?_)
  refine N_putF 71 dX7_init_68 rfl hX7_40 rfl (by simp) ?_
  exact N_ret dX7_init_71 rfl (by decide) (by decide) ⟨fun i => [q0, q1, q2, q3, q4, q5].getD i 0, rfl⟩
end CT
