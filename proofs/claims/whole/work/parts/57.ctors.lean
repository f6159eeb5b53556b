abbrev fs0X0 : List Value := [.null]
theorem dfX0 : ∀ j, j < 1 → defaultValue (tyX0 j) = vp_V fs0X0 j
  | 0, _ => rfl
  | j + 1, h => absurd h (by omega)
abbrev fs0X1 : List Value := [.null]
theorem dfX1 : ∀ j, j < 1 → defaultValue (tyX1 j) = vp_V fs0X1 j
  | 0, _ => rfl
  | j + 1, h => absurd h (by omega)
abbrev fs0X2 : List Value := [.null, vi 0]
theorem dfX2 : ∀ j, j < 2 → defaultValue (tyX2 j) = vp_V fs0X2 j
  | 0, _ => rfl
  | 1, _ => rfl
  | j + 2, h => absurd h (by omega)
abbrev fs0X3 : List Value := [.null, .null, vi 0]
theorem dfX3 : ∀ j, j < 3 → defaultValue (tyX3 j) = vp_V fs0X3 j
  | 0, _ => rfl
  | 1, _ => rfl
  | 2, _ => rfl
  | j + 3, h => absurd h (by omega)
abbrev fs0X4 : List Value := [.null, vi 0, vi 0]
theorem dfX4 : ∀ j, j < 3 → defaultValue (tyX4 j) = vp_V fs0X4 j
  | 0, _ => rfl
  | 1, _ => rfl
  | 2, _ => rfl
  | j + 3, h => absurd h (by omega)
abbrev fs0X5 : List Value := [.null, vi 0, vi 0]
theorem dfX5 : ∀ j, j < 3 → defaultValue (tyX5 j) = vp_V fs0X5 j
  | 0, _ => rfl
  | 1, _ => rfl
  | 2, _ => rfl
  | j + 3, h => absurd h (by omega)
abbrev fs0X6 : List Value := []
theorem dfX6 : ∀ j, j < 0 → defaultValue (tyX6 j) = vp_V fs0X6 j
  | j + 0, h => absurd h (by omega)
abbrev fs0X7 : List Value := [vi 0, vi 0, vi 0, vi 0, .null, .null, .null, .null, .null, .null]
theorem dfX7 : ∀ j, j < 10 → defaultValue (tyX7 j) = vp_V fs0X7 j
  | 0, _ => rfl
  | 1, _ => rfl
  | 2, _ => rfl
  | 3, _ => rfl
  | 4, _ => rfl
  | 5, _ => rfl
  | 6, _ => rfl
  | 7, _ => rfl
  | 8, _ => rfl
  | 9, _ => rfl
  | j + 10, h => absurd h (by omega)
abbrev fs0X8 : List Value := [.null, .null, .null, .null, .null, .null, .null, .null, .null, vi 0, vi 0]
theorem dfX8 : ∀ j, j < 11 → defaultValue (tyX8 j) = vp_V fs0X8 j
  | 0, _ => rfl
  | 1, _ => rfl
  | 2, _ => rfl
  | 3, _ => rfl
  | 4, _ => rfl
  | 5, _ => rfl
  | 6, _ => rfl
  | 7, _ => rfl
  | 8, _ => rfl
  | 9, _ => rfl
  | 10, _ => rfl
  | j + 11, h => absurd h (by omega)
abbrev fs0X9 : List Value := [vi 0, vi 0, vi 0, vi 0, vi 0, .null, .null, .null, .null, .null, .null, .null, vi 0, vi 0, vi 0, .null, .null, .null, .null, .null, .null, .null, .null, .null, vi 0, vi 0, .null, .null, .null, vi 0, .null, .null, .null, vi 0, .null, .null, .null, .null, .null, .null, vi 0]
theorem dfX9 : ∀ j, j < 41 → defaultValue (tyX9 j) = vp_V fs0X9 j
  | 0, _ => rfl
  | 1, _ => rfl
  | 2, _ => rfl
  | 3, _ => rfl
  | 4, _ => rfl
  | 5, _ => rfl
  | 6, _ => rfl
  | 7, _ => rfl
  | 8, _ => rfl
  | 9, _ => rfl
  | 10, _ => rfl
  | 11, _ => rfl
  | 12, _ => rfl
  | 13, _ => rfl
  | 14, _ => rfl
  | 15, _ => rfl
  | 16, _ => rfl
  | 17, _ => rfl
  | 18, _ => rfl
  | 19, _ => rfl
  | 20, _ => rfl
  | 21, _ => rfl
  | 22, _ => rfl
  | 23, _ => rfl
  | 24, _ => rfl
  | 25, _ => rfl
  | 26, _ => rfl
  | 27, _ => rfl
  | 28, _ => rfl
  | 29, _ => rfl
  | 30, _ => rfl
  | 31, _ => rfl
  | 32, _ => rfl
  | 33, _ => rfl
  | 34, _ => rfl
  | 35, _ => rfl
  | 36, _ => rfl
  | 37, _ => rfl
  | 38, _ => rfl
  | 39, _ => rfl
  | 40, _ => rfl
  | j + 41, h => absurd h (by omega)
theorem nwL_7 : jNw RL 7 8 fs0X8 11 := ⟨RX8, TX8, tyX8, rfl, inX8, tyX8_ok, jw_c1 (i := 14) (by decide +kernel) rfl, jw_c1 (i := 15) (by decide +kernel) rfl, jw_c1 (i := 1) (by decide +kernel) rfl, dfX8⟩
theorem nwX8_11 : jNw RX8 11 7 fs0X7 10 := ⟨RX7, TX7, tyX7, rfl, inX7, tyX7_ok, jw_c1 (i := 22) (by decide +kernel) rfl, jw_c1 (i := 23) (by decide +kernel) rfl, jw_c1 (i := 2) (by decide +kernel) rfl, dfX7⟩
theorem nwX8_21 : jNw RX8 21 6 fs0X6 0 := ⟨RX6, TX6, tyX6, rfl, inX6, tyX6_ok, jw_c1 (i := 79) (by decide +kernel) rfl, jw_c1 (i := 80) (by decide +kernel) rfl, jw_c1 (i := 3) (by decide +kernel) rfl, dfX6⟩
theorem nwX8_28 : jNw RX8 28 0 fs0X0 1 := ⟨RX0, TX0, tyX0, rfl, inX0, tyX0_ok, jw_c1 (i := 86) (by decide +kernel) rfl, jw_c1 (i := 87) (by decide +kernel) rfl, jw_c1 (i := 4) (by decide +kernel) rfl, dfX0⟩
theorem nwX8_35 : jNw RX8 35 1 fs0X1 1 := ⟨RX1, TX1, tyX1, rfl, inX1, tyX1_ok, jw_c1 (i := 96) (by decide +kernel) rfl, jw_c1 (i := 97) (by decide +kernel) rfl, jw_c1 (i := 5) (by decide +kernel) rfl, dfX1⟩
theorem nwX8_42 : jNw RX8 42 2 fs0X2 2 := ⟨RX2, TX2, tyX2, rfl, inX2, tyX2_ok, jw_c1 (i := 106) (by decide +kernel) rfl, jw_c1 (i := 107) (by decide +kernel) rfl, jw_c1 (i := 6) (by decide +kernel) rfl, dfX2⟩
theorem nwX8_49 : jNw RX8 49 4 fs0X4 3 := ⟨RX4, TX4, tyX4, rfl, inX4, tyX4_ok, jw_c1 (i := 121) (by decide +kernel) rfl, jw_c1 (i := 122) (by decide +kernel) rfl, jw_c1 (i := 7) (by decide +kernel) rfl, dfX4⟩
theorem nwX8_56 : jNw RX8 56 3 fs0X3 3 := ⟨RX3, TX3, tyX3, rfl, inX3, tyX3_ok, jw_c1 (i := 139) (by decide +kernel) rfl, jw_c1 (i := 140) (by decide +kernel) rfl, jw_c1 (i := 8) (by decide +kernel) rfl, dfX3⟩
theorem nwX8_63 : jNw RX8 63 5 fs0X5 3 := ⟨RX5, TX5, tyX5, rfl, inX5, tyX5_ok, jw_c1 (i := 156) (by decide +kernel) rfl, jw_c1 (i := 158) (by decide +kernel) rfl, jw_c1 (i := 9) (by decide +kernel) rfl, dfX5⟩
theorem nwL_10 : jNw RL 10 9 fs0X9 41 := ⟨RX9, TX9, tyX9, rfl, inX9, tyX9_ok, jw_c3 (i := 195) (by decide +kernel) rfl, jw_c3 (i := 196) (by decide +kernel) rfl, jw_c1 (i := 10) (by decide +kernel) rfl, dfX9⟩
theorem clX8_63 : Cond.classLink RX8 63 "LoafGates$Sheet" ∈ jw := jw_c1 (i := 156) (by decide +kernel) rfl
theorem niX0 : jIn yX0_init cX0_init 1 := ⟨jw_c1 (i := 89) (by decide +kernel) rfl, jw_c1 (i := 4) (by decide +kernel) rfl, jw_c1 (i := 90) (by decide +kernel) rfl, rfl, ⟨by decide +kernel, by decide +kernel, by decide +kernel⟩, by decide⟩
theorem niX1 : jIn yX1_init cX1_init 1 := ⟨jw_c1 (i := 99) (by decide +kernel) rfl, jw_c1 (i := 5) (by decide +kernel) rfl, jw_c1 (i := 100) (by decide +kernel) rfl, rfl, ⟨by decide +kernel, by decide +kernel, by decide +kernel⟩, by decide⟩
theorem niX2 : jIn yX2_init cX2_init 1 := ⟨jw_c1 (i := 109) (by decide +kernel) rfl, jw_c1 (i := 6) (by decide +kernel) rfl, jw_c1 (i := 110) (by decide +kernel) rfl, rfl, ⟨by decide +kernel, by decide +kernel, by decide +kernel⟩, by decide⟩
theorem niX3 : jIn yX3_init cX3_init 1 := ⟨jw_c1 (i := 142) (by decide +kernel) rfl, jw_c1 (i := 8) (by decide +kernel) rfl, jw_c1 (i := 143) (by decide +kernel) rfl, rfl, ⟨by decide +kernel, by decide +kernel, by decide +kernel⟩, by decide⟩
theorem niX4 : jIn yX4_init cX4_init 1 := ⟨jw_c1 (i := 124) (by decide +kernel) rfl, jw_c1 (i := 7) (by decide +kernel) rfl, jw_c1 (i := 125) (by decide +kernel) rfl, rfl, ⟨by decide +kernel, by decide +kernel, by decide +kernel⟩, by decide⟩
theorem niX5 : jIn yX5_init cX5_init 1 := ⟨jw_c1 (i := 160) (by decide +kernel) rfl, jw_c1 (i := 9) (by decide +kernel) rfl, jw_c1 (i := 161) (by decide +kernel) rfl, rfl, ⟨by decide +kernel, by decide +kernel, by decide +kernel⟩, by decide⟩
theorem niX6 : jIn yX6_init cX6_init 1 := ⟨jw_c1 (i := 82) (by decide +kernel) rfl, jw_c1 (i := 3) (by decide +kernel) rfl, jw_c1 (i := 83) (by decide +kernel) rfl, rfl, ⟨by decide +kernel, by decide +kernel, by decide +kernel⟩, by decide⟩
theorem niX7 : jIn yX7_init cX7_init 1 := ⟨jw_c1 (i := 25) (by decide +kernel) rfl, jw_c1 (i := 2) (by decide +kernel) rfl, jw_c1 (i := 26) (by decide +kernel) rfl, rfl, ⟨by decide +kernel, by decide +kernel, by decide +kernel⟩, by decide⟩
theorem niX8 : jIn yX8_init cX8_init 1 := ⟨jw_c1 (i := 17) (by decide +kernel) rfl, jw_c1 (i := 1) (by decide +kernel) rfl, jw_c1 (i := 18) (by decide +kernel) rfl, rfl, ⟨by decide +kernel, by decide +kernel, by decide +kernel⟩, by decide⟩
theorem niX9 : jIn yX9_init cX9_init 2 := ⟨jw_c3 (i := 198) (by decide +kernel) rfl, jw_c1 (i := 10) (by decide +kernel) rfl, jw_c3 (i := 199) (by decide +kernel) rfl, rfl, ⟨by decide +kernel, by decide +kernel, by decide +kernel⟩, by decide⟩
theorem hX0_9 : jH9 RX0 9 0 0 := ⟨RX0, TX0, 1, tyX0, .array .int, rfl, by decide, (jw_c1 (i := 92) (by decide +kernel) rfl), inX0, tyX0_ok, nmX0, rfl, rfl, by decide +kernel, fun _ => ⟨rfl, rfl⟩⟩
theorem hX1_9 : jH9 RX1 9 1 0 := ⟨RX1, TX1, 1, tyX1, .array .int, rfl, by decide, (jw_c1 (i := 102) (by decide +kernel) rfl), inX1, tyX1_ok, nmX1, rfl, rfl, by decide +kernel, fun _ => ⟨rfl, rfl⟩⟩
theorem hX2_9 : jH9 RX2 9 2 0 := ⟨RX2, TX2, 2, tyX2, .array .int, rfl, by decide, (jw_c1 (i := 112) (by decide +kernel) rfl), inX2, tyX2_ok, nmX2, rfl, rfl, by decide +kernel, fun _ => ⟨rfl, rfl⟩⟩
theorem hX3_9 : jH9 RX3 9 3 0 := ⟨RX3, TX3, 3, tyX3, .array .int, rfl, by decide, (jw_c1 (i := 145) (by decide +kernel) rfl), inX3, tyX3_ok, nmX3, rfl, rfl, by decide +kernel, fun _ => ⟨rfl, rfl⟩⟩
theorem hX3_15 : jH9 RX3 15 3 1 := ⟨RX3, TX3, 3, tyX3, .array .int, rfl, by decide, (jw_c1 (i := 146) (by decide +kernel) rfl), inX3, tyX3_ok, nmX3, rfl, rfl, by decide +kernel, fun _ => ⟨rfl, rfl⟩⟩
theorem hX4_9 : jH9 RX4 9 4 0 := ⟨RX4, TX4, 3, tyX4, .array .int, rfl, by decide, (jw_c1 (i := 127) (by decide +kernel) rfl), inX4, tyX4_ok, nmX4, rfl, rfl, by decide +kernel, fun _ => ⟨rfl, rfl⟩⟩
theorem hX5_9 : jH9 RX5 9 5 0 := ⟨RX5, TX5, 3, tyX5, .array .int, rfl, by decide, (jw_c1 (i := 163) (by decide +kernel) rfl), inX5, tyX5_ok, nmX5, rfl, rfl, by decide +kernel, fun _ => ⟨rfl, rfl⟩⟩
theorem hX7_24 : jH9 RX7 24 7 4 := ⟨RX7, TX7, 10, tyX7, .array .int, rfl, by decide, (jw_c1 (i := 38) (by decide +kernel) rfl), inX7, tyX7_ok, nmX7, rfl, rfl, by decide +kernel, fun _ => ⟨rfl, rfl⟩⟩
theorem hX7_28 : jH9 RX7 28 7 5 := ⟨RX7, TX7, 10, tyX7, .array .int, rfl, by decide, (jw_c1 (i := 42) (by decide +kernel) rfl), inX7, tyX7_ok, nmX7, rfl, rfl, by decide +kernel, fun _ => ⟨rfl, rfl⟩⟩
theorem hX7_31 : jH9 RX7 31 7 6 := ⟨RX7, TX7, 10, tyX7, .array .int, rfl, by decide, (jw_c1 (i := 45) (by decide +kernel) rfl), inX7, tyX7_ok, nmX7, rfl, rfl, by decide +kernel, fun _ => ⟨rfl, rfl⟩⟩
theorem hX7_34 : jH9 RX7 34 7 7 := ⟨RX7, TX7, 10, tyX7, .array .int, rfl, by decide, (jw_c1 (i := 48) (by decide +kernel) rfl), inX7, tyX7_ok, nmX7, rfl, rfl, by decide +kernel, fun _ => ⟨rfl, rfl⟩⟩
theorem hX7_37 : jH9 RX7 37 7 8 := ⟨RX7, TX7, 10, tyX7, .array .int, rfl, by decide, (jw_c1 (i := 51) (by decide +kernel) rfl), inX7, tyX7_ok, nmX7, rfl, rfl, by decide +kernel, fun _ => ⟨rfl, rfl⟩⟩
theorem hX7_40 : jH9 RX7 40 7 9 := ⟨RX7, TX7, 10, tyX7, .array .int, rfl, by decide, (jw_c1 (i := 54) (by decide +kernel) rfl), inX7, tyX7_ok, nmX7, rfl, rfl, by decide +kernel, fun _ => ⟨rfl, rfl⟩⟩
theorem hX8_14 : jH9 RX8 14 8 0 := ⟨RX8, TX8, 11, tyX8, .object "LoafGates$Winter", rfl, by decide, (jw_c1 (i := 176) (by decide +kernel) rfl), inX8, tyX8_ok, nmX8, rfl, rfl, by decide +kernel, fun _ => ⟨rfl, rfl⟩⟩
theorem hX8_18 : jH9 RX8 18 8 1 := ⟨RX8, TX8, 11, tyX8, .object "LoafGates$Winter", rfl, by decide, (jw_c1 (i := 177) (by decide +kernel) rfl), inX8, tyX8_ok, nmX8, rfl, rfl, by decide +kernel, fun _ => ⟨rfl, rfl⟩⟩
theorem hX8_24 : jH9 RX8 24 8 2 := ⟨RX8, TX8, 11, tyX8, .object "LoafGates$TextReader", rfl, by decide, (jw_c1 (i := 178) (by decide +kernel) rfl), inX8, tyX8_ok, nmX8, rfl, rfl, by decide +kernel, fun _ => ⟨rfl, rfl⟩⟩
theorem hX8_31 : jH9 RX8 31 8 3 := ⟨RX8, TX8, 11, tyX8, .object "LoafGates$Circle", rfl, by decide, (jw_c1 (i := 179) (by decide +kernel) rfl), inX8, tyX8_ok, nmX8, rfl, rfl, by decide +kernel, fun _ => ⟨rfl, rfl⟩⟩
theorem hX8_38 : jH9 RX8 38 8 4 := ⟨RX8, TX8, 11, tyX8, .object "LoafGates$Giving", rfl, by decide, (jw_c1 (i := 180) (by decide +kernel) rfl), inX8, tyX8_ok, nmX8, rfl, rfl, by decide +kernel, fun _ => ⟨rfl, rfl⟩⟩
theorem hX8_45 : jH9 RX8 45 8 5 := ⟨RX8, TX8, 11, tyX8, .object "LoafGates$Parting", rfl, by decide, (jw_c1 (i := 181) (by decide +kernel) rfl), inX8, tyX8_ok, nmX8, rfl, rfl, by decide +kernel, fun _ => ⟨rfl, rfl⟩⟩
theorem hX8_52 : jH9 RX8 52 8 6 := ⟨RX8, TX8, 11, tyX8, .object "LoafGates$Settling", rfl, by decide, (jw_c1 (i := 182) (by decide +kernel) rfl), inX8, tyX8_ok, nmX8, rfl, rfl, by decide +kernel, fun _ => ⟨rfl, rfl⟩⟩
theorem hX8_59 : jH9 RX8 59 8 7 := ⟨RX8, TX8, 11, tyX8, .object "LoafGates$Readings", rfl, by decide, (jw_c1 (i := 183) (by decide +kernel) rfl), inX8, tyX8_ok, nmX8, rfl, rfl, by decide +kernel, fun _ => ⟨rfl, rfl⟩⟩
theorem hX8_66 : jH9 RX8 66 8 8 := ⟨RX8, TX8, 11, tyX8, .array (.object "LoafGates$Sheet"), rfl, by decide, (jw_c1 (i := 184) (by decide +kernel) rfl), inX8, tyX8_ok, nmX8, rfl, rfl, by decide +kernel, fun _ => ⟨rfl, rfl⟩⟩
theorem hX9_7 : jH9 RX9 7 9 5 := ⟨RX9, TX9, 41, tyX9, .array .int, rfl, by decide, (jw_c3 (i := 206) (by decide +kernel) rfl), inX9, tyX9_ok, nmX9, rfl, rfl, by decide +kernel, fun _ => ⟨rfl, rfl⟩⟩
theorem hX9_13 : jH9 RX9 13 9 6 := ⟨RX9, TX9, 41, tyX9, .array .int, rfl, by decide, (jw_c3 (i := 207) (by decide +kernel) rfl), inX9, tyX9_ok, nmX9, rfl, rfl, by decide +kernel, fun _ => ⟨rfl, rfl⟩⟩
theorem hX9_16 : jH9 RX9 16 9 7 := ⟨RX9, TX9, 41, tyX9, .array .int, rfl, by decide, (jw_c3 (i := 208) (by decide +kernel) rfl), inX9, tyX9_ok, nmX9, rfl, rfl, by decide +kernel, fun _ => ⟨rfl, rfl⟩⟩
theorem hX9_19 : jH9 RX9 19 9 8 := ⟨RX9, TX9, 41, tyX9, .array .int, rfl, by decide, (jw_c3 (i := 209) (by decide +kernel) rfl), inX9, tyX9_ok, nmX9, rfl, rfl, by decide +kernel, fun _ => ⟨rfl, rfl⟩⟩
theorem hX9_22 : jH9 RX9 22 9 9 := ⟨RX9, TX9, 41, tyX9, .array .int, rfl, by decide, (jw_c3 (i := 210) (by decide +kernel) rfl), inX9, tyX9_ok, nmX9, rfl, rfl, by decide +kernel, fun _ => ⟨rfl, rfl⟩⟩
theorem hX9_25 : jH9 RX9 25 9 10 := ⟨RX9, TX9, 41, tyX9, .array .int, rfl, by decide, (jw_c3 (i := 211) (by decide +kernel) rfl), inX9, tyX9_ok, nmX9, rfl, rfl, by decide +kernel, fun _ => ⟨rfl, rfl⟩⟩
theorem hX9_28 : jH9 RX9 28 9 11 := ⟨RX9, TX9, 41, tyX9, .array .int, rfl, by decide, (jw_c3 (i := 212) (by decide +kernel) rfl), inX9, tyX9_ok, nmX9, rfl, rfl, by decide +kernel, fun _ => ⟨rfl, rfl⟩⟩
theorem hX9_31 : jH9 RX9 31 9 15 := ⟨RX9, TX9, 41, tyX9, .array .int, rfl, by decide, (jw_c3 (i := 216) (by decide +kernel) rfl), inX9, tyX9_ok, nmX9, rfl, rfl, by decide +kernel, fun _ => ⟨rfl, rfl⟩⟩
theorem hX9_34 : jH9 RX9 34 9 16 := ⟨RX9, TX9, 41, tyX9, .array .int, rfl, by decide, (jw_c3 (i := 217) (by decide +kernel) rfl), inX9, tyX9_ok, nmX9, rfl, rfl, by decide +kernel, fun _ => ⟨rfl, rfl⟩⟩
theorem hX9_37 : jH9 RX9 37 9 17 := ⟨RX9, TX9, 41, tyX9, .array .int, rfl, by decide, (jw_c3 (i := 218) (by decide +kernel) rfl), inX9, tyX9_ok, nmX9, rfl, rfl, by decide +kernel, fun _ => ⟨rfl, rfl⟩⟩
theorem hX9_40 : jH9 RX9 40 9 18 := ⟨RX9, TX9, 41, tyX9, .array .int, rfl, by decide, (jw_c3 (i := 219) (by decide +kernel) rfl), inX9, tyX9_ok, nmX9, rfl, rfl, by decide +kernel, fun _ => ⟨rfl, rfl⟩⟩
theorem hX9_43 : jH9 RX9 43 9 19 := ⟨RX9, TX9, 41, tyX9, .array .int, rfl, by decide, (jw_c3 (i := 220) (by decide +kernel) rfl), inX9, tyX9_ok, nmX9, rfl, rfl, by decide +kernel, fun _ => ⟨rfl, rfl⟩⟩
theorem hX9_46 : jH9 RX9 46 9 20 := ⟨RX9, TX9, 41, tyX9, .array .int, rfl, by decide, (jw_c3 (i := 221) (by decide +kernel) rfl), inX9, tyX9_ok, nmX9, rfl, rfl, by decide +kernel, fun _ => ⟨rfl, rfl⟩⟩
theorem hX9_49 : jH9 RX9 49 9 21 := ⟨RX9, TX9, 41, tyX9, .array .int, rfl, by decide, (jw_c3 (i := 222) (by decide +kernel) rfl), inX9, tyX9_ok, nmX9, rfl, rfl, by decide +kernel, fun _ => ⟨rfl, rfl⟩⟩
theorem hX9_52 : jH9 RX9 52 9 22 := ⟨RX9, TX9, 41, tyX9, .array .int, rfl, by decide, (jw_c3 (i := 223) (by decide +kernel) rfl), inX9, tyX9_ok, nmX9, rfl, rfl, by decide +kernel, fun _ => ⟨rfl, rfl⟩⟩
theorem hX9_55 : jH9 RX9 55 9 23 := ⟨RX9, TX9, 41, tyX9, .array .int, rfl, by decide, (jw_c3 (i := 224) (by decide +kernel) rfl), inX9, tyX9_ok, nmX9, rfl, rfl, by decide +kernel, fun _ => ⟨rfl, rfl⟩⟩
theorem hX9_58 : jH9 RX9 58 9 26 := ⟨RX9, TX9, 41, tyX9, .array .int, rfl, by decide, (jw_c3 (i := 227) (by decide +kernel) rfl), inX9, tyX9_ok, nmX9, rfl, rfl, by decide +kernel, fun _ => ⟨rfl, rfl⟩⟩
theorem hX9_61 : jH9 RX9 61 9 27 := ⟨RX9, TX9, 41, tyX9, .array .int, rfl, by decide, (jw_c3 (i := 228) (by decide +kernel) rfl), inX9, tyX9_ok, nmX9, rfl, rfl, by decide +kernel, fun _ => ⟨rfl, rfl⟩⟩
theorem hX9_64 : jH9 RX9 64 9 28 := ⟨RX9, TX9, 41, tyX9, .array .int, rfl, by decide, (jw_c3 (i := 229) (by decide +kernel) rfl), inX9, tyX9_ok, nmX9, rfl, rfl, by decide +kernel, fun _ => ⟨rfl, rfl⟩⟩
theorem hX9_67 : jH9 RX9 67 9 30 := ⟨RX9, TX9, 41, tyX9, .array .int, rfl, by decide, (jw_c3 (i := 231) (by decide +kernel) rfl), inX9, tyX9_ok, nmX9, rfl, rfl, by decide +kernel, fun _ => ⟨rfl, rfl⟩⟩
theorem hX9_70 : jH9 RX9 70 9 31 := ⟨RX9, TX9, 41, tyX9, .array .int, rfl, by decide, (jw_c3 (i := 232) (by decide +kernel) rfl), inX9, tyX9_ok, nmX9, rfl, rfl, by decide +kernel, fun _ => ⟨rfl, rfl⟩⟩
theorem hX9_73 : jH9 RX9 73 9 32 := ⟨RX9, TX9, 41, tyX9, .array .int, rfl, by decide, (jw_c3 (i := 233) (by decide +kernel) rfl), inX9, tyX9_ok, nmX9, rfl, rfl, by decide +kernel, fun _ => ⟨rfl, rfl⟩⟩
theorem hX9_76 : jH9 RX9 76 9 34 := ⟨RX9, TX9, 41, tyX9, .array .int, rfl, by decide, (jw_c3 (i := 235) (by decide +kernel) rfl), inX9, tyX9_ok, nmX9, rfl, rfl, by decide +kernel, fun _ => ⟨rfl, rfl⟩⟩
theorem hX9_79 : jH9 RX9 79 9 35 := ⟨RX9, TX9, 41, tyX9, .array .int, rfl, by decide, (jw_c3 (i := 236) (by decide +kernel) rfl), inX9, tyX9_ok, nmX9, rfl, rfl, by decide +kernel, fun _ => ⟨rfl, rfl⟩⟩
theorem hX9_82 : jH9 RX9 82 9 36 := ⟨RX9, TX9, 41, tyX9, .array .int, rfl, by decide, (jw_c3 (i := 237) (by decide +kernel) rfl), inX9, tyX9_ok, nmX9, rfl, rfl, by decide +kernel, fun _ => ⟨rfl, rfl⟩⟩
theorem hX9_85 : jH9 RX9 85 9 37 := ⟨RX9, TX9, 41, tyX9, .array .int, rfl, by decide, (jw_c3 (i := 238) (by decide +kernel) rfl), inX9, tyX9_ok, nmX9, rfl, rfl, by decide +kernel, fun _ => ⟨rfl, rfl⟩⟩
theorem hX9_88 : jH9 RX9 88 9 38 := ⟨RX9, TX9, 41, tyX9, .array .int, rfl, by decide, (jw_c3 (i := 239) (by decide +kernel) rfl), inX9, tyX9_ok, nmX9, rfl, rfl, by decide +kernel, fun _ => ⟨rfl, rfl⟩⟩
theorem hX9_91 : jH9 RX9 91 9 39 := ⟨RX9, TX9, 41, tyX9, .array .int, rfl, by decide, (jw_c4 (i := 0) (by decide +kernel) rfl), inX9, tyX9_ok, nmX9, rfl, rfl, by decide +kernel, fun _ => ⟨rfl, rfl⟩⟩
/-- the world's start -/
def σ0 (k : Nat) (j : Int) : Int :=
  if k = 20 then (if j = 1 then -9 else 0)
  else if k = 22 then (if j = 1 then -9 else if j = 2 then -9 else 0)
  else if k = 28 ∨ k = 30 ∨ k = 32 ∨ k = 34 then (if j = 1 then -1 else 0)
  else if k = 61 then -1 else 0
theorem arrV_cong {cA : ClassId} {N : Nat} {f g : Nat → Value} (h : ∀ j, j < N → f j = g j) : arrV cA N f = arrV cA N g := by
  have e : (fun j : Fin N => f j.val) = fun j => g j.val := funext fun j => h j.val j.isLt
  unfold arrV
  rw [e]
theorem N_eqv {D : va_G} {cI cS : ClassId} {dp mc ms : Nat} {A : Nat → Prop} {M : jMt} {cells slots : Nat} {L : List (Nat × Value)} {pc : Nat} {st : List Value} {ws : va_W} {Q : va_W → Prop} {k a : Nat} {e : va_E} (e2 : va_E) (hk : ws[k]? = some (a, e)) (he : ∀ H : Heap, va_at D vwCl (a, e) H → va_at D vwCl (a, e2) H) (h : JN D cI cS dp mc ms A M cells slots L pc st (ws.set k (a, e2)) Q) : JN D cI cS dp mc ms A M cells slots L pc st ws Q := by
  intro p l e' R s m args below meth c C r1 r2 r3 r4 H locs hP hD hS ls hl
  exact h p l e' R s m args below meth c C r1 r2 r3 r4 H locs (hP.set hD hk (he H (hP k _ hk)) (fun _ _ => rfl)) (hD.set hk) hS ls hl
def wX0 (cI : ClassId) (h : Nat) (u : Nat → Nat) : va_W := [(h, .inr (0, [.ref (u 0)])), (u 0, .inl (cI, 6, .inl (fun _ => iI 0)))]
def wX1 (cI : ClassId) (h : Nat) (u : Nat → Nat) : va_W := [(h, .inr (1, [.ref (u 0)])), (u 0, .inl (cI, 6, .inl (fun _ => iI 0)))]
def wX2 (cI : ClassId) (h : Nat) (u : Nat → Nat) : va_W := [(h, .inr (2, [.ref (u 0), vi (-9)])), (u 0, .inl (cI, 3, .inl (fun _ => iI 0)))]
def wX3 (cI : ClassId) (h : Nat) (u : Nat → Nat) : va_W := [(h, .inr (3, [.ref (u 0), .ref (u 1), vi 0])), (u 0, .inl (cI, 8, .inl (fun _ => iI 0))), (u 1, .inl (cI, 8, .inl (fun _ => iI 0)))]
def wX4 (cI : ClassId) (h : Nat) (u : Nat → Nat) : va_W := [(h, .inr (4, [.ref (u 0), vi (-9), vi (-9)])), (u 0, .inl (cI, 301, .inl (fun _ => iI 0)))]
def wX5 (cI : ClassId) (h : Nat) (u : Nat → Nat) : va_W := [(h, .inr (5, [.ref (u 0), vi (-1), vi 0])), (u 0, .inl (cI, 60, .inl (fun _ => iI 0)))]
def wX6 (cI : ClassId) (h : Nat) (u : Nat → Nat) : va_W := [(h, .inr (6, []))]
def wX7 (cI : ClassId) (h : Nat) (u : Nat → Nat) : va_W := [(h, .inr (7, [vi 0, vi 0, vi 0, vi 0, .ref (u 0), .ref (u 1), .ref (u 2), .ref (u 3), .ref (u 4), .ref (u 5)])), (u 0, .inl (cI, 3, .inl (fun _ => iI 0))), (u 1, .inl (cI, 6, .inl (fun _ => iI 0))), (u 2, .inl (cI, 6, .inl (fun _ => iI 0))), (u 3, .inl (cI, 6, .inl (fun _ => iI 0))), (u 4, .inl (cI, 6, .inl (fun _ => iI 0))), (u 5, .inl (cI, 6, .inl (fun _ => iI 0)))]
section CT
variable {D : va_G} {cI cS : ClassId}
set_option maxHeartbeats 2000000 in
theorem c_X0_init : nCt D cI cS 1 1 6 yX0_init cX0_init 1 0 fs0X0 (fun h ws => ∃ u, ws = wX0 cI h u) := by
  refine nCt.of rfl rfl rfl (by decide) (fun h0 A => ?_)
  refine N_aload 1 dX0_init_0 rfl rfl (List.mem_of_getElem? (i := 0) rfl) ?_
  refine N_oi 4 dX0_init_1 rfl kX0_3 (by decide) ?_
  refine N_aload 5 dX0_init_4 rfl rfl (List.mem_of_getElem? (i := 0) rfl) ?_
  refine N_bipush 7 dX0_init_5 rfl (by decide) ?_
  refine N_newarr (N := 6) 9 dX0_init_7 rfl rfl (by decide) (by decide) (by decide) (fun q0 => ?_)
  refine N_putF 12 dX0_init_9 rfl hX0_9 rfl (by simp) ?_
  exact N_ret dX0_init_12 rfl (by decide) (by decide) ⟨fun i => [q0].getD i 0, rfl⟩
set_option maxHeartbeats 2000000 in
theorem c_X1_init : nCt D cI cS 1 1 6 yX1_init cX1_init 1 1 fs0X1 (fun h ws => ∃ u, ws = wX1 cI h u) := by
  refine nCt.of rfl rfl rfl (by decide) (fun h0 A => ?_)
  refine N_aload 1 dX1_init_0 rfl rfl (List.mem_of_getElem? (i := 0) rfl) ?_
  refine N_oi 4 dX1_init_1 rfl kX1_3 (by decide) ?_
  refine N_aload 5 dX1_init_4 rfl rfl (List.mem_of_getElem? (i := 0) rfl) ?_
  refine N_bipush 7 dX1_init_5 rfl (by decide) ?_
  refine N_newarr (N := 6) 9 dX1_init_7 rfl rfl (by decide) (by decide) (by decide) (fun q0 => ?_)
  refine N_putF 12 dX1_init_9 rfl hX1_9 rfl (by simp) ?_
  exact N_ret dX1_init_12 rfl (by decide) (by decide) ⟨fun i => [q0].getD i 0, rfl⟩
set_option maxHeartbeats 2000000 in
theorem c_X2_init : nCt D cI cS 1 1 3 yX2_init cX2_init 1 2 fs0X2 (fun h ws => ∃ u, ws = wX2 cI h u) := by
  refine nCt.of rfl rfl rfl (by decide) (fun h0 A => ?_)
  refine N_aload 1 dX2_init_0 rfl rfl (List.mem_of_getElem? (i := 0) rfl) ?_
  refine N_oi 4 dX2_init_1 rfl kX2_3 (by decide) ?_
  refine N_aload 5 dX2_init_4 rfl rfl (List.mem_of_getElem? (i := 0) rfl) ?_
  refine N_iconst 6 dX2_init_5 rfl ?_
  refine N_newarr (N := 3) 8 dX2_init_6 rfl rfl (by decide) (by decide) (by decide) (fun q0 => ?_)
  refine N_putF 11 dX2_init_8 rfl hX2_9 rfl (by simp) ?_
  refine N_aload 12 dX2_init_11 rfl rfl (List.mem_of_getElem? (i := 0) rfl) ?_
  refine N_bipush 14 dX2_init_12 rfl (by decide) ?_
  refine N_putI 17 dX2_init_14 rfl gX2_15 rfl (by simp) ?_
  exact N_ret dX2_init_17 rfl (by decide) (by decide) ⟨fun i => [q0].getD i 0, rfl⟩
set_option maxHeartbeats 2000000 in
theorem c_X3_init : nCt D cI cS 1 2 16 yX3_init cX3_init 1 3 fs0X3 (fun h ws => ∃ u, ws = wX3 cI h u) := by
  refine nCt.of rfl rfl rfl (by decide) (fun h0 A => ?_)
  refine N_aload 1 dX3_init_0 rfl rfl (List.mem_of_getElem? (i := 0) rfl) ?_
  refine N_oi 4 dX3_init_1 rfl kX3_3 (by decide) ?_
  refine N_aload 5 dX3_init_4 rfl rfl (List.mem_of_getElem? (i := 0) rfl) ?_
  refine N_bipush 7 dX3_init_5 rfl (by decide) ?_
  refine N_newarr (N := 8) 9 dX3_init_7 rfl rfl (by decide) (by decide) (by decide) (fun q0 => ?_)
  refine N_putF 12 dX3_init_9 rfl hX3_9 rfl (by simp) ?_
  refine N_aload 13 dX3_init_12 rfl rfl (List.mem_of_getElem? (i := 0) rfl) ?_
  refine N_bipush 15 dX3_init_13 rfl (by decide) ?_
  refine N_newarr (N := 8) 17 dX3_init_15 rfl rfl (by decide) (by decide) (by decide) (fun q1 => ?_)
  refine N_putF 20 dX3_init_17 rfl hX3_15 rfl (by simp) ?_
  refine N_aload 21 dX3_init_20 rfl rfl (List.mem_of_getElem? (i := 0) rfl) ?_
  refine N_iconst 22 dX3_init_21 rfl ?_
  refine N_putI 25 dX3_init_22 rfl gX3_18 rfl (by simp) ?_
  exact N_ret dX3_init_25 rfl (by decide) (by decide) ⟨fun i => [q0, q1].getD i 0, rfl⟩
set_option maxHeartbeats 2000000 in
theorem c_X4_init : nCt D cI cS 1 1 301 yX4_init cX4_init 1 4 fs0X4 (fun h ws => ∃ u, ws = wX4 cI h u) := by
  refine nCt.of rfl rfl rfl (by decide) (fun h0 A => ?_)
  refine N_aload 1 dX4_init_0 rfl rfl (List.mem_of_getElem? (i := 0) rfl) ?_
  refine N_oi 4 dX4_init_1 rfl kX4_3 (by decide) ?_
  refine N_aload 5 dX4_init_4 rfl rfl (List.mem_of_getElem? (i := 0) rfl) ?_
  refine N_sipush 8 dX4_init_5 rfl (by decide) ?_
  refine N_newarr (N := 301) 10 dX4_init_8 rfl rfl (by decide) (by decide) (by decide) (fun q0 => ?_)
  refine N_putF 13 dX4_init_10 rfl hX4_9 rfl (by simp) ?_
  refine N_aload 14 dX4_init_13 rfl rfl (List.mem_of_getElem? (i := 0) rfl) ?_
  refine N_bipush 16 dX4_init_14 rfl (by decide) ?_
  refine N_putI 19 dX4_init_16 rfl gX4_15 rfl (by simp) ?_
  refine N_aload 20 dX4_init_19 rfl rfl (List.mem_of_getElem? (i := 0) rfl) ?_
  refine N_bipush 22 dX4_init_20 rfl (by decide) ?_
  refine N_putI 25 dX4_init_22 rfl gX4_19 rfl (by simp) ?_
  exact N_ret dX4_init_25 rfl (by decide) (by decide) ⟨fun i => [q0].getD i 0, rfl⟩
set_option maxHeartbeats 2000000 in
theorem c_X5_init : nCt D cI cS 1 1 60 yX5_init cX5_init 1 5 fs0X5 (fun h ws => ∃ u, ws = wX5 cI h u) := by
  refine nCt.of rfl rfl rfl (by decide) (fun h0 A => ?_)
  refine N_aload 1 dX5_init_0 rfl rfl (List.mem_of_getElem? (i := 0) rfl) ?_
  refine N_oi 4 dX5_init_1 rfl kX5_3 (by decide) ?_
  refine N_aload 5 dX5_init_4 rfl rfl (List.mem_of_getElem? (i := 0) rfl) ?_
  refine N_bipush 7 dX5_init_5 rfl (by decide) ?_
  refine N_newarr (N := 60) 9 dX5_init_7 rfl rfl (by decide) (by decide) (by decide) (fun q0 => ?_)
  refine N_putF 12 dX5_init_9 rfl hX5_9 rfl (by simp) ?_
  refine N_aload 13 dX5_init_12 rfl rfl (List.mem_of_getElem? (i := 0) rfl) ?_
  refine N_iconst 14 dX5_init_13 rfl ?_
  refine N_putI 17 dX5_init_14 rfl gX5_15 rfl (by simp) ?_
  refine N_aload 18 dX5_init_17 rfl rfl (List.mem_of_getElem? (i := 0) rfl) ?_
  refine N_iconst 19 dX5_init_18 rfl ?_
  refine N_putI 22 dX5_init_19 rfl gX5_19 rfl (by simp) ?_
  exact N_ret dX5_init_22 rfl (by decide) (by decide) ⟨fun i => [q0].getD i 0, rfl⟩
set_option maxHeartbeats 2000000 in
theorem c_X6_init : nCt D cI cS 1 0 0 yX6_init cX6_init 1 6 fs0X6 (fun h ws => ∃ u, ws = wX6 cI h u) := by
  refine nCt.of rfl rfl rfl (by decide) (fun h0 A => ?_)
  refine N_aload 1 dX6_init_0 rfl rfl (List.mem_of_getElem? (i := 0) rfl) ?_
  refine N_oi 4 dX6_init_1 rfl kX6_3 (by decide) ?_
  exact N_ret dX6_init_4 rfl (by decide) (by decide) ⟨fun i => [].getD i 0, rfl⟩
set_option maxHeartbeats 2000000 in
theorem c_X7_init : nCt D cI cS 1 6 33 yX7_init cX7_init 1 7 fs0X7 (fun h ws => ∃ u, ws = wX7 cI h u) := by
  refine nCt.of rfl rfl rfl (by decide) (fun h0 A => ?_)
  refine N_aload 1 dX7_init_0 rfl rfl (List.mem_of_getElem? (i := 0) rfl) ?_
  refine N_oi 4 dX7_init_1 rfl kX7_3 (by decide) ?_
  refine N_aload 5 dX7_init_4 rfl rfl (List.mem_of_getElem? (i := 0) rfl) ?_
  refine N_iconst 6 dX7_init_5 rfl ?_
  refine N_putI 9 dX7_init_6 rfl gX7_9 rfl (by simp) ?_
  refine N_aload 10 dX7_init_9 rfl rfl (List.mem_of_getElem? (i := 0) rfl) ?_
  refine N_iconst 11 dX7_init_10 rfl ?_
  refine N_putI 14 dX7_init_11 rfl gX7_15 rfl (by simp) ?_
  refine N_aload 15 dX7_init_14 rfl rfl (List.mem_of_getElem? (i := 0) rfl) ?_
  refine N_iconst 16 dX7_init_15 rfl ?_
  refine N_putI 19 dX7_init_16 rfl gX7_18 rfl (by simp) ?_
  refine N_aload 20 dX7_init_19 rfl rfl (List.mem_of_getElem? (i := 0) rfl) ?_
  refine N_iconst 21 dX7_init_20 rfl ?_
  refine N_putI 24 dX7_init_21 rfl gX7_21 rfl (by simp) ?_
  refine N_aload 25 dX7_init_24 rfl rfl (List.mem_of_getElem? (i := 0) rfl) ?_
  refine N_iconst 26 dX7_init_25 rfl ?_
  refine N_newarr (N := 3) 28 dX7_init_26 rfl rfl (by decide) (by decide) (by decide) (fun q0 => ?_)
  refine N_putF 31 dX7_init_28 rfl hX7_24 rfl (by simp) ?_
  refine N_aload 32 dX7_init_31 rfl rfl (List.mem_of_getElem? (i := 0) rfl) ?_
  refine N_bipush 34 dX7_init_32 rfl (by decide) ?_
  refine N_newarr (N := 6) 36 dX7_init_34 rfl rfl (by decide) (by decide) (by decide) (fun q1 => ?_)
  refine N_putF 39 dX7_init_36 rfl hX7_28 rfl (by simp) ?_
  refine N_aload 40 dX7_init_39 rfl rfl (List.mem_of_getElem? (i := 0) rfl) ?_
  refine N_bipush 42 dX7_init_40 rfl (by decide) ?_
  refine N_newarr (N := 6) 44 dX7_init_42 rfl rfl (by decide) (by decide) (by decide) (fun q2 => ?_)
  refine N_putF 47 dX7_init_44 rfl hX7_31 rfl (by simp) ?_
  refine N_aload 48 dX7_init_47 rfl rfl (List.mem_of_getElem? (i := 0) rfl) ?_
  refine N_bipush 50 dX7_init_48 rfl (by decide) ?_
  refine N_newarr (N := 6) 52 dX7_init_50 rfl rfl (by decide) (by decide) (by decide) (fun q3 => ?_)
  refine N_putF 55 dX7_init_52 rfl hX7_34 rfl (by simp) ?_
  refine N_aload 56 dX7_init_55 rfl rfl (List.mem_of_getElem? (i := 0) rfl) ?_
  refine N_bipush 58 dX7_init_56 rfl (by decide) ?_
  refine N_newarr (N := 6) 60 dX7_init_58 rfl rfl (by decide) (by decide) (by decide) (fun q4 => ?_)
  refine N_putF 63 dX7_init_60 rfl hX7_37 rfl (by simp) ?_
  refine N_aload 64 dX7_init_63 rfl rfl (List.mem_of_getElem? (i := 0) rfl) ?_
  refine N_bipush 66 dX7_init_64 rfl (by decide) ?_
  refine N_newarr (N := 6) 68 dX7_init_66 rfl rfl (by decide) (by decide) (by decide) (fun q5 => ?_)
  refine N_putF 71 dX7_init_68 rfl hX7_40 rfl (by simp) ?_
  exact N_ret dX7_init_71 rfl (by decide) (by decide) ⟨fun i => [q0, q1, q2, q3, q4, q5].getD i 0, rfl⟩
def wX8 (cI cS : ClassId) (ad : Nat → Nat) : va_W := [(ad 0, .inr (8, [.ref (ad 1), .ref (ad 8), .ref (ad 15), .ref (ad 16), .ref (ad 18), .ref (ad 20), .ref (ad 22), .ref (ad 24), .ref (ad 27), vi 0, vi 0])), (ad 1, .inr (7, [vi 0, vi 0, vi 0, vi 0, .ref (ad 2), .ref (ad 3), .ref (ad 4), .ref (ad 5), .ref (ad 6), .ref (ad 7)])), (ad 2, .inl (cI, 3, .inl (fun _ => iI 0))), (ad 3, .inl (cI, 6, .inl (fun _ => iI 0))), (ad 4, .inl (cI, 6, .inl (fun _ => iI 0))), (ad 5, .inl (cI, 6, .inl (fun _ => iI 0))), (ad 6, .inl (cI, 6, .inl (fun _ => iI 0))), (ad 7, .inl (cI, 6, .inl (fun _ => iI 0))), (ad 8, .inr (7, [vi 0, vi 0, vi 0, vi 0, .ref (ad 9), .ref (ad 10), .ref (ad 11), .ref (ad 12), .ref (ad 13), .ref (ad 14)])), (ad 9, .inl (cI, 3, .inl (fun _ => iI 0))), (ad 10, .inl (cI, 6, .inl (fun _ => iI 0))), (ad 11, .inl (cI, 6, .inl (fun _ => iI 0))), (ad 12, .inl (cI, 6, .inl (fun _ => iI 0))), (ad 13, .inl (cI, 6, .inl (fun _ => iI 0))), (ad 14, .inl (cI, 6, .inl (fun _ => iI 0))), (ad 15, .inr (6, [])), (ad 16, .inr (0, [.ref (ad 17)])), (ad 17, .inl (cI, 6, .inl (fun _ => iI 0))), (ad 18, .inr (1, [.ref (ad 19)])), (ad 19, .inl (cI, 6, .inl (fun _ => iI 0))), (ad 20, .inr (2, [.ref (ad 21), vi (-9)])), (ad 21, .inl (cI, 3, .inl (fun _ => iI 0))), (ad 22, .inr (4, [.ref (ad 23), vi (-9), vi (-9)])), (ad 23, .inl (cI, 301, .inl (fun _ => iI 0))), (ad 24, .inr (3, [.ref (ad 25), .ref (ad 26), vi 0])), (ad 25, .inl (cI, 8, .inl (fun _ => iI 0))), (ad 26, .inl (cI, 8, .inl (fun _ => iI 0))), (ad 27, .inl (cS, 4, .inr (.inr (.inr (.inr (fun j => some (ad (28 + 2 * j)))))))), (ad 28, .inr (5, [.ref (ad 29), vi (-1), vi 0])), (ad 29, .inl (cI, 60, .inl (fun _ => iI 0))), (ad 30, .inr (5, [.ref (ad 31), vi (-1), vi 0])), (ad 31, .inl (cI, 60, .inl (fun _ => iI 0))), (ad 32, .inr (5, [.ref (ad 33), vi (-1), vi 0])), (ad 33, .inl (cI, 60, .inl (fun _ => iI 0))), (ad 34, .inr (5, [.ref (ad 35), vi (-1), vi 0])), (ad 35, .inl (cI, 60, .inl (fun _ => iI 0)))]
def wX9 (cI : ClassId) (ad : Nat → Nat) : va_W := [(ad 36, .inr (9, [vi 0, vi 0, vi 0, vi 0, vi 0, .ref (ad 37), .ref (ad 38), .ref (ad 39), .ref (ad 40), .ref (ad 41), .ref (ad 42), .ref (ad 43), vi 0, vi 0, vi 0, .ref (ad 44), .ref (ad 45), .ref (ad 46), .ref (ad 47), .ref (ad 48), .ref (ad 49), .ref (ad 50), .ref (ad 51), .ref (ad 52), vi 0, vi 0, .ref (ad 53), .ref (ad 54), .ref (ad 55), vi 0, .ref (ad 56), .ref (ad 57), .ref (ad 58), vi 0, .ref (ad 59), .ref (ad 60), .ref (ad 61), .ref (ad 62), .ref (ad 63), .ref (ad 64), vi 0])), (ad 37, .inl (cI, 3, .inl (fun _ => iI 0))), (ad 38, .inl (cI, 6, .inl (fun _ => iI 0))), (ad 39, .inl (cI, 6, .inl (fun _ => iI 0))), (ad 40, .inl (cI, 6, .inl (fun _ => iI 0))), (ad 41, .inl (cI, 6, .inl (fun _ => iI 0))), (ad 42, .inl (cI, 6, .inl (fun _ => iI 0))), (ad 43, .inl (cI, 6, .inl (fun _ => iI 0))), (ad 44, .inl (cI, 3, .inl (fun _ => iI 0))), (ad 45, .inl (cI, 6, .inl (fun _ => iI 0))), (ad 46, .inl (cI, 6, .inl (fun _ => iI 0))), (ad 47, .inl (cI, 6, .inl (fun _ => iI 0))), (ad 48, .inl (cI, 6, .inl (fun _ => iI 0))), (ad 49, .inl (cI, 6, .inl (fun _ => iI 0))), (ad 50, .inl (cI, 6, .inl (fun _ => iI 0))), (ad 51, .inl (cI, 6, .inl (fun _ => iI 0))), (ad 52, .inl (cI, 3, .inl (fun _ => iI 0))), (ad 53, .inl (cI, 3, .inl (fun _ => iI 0))), (ad 54, .inl (cI, 6, .inl (fun _ => iI 0))), (ad 55, .inl (cI, 6, .inl (fun _ => iI 0))), (ad 56, .inl (cI, 3, .inl (fun _ => iI 0))), (ad 57, .inl (cI, 6, .inl (fun _ => iI 0))), (ad 58, .inl (cI, 301, .inl (fun _ => iI 0))), (ad 59, .inl (cI, 8, .inl (fun _ => iI 0))), (ad 60, .inl (cI, 8, .inl (fun _ => iI 0))), (ad 61, .inl (cI, 4, .inl (fun _ => iI (-1)))), (ad 62, .inl (cI, 4, .inl (fun _ => iI 0))), (ad 63, .inl (cI, 240, .inl (fun _ => iI 0))), (ad 64, .inl (cI, 60, .inl (fun _ => iI 0)))]
set_option maxHeartbeats 8000000 in
set_option maxRecDepth 20000 in
theorem c_X8_init : nCt D cI cS 2 35 684 yX8_init cX8_init 1 8 fs0X8 (fun h ws => ∃ ad : Nat → Nat, ad 0 = h ∧ ws = wX8 cI cS ad) := by
  refine nCt.of rfl rfl rfl (by decide) (fun h0 A => ?_)
  refine N_aload 1 dX8_init_0 rfl rfl (List.mem_of_getElem? (i := 0) rfl) ?_
  refine N_oi 4 dX8_init_1 rfl kX8_5 (by decide) ?_
  refine N_aload 5 dX8_init_4 rfl rfl (List.mem_of_getElem? (i := 0) rfl) ?_
  refine N_new 12 dX8_init_5 dX8_init_8 dX8_init_9 rfl nwX8_11 niX7 (fun U h => h.1) (c_X7_init (D := D) (cI := cI) (cS := cS)) (by decide) (by decide) (by decide) (by decide) (fun q0 w1 hw => ?_)
  obtain ⟨u0, rfl⟩ := hw
  refine N_putF 15 dX8_init_12 rfl hX8_14 rfl (by simp) ?_
  refine N_aload 16 dX8_init_15 rfl rfl (List.mem_of_getElem? (i := 0) rfl) ?_
  refine N_new 23 dX8_init_16 dX8_init_19 dX8_init_20 rfl nwX8_11 niX7 (fun U h => h.1) (c_X7_init (D := D) (cI := cI) (cS := cS)) (by decide) (by decide) (by decide) (by decide) (fun q1 w1 hw => ?_)
  obtain ⟨u1, rfl⟩ := hw
  refine N_putF 26 dX8_init_23 rfl hX8_18 rfl (by simp) ?_
  refine N_aload 27 dX8_init_26 rfl rfl (List.mem_of_getElem? (i := 0) rfl) ?_
  refine N_new 34 dX8_init_27 dX8_init_30 dX8_init_31 rfl nwX8_21 niX6 (fun U h => h.2.1) (c_X6_init (D := D) (cI := cI) (cS := cS)) (by decide) (by decide) (by decide) (by decide) (fun q2 w1 hw => ?_)
  obtain ⟨u2, rfl⟩ := hw
  refine N_putF 37 dX8_init_34 rfl hX8_24 rfl (by simp) ?_
  refine N_aload 38 dX8_init_37 rfl rfl (List.mem_of_getElem? (i := 0) rfl) ?_
  refine N_new 45 dX8_init_38 dX8_init_41 dX8_init_42 rfl nwX8_28 niX0 (fun U h => h.2.2.1) (c_X0_init (D := D) (cI := cI) (cS := cS)) (by decide) (by decide) (by decide) (by decide) (fun q3 w1 hw => ?_)
  obtain ⟨u3, rfl⟩ := hw
  refine N_putF 48 dX8_init_45 rfl hX8_31 rfl (by simp) ?_
  refine N_aload 49 dX8_init_48 rfl rfl (List.mem_of_getElem? (i := 0) rfl) ?_
  refine N_new 56 dX8_init_49 dX8_init_52 dX8_init_53 rfl nwX8_35 niX1 (fun U h => h.2.2.2.1) (c_X1_init (D := D) (cI := cI) (cS := cS)) (by decide) (by decide) (by decide) (by decide) (fun q4 w1 hw => ?_)
  obtain ⟨u4, rfl⟩ := hw
  refine N_putF 59 dX8_init_56 rfl hX8_38 rfl (by simp) ?_
  refine N_aload 60 dX8_init_59 rfl rfl (List.mem_of_getElem? (i := 0) rfl) ?_
  refine N_new 67 dX8_init_60 dX8_init_63 dX8_init_64 rfl nwX8_42 niX2 (fun U h => h.2.2.2.2.1) (c_X2_init (D := D) (cI := cI) (cS := cS)) (by decide) (by decide) (by decide) (by decide) (fun q5 w1 hw => ?_)
  obtain ⟨u5, rfl⟩ := hw
  refine N_putF 70 dX8_init_67 rfl hX8_45 rfl (by simp) ?_
  refine N_aload 71 dX8_init_70 rfl rfl (List.mem_of_getElem? (i := 0) rfl) ?_
  refine N_new 78 dX8_init_71 dX8_init_74 dX8_init_75 rfl nwX8_49 niX4 (fun U h => h.2.2.2.2.2.1) (c_X4_init (D := D) (cI := cI) (cS := cS)) (by decide) (by decide) (by decide) (by decide) (fun q6 w1 hw => ?_)
  obtain ⟨u6, rfl⟩ := hw
  refine N_putF 81 dX8_init_78 rfl hX8_52 rfl (by simp) ?_
  refine N_aload 82 dX8_init_81 rfl rfl (List.mem_of_getElem? (i := 0) rfl) ?_
  refine N_new 89 dX8_init_82 dX8_init_85 dX8_init_86 rfl nwX8_56 niX3 (fun U h => h.2.2.2.2.2.2.1) (c_X3_init (D := D) (cI := cI) (cS := cS)) (by decide) (by decide) (by decide) (by decide) (fun q7 w1 hw => ?_)
  obtain ⟨u7, rfl⟩ := hw
  refine N_putF 92 dX8_init_89 rfl hX8_59 rfl (by simp) ?_
  refine N_aload 93 dX8_init_92 rfl rfl (List.mem_of_getElem? (i := 0) rfl) ?_
  refine N_iconst 94 dX8_init_93 rfl ?_
  refine N_newq (N := 4) 97 dX8_init_94 rfl clX8_63 rfl (by decide) (by decide) (by decide) (fun qa => ?_)
  refine N_dup 98 dX8_init_97 rfl rfl ?_
  refine N_iconst 99 dX8_init_98 rfl ?_
  refine N_new 106 dX8_init_99 dX8_init_102 dX8_init_103 rfl nwX8_63 niX5 (fun U h => h.2.2.2.2.2.2.2.1) (c_X5_init (D := D) (cI := cI) (cS := cS)) (by decide) (by decide) (by decide) (by decide) (fun q8 w1 hw => ?_)
  obtain ⟨u8, rfl⟩ := hw
  refine N_astq (k := 27) (k2 := 28) (N := 4) (v := q8) (a := qa) 107 _ dX8_init_106 rfl rfl rfl (by decide) (by decide) rfl ?_
  refine N_dup 108 dX8_init_107 rfl rfl ?_
  refine N_iconst 109 dX8_init_108 rfl ?_
  refine N_new 116 dX8_init_109 dX8_init_112 dX8_init_113 rfl nwX8_63 niX5 (fun U h => h.2.2.2.2.2.2.2.1) (c_X5_init (D := D) (cI := cI) (cS := cS)) (by decide) (by decide) (by decide) (by decide) (fun q9 w1 hw => ?_)
  obtain ⟨u9, rfl⟩ := hw
  refine N_astq (k := 27) (k2 := 30) (N := 4) (v := q9) (a := qa) 117 _ dX8_init_116 rfl rfl rfl (by decide) (by decide) rfl ?_
  refine N_dup 118 dX8_init_117 rfl rfl ?_
  refine N_iconst 119 dX8_init_118 rfl ?_
  refine N_new 126 dX8_init_119 dX8_init_122 dX8_init_123 rfl nwX8_63 niX5 (fun U h => h.2.2.2.2.2.2.2.1) (c_X5_init (D := D) (cI := cI) (cS := cS)) (by decide) (by decide) (by decide) (by decide) (fun q10 w1 hw => ?_)
  obtain ⟨u10, rfl⟩ := hw
  refine N_astq (k := 27) (k2 := 32) (N := 4) (v := q10) (a := qa) 127 _ dX8_init_126 rfl rfl rfl (by decide) (by decide) rfl ?_
  refine N_dup 128 dX8_init_127 rfl rfl ?_
  refine N_iconst 129 dX8_init_128 rfl ?_
  refine N_new 136 dX8_init_129 dX8_init_132 dX8_init_133 rfl nwX8_63 niX5 (fun U h => h.2.2.2.2.2.2.2.1) (c_X5_init (D := D) (cI := cI) (cS := cS)) (by decide) (by decide) (by decide) (by decide) (fun q11 w1 hw => ?_)
  obtain ⟨u11, rfl⟩ := hw
  refine N_astq (k := 27) (k2 := 34) (N := 4) (v := q11) (a := qa) 137 _ dX8_init_136 rfl rfl rfl (by decide) (by decide) rfl ?_
  refine N_putF 140 dX8_init_137 rfl hX8_66 rfl (by simp) ?_
  refine N_aload 141 dX8_init_140 rfl rfl (List.mem_of_getElem? (i := 0) rfl) ?_
  refine N_iconst 142 dX8_init_141 rfl ?_
  refine N_putI 145 dX8_init_142 rfl gX8_70 rfl (by simp) ?_
  refine N_aload 146 dX8_init_145 rfl rfl (List.mem_of_getElem? (i := 0) rfl) ?_
  refine N_iconst 147 dX8_init_146 rfl ?_
  refine N_putI 150 dX8_init_147 rfl gX8_74 rfl (by simp) ?_
  obtain ⟨ad, had⟩ : ∃ ad : Nat → Nat, ad = fun i => [h0, q0, (u0 0), (u0 1), (u0 2), (u0 3), (u0 4), (u0 5), q1, (u1 0), (u1 1), (u1 2), (u1 3), (u1 4), (u1 5), q2, q3, (u3 0), q4, (u4 0), q5, (u5 0), q6, (u6 0), q7, (u7 0), (u7 1), qa, q8, (u8 0), q9, (u9 0), q10, (u10 0), q11, (u11 0)].getD i 0 := ⟨_, rfl⟩
  refine N_eqv (k := 27) (a := qa) (.inl (cS, 4, .inr (.inr (.inr (.inr (fun j => some (ad (28 + 2 * j)))))))) rfl (fun H h => ?_) ?_
  · refine Eq.trans h (congrArg some (arrV_cong (fun j hj => ?_)))
    rw [had]
    rcases (show j = 0 ∨ j = 1 ∨ j = 2 ∨ j = 3 by omega) with rfl | rfl | rfl | rfl <;> rfl
  · refine N_ret dX8_init_150 rfl (by decide) (by decide) ⟨ad, by rw [had]; rfl, ?_⟩
    subst had
    rfl
set_option maxHeartbeats 8000000 in
set_option maxRecDepth 20000 in
theorem c_X9_init : nCt D cI cS 1 28 736 yX9_init cX9_init 2 9 fs0X9 (fun h ws => ∃ ad : Nat → Nat, ad 36 = h ∧ ws = wX9 cI ad) := by
  refine nCt.of rfl rfl rfl (by decide) (fun h0 A => ?_)
  refine N_aload 1 dX9_init_0 rfl rfl (List.mem_of_getElem? (i := 0) rfl) ?_
  refine N_oi 4 dX9_init_1 rfl kX9_1 (by decide) ?_
  refine N_aload 5 dX9_init_4 rfl rfl (List.mem_of_getElem? (i := 0) rfl) ?_
  refine N_iconst 6 dX9_init_5 rfl ?_
  refine N_newarr (N := 3) 8 dX9_init_6 rfl rfl (by decide) (by decide) (by decide) (fun q0 => ?_)
  refine N_putF 11 dX9_init_8 rfl hX9_7 rfl (by simp) ?_
  refine N_aload 12 dX9_init_11 rfl rfl (List.mem_of_getElem? (i := 0) rfl) ?_
  refine N_bipush 14 dX9_init_12 rfl (by decide) ?_
  refine N_newarr (N := 6) 16 dX9_init_14 rfl rfl (by decide) (by decide) (by decide) (fun q1 => ?_)
  refine N_putF 19 dX9_init_16 rfl hX9_13 rfl (by simp) ?_
  refine N_aload 20 dX9_init_19 rfl rfl (List.mem_of_getElem? (i := 0) rfl) ?_
  refine N_bipush 22 dX9_init_20 rfl (by decide) ?_
  refine N_newarr (N := 6) 24 dX9_init_22 rfl rfl (by decide) (by decide) (by decide) (fun q2 => ?_)
  refine N_putF 27 dX9_init_24 rfl hX9_16 rfl (by simp) ?_
  refine N_aload 28 dX9_init_27 rfl rfl (List.mem_of_getElem? (i := 0) rfl) ?_
  refine N_bipush 30 dX9_init_28 rfl (by decide) ?_
  refine N_newarr (N := 6) 32 dX9_init_30 rfl rfl (by decide) (by decide) (by decide) (fun q3 => ?_)
  refine N_putF 35 dX9_init_32 rfl hX9_19 rfl (by simp) ?_
  refine N_aload 36 dX9_init_35 rfl rfl (List.mem_of_getElem? (i := 0) rfl) ?_
  refine N_bipush 38 dX9_init_36 rfl (by decide) ?_
  refine N_newarr (N := 6) 40 dX9_init_38 rfl rfl (by decide) (by decide) (by decide) (fun q4 => ?_)
  refine N_putF 43 dX9_init_40 rfl hX9_22 rfl (by simp) ?_
  refine N_aload 44 dX9_init_43 rfl rfl (List.mem_of_getElem? (i := 0) rfl) ?_
  refine N_bipush 46 dX9_init_44 rfl (by decide) ?_
  refine N_newarr (N := 6) 48 dX9_init_46 rfl rfl (by decide) (by decide) (by decide) (fun q5 => ?_)
  refine N_putF 51 dX9_init_48 rfl hX9_25 rfl (by simp) ?_
  refine N_aload 52 dX9_init_51 rfl rfl (List.mem_of_getElem? (i := 0) rfl) ?_
  refine N_bipush 54 dX9_init_52 rfl (by decide) ?_
  refine N_newarr (N := 6) 56 dX9_init_54 rfl rfl (by decide) (by decide) (by decide) (fun q6 => ?_)
  refine N_putF 59 dX9_init_56 rfl hX9_28 rfl (by simp) ?_
  refine N_aload 60 dX9_init_59 rfl rfl (List.mem_of_getElem? (i := 0) rfl) ?_
  refine N_iconst 61 dX9_init_60 rfl ?_
  refine N_newarr (N := 3) 63 dX9_init_61 rfl rfl (by decide) (by decide) (by decide) (fun q7 => ?_)
  refine N_putF 66 dX9_init_63 rfl hX9_31 rfl (by simp) ?_
  refine N_aload 67 dX9_init_66 rfl rfl (List.mem_of_getElem? (i := 0) rfl) ?_
  refine N_bipush 69 dX9_init_67 rfl (by decide) ?_
  refine N_newarr (N := 6) 71 dX9_init_69 rfl rfl (by decide) (by decide) (by decide) (fun q8 => ?_)
  refine N_putF 74 dX9_init_71 rfl hX9_34 rfl (by simp) ?_
  refine N_aload 75 dX9_init_74 rfl rfl (List.mem_of_getElem? (i := 0) rfl) ?_
  refine N_bipush 77 dX9_init_75 rfl (by decide) ?_
  refine N_newarr (N := 6) 79 dX9_init_77 rfl rfl (by decide) (by decide) (by decide) (fun q9 => ?_)
  refine N_putF 82 dX9_init_79 rfl hX9_37 rfl (by simp) ?_
  refine N_aload 83 dX9_init_82 rfl rfl (List.mem_of_getElem? (i := 0) rfl) ?_
  refine N_bipush 85 dX9_init_83 rfl (by decide) ?_
  refine N_newarr (N := 6) 87 dX9_init_85 rfl rfl (by decide) (by decide) (by decide) (fun q10 => ?_)
  refine N_putF 90 dX9_init_87 rfl hX9_40 rfl (by simp) ?_
  refine N_aload 91 dX9_init_90 rfl rfl (List.mem_of_getElem? (i := 0) rfl) ?_
  refine N_bipush 93 dX9_init_91 rfl (by decide) ?_
  refine N_newarr (N := 6) 95 dX9_init_93 rfl rfl (by decide) (by decide) (by decide) (fun q11 => ?_)
  refine N_putF 98 dX9_init_95 rfl hX9_43 rfl (by simp) ?_
  refine N_aload 99 dX9_init_98 rfl rfl (List.mem_of_getElem? (i := 0) rfl) ?_
  refine N_bipush 101 dX9_init_99 rfl (by decide) ?_
  refine N_newarr (N := 6) 103 dX9_init_101 rfl rfl (by decide) (by decide) (by decide) (fun q12 => ?_)
  refine N_putF 106 dX9_init_103 rfl hX9_46 rfl (by simp) ?_
  refine N_aload 107 dX9_init_106 rfl rfl (List.mem_of_getElem? (i := 0) rfl) ?_
  refine N_bipush 109 dX9_init_107 rfl (by decide) ?_
  refine N_newarr (N := 6) 111 dX9_init_109 rfl rfl (by decide) (by decide) (by decide) (fun q13 => ?_)
  refine N_putF 114 dX9_init_111 rfl hX9_49 rfl (by simp) ?_
  refine N_aload 115 dX9_init_114 rfl rfl (List.mem_of_getElem? (i := 0) rfl) ?_
  refine N_bipush 117 dX9_init_115 rfl (by decide) ?_
  refine N_newarr (N := 6) 119 dX9_init_117 rfl rfl (by decide) (by decide) (by decide) (fun q14 => ?_)
  refine N_putF 122 dX9_init_119 rfl hX9_52 rfl (by simp) ?_
  refine N_aload 123 dX9_init_122 rfl rfl (List.mem_of_getElem? (i := 0) rfl) ?_
  refine N_iconst 124 dX9_init_123 rfl ?_
  refine N_newarr (N := 3) 126 dX9_init_124 rfl rfl (by decide) (by decide) (by decide) (fun q15 => ?_)
  refine N_putF 129 dX9_init_126 rfl hX9_55 rfl (by simp) ?_
  refine N_aload 130 dX9_init_129 rfl rfl (List.mem_of_getElem? (i := 0) rfl) ?_
  refine N_iconst 131 dX9_init_130 rfl ?_
  refine N_newarr (N := 3) 133 dX9_init_131 rfl rfl (by decide) (by decide) (by decide) (fun q16 => ?_)
  refine N_putF 136 dX9_init_133 rfl hX9_58 rfl (by simp) ?_
  refine N_aload 137 dX9_init_136 rfl rfl (List.mem_of_getElem? (i := 0) rfl) ?_
  refine N_bipush 139 dX9_init_137 rfl (by decide) ?_
  refine N_newarr (N := 6) 141 dX9_init_139 rfl rfl (by decide) (by decide) (by decide) (fun q17 => ?_)
  refine N_putF 144 dX9_init_141 rfl hX9_61 rfl (by simp) ?_
  refine N_aload 145 dX9_init_144 rfl rfl (List.mem_of_getElem? (i := 0) rfl) ?_
  refine N_bipush 147 dX9_init_145 rfl (by decide) ?_
  refine N_newarr (N := 6) 149 dX9_init_147 rfl rfl (by decide) (by decide) (by decide) (fun q18 => ?_)
  refine N_putF 152 dX9_init_149 rfl hX9_64 rfl (by simp) ?_
  refine N_aload 153 dX9_init_152 rfl rfl (List.mem_of_getElem? (i := 0) rfl) ?_
  refine N_iconst 154 dX9_init_153 rfl ?_
  refine N_newarr (N := 3) 156 dX9_init_154 rfl rfl (by decide) (by decide) (by decide) (fun q19 => ?_)
  refine N_putF 159 dX9_init_156 rfl hX9_67 rfl (by simp) ?_
  refine N_aload 160 dX9_init_159 rfl rfl (List.mem_of_getElem? (i := 0) rfl) ?_
  refine N_bipush 162 dX9_init_160 rfl (by decide) ?_
  refine N_newarr (N := 6) 164 dX9_init_162 rfl rfl (by decide) (by decide) (by decide) (fun q20 => ?_)
  refine N_putF 167 dX9_init_164 rfl hX9_70 rfl (by simp) ?_
  refine N_aload 168 dX9_init_167 rfl rfl (List.mem_of_getElem? (i := 0) rfl) ?_
  refine N_sipush 171 dX9_init_168 rfl (by decide) ?_
  refine N_newarr (N := 301) 173 dX9_init_171 rfl rfl (by decide) (by decide) (by decide) (fun q21 => ?_)
  refine N_putF 176 dX9_init_173 rfl hX9_73 rfl (by simp) ?_
  refine N_aload 177 dX9_init_176 rfl rfl (List.mem_of_getElem? (i := 0) rfl) ?_
  refine N_bipush 179 dX9_init_177 rfl (by decide) ?_
  refine N_newarr (N := 8) 181 dX9_init_179 rfl rfl (by decide) (by decide) (by decide) (fun q22 => ?_)
  refine N_putF 184 dX9_init_181 rfl hX9_76 rfl (by simp) ?_
  refine N_aload 185 dX9_init_184 rfl rfl (List.mem_of_getElem? (i := 0) rfl) ?_
  refine N_bipush 187 dX9_init_185 rfl (by decide) ?_
  refine N_newarr (N := 8) 189 dX9_init_187 rfl rfl (by decide) (by decide) (by decide) (fun q23 => ?_)
  refine N_putF 192 dX9_init_189 rfl hX9_79 rfl (by simp) ?_
  refine N_aload 193 dX9_init_192 rfl rfl (List.mem_of_getElem? (i := 0) rfl) ?_
  refine N_iconst 194 dX9_init_193 rfl ?_
  refine N_newarr (N := 4) 196 dX9_init_194 rfl rfl (by decide) (by decide) (by decide) (fun q24 => ?_)
  refine N_putF 199 dX9_init_196 rfl hX9_82 rfl (by simp) ?_
  refine N_aload 200 dX9_init_199 rfl rfl (List.mem_of_getElem? (i := 0) rfl) ?_
  refine N_iconst 201 dX9_init_200 rfl ?_
  refine N_newarr (N := 4) 203 dX9_init_201 rfl rfl (by decide) (by decide) (by decide) (fun q25 => ?_)
  refine N_putF 206 dX9_init_203 rfl hX9_85 rfl (by simp) ?_
  refine N_aload 207 dX9_init_206 rfl rfl (List.mem_of_getElem? (i := 0) rfl) ?_
  refine N_sipush 210 dX9_init_207 rfl (by decide) ?_
  refine N_newarr (N := 240) 212 dX9_init_210 rfl rfl (by decide) (by decide) (by decide) (fun q26 => ?_)
  refine N_putF 215 dX9_init_212 rfl hX9_88 rfl (by simp) ?_
  refine N_aload 216 dX9_init_215 rfl rfl (List.mem_of_getElem? (i := 0) rfl) ?_
  refine N_bipush 218 dX9_init_216 rfl (by decide) ?_
  refine N_newarr (N := 60) 220 dX9_init_218 rfl rfl (by decide) (by decide) (by decide) (fun q27 => ?_)
  refine N_putF 223 dX9_init_220 rfl hX9_91 rfl (by simp) ?_
  refine N_iconst 224 dX9_init_223 rfl ?_
  refine N_istore 225 [(1, vi 0), (0, .ref h0)] dX9_init_224 rfl rfl (by decide) rfl ?_
  refine N_iload 226 dX9_init_225 rfl rfl (List.mem_of_getElem? (i := 0) rfl) ?_
  refine N_iconst 227 dX9_init_226 rfl ?_
  refine N_ge 243 230 dX9_init_227 rfl rfl (by decide) (by decide) (fun h => absurd h (by decide)) (fun _ => ?_)
  refine N_aload 231 dX9_init_230 rfl rfl (List.mem_of_getElem? (i := 1) rfl) ?_
  refine N_getA (q := q24) 234 dX9_init_231 rfl fX9_82 rfl rfl ?_
  refine N_iload 235 dX9_init_234 rfl rfl (List.mem_of_getElem? (i := 0) rfl) ?_
  refine N_iconst 236 dX9_init_235 rfl ?_
  refine N_iast (k := 25) (N := 4) 237 _ dX9_init_236 rfl rfl (by decide) (by decide) rfl ?_
  refine N_iinc (k := 0) (x := 0) 240 [(1, vi (0 + 1)), (0, .ref h0)] dX9_init_237 rfl rfl (by decide) rfl ?_
  rw [show ((0 : Int) + 1) = 1 from rfl]
  refine N_goto 225 dX9_init_240 rfl ?_
  refine N_iload 226 dX9_init_225 rfl rfl (List.mem_of_getElem? (i := 0) rfl) ?_
  refine N_iconst 227 dX9_init_226 rfl ?_
  refine N_ge 243 230 dX9_init_227 rfl rfl (by decide) (by decide) (fun h => absurd h (by decide)) (fun _ => ?_)
  refine N_aload 231 dX9_init_230 rfl rfl (List.mem_of_getElem? (i := 1) rfl) ?_
  refine N_getA (q := q24) 234 dX9_init_231 rfl fX9_82 rfl rfl ?_
  refine N_iload 235 dX9_init_234 rfl rfl (List.mem_of_getElem? (i := 0) rfl) ?_
  refine N_iconst 236 dX9_init_235 rfl ?_
  refine N_iast (k := 25) (N := 4) 237 _ dX9_init_236 rfl rfl (by decide) (by decide) rfl ?_
  refine N_iinc (k := 0) (x := 1) 240 [(1, vi (1 + 1)), (0, .ref h0)] dX9_init_237 rfl rfl (by decide) rfl ?_
  rw [show ((1 : Int) + 1) = 2 from rfl]
  refine N_goto 225 dX9_init_240 rfl ?_
  refine N_iload 226 dX9_init_225 rfl rfl (List.mem_of_getElem? (i := 0) rfl) ?_
  refine N_iconst 227 dX9_init_226 rfl ?_
  refine N_ge 243 230 dX9_init_227 rfl rfl (by decide) (by decide) (fun h => absurd h (by decide)) (fun _ => ?_)
  refine N_aload 231 dX9_init_230 rfl rfl (List.mem_of_getElem? (i := 1) rfl) ?_
  refine N_getA (q := q24) 234 dX9_init_231 rfl fX9_82 rfl rfl ?_
  refine N_iload 235 dX9_init_234 rfl rfl (List.mem_of_getElem? (i := 0) rfl) ?_
  refine N_iconst 236 dX9_init_235 rfl ?_
  refine N_iast (k := 25) (N := 4) 237 _ dX9_init_236 rfl rfl (by decide) (by decide) rfl ?_
  refine N_iinc (k := 0) (x := 2) 240 [(1, vi (2 + 1)), (0, .ref h0)] dX9_init_237 rfl rfl (by decide) rfl ?_
  rw [show ((2 : Int) + 1) = 3 from rfl]
  refine N_goto 225 dX9_init_240 rfl ?_
  refine N_iload 226 dX9_init_225 rfl rfl (List.mem_of_getElem? (i := 0) rfl) ?_
  refine N_iconst 227 dX9_init_226 rfl ?_
  refine N_ge 243 230 dX9_init_227 rfl rfl (by decide) (by decide) (fun h => absurd h (by decide)) (fun _ => ?_)
  refine N_aload 231 dX9_init_230 rfl rfl (List.mem_of_getElem? (i := 1) rfl) ?_
  refine N_getA (q := q24) 234 dX9_init_231 rfl fX9_82 rfl rfl ?_
  refine N_iload 235 dX9_init_234 rfl rfl (List.mem_of_getElem? (i := 0) rfl) ?_
  refine N_iconst 236 dX9_init_235 rfl ?_
  refine N_iast (k := 25) (N := 4) 237 _ dX9_init_236 rfl rfl (by decide) (by decide) rfl ?_
  refine N_iinc (k := 0) (x := 3) 240 [(1, vi (3 + 1)), (0, .ref h0)] dX9_init_237 rfl rfl (by decide) rfl ?_
  rw [show ((3 : Int) + 1) = 4 from rfl]
  refine N_goto 225 dX9_init_240 rfl ?_
  refine N_iload 226 dX9_init_225 rfl rfl (List.mem_of_getElem? (i := 0) rfl) ?_
  refine N_iconst 227 dX9_init_226 rfl ?_
  refine N_ge 243 230 dX9_init_227 rfl rfl (by decide) (by decide) (fun _ => ?_) (fun h => absurd (by decide) h)
  obtain ⟨ad, had⟩ : ∃ ad : Nat → Nat, ad = fun i => [h0, q0, q1, q2, q3, q4, q5, q6, q7, q8, q9, q10, q11, q12, q13, q14, q15, q16, q17, q18, q19, q20, q21, q22, q23, q24, q25, q26, q27].getD (i - 36) 0 := ⟨_, rfl⟩
  refine N_eqv (k := 25) (a := q24) (.inl (cI, 4, .inl (fun _ => iI (-1)))) rfl (fun H h => ?_) ?_
  · refine Eq.trans h (congrArg some (arrV_cong (fun j hj => ?_)))
    rcases (show j = 0 ∨ j = 1 ∨ j = 2 ∨ j = 3 by omega) with rfl | rfl | rfl | rfl <;> rfl
  · refine N_ret dX9_init_243 rfl (by decide) (by decide) ⟨ad, by rw [had]; rfl, ?_⟩
    subst had
    rfl
end CT
