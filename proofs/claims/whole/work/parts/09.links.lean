theorem mX0_forget : jM RX0 yX0_forget cX0_forget 2 (none) 0 := ⟨jw_c2 (i := 34) (by decide +kernel) rfl, jw_c2 (i := 35) (by decide +kernel) rfl, jw_c1 (i := 4) (by decide +kernel) rfl, jw_c2 (i := 36) (by decide +kernel) rfl, ⟨by decide +kernel, by decide +kernel, by decide +kernel⟩, by decide⟩
theorem mX0_turn : jM RX0 yX0_turn cX0_turn 3 (some .int) 2 := ⟨jw_c2 (i := 183) (by decide +kernel) rfl, jw_c2 (i := 184) (by decide +kernel) rfl, jw_c1 (i := 4) (by decide +kernel) rfl, jw_c2 (i := 185) (by decide +kernel) rfl, ⟨by decide +kernel, by decide +kernel, by decide +kernel⟩, by decide⟩
theorem mX0_stepsBetween : jM RX0 yX0_stepsBetween cX0_stepsBetween 5 (some .int) 2 := ⟨jw_c2 (i := 191) (by decide +kernel) rfl, jw_c2 (i := 192) (by decide +kernel) rfl, jw_c1 (i := 4) (by decide +kernel) rfl, jw_c2 (i := 193) (by decide +kernel) rfl, ⟨by decide +kernel, by decide +kernel, by decide +kernel⟩, by decide⟩
theorem mX0_knownToAnyOf : jM RX0 yX0_knownToAnyOf cX0_knownToAnyOf 4 (some .int) 1 := ⟨jw_c2 (i := 196) (by decide +kernel) rfl, jw_p (i := 8) (q := (⟨"LoafGates$Circle", "knownToAnyOf", "(I)I"⟩, 1)) (by decide +kernel) rfl, jw_c1 (i := 4) (by decide +kernel) rfl, jw_c2 (i := 197) (by decide +kernel) rfl, ⟨by decide +kernel, by decide +kernel, by decide +kernel⟩, by decide⟩
theorem mX1_fewestSteps : jM RX1 yX1_fewestSteps cX1_fewestSteps 4 (some .int) 2 := ⟨jw_c3 (i := 34) (by decide +kernel) rfl, jw_c3 (i := 35) (by decide +kernel) rfl, jw_c1 (i := 5) (by decide +kernel) rfl, jw_c3 (i := 36) (by decide +kernel) rfl, ⟨by decide +kernel, by decide +kernel, by decide +kernel⟩, by decide⟩
theorem mX1_fewestFrom : jMs yX1_fewestFrom cX1_fewestFrom 8 (some .int) 4 := ⟨jw_c3 (i := 42) (by decide +kernel) rfl, jw_c1 (i := 5) (by decide +kernel) rfl, jw_c3 (i := 43) (by decide +kernel) rfl, ⟨by decide +kernel, by decide +kernel, by decide +kernel⟩, by decide⟩
theorem mX2_seek : jM RX2 yX2_seek cX2_seek 6 (none) 1 := ⟨jw_c3 (i := 11) (by decide +kernel) rfl, jw_c3 (i := 12) (by decide +kernel) rfl, jw_c1 (i := 6) (by decide +kernel) rfl, jw_c3 (i := 13) (by decide +kernel) rfl, ⟨by decide +kernel, by decide +kernel, by decide +kernel⟩, by decide⟩
theorem mX2_mostAt : jMs yX2_mostAt cX2_mostAt 2 (some .int) 2 := ⟨jw_c3 (i := 19) (by decide +kernel) rfl, jw_c1 (i := 6) (by decide +kernel) rfl, jw_c3 (i := 20) (by decide +kernel) rfl, ⟨by decide +kernel, by decide +kernel, by decide +kernel⟩, by decide⟩
theorem mX2_weigh : jM RX2 yX2_weigh cX2_weigh 6 (none) 4 := ⟨jw_c3 (i := 24) (by decide +kernel) rfl, jw_p (i := 11) (q := (⟨"LoafGates$Parting", "weigh", "(LLoafGates$Winter;III)V"⟩, 2)) (by decide +kernel) rfl, jw_c1 (i := 6) (by decide +kernel) rfl, jw_c3 (i := 25) (by decide +kernel) rfl, ⟨by decide +kernel, by decide +kernel, by decide +kernel⟩, by decide⟩
theorem mX3_note : jM RX3 yX3_note cX3_note 3 (some .int) 2 := ⟨jw_c3 (i := 75) (by decide +kernel) rfl, jw_c3 (i := 76) (by decide +kernel) rfl, jw_c1 (i := 8) (by decide +kernel) rfl, jw_c3 (i := 77) (by decide +kernel) rfl, ⟨by decide +kernel, by decide +kernel, by decide +kernel⟩, by decide⟩
theorem mX3_areSoIn : jM RX3 yX3_areSoIn cX3_areSoIn 3 (some .boolean) 1 := ⟨jw_c3 (i := 87) (by decide +kernel) rfl, jw_c3 (i := 88) (by decide +kernel) rfl, jw_c1 (i := 8) (by decide +kernel) rfl, jw_c3 (i := 89) (by decide +kernel) rfl, ⟨by decide +kernel, by decide +kernel, by decide +kernel⟩, by decide⟩
theorem mX4_follow : jM RX4 yX4_follow cX4_follow 4 (none) 1 := ⟨jw_c3 (i := 50) (by decide +kernel) rfl, jw_c3 (i := 51) (by decide +kernel) rfl, jw_c1 (i := 7) (by decide +kernel) rfl, jw_c3 (i := 52) (by decide +kernel) rfl, ⟨by decide +kernel, by decide +kernel, by decide +kernel⟩, by decide⟩
theorem mX4_firstLike : jM RX4 yX4_firstLike cX4_firstLike 3 (some .int) 1 := ⟨jw_c3 (i := 59) (by decide +kernel) rfl, jw_p (i := 12) (q := (⟨"LoafGates$Settling", "firstLike", "(I)I"⟩, 3)) (by decide +kernel) rfl, jw_c1 (i := 7) (by decide +kernel) rfl, jw_c3 (i := 60) (by decide +kernel) rfl, ⟨by decide +kernel, by decide +kernel, by decide +kernel⟩, by decide⟩
theorem mX5_hasRow : jM RX5 yX5_hasRow cX5_hasRow 1 (some .boolean) 0 := ⟨jw_c1 (i := 225) (by decide +kernel) rfl, jw_c1 (i := 226) (by decide +kernel) rfl, jw_c1 (i := 9) (by decide +kernel) rfl, jw_c1 (i := 227) (by decide +kernel) rfl, ⟨by decide +kernel, by decide +kernel, by decide +kernel⟩, by decide⟩
theorem mX5_drop : jM RX5 yX5_drop cX5_drop 1 (none) 0 := ⟨jw_c3 (i := 125) (by decide +kernel) rfl, jw_c3 (i := 126) (by decide +kernel) rfl, jw_c1 (i := 9) (by decide +kernel) rfl, jw_c3 (i := 127) (by decide +kernel) rfl, ⟨by decide +kernel, by decide +kernel, by decide +kernel⟩, by decide⟩
theorem mX5_renew : jM RX5 yX5_renew cX5_renew 4 (none) 2 := ⟨jw_c3 (i := 116) (by decide +kernel) rfl, jw_c3 (i := 117) (by decide +kernel) rfl, jw_c1 (i := 9) (by decide +kernel) rfl, jw_c3 (i := 118) (by decide +kernel) rfl, ⟨by decide +kernel, by decide +kernel, by decide +kernel⟩, by decide⟩
theorem mX5_hasCells : jM RX5 yX5_hasCells cX5_hasCells 3 (some .boolean) 2 := ⟨jw_c1 (i := 229) (by decide +kernel) rfl, jw_c1 (i := 230) (by decide +kernel) rfl, jw_c1 (i := 9) (by decide +kernel) rfl, jw_c1 (i := 231) (by decide +kernel) rfl, ⟨by decide +kernel, by decide +kernel, by decide +kernel⟩, by decide⟩
theorem mX5_faultAs : jM RX5 yX5_faultAs cX5_faultAs 4 (some .int) 3 := ⟨jw_c1 (i := 221) (by decide +kernel) rfl, jw_c1 (i := 222) (by decide +kernel) rfl, jw_c1 (i := 9) (by decide +kernel) rfl, jw_c1 (i := 223) (by decide +kernel) rfl, ⟨by decide +kernel, by decide +kernel, by decide +kernel⟩, by decide⟩
theorem mX5_cut : jM RX5 yX5_cut cX5_cut 2 (some .int) 1 := ⟨jw_c3 (i := 134) (by decide +kernel) rfl, jw_c3 (i := 135) (by decide +kernel) rfl, jw_c1 (i := 9) (by decide +kernel) rfl, jw_c3 (i := 136) (by decide +kernel) rfl, ⟨by decide +kernel, by decide +kernel, by decide +kernel⟩, by decide⟩
theorem mX6_read : jM RX6 yX6_read cX6_read 7 (some .int) 4 := ⟨jw_c1 (i := 237) (by decide +kernel) rfl, jw_c1 (i := 238) (by decide +kernel) rfl, jw_c1 (i := 3) (by decide +kernel) rfl, jw_c1 (i := 239) (by decide +kernel) rfl, ⟨by decide +kernel, by decide +kernel, by decide +kernel⟩, by decide⟩
theorem mX6_stepBehind : jMs yX6_stepBehind cX6_stepBehind 3 (some .int) 3 := ⟨jw_c2 (i := 5) (by decide +kernel) rfl, jw_c1 (i := 3) (by decide +kernel) rfl, jw_c2 (i := 6) (by decide +kernel) rfl, ⟨by decide +kernel, by decide +kernel, by decide +kernel⟩, by decide⟩
theorem mX6_behindGate : jMs yX6_behindGate cX6_behindGate 2 (some .int) 2 := ⟨jw_c2 (i := 14) (by decide +kernel) rfl, jw_c1 (i := 3) (by decide +kernel) rfl, jw_c2 (i := 15) (by decide +kernel) rfl, ⟨by decide +kernel, by decide +kernel, by decide +kernel⟩, by decide⟩
theorem mX6_takeLoaves : jMs yX6_takeLoaves cX6_takeLoaves 3 (some .int) 2 := ⟨jw_c2 (i := 8) (by decide +kernel) rfl, jw_c1 (i := 3) (by decide +kernel) rfl, jw_c2 (i := 9) (by decide +kernel) rfl, ⟨by decide +kernel, by decide +kernel, by decide +kernel⟩, by decide⟩
theorem mX6_takeOfComer : jMs yX6_takeOfComer cX6_takeOfComer 5 (some .int) 3 := ⟨jw_c2 (i := 17) (by decide +kernel) rfl, jw_c1 (i := 3) (by decide +kernel) rfl, jw_c2 (i := 18) (by decide +kernel) rfl, ⟨by decide +kernel, by decide +kernel, by decide +kernel⟩, by decide⟩
theorem mX6_kindOf : jMs yX6_kindOf cX6_kindOf 1 (some .int) 1 := ⟨jw_c2 (i := 20) (by decide +kernel) rfl, jw_c1 (i := 3) (by decide +kernel) rfl, jw_c2 (i := 21) (by decide +kernel) rfl, ⟨by decide +kernel, by decide +kernel, by decide +kernel⟩, by decide⟩
theorem mX6_digitOf : jMs yX6_digitOf cX6_digitOf 1 (some .int) 1 := ⟨jw_c2 (i := 11) (by decide +kernel) rfl, jw_c1 (i := 3) (by decide +kernel) rfl, jw_c2 (i := 12) (by decide +kernel) rfl, ⟨by decide +kernel, by decide +kernel, by decide +kernel⟩, by decide⟩
theorem mX7_stands : jM RX7 yX7_stands cX7_stands 1 (some .boolean) 0 := ⟨jw_c2 (i := 119) (by decide +kernel) rfl, jw_c2 (i := 120) (by decide +kernel) rfl, jw_c1 (i := 2) (by decide +kernel) rfl, jw_c2 (i := 121) (by decide +kernel) rfl, ⟨by decide +kernel, by decide +kernel, by decide +kernel⟩, by decide⟩
theorem mX7_hasGate : jM RX7 yX7_hasGate cX7_hasGate 2 (some .boolean) 1 := ⟨jw_c2 (i := 23) (by decide +kernel) rfl, jw_c2 (i := 24) (by decide +kernel) rfl, jw_c1 (i := 2) (by decide +kernel) rfl, jw_c2 (i := 25) (by decide +kernel) rfl, ⟨by decide +kernel, by decide +kernel, by decide +kernel⟩, by decide⟩
theorem mX7_hasComer : jM RX7 yX7_hasComer cX7_hasComer 2 (some .boolean) 1 := ⟨jw_c2 (i := 42) (by decide +kernel) rfl, jw_c2 (i := 43) (by decide +kernel) rfl, jw_c1 (i := 2) (by decide +kernel) rfl, jw_c2 (i := 44) (by decide +kernel) rfl, ⟨by decide +kernel, by decide +kernel, by decide +kernel⟩, by decide⟩
theorem mX7_begin : jM RX7 yX7_begin cX7_begin 1 (none) 0 := ⟨jw_c2 (i := 1) (by decide +kernel) rfl, jw_c2 (i := 2) (by decide +kernel) rfl, jw_c1 (i := 2) (by decide +kernel) rfl, jw_c2 (i := 3) (by decide +kernel) rfl, ⟨by decide +kernel, by decide +kernel, by decide +kernel⟩, by decide⟩
theorem mX7_become : jM RX7 yX7_become cX7_become 2 (none) 1 := ⟨jw_c2 (i := 27) (by decide +kernel) rfl, jw_c2 (i := 28) (by decide +kernel) rfl, jw_c1 (i := 2) (by decide +kernel) rfl, jw_c2 (i := 29) (by decide +kernel) rfl, ⟨by decide +kernel, by decide +kernel, by decide +kernel⟩, by decide⟩
theorem mX7_look : jM RX7 yX7_look cX7_look 4 (some .int) 1 := ⟨jw_c2 (i := 46) (by decide +kernel) rfl, jw_c2 (i := 47) (by decide +kernel) rfl, jw_c1 (i := 2) (by decide +kernel) rfl, jw_c2 (i := 48) (by decide +kernel) rfl, ⟨by decide +kernel, by decide +kernel, by decide +kernel⟩, by decide⟩
theorem mX7_rank : jM RX7 yX7_rank cX7_rank 3 (some .int) 1 := ⟨jw_c2 (i := 55) (by decide +kernel) rfl, jw_p (i := 1) (q := (⟨"LoafGates$Winter", "rank", "(I)I"⟩, 10)) (by decide +kernel) rfl, jw_c1 (i := 2) (by decide +kernel) rfl, jw_c2 (i := 56) (by decide +kernel) rfl, ⟨by decide +kernel, by decide +kernel, by decide +kernel⟩, by decide⟩
theorem mX7_placeOf : jM RX7 yX7_placeOf cX7_placeOf 5 (some .int) 1 := ⟨jw_c2 (i := 83) (by decide +kernel) rfl, jw_c2 (i := 84) (by decide +kernel) rfl, jw_c1 (i := 2) (by decide +kernel) rfl, jw_c2 (i := 85) (by decide +kernel) rfl, ⟨by decide +kernel, by decide +kernel, by decide +kernel⟩, by decide⟩
theorem mX7_eats : jM RX7 yX7_eats cX7_eats 5 (some .int) 1 := ⟨jw_c2 (i := 50) (by decide +kernel) rfl, jw_c2 (i := 51) (by decide +kernel) rfl, jw_c1 (i := 2) (by decide +kernel) rfl, jw_c2 (i := 52) (by decide +kernel) rfl, ⟨by decide +kernel, by decide +kernel, by decide +kernel⟩, by decide⟩
theorem mX7_starving : jM RX7 yX7_starving cX7_starving 3 (some .int) 0 := ⟨jw_c2 (i := 65) (by decide +kernel) rfl, jw_c2 (i := 66) (by decide +kernel) rfl, jw_c1 (i := 2) (by decide +kernel) rfl, jw_c2 (i := 67) (by decide +kernel) rfl, ⟨by decide +kernel, by decide +kernel, by decide +kernel⟩, by decide⟩
theorem mX7_crowdedOutBy : jM RX7 yX7_crowdedOutBy cX7_crowdedOutBy 2 (some .int) 1 := ⟨jw_c2 (i := 70) (by decide +kernel) rfl, jw_c2 (i := 71) (by decide +kernel) rfl, jw_c1 (i := 2) (by decide +kernel) rfl, jw_c2 (i := 72) (by decide +kernel) rfl, ⟨by decide +kernel, by decide +kernel, by decide +kernel⟩, by decide⟩
theorem mX7_hungrierThan : jM RX7 yX7_hungrierThan cX7_hungrierThan 4 (some .int) 1 := ⟨jw_c2 (i := 80) (by decide +kernel) rfl, jw_p (i := 2) (q := (⟨"LoafGates$Winter", "hungrierThan", "(I)I"⟩, 10)) (by decide +kernel) rfl, jw_c1 (i := 2) (by decide +kernel) rfl, jw_c2 (i := 81) (by decide +kernel) rfl, ⟨by decide +kernel, by decide +kernel, by decide +kernel⟩, by decide⟩
theorem mX7_comersAt : jM RX7 yX7_comersAt cX7_comersAt 4 (some .int) 1 := ⟨jw_c2 (i := 75) (by decide +kernel) rfl, jw_c2 (i := 76) (by decide +kernel) rfl, jw_c1 (i := 2) (by decide +kernel) rfl, jw_c2 (i := 77) (by decide +kernel) rfl, ⟨by decide +kernel, by decide +kernel, by decide +kernel⟩, by decide⟩
theorem mX7_leftAt : jM RX7 yX7_leftAt cX7_leftAt 4 (some .int) 1 := ⟨jw_c2 (i := 93) (by decide +kernel) rfl, jw_c2 (i := 94) (by decide +kernel) rfl, jw_c1 (i := 2) (by decide +kernel) rfl, jw_c2 (i := 95) (by decide +kernel) rfl, ⟨by decide +kernel, by decide +kernel, by decide +kernel⟩, by decide⟩
theorem mX7_allLeft : jM RX7 yX7_allLeft cX7_allLeft 3 (some .int) 0 := ⟨jw_c2 (i := 170) (by decide +kernel) rfl, jw_c2 (i := 171) (by decide +kernel) rfl, jw_c1 (i := 2) (by decide +kernel) rfl, jw_c2 (i := 172) (by decide +kernel) rfl, ⟨by decide +kernel, by decide +kernel, by decide +kernel⟩, by decide⟩
theorem mX7_allLoaves : jM RX7 yX7_allLoaves cX7_allLoaves 3 (some .int) 0 := ⟨jw_c3 (i := 15) (by decide +kernel) rfl, jw_c3 (i := 16) (by decide +kernel) rfl, jw_c1 (i := 2) (by decide +kernel) rfl, jw_c3 (i := 17) (by decide +kernel) rfl, ⟨by decide +kernel, by decide +kernel, by decide +kernel⟩, by decide⟩
theorem mX7_allLooks : jM RX7 yX7_allLooks cX7_allLooks 3 (some .int) 0 := ⟨jw_c2 (i := 175) (by decide +kernel) rfl, jw_c2 (i := 176) (by decide +kernel) rfl, jw_c1 (i := 2) (by decide +kernel) rfl, jw_c2 (i := 177) (by decide +kernel) rfl, ⟨by decide +kernel, by decide +kernel, by decide +kernel⟩, by decide⟩
theorem mX7_eaters : jM RX7 yX7_eaters cX7_eaters 3 (some .int) 0 := ⟨jw_c2 (i := 166) (by decide +kernel) rfl, jw_c2 (i := 167) (by decide +kernel) rfl, jw_c1 (i := 2) (by decide +kernel) rfl, jw_c2 (i := 168) (by decide +kernel) rfl, ⟨by decide +kernel, by decide +kernel, by decide +kernel⟩, by decide⟩
theorem mX7_hungryHeldFed : jM RX7 yX7_hungryHeldFed cX7_hungryHeldFed 4 (some .int) 1 := ⟨jw_c2 (i := 203) (by decide +kernel) rfl, jw_c2 (i := 204) (by decide +kernel) rfl, jw_c1 (i := 2) (by decide +kernel) rfl, jw_c2 (i := 205) (by decide +kernel) rfl, ⟨by decide +kernel, by decide +kernel, by decide +kernel⟩, by decide⟩
theorem mX7_fedNotHeldSo : jM RX7 yX7_fedNotHeldSo cX7_fedNotHeldSo 4 (some .int) 1 := ⟨jw_c2 (i := 207) (by decide +kernel) rfl, jw_c2 (i := 208) (by decide +kernel) rfl, jw_c1 (i := 2) (by decide +kernel) rfl, jw_c2 (i := 209) (by decide +kernel) rfl, ⟨by decide +kernel, by decide +kernel, by decide +kernel⟩, by decide⟩
theorem mX7_misheld : jM RX7 yX7_misheld cX7_misheld 2 (some .int) 1 := ⟨jw_c2 (i := 215) (by decide +kernel) rfl, jw_c2 (i := 216) (by decide +kernel) rfl, jw_c1 (i := 2) (by decide +kernel) rfl, jw_c2 (i := 217) (by decide +kernel) rfl, ⟨by decide +kernel, by decide +kernel, by decide +kernel⟩, by decide⟩
theorem mX7_passOn : jM RX7 yX7_passOn cX7_passOn 3 (none) 0 := ⟨jw_c3 (i := 62) (by decide +kernel) rfl, jw_c3 (i := 63) (by decide +kernel) rfl, jw_c1 (i := 2) (by decide +kernel) rfl, jw_c3 (i := 64) (by decide +kernel) rfl, ⟨by decide +kernel, by decide +kernel, by decide +kernel⟩, by decide⟩
theorem mX7_showsAsNumber : jM RX7 yX7_showsAsNumber cX7_showsAsNumber 3 (some .int) 0 := ⟨jw_c3 (i := 54) (by decide +kernel) rfl, jw_c3 (i := 55) (by decide +kernel) rfl, jw_c1 (i := 2) (by decide +kernel) rfl, jw_c3 (i := 56) (by decide +kernel) rfl, ⟨by decide +kernel, by decide +kernel, by decide +kernel⟩, by decide⟩
theorem mX7_mostToldWith : jMs yX7_mostToldWith cX7_mostToldWith 1 (some .int) 1 := ⟨jw_c2 (i := 137) (by decide +kernel) rfl, jw_c1 (i := 2) (by decide +kernel) rfl, jw_c2 (i := 138) (by decide +kernel) rfl, ⟨by decide +kernel, by decide +kernel, by decide +kernel⟩, by decide⟩
theorem mX7_perform : jM RX7 yX7_perform cX7_perform 3 (some .boolean) 2 := ⟨jw_c2 (i := 144) (by decide +kernel) rfl, jw_c2 (i := 145) (by decide +kernel) rfl, jw_c1 (i := 2) (by decide +kernel) rfl, jw_c2 (i := 146) (by decide +kernel) rfl, ⟨by decide +kernel, by decide +kernel, by decide +kernel⟩, by decide⟩
theorem mX7_changeShow : jM RX7 yX7_changeShow cX7_changeShow 3 (some .boolean) 2 := ⟨jw_c2 (i := 149) (by decide +kernel) rfl, jw_p (i := 4) (q := (⟨"LoafGates$Winter", "changeShow", "(II)Z"⟩, 10)) (by decide +kernel) rfl, jw_c1 (i := 2) (by decide +kernel) rfl, jw_c2 (i := 150) (by decide +kernel) rfl, ⟨by decide +kernel, by decide +kernel, by decide +kernel⟩, by decide⟩
theorem mX7_changeLoaves : jM RX7 yX7_changeLoaves cX7_changeLoaves 3 (some .boolean) 2 := ⟨jw_c2 (i := 159) (by decide +kernel) rfl, jw_p (i := 6) (q := (⟨"LoafGates$Winter", "changeLoaves", "(II)Z"⟩, 10)) (by decide +kernel) rfl, jw_c1 (i := 2) (by decide +kernel) rfl, jw_c2 (i := 160) (by decide +kernel) rfl, ⟨by decide +kernel, by decide +kernel, by decide +kernel⟩, by decide⟩
theorem mX7_changeGate : jM RX7 yX7_changeGate cX7_changeGate 3 (some .boolean) 2 := ⟨jw_c2 (i := 154) (by decide +kernel) rfl, jw_p (i := 5) (q := (⟨"LoafGates$Winter", "changeGate", "(II)Z"⟩, 10)) (by decide +kernel) rfl, jw_c1 (i := 2) (by decide +kernel) rfl, jw_c2 (i := 155) (by decide +kernel) rfl, ⟨by decide +kernel, by decide +kernel, by decide +kernel⟩, by decide⟩
theorem mX8_winter : jM RX8 yX8_winter cX8_winter 8 (some .int) 4 := ⟨jw_c1 (i := 211) (by decide +kernel) rfl, jw_c1 (i := 212) (by decide +kernel) rfl, jw_c1 (i := 1) (by decide +kernel) rfl, jw_c1 (i := 213) (by decide +kernel) rfl, ⟨by decide +kernel, by decide +kernel, by decide +kernel⟩, by decide⟩
theorem mX8_ofComer : jM RX8 yX8_ofComer cX8_ofComer 3 (some .int) 2 := ⟨jw_c2 (i := 38) (by decide +kernel) rfl, jw_c2 (i := 39) (by decide +kernel) rfl, jw_c1 (i := 1) (by decide +kernel) rfl, jw_c2 (i := 40) (by decide +kernel) rfl, ⟨by decide +kernel, by decide +kernel, by decide +kernel⟩, by decide⟩
theorem mX8_ofGate : jM RX8 yX8_ofGate cX8_ofGate 3 (some .int) 2 := ⟨jw_c2 (i := 87) (by decide +kernel) rfl, jw_c2 (i := 88) (by decide +kernel) rfl, jw_c1 (i := 1) (by decide +kernel) rfl, jw_c2 (i := 89) (by decide +kernel) rfl, ⟨by decide +kernel, by decide +kernel, by decide +kernel⟩, by decide⟩
theorem mX8_show : jM RX8 yX8_show cX8_show 4 (some .int) 2 := ⟨jw_c2 (i := 97) (by decide +kernel) rfl, jw_c2 (i := 98) (by decide +kernel) rfl, jw_c1 (i := 1) (by decide +kernel) rfl, jw_c2 (i := 99) (by decide +kernel) rfl, ⟨by decide +kernel, by decide +kernel, by decide +kernel⟩, by decide⟩
theorem mX8_lead : jM RX8 yX8_lead cX8_lead 4 (some .int) 2 := ⟨jw_c2 (i := 104) (by decide +kernel) rfl, jw_c2 (i := 105) (by decide +kernel) rfl, jw_c1 (i := 1) (by decide +kernel) rfl, jw_c2 (i := 106) (by decide +kernel) rfl, ⟨by decide +kernel, by decide +kernel, by decide +kernel⟩, by decide⟩
theorem mX8_bake : jM RX8 yX8_bake cX8_bake 4 (some .int) 2 := ⟨jw_c2 (i := 108) (by decide +kernel) rfl, jw_c2 (i := 109) (by decide +kernel) rfl, jw_c1 (i := 1) (by decide +kernel) rfl, jw_c2 (i := 110) (by decide +kernel) rfl, ⟨by decide +kernel, by decide +kernel, by decide +kernel⟩, by decide⟩
theorem mX8_manner : jM RX8 yX8_manner cX8_manner 3 (some .int) 1 := ⟨jw_c2 (i := 112) (by decide +kernel) rfl, jw_c2 (i := 113) (by decide +kernel) rfl, jw_c1 (i := 1) (by decide +kernel) rfl, jw_c2 (i := 114) (by decide +kernel) rfl, ⟨by decide +kernel, by decide +kernel, by decide +kernel⟩, by decide⟩
theorem mX8_chalk : jM RX8 yX8_chalk cX8_chalk 3 (some .int) 1 := ⟨jw_c2 (i := 123) (by decide +kernel) rfl, jw_c2 (i := 124) (by decide +kernel) rfl, jw_c1 (i := 1) (by decide +kernel) rfl, jw_c2 (i := 125) (by decide +kernel) rfl, ⟨by decide +kernel, by decide +kernel, by decide +kernel⟩, by decide⟩
theorem mX8_day : jM RX8 yX8_day cX8_day 9 (some .int) 5 := ⟨jw_c2 (i := 127) (by decide +kernel) rfl, jw_c2 (i := 128) (by decide +kernel) rfl, jw_c1 (i := 1) (by decide +kernel) rfl, jw_c2 (i := 129) (by decide +kernel) rfl, ⟨by decide +kernel, by decide +kernel, by decide +kernel⟩, by decide⟩
theorem mX8_know : jM RX8 yX8_know cX8_know 3 (some .int) 2 := ⟨jw_c2 (i := 179) (by decide +kernel) rfl, jw_c2 (i := 180) (by decide +kernel) rfl, jw_c1 (i := 1) (by decide +kernel) rfl, jw_c2 (i := 181) (by decide +kernel) rfl, ⟨by decide +kernel, by decide +kernel, by decide +kernel⟩, by decide⟩
theorem mX8_far : jM RX8 yX8_far cX8_far 3 (some .int) 2 := ⟨jw_c2 (i := 187) (by decide +kernel) rfl, jw_c2 (i := 188) (by decide +kernel) rfl, jw_c1 (i := 1) (by decide +kernel) rfl, jw_c2 (i := 189) (by decide +kernel) rfl, ⟨by decide +kernel, by decide +kernel, by decide +kernel⟩, by decide⟩
theorem mX8_lantern : jM RX8 yX8_lantern cX8_lantern 3 (some .int) 2 := ⟨jw_c2 (i := 199) (by decide +kernel) rfl, jw_c2 (i := 200) (by decide +kernel) rfl, jw_c1 (i := 1) (by decide +kernel) rfl, jw_c2 (i := 201) (by decide +kernel) rfl, ⟨by decide +kernel, by decide +kernel, by decide +kernel⟩, by decide⟩
theorem mX8_best : jM RX8 yX8_best cX8_best 5 (some .int) 0 := ⟨jw_c2 (i := 211) (by decide +kernel) rfl, jw_c2 (i := 212) (by decide +kernel) rfl, jw_c1 (i := 1) (by decide +kernel) rfl, jw_c2 (i := 213) (by decide +kernel) rfl, ⟨by decide +kernel, by decide +kernel, by decide +kernel⟩, by decide⟩
theorem mX8_without : jM RX8 yX8_without cX8_without 3 (some .int) 1 := ⟨jw_c2 (i := 221) (by decide +kernel) rfl, jw_c2 (i := 222) (by decide +kernel) rfl, jw_c1 (i := 1) (by decide +kernel) rfl, jw_c2 (i := 223) (by decide +kernel) rfl, ⟨by decide +kernel, by decide +kernel, by decide +kernel⟩, by decide⟩
theorem mX8_gain : jM RX8 yX8_gain cX8_gain 4 (some .int) 1 := ⟨jw_c2 (i := 239) (by decide +kernel) rfl, jw_c3 (i := 0) (by decide +kernel) rfl, jw_c1 (i := 1) (by decide +kernel) rfl, jw_c3 (i := 1) (by decide +kernel) rfl, ⟨by decide +kernel, by decide +kernel, by decide +kernel⟩, by decide⟩
theorem mX8_needs : jM RX8 yX8_needs cX8_needs 3 (some .int) 1 := ⟨jw_c3 (i := 3) (by decide +kernel) rfl, jw_c3 (i := 4) (by decide +kernel) rfl, jw_c1 (i := 1) (by decide +kernel) rfl, jw_c3 (i := 5) (by decide +kernel) rfl, ⟨by decide +kernel, by decide +kernel, by decide +kernel⟩, by decide⟩
theorem mX8_parted : jM RX8 yX8_parted cX8_parted 2 (some .int) 1 := ⟨jw_c3 (i := 7) (by decide +kernel) rfl, jw_c3 (i := 8) (by decide +kernel) rfl, jw_c1 (i := 1) (by decide +kernel) rfl, jw_c3 (i := 9) (by decide +kernel) rfl, ⟨by decide +kernel, by decide +kernel, by decide +kernel⟩, by decide⟩
theorem mX8_given : jM RX8 yX8_given cX8_given 1 (some .int) 0 := ⟨jw_c3 (i := 30) (by decide +kernel) rfl, jw_c3 (i := 31) (by decide +kernel) rfl, jw_c1 (i := 1) (by decide +kernel) rfl, jw_c3 (i := 32) (by decide +kernel) rfl, ⟨by decide +kernel, by decide +kernel, by decide +kernel⟩, by decide⟩
theorem mX8_settles : jM RX8 yX8_settles cX8_settles 2 (some .int) 1 := ⟨jw_c3 (i := 46) (by decide +kernel) rfl, jw_c3 (i := 47) (by decide +kernel) rfl, jw_c1 (i := 1) (by decide +kernel) rfl, jw_c3 (i := 48) (by decide +kernel) rfl, ⟨by decide +kernel, by decide +kernel, by decide +kernel⟩, by decide⟩
theorem mX8_more : jM RX8 yX8_more cX8_more 3 (some .int) 1 := ⟨jw_c3 (i := 66) (by decide +kernel) rfl, jw_c3 (i := 67) (by decide +kernel) rfl, jw_c1 (i := 1) (by decide +kernel) rfl, jw_c3 (i := 68) (by decide +kernel) rfl, ⟨by decide +kernel, by decide +kernel, by decide +kernel⟩, by decide⟩
theorem mX8_reading : jM RX8 yX8_reading cX8_reading 3 (some .int) 2 := ⟨jw_c3 (i := 71) (by decide +kernel) rfl, jw_c3 (i := 72) (by decide +kernel) rfl, jw_c1 (i := 1) (by decide +kernel) rfl, jw_c3 (i := 73) (by decide +kernel) rfl, ⟨by decide +kernel, by decide +kernel, by decide +kernel⟩, by decide⟩
theorem mX8_back : jM RX8 yX8_back cX8_back 2 (some .int) 1 := ⟨jw_c3 (i := 79) (by decide +kernel) rfl, jw_c3 (i := 80) (by decide +kernel) rfl, jw_c1 (i := 1) (by decide +kernel) rfl, jw_c3 (i := 81) (by decide +kernel) rfl, ⟨by decide +kernel, by decide +kernel, by decide +kernel⟩, by decide⟩
theorem mX8_kinds : jM RX8 yX8_kinds cX8_kinds 4 (some .int) 1 := ⟨jw_c3 (i := 83) (by decide +kernel) rfl, jw_c3 (i := 84) (by decide +kernel) rfl, jw_c1 (i := 1) (by decide +kernel) rfl, jw_c3 (i := 85) (by decide +kernel) rfl, ⟨by decide +kernel, by decide +kernel, by decide +kernel⟩, by decide⟩
theorem mX8_shows : jM RX8 yX8_shows cX8_shows 4 (some .int) 1 := ⟨jw_c3 (i := 92) (by decide +kernel) rfl, jw_c3 (i := 93) (by decide +kernel) rfl, jw_c1 (i := 1) (by decide +kernel) rfl, jw_c3 (i := 94) (by decide +kernel) rfl, ⟨by decide +kernel, by decide +kernel, by decide +kernel⟩, by decide⟩
theorem mX8_chalks : jM RX8 yX8_chalks cX8_chalks 3 (some .int) 0 := ⟨jw_c3 (i := 96) (by decide +kernel) rfl, jw_c3 (i := 97) (by decide +kernel) rfl, jw_c1 (i := 1) (by decide +kernel) rfl, jw_c3 (i := 98) (by decide +kernel) rfl, ⟨by decide +kernel, by decide +kernel, by decide +kernel⟩, by decide⟩
theorem mX8_odds : jM RX8 yX8_odds cX8_odds 6 (some .long) 2 := ⟨jw_c3 (i := 100) (by decide +kernel) rfl, jw_c3 (i := 101) (by decide +kernel) rfl, jw_c1 (i := 1) (by decide +kernel) rfl, jw_c3 (i := 102) (by decide +kernel) rfl, ⟨by decide +kernel, by decide +kernel, by decide +kernel⟩, by decide⟩
theorem mX8_sheet : jM RX8 yX8_sheet cX8_sheet 4 (some .int) 3 := ⟨jw_c3 (i := 112) (by decide +kernel) rfl, jw_c3 (i := 113) (by decide +kernel) rfl, jw_c1 (i := 1) (by decide +kernel) rfl, jw_c3 (i := 114) (by decide +kernel) rfl, ⟨by decide +kernel, by decide +kernel, by decide +kernel⟩, by decide⟩
theorem mX8_lose : jM RX8 yX8_lose cX8_lose 3 (some .int) 1 := ⟨jw_c3 (i := 120) (by decide +kernel) rfl, jw_c3 (i := 121) (by decide +kernel) rfl, jw_c1 (i := 1) (by decide +kernel) rfl, jw_c3 (i := 122) (by decide +kernel) rfl, ⟨by decide +kernel, by decide +kernel, by decide +kernel⟩, by decide⟩
theorem mX8_put : jM RX8 yX8_put cX8_put 5 (some .int) 3 := ⟨jw_c3 (i := 129) (by decide +kernel) rfl, jw_c3 (i := 130) (by decide +kernel) rfl, jw_c1 (i := 1) (by decide +kernel) rfl, jw_c3 (i := 131) (by decide +kernel) rfl, ⟨by decide +kernel, by decide +kernel, by decide +kernel⟩, by decide⟩
theorem mX8_cell : jM RX8 yX8_cell cX8_cell 4 (some .long) 3 := ⟨jw_c3 (i := 138) (by decide +kernel) rfl, jw_c3 (i := 139) (by decide +kernel) rfl, jw_c1 (i := 1) (by decide +kernel) rfl, jw_c3 (i := 140) (by decide +kernel) rfl, ⟨by decide +kernel, by decide +kernel, by decide +kernel⟩, by decide⟩
theorem mX8_copy : jM RX8 yX8_copy cX8_copy 8 (some .int) 5 := ⟨jw_c3 (i := 142) (by decide +kernel) rfl, jw_c3 (i := 143) (by decide +kernel) rfl, jw_c1 (i := 1) (by decide +kernel) rfl, jw_c3 (i := 144) (by decide +kernel) rfl, ⟨by decide +kernel, by decide +kernel, by decide +kernel⟩, by decide⟩
theorem mX8_tell : jM RX8 yX8_tell cX8_tell 2 (some .int) 1 := ⟨jw_c3 (i := 147) (by decide +kernel) rfl, jw_c3 (i := 148) (by decide +kernel) rfl, jw_c1 (i := 1) (by decide +kernel) rfl, jw_c3 (i := 149) (by decide +kernel) rfl, ⟨by decide +kernel, by decide +kernel, by decide +kernel⟩, by decide⟩
theorem mX8_greet : jM RX8 yX8_greet cX8_greet 2 (some .int) 1 := ⟨jw_c3 (i := 167) (by decide +kernel) rfl, jw_c3 (i := 168) (by decide +kernel) rfl, jw_c1 (i := 1) (by decide +kernel) rfl, jw_c3 (i := 169) (by decide +kernel) rfl, ⟨by decide +kernel, by decide +kernel, by decide +kernel⟩, by decide⟩
theorem mX8_as : jM RX8 yX8_as cX8_as 3 (some .int) 2 := ⟨jw_c3 (i := 179) (by decide +kernel) rfl, jw_c3 (i := 180) (by decide +kernel) rfl, jw_c1 (i := 1) (by decide +kernel) rfl, jw_c3 (i := 181) (by decide +kernel) rfl, ⟨by decide +kernel, by decide +kernel, by decide +kernel⟩, by decide⟩
theorem mX8_trace : jM RX8 yX8_trace cX8_trace 1 (some .int) 0 := ⟨jw_c3 (i := 183) (by decide +kernel) rfl, jw_c3 (i := 184) (by decide +kernel) rfl, jw_c1 (i := 1) (by decide +kernel) rfl, jw_c3 (i := 185) (by decide +kernel) rfl, ⟨by decide +kernel, by decide +kernel, by decide +kernel⟩, by decide⟩
theorem mX8_fault : jM RX8 yX8_fault cX8_fault 1 (some .int) 0 := ⟨jw_c3 (i := 187) (by decide +kernel) rfl, jw_c3 (i := 188) (by decide +kernel) rfl, jw_c1 (i := 1) (by decide +kernel) rfl, jw_c3 (i := 189) (by decide +kernel) rfl, ⟨by decide +kernel, by decide +kernel, by decide +kernel⟩, by decide⟩
theorem mX8_many : jM RX8 yX8_many cX8_many 2 (some .int) 1 := ⟨jw_c3 (i := 191) (by decide +kernel) rfl, jw_c3 (i := 192) (by decide +kernel) rfl, jw_c1 (i := 1) (by decide +kernel) rfl, jw_c3 (i := 193) (by decide +kernel) rfl, ⟨by decide +kernel, by decide +kernel, by decide +kernel⟩, by decide⟩
theorem mX8_faulted : jM RX8 yX8_faulted cX8_faulted 2 (some .int) 1 := ⟨jw_c1 (i := 234) (by decide +kernel) rfl, jw_p (i := 0) (q := (⟨"LoafGates", "faulted", "(I)I"⟩, 11)) (by decide +kernel) rfl, jw_c1 (i := 1) (by decide +kernel) rfl, jw_c1 (i := 235) (by decide +kernel) rfl, ⟨by decide +kernel, by decide +kernel, by decide +kernel⟩, by decide⟩
theorem mX8_isSheet : jMs yX8_isSheet cX8_isSheet 1 (some .boolean) 1 := ⟨jw_c1 (i := 215) (by decide +kernel) rfl, jw_c1 (i := 1) (by decide +kernel) rfl, jw_c1 (i := 216) (by decide +kernel) rfl, ⟨by decide +kernel, by decide +kernel, by decide +kernel⟩, by decide⟩
theorem mX8_isLane : jMs yX8_isLane cX8_isLane 1 (some .boolean) 1 := ⟨jw_c1 (i := 218) (by decide +kernel) rfl, jw_c1 (i := 1) (by decide +kernel) rfl, jw_c1 (i := 219) (by decide +kernel) rfl, ⟨by decide +kernel, by decide +kernel, by decide +kernel⟩, by decide⟩
theorem mX8_isDigit : jMs yX8_isDigit cX8_isDigit 1 (some .boolean) 1 := ⟨jw_c2 (i := 101) (by decide +kernel) rfl, jw_c1 (i := 1) (by decide +kernel) rfl, jw_c2 (i := 102) (by decide +kernel) rfl, ⟨by decide +kernel, by decide +kernel, by decide +kernel⟩, by decide⟩
theorem mX8_isManner : jMs yX8_isManner cX8_isManner 1 (some .boolean) 1 := ⟨jw_c2 (i := 116) (by decide +kernel) rfl, jw_c1 (i := 1) (by decide +kernel) rfl, jw_c2 (i := 117) (by decide +kernel) rfl, ⟨by decide +kernel, by decide +kernel, by decide +kernel⟩, by decide⟩
theorem mX8_isAskedOfDay : jMs yX8_isAskedOfDay cX8_isAskedOfDay 1 (some .boolean) 1 := ⟨jw_c2 (i := 131) (by decide +kernel) rfl, jw_c1 (i := 1) (by decide +kernel) rfl, jw_c2 (i := 132) (by decide +kernel) rfl, ⟨by decide +kernel, by decide +kernel, by decide +kernel⟩, by decide⟩
theorem mX8_arePairsAsTold : jMs yX8_arePairsAsTold cX8_arePairsAsTold 5 (some .boolean) 3 := ⟨jw_c2 (i := 134) (by decide +kernel) rfl, jw_c1 (i := 1) (by decide +kernel) rfl, jw_c2 (i := 135) (by decide +kernel) rfl, ⟨by decide +kernel, by decide +kernel, by decide +kernel⟩, by decide⟩
theorem mX8_playDay : jM RX8 yX8_playDay cX8_playDay 5 (some .int) 3 := ⟨jw_c2 (i := 141) (by decide +kernel) rfl, jw_p (i := 3) (q := (⟨"LoafGates", "playDay", "(LLoafGates$Sheet;II)I"⟩, 11)) (by decide +kernel) rfl, jw_c1 (i := 1) (by decide +kernel) rfl, jw_c2 (i := 142) (by decide +kernel) rfl, ⟨by decide +kernel, by decide +kernel, by decide +kernel⟩, by decide⟩
theorem mX8_ofDayPlayed : jM RX8 yX8_ofDayPlayed cX8_ofDayPlayed 2 (some .int) 1 := ⟨jw_c2 (i := 163) (by decide +kernel) rfl, jw_p (i := 7) (q := (⟨"LoafGates", "ofDayPlayed", "(I)I"⟩, 11)) (by decide +kernel) rfl, jw_c1 (i := 1) (by decide +kernel) rfl, jw_c2 (i := 164) (by decide +kernel) rfl, ⟨by decide +kernel, by decide +kernel, by decide +kernel⟩, by decide⟩
theorem mX8_starvingByManner : jM RX8 yX8_starvingByManner cX8_starvingByManner 2 (some .int) 1 := ⟨jw_c2 (i := 226) (by decide +kernel) rfl, jw_p (i := 9) (q := (⟨"LoafGates", "starvingByManner", "(I)I"⟩, 11)) (by decide +kernel) rfl, jw_c1 (i := 1) (by decide +kernel) rfl, jw_c2 (i := 227) (by decide +kernel) rfl, ⟨by decide +kernel, by decide +kernel, by decide +kernel⟩, by decide⟩
theorem mX8_mannerOfFewest : jM RX8 yX8_mannerOfFewest cX8_mannerOfFewest 5 (some .int) 0 := ⟨jw_c2 (i := 236) (by decide +kernel) rfl, jw_p (i := 10) (q := (⟨"LoafGates", "mannerOfFewest", "()I"⟩, 11)) (by decide +kernel) rfl, jw_c1 (i := 1) (by decide +kernel) rfl, jw_c2 (i := 237) (by decide +kernel) rfl, ⟨by decide +kernel, by decide +kernel, by decide +kernel⟩, by decide⟩
theorem mX8_waysToEat : jM RX8 yX8_waysToEat cX8_waysToEat 5 (some .int) 1 := ⟨jw_c3 (i := 106) (by decide +kernel) rfl, jw_p (i := 13) (q := (⟨"LoafGates", "waysToEat", "(I)I"⟩, 11)) (by decide +kernel) rfl, jw_c1 (i := 1) (by decide +kernel) rfl, jw_c3 (i := 107) (by decide +kernel) rfl, ⟨by decide +kernel, by decide +kernel, by decide +kernel⟩, by decide⟩
theorem mX8_greatestDivisor : jMs yX8_greatestDivisor cX8_greatestDivisor 3 (some .int) 2 := ⟨jw_c3 (i := 109) (by decide +kernel) rfl, jw_c1 (i := 1) (by decide +kernel) rfl, jw_c3 (i := 110) (by decide +kernel) rfl, ⟨by decide +kernel, by decide +kernel, by decide +kernel⟩, by decide⟩
theorem mX8_leaveTrace : jM RX8 yX8_leaveTrace cX8_leaveTrace 2 (none) 1 := ⟨jw_c3 (i := 156) (by decide +kernel) rfl, jw_p (i := 15) (q := (⟨"LoafGates", "leaveTrace", "(I)V"⟩, 11)) (by decide +kernel) rfl, jw_c1 (i := 1) (by decide +kernel) rfl, jw_c3 (i := 157) (by decide +kernel) rfl, ⟨by decide +kernel, by decide +kernel, by decide +kernel⟩, by decide⟩
theorem mX8_tellPlain : jM RX8 yX8_tellPlain cX8_tellPlain 2 (some .int) 1 := ⟨jw_c3 (i := 164) (by decide +kernel) rfl, jw_p (i := 17) (q := (⟨"LoafGates", "tellPlain", "(I)I"⟩, 11)) (by decide +kernel) rfl, jw_c1 (i := 1) (by decide +kernel) rfl, jw_c3 (i := 165) (by decide +kernel) rfl, ⟨by decide +kernel, by decide +kernel, by decide +kernel⟩, by decide⟩
theorem mX8_tellChalked : jM RX8 yX8_tellChalked cX8_tellChalked 2 (some .int) 1 := ⟨jw_c3 (i := 160) (by decide +kernel) rfl, jw_p (i := 16) (q := (⟨"LoafGates", "tellChalked", "(I)I"⟩, 11)) (by decide +kernel) rfl, jw_c1 (i := 1) (by decide +kernel) rfl, jw_c3 (i := 161) (by decide +kernel) rfl, ⟨by decide +kernel, by decide +kernel, by decide +kernel⟩, by decide⟩
theorem mX8_tellGrand : jM RX8 yX8_tellGrand cX8_tellGrand 2 (some .int) 1 := ⟨jw_c3 (i := 152) (by decide +kernel) rfl, jw_p (i := 14) (q := (⟨"LoafGates", "tellGrand", "(I)I"⟩, 11)) (by decide +kernel) rfl, jw_c1 (i := 1) (by decide +kernel) rfl, jw_c3 (i := 153) (by decide +kernel) rfl, ⟨by decide +kernel, by decide +kernel, by decide +kernel⟩, by decide⟩
theorem mX8_greetLent : jM RX8 yX8_greetLent cX8_greetLent 2 (some .int) 1 := ⟨jw_c3 (i := 176) (by decide +kernel) rfl, jw_p (i := 19) (q := (⟨"LoafGates", "greetLent", "(I)I"⟩, 11)) (by decide +kernel) rfl, jw_c1 (i := 1) (by decide +kernel) rfl, jw_c3 (i := 177) (by decide +kernel) rfl, ⟨by decide +kernel, by decide +kernel, by decide +kernel⟩, by decide⟩
theorem mX8_greetGrand : jM RX8 yX8_greetGrand cX8_greetGrand 1 (some .int) 0 := ⟨jw_c3 (i := 172) (by decide +kernel) rfl, jw_p (i := 18) (q := (⟨"LoafGates", "greetGrand", "()I"⟩, 11)) (by decide +kernel) rfl, jw_c1 (i := 1) (by decide +kernel) rfl, jw_c3 (i := 173) (by decide +kernel) rfl, ⟨by decide +kernel, by decide +kernel, by decide +kernel⟩, by decide⟩
theorem mX9_in : jMs yX9_in cX9_in 6 (some .boolean) 3 := ⟨jw_c4 (i := 94) (by decide +kernel) rfl, jw_c1 (i := 10) (by decide +kernel) rfl, jw_c4 (i := 95) (by decide +kernel) rfl, ⟨by decide +kernel, by decide +kernel, by decide +kernel⟩, by decide⟩
theorem mX9_lost : jMs yX9_lost cX9_lost 0 (some .long) 0 := ⟨jw_c5 (i := 113) (by decide +kernel) rfl, jw_c1 (i := 10) (by decide +kernel) rfl, jw_c5 (i := 114) (by decide +kernel) rfl, ⟨by decide +kernel, by decide +kernel, by decide +kernel⟩, by decide⟩
theorem mX9_bits : jMs yX9_bits cX9_bits 3 (some .int) 1 := ⟨jw_c5 (i := 28) (by decide +kernel) rfl, jw_c1 (i := 10) (by decide +kernel) rfl, jw_c5 (i := 29) (by decide +kernel) rfl, ⟨by decide +kernel, by decide +kernel, by decide +kernel⟩, by decide⟩
theorem mX9_share : jMs yX9_share cX9_share 11 (some .long) 3 := ⟨jw_c5 (i := 117) (by decide +kernel) rfl, jw_c1 (i := 10) (by decide +kernel) rfl, jw_c5 (i := 118) (by decide +kernel) rfl, ⟨by decide +kernel, by decide +kernel, by decide +kernel⟩, by decide⟩
theorem mX9_refused : jM RX9 yX9_refused cX9_refused 2 (some .int) 1 := ⟨jw_c4 (i := 98) (by decide +kernel) rfl, jw_p (i := 20) (q := (⟨"LoafGatesModel", "refused", "(I)I"⟩, 41)) (by decide +kernel) rfl, jw_c1 (i := 10) (by decide +kernel) rfl, jw_c4 (i := 99) (by decide +kernel) rfl, ⟨by decide +kernel, by decide +kernel, by decide +kernel⟩, by decide⟩
theorem mX9_failed : jM RX9 yX9_failed cX9_failed 2 (some .int) 1 := ⟨jw_c4 (i := 107) (by decide +kernel) rfl, jw_p (i := 22) (q := (⟨"LoafGatesModel", "failed", "(I)I"⟩, 41)) (by decide +kernel) rfl, jw_c1 (i := 10) (by decide +kernel) rfl, jw_c4 (i := 108) (by decide +kernel) rfl, ⟨by decide +kernel, by decide +kernel, by decide +kernel⟩, by decide⟩
theorem mX9_failedLong : jM RX9 yX9_failedLong cX9_failedLong 2 (some .long) 1 := ⟨jw_c5 (i := 141) (by decide +kernel) rfl, jw_p (i := 53) (q := (⟨"LoafGatesModel", "failedLong", "(I)J"⟩, 41)) (by decide +kernel) rfl, jw_c1 (i := 10) (by decide +kernel) rfl, jw_c5 (i := 142) (by decide +kernel) rfl, ⟨by decide +kernel, by decide +kernel, by decide +kernel⟩, by decide⟩
theorem mX9_noComer : jM RX9 yX9_noComer cX9_noComer 2 (some .boolean) 1 := ⟨jw_c4 (i := 138) (by decide +kernel) rfl, jw_p (i := 28) (q := (⟨"LoafGatesModel", "noComer", "(I)Z"⟩, 41)) (by decide +kernel) rfl, jw_c1 (i := 10) (by decide +kernel) rfl, jw_c4 (i := 139) (by decide +kernel) rfl, ⟨by decide +kernel, by decide +kernel, by decide +kernel⟩, by decide⟩
theorem mX9_noGate : jM RX9 yX9_noGate cX9_noGate 2 (some .boolean) 1 := ⟨jw_c4 (i := 166) (by decide +kernel) rfl, jw_p (i := 34) (q := (⟨"LoafGatesModel", "noGate", "(I)Z"⟩, 41)) (by decide +kernel) rfl, jw_c1 (i := 10) (by decide +kernel) rfl, jw_c4 (i := 167) (by decide +kernel) rfl, ⟨by decide +kernel, by decide +kernel, by decide +kernel⟩, by decide⟩
theorem mX9_codeAt : jM RX9 yX9_codeAt cX9_codeAt 3 (some .int) 2 := ⟨jw_c4 (i := 118) (by decide +kernel) rfl, jw_p (i := 24) (q := (⟨"LoafGatesModel", "codeAt", "(II)I"⟩, 41)) (by decide +kernel) rfl, jw_c1 (i := 10) (by decide +kernel) rfl, jw_c4 (i := 119) (by decide +kernel) rfl, ⟨by decide +kernel, by decide +kernel, by decide +kernel⟩, by decide⟩
theorem mX9_figure : jM RX9 yX9_figure cX9_figure 5 (some .int) 3 := ⟨jw_c4 (i := 126) (by decide +kernel) rfl, jw_p (i := 26) (q := (⟨"LoafGatesModel", "figure", "(III)I"⟩, 41)) (by decide +kernel) rfl, jw_c1 (i := 10) (by decide +kernel) rfl, jw_c4 (i := 127) (by decide +kernel) rfl, ⟨by decide +kernel, by decide +kernel, by decide +kernel⟩, by decide⟩
theorem mX9_readsGate : jM RX9 yX9_readsGate cX9_readsGate 4 (some .boolean) 2 := ⟨jw_c4 (i := 122) (by decide +kernel) rfl, jw_p (i := 25) (q := (⟨"LoafGatesModel", "readsGate", "(II)Z"⟩, 41)) (by decide +kernel) rfl, jw_c1 (i := 10) (by decide +kernel) rfl, jw_c4 (i := 123) (by decide +kernel) rfl, ⟨by decide +kernel, by decide +kernel, by decide +kernel⟩, by decide⟩
theorem mX9_readsComer : jM RX9 yX9_readsComer cX9_readsComer 5 (some .boolean) 2 := ⟨jw_c4 (i := 130) (by decide +kernel) rfl, jw_p (i := 27) (q := (⟨"LoafGatesModel", "readsComer", "(II)Z"⟩, 41)) (by decide +kernel) rfl, jw_c1 (i := 10) (by decide +kernel) rfl, jw_c4 (i := 131) (by decide +kernel) rfl, ⟨by decide +kernel, by decide +kernel, by decide +kernel⟩, by decide⟩
theorem mX9_readsWinter : jM RX9 yX9_readsWinter cX9_readsWinter 4 (some .boolean) 2 := ⟨jw_c4 (i := 114) (by decide +kernel) rfl, jw_p (i := 23) (q := (⟨"LoafGatesModel", "readsWinter", "(II)Z"⟩, 41)) (by decide +kernel) rfl, jw_c1 (i := 10) (by decide +kernel) rfl, jw_c4 (i := 115) (by decide +kernel) rfl, ⟨by decide +kernel, by decide +kernel, by decide +kernel⟩, by decide⟩
theorem mX9_cellsBarred : jM RX9 yX9_cellsBarred cX9_cellsBarred 6 (some .int) 4 := ⟨jw_c4 (i := 103) (by decide +kernel) rfl, jw_p (i := 21) (q := (⟨"LoafGatesModel", "cellsBarred", "(IIIJ)I"⟩, 41)) (by decide +kernel) rfl, jw_c1 (i := 10) (by decide +kernel) rfl, jw_c4 (i := 104) (by decide +kernel) rfl, ⟨by decide +kernel, by decide +kernel, by decide +kernel⟩, by decide⟩
theorem mX9_winter : jM RX9 yX9_winter cX9_winter 7 (some .int) 4 := ⟨jw_c4 (i := 86) (by decide +kernel) rfl, jw_c4 (i := 87) (by decide +kernel) rfl, jw_c1 (i := 10) (by decide +kernel) rfl, jw_c4 (i := 88) (by decide +kernel) rfl, ⟨by decide +kernel, by decide +kernel, by decide +kernel⟩, by decide⟩
theorem mX9_look : jM RX9 yX9_look cX9_look 3 (some .int) 1 := ⟨jw_c4 (i := 150) (by decide +kernel) rfl, jw_p (i := 31) (q := (⟨"LoafGatesModel", "look", "(I)I"⟩, 41)) (by decide +kernel) rfl, jw_c1 (i := 10) (by decide +kernel) rfl, jw_c4 (i := 151) (by decide +kernel) rfl, ⟨by decide +kernel, by decide +kernel, by decide +kernel⟩, by decide⟩
theorem mX9_isAhead : jM RX9 yX9_isAhead cX9_isAhead 5 (some .boolean) 2 := ⟨jw_c4 (i := 146) (by decide +kernel) rfl, jw_p (i := 30) (q := (⟨"LoafGatesModel", "isAhead", "(II)Z"⟩, 41)) (by decide +kernel) rfl, jw_c1 (i := 10) (by decide +kernel) rfl, jw_c4 (i := 147) (by decide +kernel) rfl, ⟨by decide +kernel, by decide +kernel, by decide +kernel⟩, by decide⟩
theorem mX9_gives : jM RX9 yX9_gives cX9_gives 5 (none) 0 := ⟨jw_c4 (i := 142) (by decide +kernel) rfl, jw_p (i := 29) (q := (⟨"LoafGatesModel", "gives", "()V"⟩, 41)) (by decide +kernel) rfl, jw_c1 (i := 10) (by decide +kernel) rfl, jw_c4 (i := 143) (by decide +kernel) rfl, ⟨by decide +kernel, by decide +kernel, by decide +kernel⟩, by decide⟩
theorem mX9_goesWithout : jM RX9 yX9_goesWithout cX9_goesWithout 2 (some .boolean) 1 := ⟨jw_c4 (i := 154) (by decide +kernel) rfl, jw_p (i := 32) (q := (⟨"LoafGatesModel", "goesWithout", "(I)Z"⟩, 41)) (by decide +kernel) rfl, jw_c1 (i := 10) (by decide +kernel) rfl, jw_c4 (i := 155) (by decide +kernel) rfl, ⟨by decide +kernel, by decide +kernel, by decide +kernel⟩, by decide⟩
theorem mX9_whoGoWithout : jM RX9 yX9_whoGoWithout cX9_whoGoWithout 3 (some .int) 0 := ⟨jw_c4 (i := 170) (by decide +kernel) rfl, jw_p (i := 35) (q := (⟨"LoafGatesModel", "whoGoWithout", "()I"⟩, 41)) (by decide +kernel) rfl, jw_c1 (i := 10) (by decide +kernel) rfl, jw_c4 (i := 171) (by decide +kernel) rfl, ⟨by decide +kernel, by decide +kernel, by decide +kernel⟩, by decide⟩
theorem mX9_crowdsOut : jM RX9 yX9_crowdsOut cX9_crowdsOut 5 (some .int) 1 := ⟨jw_c4 (i := 158) (by decide +kernel) rfl, jw_p (i := 33) (q := (⟨"LoafGatesModel", "crowdsOut", "(I)I"⟩, 41)) (by decide +kernel) rfl, jw_c1 (i := 10) (by decide +kernel) rfl, jw_c4 (i := 159) (by decide +kernel) rfl, ⟨by decide +kernel, by decide +kernel, by decide +kernel⟩, by decide⟩
theorem mX9_ofComer : jM RX9 yX9_ofComer cX9_ofComer 3 (some .int) 2 := ⟨jw_c4 (i := 133) (by decide +kernel) rfl, jw_c4 (i := 134) (by decide +kernel) rfl, jw_c1 (i := 10) (by decide +kernel) rfl, jw_c4 (i := 135) (by decide +kernel) rfl, ⟨by decide +kernel, by decide +kernel, by decide +kernel⟩, by decide⟩
theorem mX9_ofGate : jM RX9 yX9_ofGate cX9_ofGate 5 (some .int) 2 := ⟨jw_c4 (i := 161) (by decide +kernel) rfl, jw_c4 (i := 162) (by decide +kernel) rfl, jw_c1 (i := 10) (by decide +kernel) rfl, jw_c4 (i := 163) (by decide +kernel) rfl, ⟨by decide +kernel, by decide +kernel, by decide +kernel⟩, by decide⟩
theorem mX9_isFigure : jMs yX9_isFigure cX9_isFigure 1 (some .boolean) 1 := ⟨jw_c4 (i := 177) (by decide +kernel) rfl, jw_c1 (i := 10) (by decide +kernel) rfl, jw_c4 (i := 178) (by decide +kernel) rfl, ⟨by decide +kernel, by decide +kernel, by decide +kernel⟩, by decide⟩
theorem mX9_show : jM RX9 yX9_show cX9_show 4 (some .int) 2 := ⟨jw_c4 (i := 173) (by decide +kernel) rfl, jw_c4 (i := 174) (by decide +kernel) rfl, jw_c1 (i := 10) (by decide +kernel) rfl, jw_c4 (i := 175) (by decide +kernel) rfl, ⟨by decide +kernel, by decide +kernel, by decide +kernel⟩, by decide⟩
theorem mX9_lead : jM RX9 yX9_lead cX9_lead 4 (some .int) 2 := ⟨jw_c4 (i := 181) (by decide +kernel) rfl, jw_c4 (i := 182) (by decide +kernel) rfl, jw_c1 (i := 10) (by decide +kernel) rfl, jw_c4 (i := 183) (by decide +kernel) rfl, ⟨by decide +kernel, by decide +kernel, by decide +kernel⟩, by decide⟩
theorem mX9_bake : jM RX9 yX9_bake cX9_bake 4 (some .int) 2 := ⟨jw_c4 (i := 185) (by decide +kernel) rfl, jw_c4 (i := 186) (by decide +kernel) rfl, jw_c1 (i := 10) (by decide +kernel) rfl, jw_c4 (i := 187) (by decide +kernel) rfl, ⟨by decide +kernel, by decide +kernel, by decide +kernel⟩, by decide⟩
theorem mX9_manner : jM RX9 yX9_manner cX9_manner 3 (some .int) 1 := ⟨jw_c4 (i := 189) (by decide +kernel) rfl, jw_c4 (i := 190) (by decide +kernel) rfl, jw_c1 (i := 10) (by decide +kernel) rfl, jw_c4 (i := 191) (by decide +kernel) rfl, ⟨by decide +kernel, by decide +kernel, by decide +kernel⟩, by decide⟩
theorem mX9_chalk : jM RX9 yX9_chalk cX9_chalk 3 (some .int) 1 := ⟨jw_c4 (i := 193) (by decide +kernel) rfl, jw_c4 (i := 194) (by decide +kernel) rfl, jw_c1 (i := 10) (by decide +kernel) rfl, jw_c4 (i := 195) (by decide +kernel) rfl, ⟨by decide +kernel, by decide +kernel, by decide +kernel⟩, by decide⟩
theorem mX9_isAsTold : jMs yX9_isAsTold cX9_isAsTold 3 (some .boolean) 2 := ⟨jw_c4 (i := 205) (by decide +kernel) rfl, jw_c1 (i := 10) (by decide +kernel) rfl, jw_c4 (i := 206) (by decide +kernel) rfl, ⟨by decide +kernel, by decide +kernel, by decide +kernel⟩, by decide⟩
theorem mX9_doesPair : jM RX9 yX9_doesPair cX9_doesPair 3 (some .boolean) 2 := ⟨jw_c4 (i := 219) (by decide +kernel) rfl, jw_p (i := 38) (q := (⟨"LoafGatesModel", "doesPair", "(II)Z"⟩, 41)) (by decide +kernel) rfl, jw_c1 (i := 10) (by decide +kernel) rfl, jw_c4 (i := 220) (by decide +kernel) rfl, ⟨by decide +kernel, by decide +kernel, by decide +kernel⟩, by decide⟩
theorem mX9_dayOf : jM RX9 yX9_dayOf cX9_dayOf 9 (some .int) 3 := ⟨jw_c4 (i := 215) (by decide +kernel) rfl, jw_p (i := 37) (q := (⟨"LoafGatesModel", "dayOf", "(III)I"⟩, 41)) (by decide +kernel) rfl, jw_c1 (i := 10) (by decide +kernel) rfl, jw_c4 (i := 216) (by decide +kernel) rfl, ⟨by decide +kernel, by decide +kernel, by decide +kernel⟩, by decide⟩
theorem mX9_keeps : jM RX9 yX9_keeps cX9_keeps 2 (none) 0 := ⟨jw_c4 (i := 211) (by decide +kernel) rfl, jw_p (i := 36) (q := (⟨"LoafGatesModel", "keeps", "()V"⟩, 41)) (by decide +kernel) rfl, jw_c1 (i := 10) (by decide +kernel) rfl, jw_c4 (i := 212) (by decide +kernel) rfl, ⟨by decide +kernel, by decide +kernel, by decide +kernel⟩, by decide⟩
theorem mX9_bringsBack : jM RX9 yX9_bringsBack cX9_bringsBack 2 (none) 0 := ⟨jw_c4 (i := 228) (by decide +kernel) rfl, jw_p (i := 39) (q := (⟨"LoafGatesModel", "bringsBack", "()V"⟩, 41)) (by decide +kernel) rfl, jw_c1 (i := 10) (by decide +kernel) rfl, jw_c4 (i := 229) (by decide +kernel) rfl, ⟨by decide +kernel, by decide +kernel, by decide +kernel⟩, by decide⟩
theorem mX9_day : jM RX9 yX9_day cX9_day 9 (some .int) 5 := ⟨jw_c4 (i := 197) (by decide +kernel) rfl, jw_c4 (i := 198) (by decide +kernel) rfl, jw_c1 (i := 10) (by decide +kernel) rfl, jw_c4 (i := 199) (by decide +kernel) rfl, ⟨by decide +kernel, by decide +kernel, by decide +kernel⟩, by decide⟩
theorem mX9_know : jM RX9 yX9_know cX9_know 3 (some .int) 2 := ⟨jw_c4 (i := 231) (by decide +kernel) rfl, jw_c4 (i := 232) (by decide +kernel) rfl, jw_c1 (i := 10) (by decide +kernel) rfl, jw_c4 (i := 233) (by decide +kernel) rfl, ⟨by decide +kernel, by decide +kernel, by decide +kernel⟩, by decide⟩
theorem mX9_farOf : jM RX9 yX9_farOf cX9_farOf 7 (some .int) 2 := ⟨jw_c5 (i := 0) (by decide +kernel) rfl, jw_p (i := 40) (q := (⟨"LoafGatesModel", "farOf", "(II)I"⟩, 41)) (by decide +kernel) rfl, jw_c1 (i := 10) (by decide +kernel) rfl, jw_c5 (i := 1) (by decide +kernel) rfl, ⟨by decide +kernel, by decide +kernel, by decide +kernel⟩, by decide⟩
theorem mX9_far : jM RX9 yX9_far cX9_far 3 (some .int) 2 := ⟨jw_c4 (i := 235) (by decide +kernel) rfl, jw_c4 (i := 236) (by decide +kernel) rfl, jw_c1 (i := 10) (by decide +kernel) rfl, jw_c4 (i := 237) (by decide +kernel) rfl, ⟨by decide +kernel, by decide +kernel, by decide +kernel⟩, by decide⟩
theorem mX9_held : jM RX9 yX9_held cX9_held 6 (some .int) 2 := ⟨jw_c5 (i := 9) (by decide +kernel) rfl, jw_p (i := 41) (q := (⟨"LoafGatesModel", "held", "(II)I"⟩, 41)) (by decide +kernel) rfl, jw_c1 (i := 10) (by decide +kernel) rfl, jw_c5 (i := 10) (by decide +kernel) rfl, ⟨by decide +kernel, by decide +kernel, by decide +kernel⟩, by decide⟩
theorem mX9_lantern : jM RX9 yX9_lantern cX9_lantern 3 (some .int) 2 := ⟨jw_c5 (i := 3) (by decide +kernel) rfl, jw_c5 (i := 4) (by decide +kernel) rfl, jw_c1 (i := 10) (by decide +kernel) rfl, jw_c5 (i := 5) (by decide +kernel) rfl, ⟨by decide +kernel, by decide +kernel, by decide +kernel⟩, by decide⟩
theorem mX9_best : jM RX9 yX9_best cX9_best 3 (some .int) 0 := ⟨jw_c5 (i := 12) (by decide +kernel) rfl, jw_c5 (i := 13) (by decide +kernel) rfl, jw_c1 (i := 10) (by decide +kernel) rfl, jw_c5 (i := 14) (by decide +kernel) rfl, ⟨by decide +kernel, by decide +kernel, by decide +kernel⟩, by decide⟩
theorem mX9_manyWithout : jM RX9 yX9_manyWithout cX9_manyWithout 1 (some .int) 0 := ⟨jw_c5 (i := 25) (by decide +kernel) rfl, jw_p (i := 43) (q := (⟨"LoafGatesModel", "manyWithout", "()I"⟩, 41)) (by decide +kernel) rfl, jw_c1 (i := 10) (by decide +kernel) rfl, jw_c5 (i := 26) (by decide +kernel) rfl, ⟨by decide +kernel, by decide +kernel, by decide +kernel⟩, by decide⟩
theorem mX9_withoutBy : jM RX9 yX9_withoutBy cX9_withoutBy 4 (some .int) 1 := ⟨jw_c5 (i := 21) (by decide +kernel) rfl, jw_p (i := 42) (q := (⟨"LoafGatesModel", "withoutBy", "(I)I"⟩, 41)) (by decide +kernel) rfl, jw_c1 (i := 10) (by decide +kernel) rfl, jw_c5 (i := 22) (by decide +kernel) rfl, ⟨by decide +kernel, by decide +kernel, by decide +kernel⟩, by decide⟩
theorem mX9_without : jM RX9 yX9_without cX9_without 4 (some .int) 1 := ⟨jw_c5 (i := 16) (by decide +kernel) rfl, jw_c5 (i := 17) (by decide +kernel) rfl, jw_c1 (i := 10) (by decide +kernel) rfl, jw_c5 (i := 18) (by decide +kernel) rfl, ⟨by decide +kernel, by decide +kernel, by decide +kernel⟩, by decide⟩
theorem mX9_eats : jM RX9 yX9_eats cX9_eats 2 (some .int) 1 := ⟨jw_c5 (i := 36) (by decide +kernel) rfl, jw_p (i := 44) (q := (⟨"LoafGatesModel", "eats", "(I)I"⟩, 41)) (by decide +kernel) rfl, jw_c1 (i := 10) (by decide +kernel) rfl, jw_c5 (i := 37) (by decide +kernel) rfl, ⟨by decide +kernel, by decide +kernel, by decide +kernel⟩, by decide⟩
theorem mX9_gain : jM RX9 yX9_gain cX9_gain 6 (some .int) 1 := ⟨jw_c5 (i := 31) (by decide +kernel) rfl, jw_c5 (i := 32) (by decide +kernel) rfl, jw_c1 (i := 10) (by decide +kernel) rfl, jw_c5 (i := 33) (by decide +kernel) rfl, ⟨by decide +kernel, by decide +kernel, by decide +kernel⟩, by decide⟩
theorem mX9_needs : jM RX9 yX9_needs cX9_needs 5 (some .int) 1 := ⟨jw_c5 (i := 39) (by decide +kernel) rfl, jw_c5 (i := 40) (by decide +kernel) rfl, jw_c1 (i := 10) (by decide +kernel) rfl, jw_c5 (i := 41) (by decide +kernel) rfl, ⟨by decide +kernel, by decide +kernel, by decide +kernel⟩, by decide⟩
theorem mX9_triesParts : jM RX9 yX9_triesParts cX9_triesParts 5 (none) 3 := ⟨jw_c5 (i := 53) (by decide +kernel) rfl, jw_p (i := 46) (q := (⟨"LoafGatesModel", "triesParts", "(III)V"⟩, 41)) (by decide +kernel) rfl, jw_c1 (i := 10) (by decide +kernel) rfl, jw_c5 (i := 54) (by decide +kernel) rfl, ⟨by decide +kernel, by decide +kernel, by decide +kernel⟩, by decide⟩
theorem mX9_parts : jM RX9 yX9_parts cX9_parts 6 (none) 0 := ⟨jw_c5 (i := 49) (by decide +kernel) rfl, jw_p (i := 45) (q := (⟨"LoafGatesModel", "parts", "()V"⟩, 41)) (by decide +kernel) rfl, jw_c1 (i := 10) (by decide +kernel) rfl, jw_c5 (i := 50) (by decide +kernel) rfl, ⟨by decide +kernel, by decide +kernel, by decide +kernel⟩, by decide⟩
theorem mX9_parted : jM RX9 yX9_parted cX9_parted 2 (some .int) 1 := ⟨jw_c5 (i := 43) (by decide +kernel) rfl, jw_c5 (i := 44) (by decide +kernel) rfl, jw_c1 (i := 10) (by decide +kernel) rfl, jw_c5 (i := 45) (by decide +kernel) rfl, ⟨by decide +kernel, by decide +kernel, by decide +kernel⟩, by decide⟩
theorem mX9_stepsBy : jM RX9 yX9_stepsBy cX9_stepsBy 8 (some .int) 1 := ⟨jw_c5 (i := 61) (by decide +kernel) rfl, jw_p (i := 47) (q := (⟨"LoafGatesModel", "stepsBy", "(I)I"⟩, 41)) (by decide +kernel) rfl, jw_c1 (i := 10) (by decide +kernel) rfl, jw_c5 (i := 62) (by decide +kernel) rfl, ⟨by decide +kernel, by decide +kernel, by decide +kernel⟩, by decide⟩
theorem mX9_given : jM RX9 yX9_given cX9_given 5 (some .int) 0 := ⟨jw_c5 (i := 56) (by decide +kernel) rfl, jw_c5 (i := 57) (by decide +kernel) rfl, jw_c1 (i := 10) (by decide +kernel) rfl, jw_c5 (i := 58) (by decide +kernel) rfl, ⟨by decide +kernel, by decide +kernel, by decide +kernel⟩, by decide⟩
theorem mX9_wintersOn : jM RX9 yX9_wintersOn cX9_wintersOn 4 (none) 0 := ⟨jw_c5 (i := 77) (by decide +kernel) rfl, jw_p (i := 50) (q := (⟨"LoafGatesModel", "wintersOn", "()V"⟩, 41)) (by decide +kernel) rfl, jw_c1 (i := 10) (by decide +kernel) rfl, jw_c5 (i := 78) (by decide +kernel) rfl, ⟨by decide +kernel, by decide +kernel, by decide +kernel⟩, by decide⟩
theorem mX9_showsAsNumber : jM RX9 yX9_showsAsNumber cX9_showsAsNumber 3 (some .int) 0 := ⟨jw_c5 (i := 69) (by decide +kernel) rfl, jw_p (i := 48) (q := (⟨"LoafGatesModel", "showsAsNumber", "()I"⟩, 41)) (by decide +kernel) rfl, jw_c1 (i := 10) (by decide +kernel) rfl, jw_c5 (i := 70) (by decide +kernel) rfl, ⟨by decide +kernel, by decide +kernel, by decide +kernel⟩, by decide⟩
theorem mX9_metBefore : jM RX9 yX9_metBefore cX9_metBefore 5 (some .int) 2 := ⟨jw_c5 (i := 73) (by decide +kernel) rfl, jw_p (i := 49) (q := (⟨"LoafGatesModel", "metBefore", "(II)I"⟩, 41)) (by decide +kernel) rfl, jw_c1 (i := 10) (by decide +kernel) rfl, jw_c5 (i := 74) (by decide +kernel) rfl, ⟨by decide +kernel, by decide +kernel, by decide +kernel⟩, by decide⟩
theorem mX9_settles : jM RX9 yX9_settles cX9_settles 4 (some .int) 1 := ⟨jw_c5 (i := 64) (by decide +kernel) rfl, jw_c5 (i := 65) (by decide +kernel) rfl, jw_c1 (i := 10) (by decide +kernel) rfl, jw_c5 (i := 66) (by decide +kernel) rfl, ⟨by decide +kernel, by decide +kernel, by decide +kernel⟩, by decide⟩
theorem mX9_more : jM RX9 yX9_more cX9_more 3 (some .int) 1 := ⟨jw_c5 (i := 80) (by decide +kernel) rfl, jw_c5 (i := 81) (by decide +kernel) rfl, jw_c1 (i := 10) (by decide +kernel) rfl, jw_c5 (i := 82) (by decide +kernel) rfl, ⟨by decide +kernel, by decide +kernel, by decide +kernel⟩, by decide⟩
theorem mX9_reading : jM RX9 yX9_reading cX9_reading 3 (some .int) 2 := ⟨jw_c5 (i := 85) (by decide +kernel) rfl, jw_c5 (i := 86) (by decide +kernel) rfl, jw_c1 (i := 10) (by decide +kernel) rfl, jw_c5 (i := 87) (by decide +kernel) rfl, ⟨by decide +kernel, by decide +kernel, by decide +kernel⟩, by decide⟩
theorem mX9_back : jM RX9 yX9_back cX9_back 2 (some .int) 1 := ⟨jw_c5 (i := 89) (by decide +kernel) rfl, jw_c5 (i := 90) (by decide +kernel) rfl, jw_c1 (i := 10) (by decide +kernel) rfl, jw_c5 (i := 91) (by decide +kernel) rfl, ⟨by decide +kernel, by decide +kernel, by decide +kernel⟩, by decide⟩
theorem mX9_areSo : jM RX9 yX9_areSo cX9_areSo 3 (some .boolean) 0 := ⟨jw_c5 (i := 98) (by decide +kernel) rfl, jw_p (i := 51) (q := (⟨"LoafGatesModel", "areSo", "()Z"⟩, 41)) (by decide +kernel) rfl, jw_c1 (i := 10) (by decide +kernel) rfl, jw_c5 (i := 99) (by decide +kernel) rfl, ⟨by decide +kernel, by decide +kernel, by decide +kernel⟩, by decide⟩
theorem mX9_kinds : jM RX9 yX9_kinds cX9_kinds 5 (some .int) 1 := ⟨jw_c5 (i := 93) (by decide +kernel) rfl, jw_c5 (i := 94) (by decide +kernel) rfl, jw_c1 (i := 10) (by decide +kernel) rfl, jw_c5 (i := 95) (by decide +kernel) rfl, ⟨by decide +kernel, by decide +kernel, by decide +kernel⟩, by decide⟩
theorem mX9_shows : jM RX9 yX9_shows cX9_shows 5 (some .int) 1 := ⟨jw_c5 (i := 101) (by decide +kernel) rfl, jw_c5 (i := 102) (by decide +kernel) rfl, jw_c1 (i := 10) (by decide +kernel) rfl, jw_c5 (i := 103) (by decide +kernel) rfl, ⟨by decide +kernel, by decide +kernel, by decide +kernel⟩, by decide⟩
theorem mX9_chalks : jM RX9 yX9_chalks cX9_chalks 4 (some .int) 0 := ⟨jw_c5 (i := 105) (by decide +kernel) rfl, jw_c5 (i := 106) (by decide +kernel) rfl, jw_c1 (i := 10) (by decide +kernel) rfl, jw_c5 (i := 107) (by decide +kernel) rfl, ⟨by decide +kernel, by decide +kernel, by decide +kernel⟩, by decide⟩
theorem mX9_odds : jM RX9 yX9_odds cX9_odds 7 (some .long) 2 := ⟨jw_c5 (i := 109) (by decide +kernel) rfl, jw_c5 (i := 110) (by decide +kernel) rfl, jw_c1 (i := 10) (by decide +kernel) rfl, jw_c5 (i := 111) (by decide +kernel) rfl, ⟨by decide +kernel, by decide +kernel, by decide +kernel⟩, by decide⟩
theorem mX9_noSheet : jMs yX9_noSheet cX9_noSheet 1 (some .boolean) 1 := ⟨jw_c4 (i := 90) (by decide +kernel) rfl, jw_c1 (i := 10) (by decide +kernel) rfl, jw_c4 (i := 91) (by decide +kernel) rfl, ⟨by decide +kernel, by decide +kernel, by decide +kernel⟩, by decide⟩
theorem mX9_sheet : jM RX9 yX9_sheet cX9_sheet 5 (some .int) 3 := ⟨jw_c5 (i := 120) (by decide +kernel) rfl, jw_c5 (i := 121) (by decide +kernel) rfl, jw_c1 (i := 10) (by decide +kernel) rfl, jw_c5 (i := 122) (by decide +kernel) rfl, ⟨by decide +kernel, by decide +kernel, by decide +kernel⟩, by decide⟩
theorem mX9_lose : jM RX9 yX9_lose cX9_lose 3 (some .int) 1 := ⟨jw_c5 (i := 124) (by decide +kernel) rfl, jw_c5 (i := 125) (by decide +kernel) rfl, jw_c1 (i := 10) (by decide +kernel) rfl, jw_c5 (i := 126) (by decide +kernel) rfl, ⟨by decide +kernel, by decide +kernel, by decide +kernel⟩, by decide⟩
theorem mX9_noCell : jM RX9 yX9_noCell cX9_noCell 3 (some .int) 2 := ⟨jw_c5 (i := 133) (by decide +kernel) rfl, jw_p (i := 52) (q := (⟨"LoafGatesModel", "noCell", "(II)I"⟩, 41)) (by decide +kernel) rfl, jw_c1 (i := 10) (by decide +kernel) rfl, jw_c5 (i := 134) (by decide +kernel) rfl, ⟨by decide +kernel, by decide +kernel, by decide +kernel⟩, by decide⟩
theorem mX9_put : jM RX9 yX9_put cX9_put 4 (some .int) 3 := ⟨jw_c5 (i := 128) (by decide +kernel) rfl, jw_c5 (i := 129) (by decide +kernel) rfl, jw_c1 (i := 10) (by decide +kernel) rfl, jw_c5 (i := 130) (by decide +kernel) rfl, ⟨by decide +kernel, by decide +kernel, by decide +kernel⟩, by decide⟩
theorem mX9_cell : jM RX9 yX9_cell cX9_cell 4 (some .long) 3 := ⟨jw_c5 (i := 136) (by decide +kernel) rfl, jw_c5 (i := 137) (by decide +kernel) rfl, jw_c1 (i := 10) (by decide +kernel) rfl, jw_c5 (i := 138) (by decide +kernel) rfl, ⟨by decide +kernel, by decide +kernel, by decide +kernel⟩, by decide⟩
theorem mX9_isBeyond : jMs yX9_isBeyond cX9_isBeyond 4 (some .boolean) 3 := ⟨jw_c4 (i := 110) (by decide +kernel) rfl, jw_c1 (i := 10) (by decide +kernel) rfl, jw_c4 (i := 111) (by decide +kernel) rfl, ⟨by decide +kernel, by decide +kernel, by decide +kernel⟩, by decide⟩
theorem mX9_copy : jM RX9 yX9_copy cX9_copy 7 (some .int) 5 := ⟨jw_c5 (i := 144) (by decide +kernel) rfl, jw_c5 (i := 145) (by decide +kernel) rfl, jw_c1 (i := 10) (by decide +kernel) rfl, jw_c5 (i := 146) (by decide +kernel) rfl, ⟨by decide +kernel, by decide +kernel, by decide +kernel⟩, by decide⟩
theorem mX9_traced : jM RX9 yX9_traced cX9_traced 2 (none) 1 := ⟨jw_c5 (i := 153) (by decide +kernel) rfl, jw_p (i := 54) (q := (⟨"LoafGatesModel", "traced", "(I)V"⟩, 41)) (by decide +kernel) rfl, jw_c1 (i := 10) (by decide +kernel) rfl, jw_c5 (i := 154) (by decide +kernel) rfl, ⟨by decide +kernel, by decide +kernel, by decide +kernel⟩, by decide⟩
theorem mX9_tell : jM RX9 yX9_tell cX9_tell 4 (some .int) 1 := ⟨jw_c5 (i := 148) (by decide +kernel) rfl, jw_c5 (i := 149) (by decide +kernel) rfl, jw_c1 (i := 10) (by decide +kernel) rfl, jw_c5 (i := 150) (by decide +kernel) rfl, ⟨by decide +kernel, by decide +kernel, by decide +kernel⟩, by decide⟩
theorem mX9_greet : jM RX9 yX9_greet cX9_greet 2 (some .int) 1 := ⟨jw_c5 (i := 156) (by decide +kernel) rfl, jw_c5 (i := 157) (by decide +kernel) rfl, jw_c1 (i := 10) (by decide +kernel) rfl, jw_c5 (i := 158) (by decide +kernel) rfl, ⟨by decide +kernel, by decide +kernel, by decide +kernel⟩, by decide⟩
theorem mX9_as : jM RX9 yX9_as cX9_as 3 (some .int) 2 := ⟨jw_c5 (i := 160) (by decide +kernel) rfl, jw_c5 (i := 161) (by decide +kernel) rfl, jw_c1 (i := 10) (by decide +kernel) rfl, jw_c5 (i := 162) (by decide +kernel) rfl, ⟨by decide +kernel, by decide +kernel, by decide +kernel⟩, by decide⟩
theorem mX9_trace : jM RX9 yX9_trace cX9_trace 1 (some .int) 0 := ⟨jw_c5 (i := 164) (by decide +kernel) rfl, jw_c5 (i := 165) (by decide +kernel) rfl, jw_c1 (i := 10) (by decide +kernel) rfl, jw_c5 (i := 166) (by decide +kernel) rfl, ⟨by decide +kernel, by decide +kernel, by decide +kernel⟩, by decide⟩
theorem mX9_fault : jM RX9 yX9_fault cX9_fault 1 (some .int) 0 := ⟨jw_c5 (i := 168) (by decide +kernel) rfl, jw_c5 (i := 169) (by decide +kernel) rfl, jw_c1 (i := 10) (by decide +kernel) rfl, jw_c5 (i := 170) (by decide +kernel) rfl, ⟨by decide +kernel, by decide +kernel, by decide +kernel⟩, by decide⟩
theorem mX9_many : jM RX9 yX9_many cX9_many 4 (some .int) 1 := ⟨jw_c5 (i := 172) (by decide +kernel) rfl, jw_c5 (i := 173) (by decide +kernel) rfl, jw_c1 (i := 10) (by decide +kernel) rfl, jw_c5 (i := 174) (by decide +kernel) rfl, ⟨by decide +kernel, by decide +kernel, by decide +kernel⟩, by decide⟩
theorem mJ6_bitCount_0f7a4 : jMs yJ6_bitCount_0f7a4 cJ6_bitCount_0f7a4 1 (some .int) 1 := ⟨jw_c2 (i := 229) (by decide +kernel) rfl, jw_c1 (i := 13) (by decide +kernel) rfl, jw_c2 (i := 230) (by decide +kernel) rfl, ⟨by decide +kernel, by decide +kernel, by decide +kernel⟩, by decide⟩
theorem mJ9_max_7cf53 : jMs yJ9_max_7cf53 cJ9_max_7cf53 2 (some .int) 2 := ⟨jw_c2 (i := 62) (by decide +kernel) rfl, jw_c1 (i := 12) (by decide +kernel) rfl, jw_c2 (i := 63) (by decide +kernel) rfl, ⟨by decide +kernel, by decide +kernel, by decide +kernel⟩, by decide⟩
theorem mJ9_min_7cf53 : jMs yJ9_min_7cf53 cJ9_min_7cf53 2 (some .int) 2 := ⟨jw_c2 (i := 59) (by decide +kernel) rfl, jw_c1 (i := 12) (by decide +kernel) rfl, jw_c2 (i := 60) (by decide +kernel) rfl, ⟨by decide +kernel, by decide +kernel, by decide +kernel⟩, by decide⟩
theorem kL_9 : Cond.methodLink RL 9 yX8_init ∈ jw := jw_c1 (i := 16) (by decide +kernel) rfl
theorem kX8_5 : Cond.methodLink RX8 5 objectInit ∈ jw := jw_c1 (i := 19) (by decide +kernel) rfl
theorem kX7_3 : Cond.methodLink RX7 3 objectInit ∈ jw := jw_c1 (i := 27) (by decide +kernel) rfl
theorem kX6_3 : Cond.methodLink RX6 3 objectInit ∈ jw := jw_c1 (i := 84) (by decide +kernel) rfl
theorem kX0_3 : Cond.methodLink RX0 3 objectInit ∈ jw := jw_c1 (i := 91) (by decide +kernel) rfl
theorem kX1_3 : Cond.methodLink RX1 3 objectInit ∈ jw := jw_c1 (i := 101) (by decide +kernel) rfl
theorem kX2_3 : Cond.methodLink RX2 3 objectInit ∈ jw := jw_c1 (i := 111) (by decide +kernel) rfl
theorem kX4_3 : Cond.methodLink RX4 3 objectInit ∈ jw := jw_c1 (i := 126) (by decide +kernel) rfl
theorem kX3_3 : Cond.methodLink RX3 3 objectInit ∈ jw := jw_c1 (i := 144) (by decide +kernel) rfl
theorem kX5_3 : Cond.methodLink RX5 3 objectInit ∈ jw := jw_c1 (i := 162) (by decide +kernel) rfl
theorem kL_13 : Cond.methodLink RL 13 yX8_winter ∈ jw := jw_c1 (i := 210) (by decide +kernel) rfl
theorem kX8_77 : Cond.methodLink RX8 77 yX8_isSheet ∈ jw := jw_c1 (i := 214) (by decide +kernel) rfl
theorem kX8_81 : Cond.methodLink RX8 81 yX8_isLane ∈ jw := jw_c1 (i := 217) (by decide +kernel) rfl
theorem kX8_84 : Cond.methodLink RX8 84 yX5_faultAs ∈ jw := jw_c1 (i := 220) (by decide +kernel) rfl
theorem kX5_22 : Cond.methodLink RX5 22 yX5_hasRow ∈ jw := jw_c1 (i := 224) (by decide +kernel) rfl
theorem kX5_26 : Cond.methodLink RX5 26 yX5_hasCells ∈ jw := jw_c1 (i := 228) (by decide +kernel) rfl
theorem kX8_88 : Cond.methodLink RX8 88 yX8_faulted ∈ jw := jw_c1 (i := 232) (by decide +kernel) rfl
theorem kX8_92 : Cond.methodLink RX8 92 yX6_read ∈ jw := jw_c1 (i := 236) (by decide +kernel) rfl
theorem kX6_9 : Cond.methodLink RX6 9 yX7_begin ∈ jw := jw_c2 (i := 0) (by decide +kernel) rfl
theorem kX6_22 : Cond.methodLink RX6 22 yX6_stepBehind ∈ jw := jw_c2 (i := 4) (by decide +kernel) rfl
theorem kX6_26 : Cond.methodLink RX6 26 yX6_takeLoaves ∈ jw := jw_c2 (i := 7) (by decide +kernel) rfl
theorem kX6_43 : Cond.methodLink RX6 43 yX6_digitOf ∈ jw := jw_c2 (i := 10) (by decide +kernel) rfl
theorem kX6_30 : Cond.methodLink RX6 30 yX6_behindGate ∈ jw := jw_c2 (i := 13) (by decide +kernel) rfl
theorem kX6_37 : Cond.methodLink RX6 37 yX6_takeOfComer ∈ jw := jw_c2 (i := 16) (by decide +kernel) rfl
theorem kX6_50 : Cond.methodLink RX6 50 yX6_kindOf ∈ jw := jw_c2 (i := 19) (by decide +kernel) rfl
theorem kX6_53 : Cond.methodLink RX6 53 yX7_hasGate ∈ jw := jw_c2 (i := 22) (by decide +kernel) rfl
theorem kX8_96 : Cond.methodLink RX8 96 yX7_become ∈ jw := jw_c2 (i := 26) (by decide +kernel) rfl
theorem kX7_43 : Cond.methodLink RX7 43 arraycopyName ∈ jw := jw_c2 (i := 30) (by decide +kernel) rfl
theorem kX8_100 : Cond.methodLink RX8 100 yX0_forget ∈ jw := jw_c2 (i := 33) (by decide +kernel) rfl
theorem kL_18 : Cond.methodLink RL 18 yX8_ofComer ∈ jw := jw_c2 (i := 37) (by decide +kernel) rfl
theorem kX8_109 : Cond.methodLink RX8 109 yX7_hasComer ∈ jw := jw_c2 (i := 41) (by decide +kernel) rfl
theorem kX8_128 : Cond.methodLink RX8 128 yX7_look ∈ jw := jw_c2 (i := 45) (by decide +kernel) rfl
theorem kX8_131 : Cond.methodLink RX8 131 yX7_eats ∈ jw := jw_c2 (i := 49) (by decide +kernel) rfl
theorem kX7_53 : Cond.methodLink RX7 53 yX7_rank ∈ jw := jw_c2 (i := 53) (by decide +kernel) rfl
theorem kX7_49 : Cond.methodLink RX7 49 yX7_look ∈ jw := jw_c2 (i := 57) (by decide +kernel) rfl
theorem kX7_56 : Cond.methodLink RX7 56 yJ9_min_7cf53 ∈ jw := jw_c2 (i := 58) (by decide +kernel) rfl
theorem kX7_62 : Cond.methodLink RX7 62 yJ9_max_7cf53 ∈ jw := jw_c2 (i := 61) (by decide +kernel) rfl
theorem kX8_134 : Cond.methodLink RX8 134 yX7_starving ∈ jw := jw_c2 (i := 64) (by decide +kernel) rfl
theorem kX7_65 : Cond.methodLink RX7 65 yX7_eats ∈ jw := jw_c2 (i := 68) (by decide +kernel) rfl
theorem kX8_138 : Cond.methodLink RX8 138 yX7_crowdedOutBy ∈ jw := jw_c2 (i := 69) (by decide +kernel) rfl
theorem kX7_68 : Cond.methodLink RX7 68 yX7_starving ∈ jw := jw_c2 (i := 73) (by decide +kernel) rfl
theorem kX7_72 : Cond.methodLink RX7 72 yX7_comersAt ∈ jw := jw_c2 (i := 74) (by decide +kernel) rfl
theorem kX7_75 : Cond.methodLink RX7 75 yX7_hungrierThan ∈ jw := jw_c2 (i := 78) (by decide +kernel) rfl
theorem kX8_141 : Cond.methodLink RX8 141 yX7_placeOf ∈ jw := jw_c2 (i := 82) (by decide +kernel) rfl
theorem kL_23 : Cond.methodLink RL 23 yX8_ofGate ∈ jw := jw_c2 (i := 86) (by decide +kernel) rfl
theorem kX8_144 : Cond.methodLink RX8 144 yX7_hasGate ∈ jw := jw_c2 (i := 90) (by decide +kernel) rfl
theorem kX8_150 : Cond.methodLink RX8 150 yX7_comersAt ∈ jw := jw_c2 (i := 91) (by decide +kernel) rfl
theorem kX8_153 : Cond.methodLink RX8 153 yX7_leftAt ∈ jw := jw_c2 (i := 92) (by decide +kernel) rfl
theorem kL_27 : Cond.methodLink RL 27 yX8_show ∈ jw := jw_c2 (i := 96) (by decide +kernel) rfl
theorem kX8_156 : Cond.methodLink RX8 156 yX8_isDigit ∈ jw := jw_c2 (i := 100) (by decide +kernel) rfl
theorem kL_31 : Cond.methodLink RL 31 yX8_lead ∈ jw := jw_c2 (i := 103) (by decide +kernel) rfl
theorem kL_35 : Cond.methodLink RL 35 yX8_bake ∈ jw := jw_c2 (i := 107) (by decide +kernel) rfl
theorem kL_39 : Cond.methodLink RL 39 yX8_manner ∈ jw := jw_c2 (i := 111) (by decide +kernel) rfl
theorem kX8_159 : Cond.methodLink RX8 159 yX8_isManner ∈ jw := jw_c2 (i := 115) (by decide +kernel) rfl
theorem kX8_162 : Cond.methodLink RX8 162 yX7_stands ∈ jw := jw_c2 (i := 118) (by decide +kernel) rfl
theorem kL_44 : Cond.methodLink RL 44 yX8_chalk ∈ jw := jw_c2 (i := 122) (by decide +kernel) rfl
theorem kL_48 : Cond.methodLink RL 48 yX8_day ∈ jw := jw_c2 (i := 126) (by decide +kernel) rfl
theorem kX8_172 : Cond.methodLink RX8 172 yX8_isAskedOfDay ∈ jw := jw_c2 (i := 130) (by decide +kernel) rfl
theorem kX8_175 : Cond.methodLink RX8 175 yX8_arePairsAsTold ∈ jw := jw_c2 (i := 133) (by decide +kernel) rfl
theorem kX8_303 : Cond.methodLink RX8 303 yX7_mostToldWith ∈ jw := jw_c2 (i := 136) (by decide +kernel) rfl
theorem kX8_179 : Cond.methodLink RX8 179 yX8_playDay ∈ jw := jw_c2 (i := 139) (by decide +kernel) rfl
theorem kX8_306 : Cond.methodLink RX8 306 yX7_perform ∈ jw := jw_c2 (i := 143) (by decide +kernel) rfl
theorem kX7_87 : Cond.methodLink RX7 87 yX7_changeShow ∈ jw := jw_c2 (i := 147) (by decide +kernel) rfl
theorem kX7_97 : Cond.methodLink RX7 97 yX7_hasComer ∈ jw := jw_c2 (i := 151) (by decide +kernel) rfl
theorem kX7_91 : Cond.methodLink RX7 91 yX7_changeGate ∈ jw := jw_c2 (i := 152) (by decide +kernel) rfl
theorem kX7_101 : Cond.methodLink RX7 101 yX7_hasGate ∈ jw := jw_c2 (i := 156) (by decide +kernel) rfl
theorem kX7_94 : Cond.methodLink RX7 94 yX7_changeLoaves ∈ jw := jw_c2 (i := 157) (by decide +kernel) rfl
theorem kX8_183 : Cond.methodLink RX8 183 yX8_ofDayPlayed ∈ jw := jw_c2 (i := 161) (by decide +kernel) rfl
theorem kX8_309 : Cond.methodLink RX8 309 yX7_eaters ∈ jw := jw_c2 (i := 165) (by decide +kernel) rfl
theorem kX8_312 : Cond.methodLink RX8 312 yX7_allLeft ∈ jw := jw_c2 (i := 169) (by decide +kernel) rfl
theorem kX7_78 : Cond.methodLink RX7 78 yX7_leftAt ∈ jw := jw_c2 (i := 173) (by decide +kernel) rfl
theorem kX8_315 : Cond.methodLink RX8 315 yX7_allLooks ∈ jw := jw_c2 (i := 174) (by decide +kernel) rfl
theorem kL_53 : Cond.methodLink RL 53 yX8_know ∈ jw := jw_c2 (i := 178) (by decide +kernel) rfl
theorem kX8_186 : Cond.methodLink RX8 186 yX0_turn ∈ jw := jw_c2 (i := 182) (by decide +kernel) rfl
theorem kL_57 : Cond.methodLink RL 57 yX8_far ∈ jw := jw_c2 (i := 186) (by decide +kernel) rfl
theorem kX8_190 : Cond.methodLink RX8 190 yX0_stepsBetween ∈ jw := jw_c2 (i := 190) (by decide +kernel) rfl
theorem kX0_15 : Cond.methodLink RX0 15 yX0_knownToAnyOf ∈ jw := jw_c2 (i := 194) (by decide +kernel) rfl
theorem kL_61 : Cond.methodLink RL 61 yX8_lantern ∈ jw := jw_c2 (i := 198) (by decide +kernel) rfl
theorem kX8_193 : Cond.methodLink RX8 193 yX7_hungryHeldFed ∈ jw := jw_c2 (i := 202) (by decide +kernel) rfl
theorem kX8_196 : Cond.methodLink RX8 196 yX7_fedNotHeldSo ∈ jw := jw_c2 (i := 206) (by decide +kernel) rfl
theorem kL_65 : Cond.methodLink RL 65 yX8_best ∈ jw := jw_c2 (i := 210) (by decide +kernel) rfl
theorem kX8_199 : Cond.methodLink RX8 199 yX7_misheld ∈ jw := jw_c2 (i := 214) (by decide +kernel) rfl
theorem kX7_81 : Cond.methodLink RX7 81 yX7_hungryHeldFed ∈ jw := jw_c2 (i := 218) (by decide +kernel) rfl
theorem kX7_84 : Cond.methodLink RX7 84 yX7_fedNotHeldSo ∈ jw := jw_c2 (i := 219) (by decide +kernel) rfl
theorem kL_70 : Cond.methodLink RL 70 yX8_without ∈ jw := jw_c2 (i := 220) (by decide +kernel) rfl
theorem kX8_202 : Cond.methodLink RX8 202 yX8_starvingByManner ∈ jw := jw_c2 (i := 224) (by decide +kernel) rfl
theorem kX8_236 : Cond.methodLink RX8 236 yJ6_bitCount_0f7a4 ∈ jw := jw_c2 (i := 228) (by decide +kernel) rfl
theorem kX8_205 : Cond.methodLink RX8 205 yX8_mannerOfFewest ∈ jw := jw_c2 (i := 234) (by decide +kernel) rfl
theorem kL_74 : Cond.methodLink RL 74 yX8_gain ∈ jw := jw_c2 (i := 238) (by decide +kernel) rfl
theorem kL_78 : Cond.methodLink RL 78 yX8_needs ∈ jw := jw_c3 (i := 2) (by decide +kernel) rfl
theorem kL_82 : Cond.methodLink RL 82 yX8_parted ∈ jw := jw_c3 (i := 6) (by decide +kernel) rfl
theorem kX8_211 : Cond.methodLink RX8 211 yX2_seek ∈ jw := jw_c3 (i := 10) (by decide +kernel) rfl
theorem kX2_19 : Cond.methodLink RX2 19 yX7_allLoaves ∈ jw := jw_c3 (i := 14) (by decide +kernel) rfl
theorem kX2_25 : Cond.methodLink RX2 25 yX2_mostAt ∈ jw := jw_c3 (i := 18) (by decide +kernel) rfl
theorem kX2_33 : Cond.methodLink RX2 33 yX7_hasGate ∈ jw := jw_c3 (i := 21) (by decide +kernel) rfl
theorem kX2_29 : Cond.methodLink RX2 29 yX2_weigh ∈ jw := jw_c3 (i := 22) (by decide +kernel) rfl
theorem kX2_40 : Cond.methodLink RX2 40 yX7_starving ∈ jw := jw_c3 (i := 26) (by decide +kernel) rfl
theorem kX2_43 : Cond.methodLink RX2 43 yJ6_bitCount_0f7a4 ∈ jw := jw_c3 (i := 27) (by decide +kernel) rfl
theorem kX2_49 : Cond.methodLink RX2 49 arraycopyName ∈ jw := jw_c3 (i := 28) (by decide +kernel) rfl
theorem kL_86 : Cond.methodLink RL 86 yX8_given ∈ jw := jw_c3 (i := 29) (by decide +kernel) rfl
theorem kX8_220 : Cond.methodLink RX8 220 yX1_fewestSteps ∈ jw := jw_c3 (i := 33) (by decide +kernel) rfl
theorem kX1_15 : Cond.methodLink RX1 15 yX7_hasComer ∈ jw := jw_c3 (i := 37) (by decide +kernel) rfl
theorem kX1_21 : Cond.methodLink RX1 21 yX7_eats ∈ jw := jw_c3 (i := 38) (by decide +kernel) rfl
theorem kX1_25 : Cond.methodLink RX1 25 yJ9_max_7cf53 ∈ jw := jw_c3 (i := 39) (by decide +kernel) rfl
theorem kX1_31 : Cond.methodLink RX1 31 yX7_starving ∈ jw := jw_c3 (i := 40) (by decide +kernel) rfl
theorem kX1_35 : Cond.methodLink RX1 35 yX1_fewestFrom ∈ jw := jw_c3 (i := 41) (by decide +kernel) rfl
theorem kX1_39 : Cond.methodLink RX1 39 yX0_stepsBetween ∈ jw := jw_c3 (i := 44) (by decide +kernel) rfl
theorem kL_90 : Cond.methodLink RL 90 yX8_settles ∈ jw := jw_c3 (i := 45) (by decide +kernel) rfl
theorem kX8_224 : Cond.methodLink RX8 224 yX4_follow ∈ jw := jw_c3 (i := 49) (by decide +kernel) rfl
theorem kX4_22 : Cond.methodLink RX4 22 yX7_showsAsNumber ∈ jw := jw_c3 (i := 53) (by decide +kernel) rfl
theorem kX4_28 : Cond.methodLink RX4 28 yX4_firstLike ∈ jw := jw_c3 (i := 57) (by decide +kernel) rfl
theorem kX4_32 : Cond.methodLink RX4 32 yX7_passOn ∈ jw := jw_c3 (i := 61) (by decide +kernel) rfl
theorem kL_94 : Cond.methodLink RL 94 yX8_more ∈ jw := jw_c3 (i := 65) (by decide +kernel) rfl
theorem kX8_233 : Cond.methodLink RX8 233 yX7_passOn ∈ jw := jw_c3 (i := 69) (by decide +kernel) rfl
theorem kL_98 : Cond.methodLink RL 98 yX8_reading ∈ jw := jw_c3 (i := 70) (by decide +kernel) rfl
theorem kX8_241 : Cond.methodLink RX8 241 yX3_note ∈ jw := jw_c3 (i := 74) (by decide +kernel) rfl
theorem kL_102 : Cond.methodLink RL 102 yX8_back ∈ jw := jw_c3 (i := 78) (by decide +kernel) rfl
theorem kL_106 : Cond.methodLink RL 106 yX8_kinds ∈ jw := jw_c3 (i := 82) (by decide +kernel) rfl
theorem kX8_244 : Cond.methodLink RX8 244 yX3_areSoIn ∈ jw := jw_c3 (i := 86) (by decide +kernel) rfl
theorem kX3_22 : Cond.methodLink RX3 22 yX7_eats ∈ jw := jw_c3 (i := 90) (by decide +kernel) rfl
theorem kL_110 : Cond.methodLink RL 110 yX8_shows ∈ jw := jw_c3 (i := 91) (by decide +kernel) rfl
theorem kL_114 : Cond.methodLink RL 114 yX8_chalks ∈ jw := jw_c3 (i := 95) (by decide +kernel) rfl
theorem kL_118 : Cond.methodLink RL 118 yX8_odds ∈ jw := jw_c3 (i := 99) (by decide +kernel) rfl
theorem kX8_250 : Cond.methodLink RX8 250 yX8_waysToEat ∈ jw := jw_c3 (i := 104) (by decide +kernel) rfl
theorem kX8_253 : Cond.methodLink RX8 253 yX8_greatestDivisor ∈ jw := jw_c3 (i := 108) (by decide +kernel) rfl
theorem kL_123 : Cond.methodLink RL 123 yX8_sheet ∈ jw := jw_c3 (i := 111) (by decide +kernel) rfl
theorem kX8_256 : Cond.methodLink RX8 256 yX5_renew ∈ jw := jw_c3 (i := 115) (by decide +kernel) rfl
theorem kL_128 : Cond.methodLink RL 128 yX8_lose ∈ jw := jw_c3 (i := 119) (by decide +kernel) rfl
theorem kX8_260 : Cond.methodLink RX8 260 yX5_hasRow ∈ jw := jw_c3 (i := 123) (by decide +kernel) rfl
theorem kX8_263 : Cond.methodLink RX8 263 yX5_drop ∈ jw := jw_c3 (i := 124) (by decide +kernel) rfl
theorem kL_132 : Cond.methodLink RL 132 yX8_put ∈ jw := jw_c3 (i := 128) (by decide +kernel) rfl
theorem kX8_266 : Cond.methodLink RX8 266 yX5_hasCells ∈ jw := jw_c3 (i := 132) (by decide +kernel) rfl
theorem kX8_273 : Cond.methodLink RX8 273 yX5_cut ∈ jw := jw_c3 (i := 133) (by decide +kernel) rfl
theorem kL_136 : Cond.methodLink RL 136 yX8_cell ∈ jw := jw_c3 (i := 137) (by decide +kernel) rfl
theorem kL_141 : Cond.methodLink RL 141 yX8_copy ∈ jw := jw_c3 (i := 141) (by decide +kernel) rfl
theorem kX8_279 : Cond.methodLink RX8 279 arraycopyName ∈ jw := jw_c3 (i := 145) (by decide +kernel) rfl
theorem kL_145 : Cond.methodLink RL 145 yX8_tell ∈ jw := jw_c3 (i := 146) (by decide +kernel) rfl
theorem kX8_285 : Cond.methodLink RX8 285 yX8_tellGrand ∈ jw := jw_c3 (i := 150) (by decide +kernel) rfl
theorem kX8_318 : Cond.methodLink RX8 318 yX8_leaveTrace ∈ jw := jw_c3 (i := 154) (by decide +kernel) rfl
theorem kX8_288 : Cond.methodLink RX8 288 yX8_tellChalked ∈ jw := jw_c3 (i := 158) (by decide +kernel) rfl
theorem kX8_291 : Cond.methodLink RX8 291 yX8_tellPlain ∈ jw := jw_c3 (i := 162) (by decide +kernel) rfl
theorem kL_149 : Cond.methodLink RL 149 yX8_greet ∈ jw := jw_c3 (i := 166) (by decide +kernel) rfl
theorem kX8_294 : Cond.methodLink RX8 294 yX8_greetGrand ∈ jw := jw_c3 (i := 170) (by decide +kernel) rfl
theorem kX8_297 : Cond.methodLink RX8 297 yX8_greetLent ∈ jw := jw_c3 (i := 174) (by decide +kernel) rfl
theorem kL_153 : Cond.methodLink RL 153 yX8_as ∈ jw := jw_c3 (i := 178) (by decide +kernel) rfl
theorem kL_157 : Cond.methodLink RL 157 yX8_trace ∈ jw := jw_c3 (i := 182) (by decide +kernel) rfl
theorem kL_161 : Cond.methodLink RL 161 yX8_fault ∈ jw := jw_c3 (i := 186) (by decide +kernel) rfl
theorem kL_165 : Cond.methodLink RL 165 yX8_many ∈ jw := jw_c3 (i := 190) (by decide +kernel) rfl
theorem kX8_300 : Cond.methodLink RX8 300 yX7_allLoaves ∈ jw := jw_c3 (i := 194) (by decide +kernel) rfl
theorem kL_12 : Cond.methodLink RL 12 yX9_init ∈ jw := jw_c3 (i := 197) (by decide +kernel) rfl
theorem kX9_1 : Cond.methodLink RX9 1 objectInit ∈ jw := jw_c3 (i := 200) (by decide +kernel) rfl
theorem kL_17 : Cond.methodLink RL 17 yX9_winter ∈ jw := jw_c4 (i := 85) (by decide +kernel) rfl
theorem kX9_146 : Cond.methodLink RX9 146 yX9_noSheet ∈ jw := jw_c4 (i := 89) (by decide +kernel) rfl
theorem kX9_107 : Cond.methodLink RX9 107 yX9_in ∈ jw := jw_c4 (i := 93) (by decide +kernel) rfl
theorem kX9_150 : Cond.methodLink RX9 150 yX9_refused ∈ jw := jw_c4 (i := 96) (by decide +kernel) rfl
theorem kX9_155 : Cond.methodLink RX9 155 yX9_cellsBarred ∈ jw := jw_c4 (i := 101) (by decide +kernel) rfl
theorem kX9_138 : Cond.methodLink RX9 138 yX9_failed ∈ jw := jw_c4 (i := 105) (by decide +kernel) rfl
theorem kX9_142 : Cond.methodLink RX9 142 yX9_isBeyond ∈ jw := jw_c4 (i := 109) (by decide +kernel) rfl
theorem kX9_159 : Cond.methodLink RX9 159 yX9_readsWinter ∈ jw := jw_c4 (i := 112) (by decide +kernel) rfl
theorem kX9_117 : Cond.methodLink RX9 117 yX9_codeAt ∈ jw := jw_c4 (i := 116) (by decide +kernel) rfl
theorem kX9_131 : Cond.methodLink RX9 131 yX9_readsGate ∈ jw := jw_c4 (i := 120) (by decide +kernel) rfl
theorem kX9_124 : Cond.methodLink RX9 124 yX9_figure ∈ jw := jw_c4 (i := 124) (by decide +kernel) rfl
theorem kX9_135 : Cond.methodLink RX9 135 yX9_readsComer ∈ jw := jw_c4 (i := 128) (by decide +kernel) rfl
theorem kL_22 : Cond.methodLink RL 22 yX9_ofComer ∈ jw := jw_c4 (i := 132) (by decide +kernel) rfl
theorem kX9_180 : Cond.methodLink RX9 180 yX9_noComer ∈ jw := jw_c4 (i := 136) (by decide +kernel) rfl
theorem kX9_183 : Cond.methodLink RX9 183 yX9_gives ∈ jw := jw_c4 (i := 140) (by decide +kernel) rfl
theorem kX9_174 : Cond.methodLink RX9 174 yX9_isAhead ∈ jw := jw_c4 (i := 144) (by decide +kernel) rfl
theorem kX9_171 : Cond.methodLink RX9 171 yX9_look ∈ jw := jw_c4 (i := 148) (by decide +kernel) rfl
theorem kX9_177 : Cond.methodLink RX9 177 yX9_goesWithout ∈ jw := jw_c4 (i := 152) (by decide +kernel) rfl
theorem kX9_186 : Cond.methodLink RX9 186 yX9_crowdsOut ∈ jw := jw_c4 (i := 156) (by decide +kernel) rfl
theorem kL_26 : Cond.methodLink RL 26 yX9_ofGate ∈ jw := jw_c4 (i := 160) (by decide +kernel) rfl
theorem kX9_189 : Cond.methodLink RX9 189 yX9_noGate ∈ jw := jw_c4 (i := 164) (by decide +kernel) rfl
theorem kX9_192 : Cond.methodLink RX9 192 yX9_whoGoWithout ∈ jw := jw_c4 (i := 168) (by decide +kernel) rfl
theorem kL_30 : Cond.methodLink RL 30 yX9_show ∈ jw := jw_c4 (i := 172) (by decide +kernel) rfl
theorem kX9_198 : Cond.methodLink RX9 198 yX9_isFigure ∈ jw := jw_c4 (i := 176) (by decide +kernel) rfl
theorem kL_34 : Cond.methodLink RL 34 yX9_lead ∈ jw := jw_c4 (i := 180) (by decide +kernel) rfl
theorem kL_38 : Cond.methodLink RL 38 yX9_bake ∈ jw := jw_c4 (i := 184) (by decide +kernel) rfl
theorem kL_43 : Cond.methodLink RL 43 yX9_manner ∈ jw := jw_c4 (i := 188) (by decide +kernel) rfl
theorem kL_47 : Cond.methodLink RL 47 yX9_chalk ∈ jw := jw_c4 (i := 192) (by decide +kernel) rfl
theorem kL_52 : Cond.methodLink RL 52 yX9_day ∈ jw := jw_c4 (i := 196) (by decide +kernel) rfl
theorem kX9_237 : Cond.methodLink RX9 237 yX9_isAsTold ∈ jw := jw_c4 (i := 204) (by decide +kernel) rfl
theorem kX9_240 : Cond.methodLink RX9 240 yX9_keeps ∈ jw := jw_c4 (i := 209) (by decide +kernel) rfl
theorem kX9_243 : Cond.methodLink RX9 243 yX9_dayOf ∈ jw := jw_c4 (i := 213) (by decide +kernel) rfl
theorem kX9_220 : Cond.methodLink RX9 220 yX9_doesPair ∈ jw := jw_c4 (i := 217) (by decide +kernel) rfl
theorem kX9_205 : Cond.methodLink RX9 205 yX9_show ∈ jw := jw_c4 (i := 221) (by decide +kernel) rfl
theorem kX9_208 : Cond.methodLink RX9 208 yX9_manner ∈ jw := jw_c4 (i := 222) (by decide +kernel) rfl
theorem kX9_211 : Cond.methodLink RX9 211 yX9_chalk ∈ jw := jw_c4 (i := 223) (by decide +kernel) rfl
theorem kX9_214 : Cond.methodLink RX9 214 yX9_bake ∈ jw := jw_c4 (i := 224) (by decide +kernel) rfl
theorem kX9_217 : Cond.methodLink RX9 217 yX9_lead ∈ jw := jw_c4 (i := 225) (by decide +kernel) rfl
theorem kX9_246 : Cond.methodLink RX9 246 yX9_bringsBack ∈ jw := jw_c4 (i := 226) (by decide +kernel) rfl
theorem kL_56 : Cond.methodLink RL 56 yX9_know ∈ jw := jw_c4 (i := 230) (by decide +kernel) rfl
theorem kL_60 : Cond.methodLink RL 60 yX9_far ∈ jw := jw_c4 (i := 234) (by decide +kernel) rfl
theorem kX9_249 : Cond.methodLink RX9 249 yX9_farOf ∈ jw := jw_c4 (i := 238) (by decide +kernel) rfl
theorem kL_64 : Cond.methodLink RL 64 yX9_lantern ∈ jw := jw_c5 (i := 2) (by decide +kernel) rfl
theorem kX9_254 : Cond.methodLink RX9 254 yX9_held ∈ jw := jw_c5 (i := 7) (by decide +kernel) rfl
theorem kL_69 : Cond.methodLink RL 69 yX9_best ∈ jw := jw_c5 (i := 11) (by decide +kernel) rfl
theorem kL_73 : Cond.methodLink RL 73 yX9_without ∈ jw := jw_c5 (i := 15) (by decide +kernel) rfl
theorem kX9_263 : Cond.methodLink RX9 263 yX9_withoutBy ∈ jw := jw_c5 (i := 19) (by decide +kernel) rfl
theorem kX9_260 : Cond.methodLink RX9 260 yX9_manyWithout ∈ jw := jw_c5 (i := 23) (by decide +kernel) rfl
theorem kX9_257 : Cond.methodLink RX9 257 yX9_bits ∈ jw := jw_c5 (i := 27) (by decide +kernel) rfl
theorem kL_77 : Cond.methodLink RL 77 yX9_gain ∈ jw := jw_c5 (i := 30) (by decide +kernel) rfl
theorem kX9_266 : Cond.methodLink RX9 266 yX9_eats ∈ jw := jw_c5 (i := 34) (by decide +kernel) rfl
theorem kL_81 : Cond.methodLink RL 81 yX9_needs ∈ jw := jw_c5 (i := 38) (by decide +kernel) rfl
theorem kL_85 : Cond.methodLink RL 85 yX9_parted ∈ jw := jw_c5 (i := 42) (by decide +kernel) rfl
theorem kX9_278 : Cond.methodLink RX9 278 yX9_parts ∈ jw := jw_c5 (i := 47) (by decide +kernel) rfl
theorem kX9_272 : Cond.methodLink RX9 272 yX9_triesParts ∈ jw := jw_c5 (i := 51) (by decide +kernel) rfl
theorem kL_89 : Cond.methodLink RL 89 yX9_given ∈ jw := jw_c5 (i := 55) (by decide +kernel) rfl
theorem kX9_281 : Cond.methodLink RX9 281 yX9_stepsBy ∈ jw := jw_c5 (i := 59) (by decide +kernel) rfl
theorem kL_93 : Cond.methodLink RL 93 yX9_settles ∈ jw := jw_c5 (i := 63) (by decide +kernel) rfl
theorem kX9_284 : Cond.methodLink RX9 284 yX9_showsAsNumber ∈ jw := jw_c5 (i := 67) (by decide +kernel) rfl
theorem kX9_287 : Cond.methodLink RX9 287 yX9_metBefore ∈ jw := jw_c5 (i := 71) (by decide +kernel) rfl
theorem kX9_290 : Cond.methodLink RX9 290 yX9_wintersOn ∈ jw := jw_c5 (i := 75) (by decide +kernel) rfl
theorem kL_97 : Cond.methodLink RL 97 yX9_more ∈ jw := jw_c5 (i := 79) (by decide +kernel) rfl
theorem kL_101 : Cond.methodLink RL 101 yX9_reading ∈ jw := jw_c5 (i := 84) (by decide +kernel) rfl
theorem kL_105 : Cond.methodLink RL 105 yX9_back ∈ jw := jw_c5 (i := 88) (by decide +kernel) rfl
theorem kL_109 : Cond.methodLink RL 109 yX9_kinds ∈ jw := jw_c5 (i := 92) (by decide +kernel) rfl
theorem kX9_295 : Cond.methodLink RX9 295 yX9_areSo ∈ jw := jw_c5 (i := 96) (by decide +kernel) rfl
theorem kL_113 : Cond.methodLink RL 113 yX9_shows ∈ jw := jw_c5 (i := 100) (by decide +kernel) rfl
theorem kL_117 : Cond.methodLink RL 117 yX9_chalks ∈ jw := jw_c5 (i := 104) (by decide +kernel) rfl
theorem kL_122 : Cond.methodLink RL 122 yX9_odds ∈ jw := jw_c5 (i := 108) (by decide +kernel) rfl
theorem kX9_100 : Cond.methodLink RX9 100 yX9_lost ∈ jw := jw_c5 (i := 112) (by decide +kernel) rfl
theorem kX9_299 : Cond.methodLink RX9 299 yX9_share ∈ jw := jw_c5 (i := 116) (by decide +kernel) rfl
theorem kL_127 : Cond.methodLink RL 127 yX9_sheet ∈ jw := jw_c5 (i := 119) (by decide +kernel) rfl
theorem kL_131 : Cond.methodLink RL 131 yX9_lose ∈ jw := jw_c5 (i := 123) (by decide +kernel) rfl
theorem kL_135 : Cond.methodLink RL 135 yX9_put ∈ jw := jw_c5 (i := 127) (by decide +kernel) rfl
theorem kX9_305 : Cond.methodLink RX9 305 yX9_noCell ∈ jw := jw_c5 (i := 131) (by decide +kernel) rfl
theorem kL_140 : Cond.methodLink RL 140 yX9_cell ∈ jw := jw_c5 (i := 135) (by decide +kernel) rfl
theorem kX9_308 : Cond.methodLink RX9 308 yX9_failedLong ∈ jw := jw_c5 (i := 139) (by decide +kernel) rfl
theorem kL_144 : Cond.methodLink RL 144 yX9_copy ∈ jw := jw_c5 (i := 143) (by decide +kernel) rfl
theorem kL_148 : Cond.methodLink RL 148 yX9_tell ∈ jw := jw_c5 (i := 147) (by decide +kernel) rfl
theorem kX9_315 : Cond.methodLink RX9 315 yX9_traced ∈ jw := jw_c5 (i := 151) (by decide +kernel) rfl
theorem kL_152 : Cond.methodLink RL 152 yX9_greet ∈ jw := jw_c5 (i := 155) (by decide +kernel) rfl
theorem kL_156 : Cond.methodLink RL 156 yX9_as ∈ jw := jw_c5 (i := 159) (by decide +kernel) rfl
theorem kL_160 : Cond.methodLink RL 160 yX9_trace ∈ jw := jw_c5 (i := 163) (by decide +kernel) rfl
theorem kL_164 : Cond.methodLink RL 164 yX9_fault ∈ jw := jw_c5 (i := 167) (by decide +kernel) rfl
theorem kL_168 : Cond.methodLink RL 168 yX9_many ∈ jw := jw_c5 (i := 171) (by decide +kernel) rfl
