/-! what the pools name: by program (wip/gen/links.py) -/
set_option maxRecDepth 20000 in
theorem mb_X3_heaviestOf : xMb yX3_heaviestOf 2 := ⟨wi_X3, by decide +kernel⟩
set_option maxRecDepth 20000 in
theorem slX3_27 : xSl RX3 27 yX3_heaviestOf 2 := ⟨Or.inl (xg_5 8 rfl rfl), (xg_5 9 rfl rfl), mb_X3_heaviestOf⟩
set_option maxRecDepth 20000 in
theorem coX3_heaviestOf : Cond.code yX3_heaviestOf cX3_heaviestOf 4 (some .int) ∈ xgw := (xg_5 10 rfl rfl)
set_option maxRecDepth 20000 in
theorem mb_X10_partner : xMb yX10_partner 2 := ⟨wi_X10, by decide +kernel⟩
set_option maxRecDepth 20000 in
theorem vlL_118 : xVl RL 118 yX10_partner 2 10 := ⟨(xg_5 11 rfl rfl), (xg_5 12 rfl rfl), (xg_5 13 rfl rfl), mb_X10_partner, _, _, rfl⟩
set_option maxRecDepth 20000 in
theorem coX10_partner : Cond.code yX10_partner cX10_partner 3 (some .int) ∈ xgw := (xg_5 14 rfl rfl)
set_option maxRecDepth 20000 in
theorem mb_X3_choose : xMb yX3_choose 3 := ⟨wi_X3, by decide +kernel⟩
set_option maxRecDepth 20000 in
theorem vlX10_321 : xVl RX10 321 yX3_choose 3 3 := ⟨(xg_5 15 rfl rfl), (xg_5 16 rfl rfl), (xg_5 17 rfl rfl), mb_X3_choose, _, _, rfl⟩
set_option maxRecDepth 20000 in
theorem coX3_choose : Cond.code yX3_choose cX3_choose 9 none ∈ xgw := (xg_5 18 rfl rfl)
set_option maxRecDepth 20000 in
theorem vlX3_31 : xVl RX3 31 yX3_gain 3 3 := ⟨(xg_5 19 rfl rfl), (xg_5 3 rfl rfl), (xg_5 4 rfl rfl), mb_X3_gain, _, _, rfl⟩
set_option maxRecDepth 20000 in
theorem mb_X3_firstPartner : xMb yX3_firstPartner 5 := ⟨wi_X3, by decide +kernel⟩
set_option maxRecDepth 20000 in
theorem vlX3_35 : xVl RX3 35 yX3_firstPartner 5 3 := ⟨(xg_5 20 rfl rfl), (xg_5 22 rfl rfl), (xg_s 41 rfl rfl), mb_X3_firstPartner, _, _, rfl⟩
set_option maxRecDepth 20000 in
theorem coX3_firstPartner : Cond.code yX3_firstPartner cX3_firstPartner 9 (some .int) ∈ xgw := (xg_5 23 rfl rfl)
set_option maxRecDepth 20000 in
theorem mb_X10_life : xMb yX10_life 1 := ⟨wi_X10, by decide +kernel⟩
set_option maxRecDepth 20000 in
theorem vlL_122 : xVl RL 122 yX10_life 1 10 := ⟨(xg_5 24 rfl rfl), (xg_5 25 rfl rfl), (xg_5 26 rfl rfl), mb_X10_life, _, _, rfl⟩
set_option maxRecDepth 20000 in
theorem coX10_life : Cond.code yX10_life cX10_life 4 (some .int) ∈ xgw := (xg_5 27 rfl rfl)
set_option maxRecDepth 20000 in
theorem mb_X10_ahead : xMb yX10_ahead 1 := ⟨wi_X10, by decide +kernel⟩
set_option maxRecDepth 20000 in
theorem vlL_126 : xVl RL 126 yX10_ahead 1 10 := ⟨(xg_5 28 rfl rfl), (xg_5 29 rfl rfl), (xg_5 30 rfl rfl), mb_X10_ahead, _, _, rfl⟩
set_option maxRecDepth 20000 in
theorem coX10_ahead : Cond.code yX10_ahead cX10_ahead 4 (some .int) ∈ xgw := (xg_5 31 rfl rfl)
set_option maxRecDepth 20000 in
theorem mb_X10_see : xMb yX10_see 4 := ⟨wi_X10, by decide +kernel⟩
set_option maxRecDepth 20000 in
theorem vlL_130 : xVl RL 130 yX10_see 4 10 := ⟨(xg_5 32 rfl rfl), (xg_5 33 rfl rfl), (xg_5 34 rfl rfl), mb_X10_see, _, _, rfl⟩
set_option maxRecDepth 20000 in
theorem coX10_see : Cond.code yX10_see cX10_see 6 (some .int) ∈ xgw := (xg_5 35 rfl rfl)
set_option maxRecDepth 20000 in
theorem mb_X5_put : xMb yX5_put 4 := ⟨wi_X5, by decide +kernel⟩
set_option maxRecDepth 20000 in
theorem vlX10_328 : xVl RX10 328 yX5_put 4 5 := ⟨(xg_5 36 rfl rfl), (xg_5 37 rfl rfl), (xg_5 38 rfl rfl), mb_X5_put, _, _, rfl⟩
set_option maxRecDepth 20000 in
theorem coX5_put : Cond.code yX5_put cX5_put 5 (some .int) ∈ xgw := (xg_5 39 rfl rfl)
set_option maxRecDepth 20000 in
theorem mb_X10_strikes : xMb yX10_strikes 1 := ⟨wi_X10, by decide +kernel⟩
set_option maxRecDepth 20000 in
theorem vlL_135 : xVl RL 135 yX10_strikes 1 10 := ⟨(xg_5 40 rfl rfl), (xg_5 41 rfl rfl), (xg_5 42 rfl rfl), mb_X10_strikes, _, _, rfl⟩
set_option maxRecDepth 20000 in
theorem coX10_strikes : Cond.code yX10_strikes cX10_strikes 2 (some .int) ∈ xgw := (xg_5 43 rfl rfl)
set_option maxRecDepth 20000 in
theorem mb_X10_known : xMb yX10_known 1 := ⟨wi_X10, by decide +kernel⟩
set_option maxRecDepth 20000 in
theorem vlL_139 : xVl RL 139 yX10_known 1 10 := ⟨(xg_5 44 rfl rfl), (xg_5 45 rfl rfl), (xg_5 46 rfl rfl), mb_X10_known, _, _, rfl⟩
set_option maxRecDepth 20000 in
theorem coX10_known : Cond.code yX10_known cX10_known 2 (some .boolean) ∈ xgw := (xg_5 47 rfl rfl)
set_option maxRecDepth 20000 in
theorem mb_X10_painted : xMb yX10_painted 0 := ⟨wi_X10, by decide +kernel⟩
set_option maxRecDepth 20000 in
theorem vlL_143 : xVl RL 143 yX10_painted 0 10 := ⟨(xg_5 48 rfl rfl), (xg_5 49 rfl rfl), (xg_5 50 rfl rfl), mb_X10_painted, _, _, rfl⟩
set_option maxRecDepth 20000 in
theorem coX10_painted : Cond.code yX10_painted cX10_painted 4 (some .int) ∈ xgw := (xg_5 51 rfl rfl)
set_option maxRecDepth 20000 in
theorem mb_X5_knownBits : xMb yX5_knownBits 0 := ⟨wi_X5, by decide +kernel⟩
set_option maxRecDepth 20000 in
theorem vlX10_338 : xVl RX10 338 yX5_knownBits 0 5 := ⟨(xg_5 52 rfl rfl), (xg_5 53 rfl rfl), (xg_5 54 rfl rfl), mb_X5_knownBits, _, _, rfl⟩
set_option maxRecDepth 20000 in
theorem coX5_knownBits : Cond.code yX5_knownBits cX5_knownBits 4 (some .int) ∈ xgw := (xg_5 55 rfl rfl)
set_option maxRecDepth 20000 in
theorem mb_X5_knownSize : xMb yX5_knownSize 0 := ⟨wi_X5, by decide +kernel⟩
set_option maxRecDepth 20000 in
theorem vlX5_31 : xVl RX5 31 yX5_knownSize 0 5 := ⟨(xg_5 56 rfl rfl), (xg_5 57 rfl rfl), (xg_5 58 rfl rfl), mb_X5_knownSize, _, _, rfl⟩
set_option maxRecDepth 20000 in
theorem coX5_knownSize : Cond.code yX5_knownSize cX5_knownSize 1 (some .int) ∈ xgw := (xg_5 59 rfl rfl)
set_option maxRecDepth 20000 in
theorem hlX5_35 : Cond.methodLink RX5 35 Lib.Math.min.name ∈ xgw := (xg_5 60 rfl rfl)
set_option maxRecDepth 20000 in
theorem mb_X10_makesKnownSo : xMb yX10_makesKnownSo 2 := ⟨wi_X10, by decide +kernel⟩
set_option maxRecDepth 20000 in
theorem vlX10_342 : xVl RX10 342 yX10_makesKnownSo 2 10 := ⟨(xg_5 61 rfl rfl), (xg_5 63 rfl rfl), (xg_s 42 rfl rfl), mb_X10_makesKnownSo, _, _, rfl⟩
set_option maxRecDepth 20000 in
theorem coX10_makesKnownSo : Cond.code yX10_makesKnownSo cX10_makesKnownSo 5 (some .boolean) ∈ xgw := (xg_5 64 rfl rfl)
set_option maxRecDepth 20000 in
theorem mb_X0_paintAlone : xMb yX0_paintAlone 2 := ⟨wi_X0, by decide +kernel⟩
set_option maxRecDepth 20000 in
theorem vlX10_346 : xVl RX10 346 yX0_paintAlone 2 0 := ⟨(xg_5 65 rfl rfl), (xg_5 66 rfl rfl), (xg_5 67 rfl rfl), mb_X0_paintAlone, _, _, rfl⟩
set_option maxRecDepth 20000 in
theorem coX0_paintAlone : Cond.code yX0_paintAlone cX0_paintAlone 3 none ∈ xgw := (xg_5 68 rfl rfl)
set_option maxRecDepth 20000 in
theorem mb_X5_lastYearOf : xMb yX5_lastYearOf 1 := ⟨wi_X5, by decide +kernel⟩
set_option maxRecDepth 20000 in
theorem vlX10_349 : xVl RX10 349 yX5_lastYearOf 1 5 := ⟨(xg_5 69 rfl rfl), (xg_5 70 rfl rfl), (xg_5 71 rfl rfl), mb_X5_lastYearOf, _, _, rfl⟩
set_option maxRecDepth 20000 in
theorem coX5_lastYearOf : Cond.code yX5_lastYearOf cX5_lastYearOf 4 (some .int) ∈ xgw := (xg_5 72 rfl rfl)
set_option maxRecDepth 20000 in
theorem hlX5_41 : Cond.methodLink RX5 41 Lib.Math.max.name ∈ xgw := (xg_5 73 rfl rfl)
set_option maxRecDepth 20000 in
theorem mb_X5_agree : xMb yX5_agree 3 := ⟨wi_X5, by decide +kernel⟩
set_option maxRecDepth 20000 in
theorem vlX10_352 : xVl RX10 352 yX5_agree 3 5 := ⟨(xg_5 74 rfl rfl), (xg_5 75 rfl rfl), (xg_5 76 rfl rfl), mb_X5_agree, _, _, rfl⟩
set_option maxRecDepth 20000 in
theorem coX5_agree : Cond.code yX5_agree cX5_agree 6 (some .boolean) ∈ xgw := (xg_5 77 rfl rfl)
set_option maxRecDepth 20000 in
theorem vlX5_44 : xVl RX5 44 yX0_bridgeBears 0 0 := ⟨(xg_5 78 rfl rfl), (xg_4 68 rfl rfl), (xg_4 69 rfl rfl), mb_X0_bridgeBears, _, _, rfl⟩
set_option maxRecDepth 20000 in
theorem slX5_49 : xSl RX5 49 yX10_sagOf 2 := ⟨Or.inr ⟨"RopeLedger", xt_5 (List.mem_of_getElem? (i := 79) rfl)⟩, (xg_4 78 rfl rfl), mb_X10_sagOf⟩
set_option maxRecDepth 20000 in
theorem mb_X10_tells : xMb yX10_tells 1 := ⟨wi_X10, by decide +kernel⟩
set_option maxRecDepth 20000 in
theorem vlL_147 : xVl RL 147 yX10_tells 1 10 := ⟨(xg_5 80 rfl rfl), (xg_5 81 rfl rfl), (xg_5 82 rfl rfl), mb_X10_tells, _, _, rfl⟩
set_option maxRecDepth 20000 in
theorem coX10_tells : Cond.code yX10_tells cX10_tells 5 (some .int) ∈ xgw := (xg_5 83 rfl rfl)
set_option maxRecDepth 20000 in
theorem mb_X10_mostTelling : xMb yX10_mostTelling 2 := ⟨wi_X10, by decide +kernel⟩
set_option maxRecDepth 20000 in
theorem vlX10_355 : xVl RX10 355 yX10_mostTelling 2 10 := ⟨(xg_5 84 rfl rfl), (xg_5 86 rfl rfl), (xg_s 43 rfl rfl), mb_X10_mostTelling, _, _, rfl⟩
set_option maxRecDepth 20000 in
theorem coX10_mostTelling : Cond.code yX10_mostTelling cX10_mostTelling 7 (some .int) ∈ xgw := (xg_5 87 rfl rfl)
set_option maxRecDepth 20000 in
theorem mb_X10_waysOf : xMb yX10_waysOf 2 := ⟨wi_X10, by decide +kernel⟩
set_option maxRecDepth 20000 in
theorem vlX10_358 : xVl RX10 358 yX10_waysOf 2 10 := ⟨(xg_5 88 rfl rfl), (xg_5 90 rfl rfl), (xg_s 44 rfl rfl), mb_X10_waysOf, _, _, rfl⟩
set_option maxRecDepth 20000 in
theorem coX10_waysOf : Cond.code yX10_waysOf cX10_waysOf 7 (some .int) ∈ xgw := (xg_5 91 rfl rfl)
set_option maxRecDepth 20000 in
theorem mb_X10_rests : xMb yX10_rests 1 := ⟨wi_X10, by decide +kernel⟩
set_option maxRecDepth 20000 in
theorem vlL_151 : xVl RL 151 yX10_rests 1 10 := ⟨(xg_5 92 rfl rfl), (xg_5 93 rfl rfl), (xg_5 94 rfl rfl), mb_X10_rests, _, _, rfl⟩
set_option maxRecDepth 20000 in
theorem coX10_rests : Cond.code yX10_rests cX10_rests 2 (some .int) ∈ xgw := (xg_5 95 rfl rfl)
set_option maxRecDepth 20000 in
theorem mb_X10_restBits : xMb yX10_restBits 1 := ⟨wi_X10, by decide +kernel⟩
set_option maxRecDepth 20000 in
theorem vlX10_361 : xVl RX10 361 yX10_restBits 1 10 := ⟨(xg_5 96 rfl rfl), (xg_5 98 rfl rfl), (xg_s 45 rfl rfl), mb_X10_restBits, _, _, rfl⟩
set_option maxRecDepth 20000 in
theorem coX10_restBits : Cond.code yX10_restBits cX10_restBits 6 (some .int) ∈ xgw := (xg_5 99 rfl rfl)
set_option maxRecDepth 20000 in
theorem mb_X10_gains : xMb yX10_gains 3 := ⟨wi_X10, by decide +kernel⟩
set_option maxRecDepth 20000 in
theorem vlX10_364 : xVl RX10 364 yX10_gains 3 10 := ⟨(xg_5 100 rfl rfl), (xg_5 102 rfl rfl), (xg_s 46 rfl rfl), mb_X10_gains, _, _, rfl⟩
set_option maxRecDepth 20000 in
theorem coX10_gains : Cond.code yX10_gains cX10_gains 9 (some .int) ∈ xgw := (xg_5 103 rfl rfl)
set_option maxRecDepth 20000 in
theorem mb_X0_strandsOfSide : xMb yX0_strandsOfSide 1 := ⟨wi_X0, by decide +kernel⟩
set_option maxRecDepth 20000 in
theorem vlX10_368 : xVl RX10 368 yX0_strandsOfSide 1 0 := ⟨(xg_5 104 rfl rfl), (xg_5 105 rfl rfl), (xg_5 106 rfl rfl), mb_X0_strandsOfSide, _, _, rfl⟩
set_option maxRecDepth 20000 in
theorem coX0_strandsOfSide : Cond.code yX0_strandsOfSide cX0_strandsOfSide 4 (some .int) ∈ xgw := (xg_5 107 rfl rfl)
set_option maxRecDepth 20000 in
theorem mb_X0_owedOn : xMb yX0_owedOn 1 := ⟨wi_X0, by decide +kernel⟩
set_option maxRecDepth 20000 in
theorem vlX10_371 : xVl RX10 371 yX0_owedOn 1 0 := ⟨(xg_5 108 rfl rfl), (xg_5 109 rfl rfl), (xg_5 110 rfl rfl), mb_X0_owedOn, _, _, rfl⟩
set_option maxRecDepth 20000 in
theorem coX0_owedOn : Cond.code yX0_owedOn cX0_owedOn 4 (some .int) ∈ xgw := (xg_5 111 rfl rfl)
set_option maxRecDepth 20000 in
theorem mb_X10_rest : xMb yX10_rest 2 := ⟨wi_X10, by decide +kernel⟩
set_option maxRecDepth 20000 in
theorem vlL_155 : xVl RL 155 yX10_rest 2 10 := ⟨(xg_5 112 rfl rfl), (xg_5 113 rfl rfl), (xg_5 114 rfl rfl), mb_X10_rest, _, _, rfl⟩
set_option maxRecDepth 20000 in
theorem coX10_rest : Cond.code yX10_rest cX10_rest 6 (some .int) ∈ xgw := (xg_5 115 rfl rfl)
set_option maxRecDepth 20000 in
theorem mb_X10_chance : xMb yX10_chance 3 := ⟨wi_X10, by decide +kernel⟩
set_option maxRecDepth 20000 in
theorem vlL_159 : xVl RL 159 yX10_chance 3 10 := ⟨(xg_5 116 rfl rfl), (xg_5 117 rfl rfl), (xg_5 118 rfl rfl), mb_X10_chance, _, _, rfl⟩
set_option maxRecDepth 20000 in
theorem coX10_chance : Cond.code yX10_chance cX10_chance 9 (some .int) ∈ xgw := (xg_5 119 rfl rfl)
set_option maxRecDepth 20000 in
theorem mb_X10_befall : xMb yX10_befall 1 := ⟨wi_X10, by decide +kernel⟩
set_option maxRecDepth 20000 in
theorem vlX10_374 : xVl RX10 374 yX10_befall 1 10 := ⟨(xg_5 120 rfl rfl), (xg_5 122 rfl rfl), (xg_s 47 rfl rfl), mb_X10_befall, _, _, rfl⟩
set_option maxRecDepth 20000 in
theorem coX10_befall : Cond.code yX10_befall cX10_befall 6 (some .long) ∈ xgw := (xg_5 123 rfl rfl)
set_option maxRecDepth 20000 in
theorem mb_X10_drawNext : xMb yX10_drawNext 1 := ⟨wi_X10, by decide +kernel⟩
set_option maxRecDepth 20000 in
theorem slX10_378 : xSl RX10 378 yX10_drawNext 1 := ⟨Or.inl (xg_5 124 rfl rfl), (xg_5 125 rfl rfl), mb_X10_drawNext⟩
set_option maxRecDepth 20000 in
theorem coX10_drawNext : Cond.code yX10_drawNext cX10_drawNext 2 (some .long) ∈ xgw := (xg_5 126 rfl rfl)
set_option maxRecDepth 20000 in
theorem kcX10_388 : Cond.constantLong RX10 388 (1103515245) ∈ xgw := (xg_5 127 rfl rfl)
set_option maxRecDepth 20000 in
theorem kcX10_390 : Cond.constantLong RX10 390 (12345) ∈ xgw := (xg_5 128 rfl rfl)
set_option maxRecDepth 20000 in
theorem kcX10_392 : Cond.constantLong RX10 392 (2147483647) ∈ xgw := (xg_5 129 rfl rfl)
set_option maxRecDepth 20000 in
theorem kcX10_381 : Cond.constantLong RX10 381 (65536) ∈ xgw := (xg_5 130 rfl rfl)
set_option maxRecDepth 20000 in
theorem kcX10_383 : Cond.constantLong RX10 383 (10) ∈ xgw := (xg_5 131 rfl rfl)
set_option maxRecDepth 20000 in
theorem vlX10_385 : xVl RX10 385 yX0_fray 2 0 := ⟨(xg_5 132 rfl rfl), (xg_4 141 rfl rfl), (xg_4 142 rfl rfl), mb_X0_fray, _, _, rfl⟩
set_option maxRecDepth 20000 in
theorem mb_X10_tried : xMb yX10_tried 3 := ⟨wi_X10, by decide +kernel⟩
set_option maxRecDepth 20000 in
theorem vlL_163 : xVl RL 163 yX10_tried 3 10 := ⟨(xg_5 133 rfl rfl), (xg_5 134 rfl rfl), (xg_5 135 rfl rfl), mb_X10_tried, _, _, rfl⟩
set_option maxRecDepth 20000 in
theorem coX10_tried : Cond.code yX10_tried cX10_tried 7 (some .int) ∈ xgw := (xg_5 136 rfl rfl)
set_option maxRecDepth 20000 in
theorem mb_X10_undo : xMb yX10_undo 0 := ⟨wi_X10, by decide +kernel⟩
set_option maxRecDepth 20000 in
theorem vlL_167 : xVl RL 167 yX10_undo 0 10 := ⟨(xg_5 137 rfl rfl), (xg_5 138 rfl rfl), (xg_5 139 rfl rfl), mb_X10_undo, _, _, rfl⟩
set_option maxRecDepth 20000 in
theorem coX10_undo : Cond.code yX10_undo cX10_undo 1 (some .int) ∈ xgw := (xg_5 140 rfl rfl)
set_option maxRecDepth 20000 in
theorem mb_X10_keep : xMb yX10_keep 0 := ⟨wi_X10, by decide +kernel⟩
set_option maxRecDepth 20000 in
theorem vlL_171 : xVl RL 171 yX10_keep 0 10 := ⟨(xg_5 141 rfl rfl), (xg_5 142 rfl rfl), (xg_5 143 rfl rfl), mb_X10_keep, _, _, rfl⟩
set_option maxRecDepth 20000 in
theorem coX10_keep : Cond.code yX10_keep cX10_keep 1 (some .int) ∈ xgw := (xg_5 144 rfl rfl)
set_option maxRecDepth 20000 in
theorem mb_X10_back : xMb yX10_back 0 := ⟨wi_X10, by decide +kernel⟩
set_option maxRecDepth 20000 in
theorem vlL_175 : xVl RL 175 yX10_back 0 10 := ⟨(xg_5 145 rfl rfl), (xg_5 146 rfl rfl), (xg_5 147 rfl rfl), mb_X10_back, _, _, rfl⟩
set_option maxRecDepth 20000 in
theorem coX10_back : Cond.code yX10_back cX10_back 1 (some .int) ∈ xgw := (xg_5 148 rfl rfl)
set_option maxRecDepth 20000 in
theorem mb_X10_count : xMb yX10_count 1 := ⟨wi_X10, by decide +kernel⟩
set_option maxRecDepth 20000 in
theorem vlL_179 : xVl RL 179 yX10_count 1 10 := ⟨(xg_5 149 rfl rfl), (xg_5 150 rfl rfl), (xg_5 151 rfl rfl), mb_X10_count, _, _, rfl⟩
set_option maxRecDepth 20000 in
theorem coX10_count : Cond.code yX10_count cX10_count 2 (some .int) ∈ xgw := (xg_5 152 rfl rfl)
set_option maxRecDepth 20000 in
theorem mb_X0_strandsAs : xMb yX0_strandsAs 1 := ⟨wi_X0, by decide +kernel⟩
set_option maxRecDepth 20000 in
theorem vlX10_403 : xVl RX10 403 yX0_strandsAs 1 0 := ⟨(xg_5 153 rfl rfl), (xg_5 154 rfl rfl), (xg_5 155 rfl rfl), mb_X0_strandsAs, _, _, rfl⟩
set_option maxRecDepth 20000 in
theorem coX0_strandsAs : Cond.code yX0_strandsAs cX0_strandsAs 4 (some .int) ∈ xgw := (xg_5 156 rfl rfl)
set_option maxRecDepth 20000 in
theorem mb_X0_crossingsAs : xMb yX0_crossingsAs 1 := ⟨wi_X0, by decide +kernel⟩
set_option maxRecDepth 20000 in
theorem vlX10_406 : xVl RX10 406 yX0_crossingsAs 1 0 := ⟨(xg_5 157 rfl rfl), (xg_5 158 rfl rfl), (xg_5 159 rfl rfl), mb_X0_crossingsAs, _, _, rfl⟩
set_option maxRecDepth 20000 in
theorem coX0_crossingsAs : Cond.code yX0_crossingsAs cX0_crossingsAs 4 (some .int) ∈ xgw := (xg_5 160 rfl rfl)
set_option maxRecDepth 20000 in
theorem vlX10_412 : xVl RX10 412 yX5_knownSize 0 5 := ⟨(xg_5 161 rfl rfl), (xg_5 57 rfl rfl), (xg_5 58 rfl rfl), mb_X5_knownSize, _, _, rfl⟩
set_option maxRecDepth 20000 in
theorem mb_L_person : xMb yL_person 4 := ⟨wi_L, by decide +kernel⟩
set_option maxRecDepth 20000 in
theorem slL_39 : xSl RL 39 yL_person 4 := ⟨Or.inl (xg_5 162 rfl rfl), (xg_5 163 rfl rfl), mb_L_person⟩
set_option maxRecDepth 20000 in
theorem mb_X10_person : xMb yX10_person 2 := ⟨wi_X10, by decide +kernel⟩
set_option maxRecDepth 20000 in
theorem vlL_7 : xVl RL 7 yX10_person 2 10 := ⟨(xg_5 167 rfl rfl), (xg_5 168 rfl rfl), (xg_5 169 rfl rfl), mb_X10_person, _, _, rfl⟩
set_option maxRecDepth 20000 in
theorem coX10_person : Cond.code yX10_person cX10_person 3 (some .int) ∈ xgw := (xg_5 170 rfl rfl)
set_option maxRecDepth 20000 in
theorem wcL_18 : Cond.classLink RL 18 RX11 ∈ xgw := (xg_6 13 rfl rfl)
set_option maxRecDepth 20000 in
theorem nlL_18 : xNl RL 18 11 91 := ⟨_, _, rfl, wcL_18, (xg_6 14 rfl rfl), wi_X11⟩
set_option maxRecDepth 20000 in
theorem mb_X11_init : xMb yX11_init 0 := ⟨wi_X11, by decide +kernel⟩
set_option maxRecDepth 20000 in
theorem ilL_20 : xIl RL 20 yX11_init 0 := ⟨Or.inl (xg_6 15 rfl rfl), (xg_6 16 rfl rfl), rfl, mb_X11_init⟩
set_option maxRecDepth 20000 in
theorem coX11_init : Cond.code yX11_init cX11_init 1 none ∈ xgw := (xg_6 17 rfl rfl)
set_option maxRecDepth 20000 in
theorem olX11_1 : Cond.methodLink RX11 1 objectInit ∈ xgw := (xg_6 18 rfl rfl)
set_option maxRecDepth 20000 in
theorem mb_X11_plain : xMb yX11_plain 0 := ⟨wi_X11, by decide +kernel⟩
set_option maxRecDepth 20000 in
theorem vlX11_187 : xVl RX11 187 yX11_plain 0 11 := ⟨(xg_6 19 rfl rfl), (xg_6 21 rfl rfl), (xg_s 49 rfl rfl), mb_X11_plain, _, _, rfl⟩
set_option maxRecDepth 20000 in
theorem coX11_plain : Cond.code yX11_plain cX11_plain 2 none ∈ xgw := (xg_6 22 rfl rfl)
set_option maxRecDepth 20000 in
theorem mb_X11_keepText : xMb yX11_keepText 0 := ⟨wi_X11, by decide +kernel⟩
set_option maxRecDepth 20000 in
theorem vlX11_190 : xVl RX11 190 yX11_keepText 0 11 := ⟨(xg_6 23 rfl rfl), (xg_6 25 rfl rfl), (xg_s 50 rfl rfl), mb_X11_keepText, _, _, rfl⟩
set_option maxRecDepth 20000 in
theorem coX11_keepText : Cond.code yX11_keepText cX11_keepText 2 none ∈ xgw := (xg_6 26 rfl rfl)
set_option maxRecDepth 20000 in
theorem mb_X11_copies : xMb yX11_copies 2 := ⟨wi_X11, by decide +kernel⟩
set_option maxRecDepth 20000 in
theorem slX11_282 : xSl RX11 282 yX11_copies 2 := ⟨Or.inl (xg_6 27 rfl rfl), (xg_6 28 rfl rfl), mb_X11_copies⟩
set_option maxRecDepth 20000 in
theorem coX11_copies : Cond.code yX11_copies cX11_copies 3 none ∈ xgw := (xg_6 29 rfl rfl)
set_option maxRecDepth 20000 in
theorem mb_X11_begin : xMb yX11_begin 0 := ⟨wi_X11, by decide +kernel⟩
set_option maxRecDepth 20000 in
theorem vlX11_286 : xVl RX11 286 yX11_begin 0 11 := ⟨(xg_6 30 rfl rfl), (xg_6 32 rfl rfl), (xg_s 51 rfl rfl), mb_X11_begin, _, _, rfl⟩
set_option maxRecDepth 20000 in
theorem coX11_begin : Cond.code yX11_begin cX11_begin 1 none ∈ xgw := (xg_6 33 rfl rfl)
set_option maxRecDepth 20000 in
theorem mb_X11_atFirst : xMb yX11_atFirst 1 := ⟨wi_X11, by decide +kernel⟩
set_option maxRecDepth 20000 in
theorem vlX11_390 : xVl RX11 390 yX11_atFirst 1 11 := ⟨(xg_6 34 rfl rfl), (xg_6 36 rfl rfl), (xg_s 52 rfl rfl), mb_X11_atFirst, _, _, rfl⟩
set_option maxRecDepth 20000 in
theorem coX11_atFirst : Cond.code yX11_atFirst cX11_atFirst 3 none ∈ xgw := (xg_6 37 rfl rfl)
set_option maxRecDepth 20000 in
theorem mb_X11_plainTried : xMb yX11_plainTried 0 := ⟨wi_X11, by decide +kernel⟩
set_option maxRecDepth 20000 in
theorem vlX11_397 : xVl RX11 397 yX11_plainTried 0 11 := ⟨(xg_6 38 rfl rfl), (xg_6 40 rfl rfl), (xg_s 53 rfl rfl), mb_X11_plainTried, _, _, rfl⟩
set_option maxRecDepth 20000 in
theorem coX11_plainTried : Cond.code yX11_plainTried cX11_plainTried 1 none ∈ xgw := (xg_6 41 rfl rfl)
set_option maxRecDepth 20000 in
theorem flX11_7 : xFl RX11 7 11 0 (.array .int) := ⟨_, _, _, rfl, by decide, (xg_6 42 rfl rfl), by decide +kernel⟩
set_option maxRecDepth 20000 in
theorem flX11_196 : xFl RX11 196 11 1 .int := ⟨_, _, _, rfl, by decide, (xg_6 43 rfl rfl), by decide +kernel⟩
set_option maxRecDepth 20000 in
theorem flX11_193 : xFl RX11 193 11 2 .int := ⟨_, _, _, rfl, by decide, (xg_6 44 rfl rfl), by decide +kernel⟩
set_option maxRecDepth 20000 in
theorem flX11_13 : xFl RX11 13 11 3 (.array .int) := ⟨_, _, _, rfl, by decide, (xg_6 45 rfl rfl), by decide +kernel⟩
set_option maxRecDepth 20000 in
theorem flX11_199 : xFl RX11 199 11 4 .int := ⟨_, _, _, rfl, by decide, (xg_6 46 rfl rfl), by decide +kernel⟩
set_option maxRecDepth 20000 in
theorem flX11_16 : xFl RX11 16 11 5 .int := ⟨_, _, _, rfl, by decide, (xg_6 47 rfl rfl), by decide +kernel⟩
set_option maxRecDepth 20000 in
theorem flX11_205 : xFl RX11 205 11 6 .int := ⟨_, _, _, rfl, by decide, (xg_6 48 rfl rfl), by decide +kernel⟩
set_option maxRecDepth 20000 in
theorem flX11_208 : xFl RX11 208 11 7 .int := ⟨_, _, _, rfl, by decide, (xg_6 49 rfl rfl), by decide +kernel⟩
set_option maxRecDepth 20000 in
theorem flX11_211 : xFl RX11 211 11 8 .int := ⟨_, _, _, rfl, by decide, (xg_6 50 rfl rfl), by decide +kernel⟩
set_option maxRecDepth 20000 in
theorem flX11_222 : xFl RX11 222 11 9 .int := ⟨_, _, _, rfl, by decide, (xg_6 51 rfl rfl), by decide +kernel⟩
set_option maxRecDepth 20000 in
theorem flX11_202 : xFl RX11 202 11 10 .int := ⟨_, _, _, rfl, by decide, (xg_6 52 rfl rfl), by decide +kernel⟩
set_option maxRecDepth 20000 in
theorem flX11_242 : xFl RX11 242 11 11 .int := ⟨_, _, _, rfl, by decide, (xg_6 53 rfl rfl), by decide +kernel⟩
set_option maxRecDepth 20000 in
theorem flX11_270 : xFl RX11 270 11 12 .int := ⟨_, _, _, rfl, by decide, (xg_6 54 rfl rfl), by decide +kernel⟩
set_option maxRecDepth 20000 in
theorem flX11_273 : xFl RX11 273 11 13 .int := ⟨_, _, _, rfl, by decide, (xg_6 55 rfl rfl), by decide +kernel⟩
set_option maxRecDepth 20000 in
theorem flX11_276 : xFl RX11 276 11 14 .int := ⟨_, _, _, rfl, by decide, (xg_6 56 rfl rfl), by decide +kernel⟩
set_option maxRecDepth 20000 in
theorem flX11_279 : xFl RX11 279 11 15 .int := ⟨_, _, _, rfl, by decide, (xg_6 57 rfl rfl), by decide +kernel⟩
set_option maxRecDepth 20000 in
theorem flX11_255 : xFl RX11 255 11 16 .int := ⟨_, _, _, rfl, by decide, (xg_6 58 rfl rfl), by decide +kernel⟩
set_option maxRecDepth 20000 in
theorem flX11_258 : xFl RX11 258 11 17 .int := ⟨_, _, _, rfl, by decide, (xg_6 59 rfl rfl), by decide +kernel⟩
set_option maxRecDepth 20000 in
theorem flX11_261 : xFl RX11 261 11 18 .int := ⟨_, _, _, rfl, by decide, (xg_6 60 rfl rfl), by decide +kernel⟩
set_option maxRecDepth 20000 in
theorem flX11_264 : xFl RX11 264 11 19 .int := ⟨_, _, _, rfl, by decide, (xg_6 61 rfl rfl), by decide +kernel⟩
set_option maxRecDepth 20000 in
theorem flX11_20 : xFl RX11 20 11 20 (.array .boolean) := ⟨_, _, _, rfl, by decide, (xg_6 62 rfl rfl), by decide +kernel⟩
set_option maxRecDepth 20000 in
theorem flX11_24 : xFl RX11 24 11 21 (.array .int) := ⟨_, _, _, rfl, by decide, (xg_6 63 rfl rfl), by decide +kernel⟩
set_option maxRecDepth 20000 in
theorem flX11_27 : xFl RX11 27 11 22 (.array .int) := ⟨_, _, _, rfl, by decide, (xg_6 64 rfl rfl), by decide +kernel⟩
set_option maxRecDepth 20000 in
theorem flX11_30 : xFl RX11 30 11 23 (.array .int) := ⟨_, _, _, rfl, by decide, (xg_6 65 rfl rfl), by decide +kernel⟩
set_option maxRecDepth 20000 in
theorem flX11_33 : xFl RX11 33 11 24 (.array .int) := ⟨_, _, _, rfl, by decide, (xg_6 66 rfl rfl), by decide +kernel⟩
set_option maxRecDepth 20000 in
theorem flX11_36 : xFl RX11 36 11 25 (.array .int) := ⟨_, _, _, rfl, by decide, (xg_6 67 rfl rfl), by decide +kernel⟩
set_option maxRecDepth 20000 in
theorem flX11_39 : xFl RX11 39 11 26 (.array .int) := ⟨_, _, _, rfl, by decide, (xg_6 68 rfl rfl), by decide +kernel⟩
set_option maxRecDepth 20000 in
theorem flX11_42 : xFl RX11 42 11 27 (.array .int) := ⟨_, _, _, rfl, by decide, (xg_6 69 rfl rfl), by decide +kernel⟩
set_option maxRecDepth 20000 in
theorem flX11_45 : xFl RX11 45 11 28 (.array .int) := ⟨_, _, _, rfl, by decide, (xg_6 70 rfl rfl), by decide +kernel⟩
set_option maxRecDepth 20000 in
theorem flX11_48 : xFl RX11 48 11 29 (.array .int) := ⟨_, _, _, rfl, by decide, (xg_6 71 rfl rfl), by decide +kernel⟩
set_option maxRecDepth 20000 in
theorem flX11_51 : xFl RX11 51 11 30 (.array .int) := ⟨_, _, _, rfl, by decide, (xg_6 72 rfl rfl), by decide +kernel⟩
set_option maxRecDepth 20000 in
theorem flX11_54 : xFl RX11 54 11 31 (.array .int) := ⟨_, _, _, rfl, by decide, (xg_6 73 rfl rfl), by decide +kernel⟩
set_option maxRecDepth 20000 in
theorem flX11_57 : xFl RX11 57 11 32 (.array .int) := ⟨_, _, _, rfl, by decide, (xg_6 74 rfl rfl), by decide +kernel⟩
set_option maxRecDepth 20000 in
theorem flX11_60 : xFl RX11 60 11 33 (.array .int) := ⟨_, _, _, rfl, by decide, (xg_6 75 rfl rfl), by decide +kernel⟩
set_option maxRecDepth 20000 in
theorem flX11_63 : xFl RX11 63 11 34 (.array .int) := ⟨_, _, _, rfl, by decide, (xg_6 76 rfl rfl), by decide +kernel⟩
set_option maxRecDepth 20000 in
theorem flX11_66 : xFl RX11 66 11 35 (.array .int) := ⟨_, _, _, rfl, by decide, (xg_6 77 rfl rfl), by decide +kernel⟩
set_option maxRecDepth 20000 in
theorem flX11_69 : xFl RX11 69 11 36 (.array .boolean) := ⟨_, _, _, rfl, by decide, (xg_6 78 rfl rfl), by decide +kernel⟩
set_option maxRecDepth 20000 in
theorem flX11_72 : xFl RX11 72 11 37 (.array .int) := ⟨_, _, _, rfl, by decide, (xg_6 79 rfl rfl), by decide +kernel⟩
set_option maxRecDepth 20000 in
theorem flX11_75 : xFl RX11 75 11 38 (.array .int) := ⟨_, _, _, rfl, by decide, (xg_6 80 rfl rfl), by decide +kernel⟩
set_option maxRecDepth 20000 in
theorem flX11_78 : xFl RX11 78 11 39 (.array .int) := ⟨_, _, _, rfl, by decide, (xg_6 81 rfl rfl), by decide +kernel⟩
set_option maxRecDepth 20000 in
theorem flX11_81 : xFl RX11 81 11 40 (.array .int) := ⟨_, _, _, rfl, by decide, (xg_6 82 rfl rfl), by decide +kernel⟩
set_option maxRecDepth 20000 in
theorem flX11_84 : xFl RX11 84 11 41 (.array .int) := ⟨_, _, _, rfl, by decide, (xg_6 83 rfl rfl), by decide +kernel⟩
set_option maxRecDepth 20000 in
theorem flX11_87 : xFl RX11 87 11 42 (.array .int) := ⟨_, _, _, rfl, by decide, (xg_6 84 rfl rfl), by decide +kernel⟩
set_option maxRecDepth 20000 in
theorem flX11_90 : xFl RX11 90 11 43 (.array .int) := ⟨_, _, _, rfl, by decide, (xg_6 85 rfl rfl), by decide +kernel⟩
set_option maxRecDepth 20000 in
theorem flX11_327 : xFl RX11 327 11 44 .int := ⟨_, _, _, rfl, by decide, (xg_6 86 rfl rfl), by decide +kernel⟩
set_option maxRecDepth 20000 in
theorem flX11_324 : xFl RX11 324 11 45 .int := ⟨_, _, _, rfl, by decide, (xg_6 87 rfl rfl), by decide +kernel⟩
set_option maxRecDepth 20000 in
theorem flX11_342 : xFl RX11 342 11 46 .int := ⟨_, _, _, rfl, by decide, (xg_6 88 rfl rfl), by decide +kernel⟩
set_option maxRecDepth 20000 in
theorem flX11_267 : xFl RX11 267 11 47 .int := ⟨_, _, _, rfl, by decide, (xg_6 89 rfl rfl), by decide +kernel⟩
set_option maxRecDepth 20000 in
theorem flX11_359 : xFl RX11 359 11 48 .boolean := ⟨_, _, _, rfl, by decide, (xg_6 90 rfl rfl), by decide +kernel⟩
set_option maxRecDepth 20000 in
theorem flX11_349 : xFl RX11 349 11 49 .boolean := ⟨_, _, _, rfl, by decide, (xg_6 91 rfl rfl), by decide +kernel⟩
set_option maxRecDepth 20000 in
theorem flX11_93 : xFl RX11 93 11 50 (.array .long) := ⟨_, _, _, rfl, by decide, (xg_6 92 rfl rfl), by decide +kernel⟩
set_option maxRecDepth 20000 in
theorem flX11_97 : xFl RX11 97 11 51 (.array .long) := ⟨_, _, _, rfl, by decide, (xg_6 93 rfl rfl), by decide +kernel⟩
set_option maxRecDepth 20000 in
theorem flX11_371 : xFl RX11 371 11 52 .boolean := ⟨_, _, _, rfl, by decide, (xg_6 94 rfl rfl), by decide +kernel⟩
set_option maxRecDepth 20000 in
theorem flX11_100 : xFl RX11 100 11 53 (.array .int) := ⟨_, _, _, rfl, by decide, (xg_6 95 rfl rfl), by decide +kernel⟩
set_option maxRecDepth 20000 in
theorem flX11_103 : xFl RX11 103 11 54 (.array .int) := ⟨_, _, _, rfl, by decide, (xg_6 96 rfl rfl), by decide +kernel⟩
set_option maxRecDepth 20000 in
theorem flX11_106 : xFl RX11 106 11 55 (.array .int) := ⟨_, _, _, rfl, by decide, (xg_6 97 rfl rfl), by decide +kernel⟩
set_option maxRecDepth 20000 in
theorem flX11_109 : xFl RX11 109 11 56 (.array .int) := ⟨_, _, _, rfl, by decide, (xg_6 98 rfl rfl), by decide +kernel⟩
set_option maxRecDepth 20000 in
theorem flX11_112 : xFl RX11 112 11 57 (.array .int) := ⟨_, _, _, rfl, by decide, (xg_6 99 rfl rfl), by decide +kernel⟩
set_option maxRecDepth 20000 in
theorem flX11_115 : xFl RX11 115 11 58 (.array .int) := ⟨_, _, _, rfl, by decide, (xg_6 100 rfl rfl), by decide +kernel⟩
set_option maxRecDepth 20000 in
theorem flX11_118 : xFl RX11 118 11 59 (.array .int) := ⟨_, _, _, rfl, by decide, (xg_6 101 rfl rfl), by decide +kernel⟩
set_option maxRecDepth 20000 in
theorem flX11_121 : xFl RX11 121 11 60 (.array .int) := ⟨_, _, _, rfl, by decide, (xg_6 102 rfl rfl), by decide +kernel⟩
set_option maxRecDepth 20000 in
theorem flX11_124 : xFl RX11 124 11 61 (.array .int) := ⟨_, _, _, rfl, by decide, (xg_6 103 rfl rfl), by decide +kernel⟩
set_option maxRecDepth 20000 in
theorem flX11_127 : xFl RX11 127 11 62 (.array .int) := ⟨_, _, _, rfl, by decide, (xg_6 104 rfl rfl), by decide +kernel⟩
set_option maxRecDepth 20000 in
theorem flX11_130 : xFl RX11 130 11 63 (.array .int) := ⟨_, _, _, rfl, by decide, (xg_6 105 rfl rfl), by decide +kernel⟩
set_option maxRecDepth 20000 in
theorem flX11_133 : xFl RX11 133 11 64 (.array .int) := ⟨_, _, _, rfl, by decide, (xg_6 106 rfl rfl), by decide +kernel⟩
set_option maxRecDepth 20000 in
theorem flX11_136 : xFl RX11 136 11 65 (.array .int) := ⟨_, _, _, rfl, by decide, (xg_6 107 rfl rfl), by decide +kernel⟩
set_option maxRecDepth 20000 in
theorem flX11_139 : xFl RX11 139 11 66 (.array .int) := ⟨_, _, _, rfl, by decide, (xg_6 108 rfl rfl), by decide +kernel⟩
set_option maxRecDepth 20000 in
theorem flX11_142 : xFl RX11 142 11 67 (.array .int) := ⟨_, _, _, rfl, by decide, (xg_6 109 rfl rfl), by decide +kernel⟩
set_option maxRecDepth 20000 in
theorem flX11_393 : xFl RX11 393 11 68 .long := ⟨_, _, _, rfl, by decide, (xg_6 110 rfl rfl), by decide +kernel⟩
set_option maxRecDepth 20000 in
theorem flX11_409 : xFl RX11 409 11 69 .boolean := ⟨_, _, _, rfl, by decide, (xg_6 111 rfl rfl), by decide +kernel⟩
set_option maxRecDepth 20000 in
theorem flX11_412 : xFl RX11 412 11 70 .boolean := ⟨_, _, _, rfl, by decide, (xg_6 112 rfl rfl), by decide +kernel⟩
set_option maxRecDepth 20000 in
theorem flX11_415 : xFl RX11 415 11 71 .boolean := ⟨_, _, _, rfl, by decide, (xg_6 113 rfl rfl), by decide +kernel⟩
set_option maxRecDepth 20000 in
theorem flX11_145 : xFl RX11 145 11 72 (.array .boolean) := ⟨_, _, _, rfl, by decide, (xg_6 114 rfl rfl), by decide +kernel⟩
set_option maxRecDepth 20000 in
theorem flX11_148 : xFl RX11 148 11 73 (.array .int) := ⟨_, _, _, rfl, by decide, (xg_6 115 rfl rfl), by decide +kernel⟩
set_option maxRecDepth 20000 in
theorem flX11_151 : xFl RX11 151 11 74 (.array .int) := ⟨_, _, _, rfl, by decide, (xg_6 116 rfl rfl), by decide +kernel⟩
set_option maxRecDepth 20000 in
theorem flX11_154 : xFl RX11 154 11 75 (.array .int) := ⟨_, _, _, rfl, by decide, (xg_6 117 rfl rfl), by decide +kernel⟩
set_option maxRecDepth 20000 in
theorem flX11_400 : xFl RX11 400 11 76 .int := ⟨_, _, _, rfl, by decide, (xg_6 118 rfl rfl), by decide +kernel⟩
set_option maxRecDepth 20000 in
theorem flX11_157 : xFl RX11 157 11 77 .int := ⟨_, _, _, rfl, by decide, (xg_6 119 rfl rfl), by decide +kernel⟩
set_option maxRecDepth 20000 in
theorem flX11_160 : xFl RX11 160 11 78 (.array .int) := ⟨_, _, _, rfl, by decide, (xg_6 120 rfl rfl), by decide +kernel⟩
set_option maxRecDepth 20000 in
theorem flX11_163 : xFl RX11 163 11 79 (.array .boolean) := ⟨_, _, _, rfl, by decide, (xg_6 121 rfl rfl), by decide +kernel⟩
set_option maxRecDepth 20000 in
theorem flX11_166 : xFl RX11 166 11 80 (.array .int) := ⟨_, _, _, rfl, by decide, (xg_6 122 rfl rfl), by decide +kernel⟩
set_option maxRecDepth 20000 in
theorem flX11_169 : xFl RX11 169 11 81 (.array .int) := ⟨_, _, _, rfl, by decide, (xg_6 123 rfl rfl), by decide +kernel⟩
set_option maxRecDepth 20000 in
theorem flX11_172 : xFl RX11 172 11 82 (.array .int) := ⟨_, _, _, rfl, by decide, (xg_6 124 rfl rfl), by decide +kernel⟩
set_option maxRecDepth 20000 in
theorem flX11_403 : xFl RX11 403 11 83 .int := ⟨_, _, _, rfl, by decide, (xg_6 125 rfl rfl), by decide +kernel⟩
set_option maxRecDepth 20000 in
theorem flX11_175 : xFl RX11 175 11 84 (.array .int) := ⟨_, _, _, rfl, by decide, (xg_6 126 rfl rfl), by decide +kernel⟩
set_option maxRecDepth 20000 in
theorem flX11_406 : xFl RX11 406 11 85 .boolean := ⟨_, _, _, rfl, by decide, (xg_6 127 rfl rfl), by decide +kernel⟩
set_option maxRecDepth 20000 in
theorem flX11_178 : xFl RX11 178 11 86 (.array .int) := ⟨_, _, _, rfl, by decide, (xg_6 128 rfl rfl), by decide +kernel⟩
set_option maxRecDepth 20000 in
theorem flX11_181 : xFl RX11 181 11 87 (.array .int) := ⟨_, _, _, rfl, by decide, (xg_6 129 rfl rfl), by decide +kernel⟩
set_option maxRecDepth 20000 in
theorem flX11_184 : xFl RX11 184 11 88 (.array .int) := ⟨_, _, _, rfl, by decide, (xg_6 130 rfl rfl), by decide +kernel⟩
set_option maxRecDepth 20000 in
theorem flX11_554 : xFl RX11 554 11 89 .int := ⟨_, _, _, rfl, by decide, (xg_6 131 rfl rfl), by decide +kernel⟩
set_option maxRecDepth 20000 in
theorem flX11_557 : xFl RX11 557 11 90 .long := ⟨_, _, _, rfl, by decide, (xg_6 132 rfl rfl), by decide +kernel⟩
set_option maxRecDepth 20000 in
theorem mb_X11_thrown : xMb yX11_thrown 0 := ⟨wi_X11, by decide +kernel⟩
set_option maxRecDepth 20000 in
theorem vlL_45 : xVl RL 45 yX11_thrown 0 11 := ⟨(xg_7 77 rfl rfl), (xg_7 78 rfl rfl), (xg_7 79 rfl rfl), mb_X11_thrown, _, _, rfl⟩
set_option maxRecDepth 20000 in
theorem coX11_thrown : Cond.code yX11_thrown cX11_thrown 1 (some .int) ∈ xgw := (xg_7 80 rfl rfl)
set_option maxRecDepth 20000 in
theorem mb_X11_feed : xMb yX11_feed 5 := ⟨wi_X11, by decide +kernel⟩
set_option maxRecDepth 20000 in
theorem vlL_25 : xVl RL 25 yX11_feed 5 11 := ⟨(xg_7 81 rfl rfl), (xg_7 82 rfl rfl), (xg_7 83 rfl rfl), mb_X11_feed, _, _, rfl⟩
set_option maxRecDepth 20000 in
theorem coX11_feed : Cond.code yX11_feed cX11_feed 8 (some .int) ∈ xgw := (xg_7 84 rfl rfl)
set_option maxRecDepth 20000 in
theorem mb_X11_text : xMb yX11_text 1 := ⟨wi_X11, by decide +kernel⟩
set_option maxRecDepth 20000 in
theorem vlL_30 : xVl RL 30 yX11_text 1 11 := ⟨(xg_7 85 rfl rfl), (xg_7 86 rfl rfl), (xg_7 87 rfl rfl), mb_X11_text, _, _, rfl⟩
set_option maxRecDepth 20000 in
theorem coX11_text : Cond.code yX11_text cX11_text 3 (some .int) ∈ xgw := (xg_7 88 rfl rfl)
set_option maxRecDepth 20000 in
theorem mb_X11_token : xMb yX11_token 0 := ⟨wi_X11, by decide +kernel⟩
set_option maxRecDepth 20000 in
theorem vlX11_245 : xVl RX11 245 yX11_token 0 11 := ⟨(xg_7 89 rfl rfl), (xg_7 91 rfl rfl), (xg_s 54 rfl rfl), mb_X11_token, _, _, rfl⟩
set_option maxRecDepth 20000 in
theorem coX11_token : Cond.code yX11_token cX11_token 1 none ∈ xgw := (xg_7 92 rfl rfl)
set_option maxRecDepth 20000 in
theorem mb_X11_isSmall : xMb yX11_isSmall 1 := ⟨wi_X11, by decide +kernel⟩
set_option maxRecDepth 20000 in
theorem vlX11_214 : xVl RX11 214 yX11_isSmall 1 11 := ⟨(xg_7 93 rfl rfl), (xg_7 95 rfl rfl), (xg_s 55 rfl rfl), mb_X11_isSmall, _, _, rfl⟩
set_option maxRecDepth 20000 in
theorem coX11_isSmall : Cond.code yX11_isSmall cX11_isSmall 2 (some .boolean) ∈ xgw := (xg_7 96 rfl rfl)
set_option maxRecDepth 20000 in
theorem mb_X11_wordAt : xMb yX11_wordAt 2 := ⟨wi_X11, by decide +kernel⟩
set_option maxRecDepth 20000 in
theorem vlX11_218 : xVl RX11 218 yX11_wordAt 2 11 := ⟨(xg_7 97 rfl rfl), (xg_7 99 rfl rfl), (xg_s 56 rfl rfl), mb_X11_wordAt, _, _, rfl⟩
set_option maxRecDepth 20000 in
theorem coX11_wordAt : Cond.code yX11_wordAt cX11_wordAt 8 (some .int) ∈ xgw := (xg_7 100 rfl rfl)
set_option maxRecDepth 20000 in
theorem mb_X11_packed : xMb yX11_packed 2 := ⟨wi_X11, by decide +kernel⟩
set_option maxRecDepth 20000 in
theorem vlX11_225 : xVl RX11 225 yX11_packed 2 11 := ⟨(xg_7 101 rfl rfl), (xg_7 103 rfl rfl), (xg_s 57 rfl rfl), mb_X11_packed, _, _, rfl⟩
set_option maxRecDepth 20000 in
theorem coX11_packed : Cond.code yX11_packed cX11_packed 5 (some .int) ∈ xgw := (xg_7 104 rfl rfl)
set_option maxRecDepth 20000 in
theorem mb_X11_isDigit : xMb yX11_isDigit 1 := ⟨wi_X11, by decide +kernel⟩
set_option maxRecDepth 20000 in
theorem vlX11_228 : xVl RX11 228 yX11_isDigit 1 11 := ⟨(xg_7 105 rfl rfl), (xg_7 107 rfl rfl), (xg_s 58 rfl rfl), mb_X11_isDigit, _, _, rfl⟩
set_option maxRecDepth 20000 in
theorem coX11_isDigit : Cond.code yX11_isDigit cX11_isDigit 2 (some .boolean) ∈ xgw := (xg_7 108 rfl rfl)
set_option maxRecDepth 20000 in
theorem kcX11_231 : Cond.constant RX11 231 (99999) ∈ xgw := (xg_7 109 rfl rfl)
set_option maxRecDepth 20000 in
theorem mb_X11_signToken : xMb yX11_signToken 0 := ⟨wi_X11, by decide +kernel⟩
set_option maxRecDepth 20000 in
theorem vlX11_232 : xVl RX11 232 yX11_signToken 0 11 := ⟨(xg_7 110 rfl rfl), (xg_7 112 rfl rfl), (xg_s 59 rfl rfl), mb_X11_signToken, _, _, rfl⟩
set_option maxRecDepth 20000 in
theorem coX11_signToken : Cond.code yX11_signToken cX11_signToken 4 none ∈ xgw := (xg_7 113 rfl rfl)
set_option maxRecDepth 20000 in
theorem mb_X11_lineRead : xMb yX11_lineRead 0 := ⟨wi_X11, by decide +kernel⟩
set_option maxRecDepth 20000 in
theorem vlX11_321 : xVl RX11 321 yX11_lineRead 0 11 := ⟨(xg_7 114 rfl rfl), (xg_7 116 rfl rfl), (xg_s 60 rfl rfl), mb_X11_lineRead, _, _, rfl⟩
set_option maxRecDepth 20000 in
theorem coX11_lineRead : Cond.code yX11_lineRead cX11_lineRead 3 (some .boolean) ∈ xgw := (xg_7 117 rfl rfl)
set_option maxRecDepth 20000 in
theorem mb_X11_wrong : xMb yX11_wrong 1 := ⟨wi_X11, by decide +kernel⟩
set_option maxRecDepth 20000 in
theorem vlX11_235 : xVl RX11 235 yX11_wrong 1 11 := ⟨(xg_7 118 rfl rfl), (xg_7 120 rfl rfl), (xg_s 61 rfl rfl), mb_X11_wrong, _, _, rfl⟩
set_option maxRecDepth 20000 in
theorem coX11_wrong : Cond.code yX11_wrong cX11_wrong 2 (some .boolean) ∈ xgw := (xg_7 121 rfl rfl)
set_option maxRecDepth 20000 in
theorem mb_X11_personLine : xMb yX11_personLine 0 := ⟨wi_X11, by decide +kernel⟩
set_option maxRecDepth 20000 in
theorem vlX11_303 : xVl RX11 303 yX11_personLine 0 11 := ⟨(xg_7 122 rfl rfl), (xg_7 124 rfl rfl), (xg_s 62 rfl rfl), mb_X11_personLine, _, _, rfl⟩
set_option maxRecDepth 20000 in
theorem coX11_personLine : Cond.code yX11_personLine cX11_personLine 2 (some .boolean) ∈ xgw := (xg_7 125 rfl rfl)
set_option maxRecDepth 20000 in
theorem mb_X11_find : xMb yX11_find 4 := ⟨wi_X11, by decide +kernel⟩
set_option maxRecDepth 20000 in
theorem slX11_289 : xSl RX11 289 yX11_find 4 := ⟨Or.inl (xg_7 126 rfl rfl), (xg_7 127 rfl rfl), mb_X11_find⟩
set_option maxRecDepth 20000 in
theorem coX11_find : Cond.code yX11_find cX11_find 5 (some .int) ∈ xgw := (xg_7 128 rfl rfl)
set_option maxRecDepth 20000 in
theorem mb_X11_isKey : xMb yX11_isKey 1 := ⟨wi_X11, by decide +kernel⟩
set_option maxRecDepth 20000 in
theorem vlX11_293 : xVl RX11 293 yX11_isKey 1 11 := ⟨(xg_7 129 rfl rfl), (xg_7 131 rfl rfl), (xg_s 63 rfl rfl), mb_X11_isKey, _, _, rfl⟩
set_option maxRecDepth 20000 in
theorem coX11_isKey : Cond.code yX11_isKey cX11_isKey 2 (some .boolean) ∈ xgw := (xg_7 132 rfl rfl)
set_option maxRecDepth 20000 in
theorem mb_X11_number : xMb yX11_number 2 := ⟨wi_X11, by decide +kernel⟩
set_option maxRecDepth 20000 in
theorem vlX11_251 : xVl RX11 251 yX11_number 2 11 := ⟨(xg_7 133 rfl rfl), (xg_7 135 rfl rfl), (xg_s 64 rfl rfl), mb_X11_number, _, _, rfl⟩
set_option maxRecDepth 20000 in
theorem coX11_number : Cond.code yX11_number cX11_number 3 (some .boolean) ∈ xgw := (xg_7 136 rfl rfl)
set_option maxRecDepth 20000 in
theorem mb_X11_isIn : xMb yX11_isIn 3 := ⟨wi_X11, by decide +kernel⟩
set_option maxRecDepth 20000 in
theorem slX11_238 : xSl RX11 238 yX11_isIn 3 := ⟨Or.inl (xg_7 137 rfl rfl), (xg_7 138 rfl rfl), mb_X11_isIn⟩
set_option maxRecDepth 20000 in
theorem coX11_isIn : Cond.code yX11_isIn cX11_isIn 3 (some .boolean) ∈ xgw := (xg_7 139 rfl rfl)
set_option maxRecDepth 20000 in
theorem mb_X11_debtLine : xMb yX11_debtLine 0 := ⟨wi_X11, by decide +kernel⟩
set_option maxRecDepth 20000 in
theorem vlX11_306 : xVl RX11 306 yX11_debtLine 0 11 := ⟨(xg_7 140 rfl rfl), (xg_7 142 rfl rfl), (xg_s 65 rfl rfl), mb_X11_debtLine, _, _, rfl⟩
set_option maxRecDepth 20000 in
theorem coX11_debtLine : Cond.code yX11_debtLine cX11_debtLine 3 (some .boolean) ∈ xgw := (xg_7 143 rfl rfl)
set_option maxRecDepth 20000 in
theorem mb_X11_personRead : xMb yX11_personRead 0 := ⟨wi_X11, by decide +kernel⟩
set_option maxRecDepth 20000 in
theorem vlX11_296 : xVl RX11 296 yX11_personRead 0 11 := ⟨(xg_7 144 rfl rfl), (xg_7 146 rfl rfl), (xg_s 66 rfl rfl), mb_X11_personRead, _, _, rfl⟩
set_option maxRecDepth 20000 in
theorem coX11_personRead : Cond.code yX11_personRead cX11_personRead 2 (some .boolean) ∈ xgw := (xg_7 147 rfl rfl)
set_option maxRecDepth 20000 in
theorem mb_X11_twistLine : xMb yX11_twistLine 0 := ⟨wi_X11, by decide +kernel⟩
set_option maxRecDepth 20000 in
theorem vlX11_309 : xVl RX11 309 yX11_twistLine 0 11 := ⟨(xg_7 148 rfl rfl), (xg_7 150 rfl rfl), (xg_s 67 rfl rfl), mb_X11_twistLine, _, _, rfl⟩
set_option maxRecDepth 20000 in
theorem coX11_twistLine : Cond.code yX11_twistLine cX11_twistLine 2 (some .boolean) ∈ xgw := (xg_7 151 rfl rfl)
set_option maxRecDepth 20000 in
theorem mb_X11_twistRead : xMb yX11_twistRead 1 := ⟨wi_X11, by decide +kernel⟩
set_option maxRecDepth 20000 in
theorem vlX11_300 : xVl RX11 300 yX11_twistRead 1 11 := ⟨(xg_7 152 rfl rfl), (xg_7 154 rfl rfl), (xg_s 68 rfl rfl), mb_X11_twistRead, _, _, rfl⟩
set_option maxRecDepth 20000 in
theorem coX11_twistRead : Cond.code yX11_twistRead cX11_twistRead 3 (some .boolean) ∈ xgw := (xg_7 155 rfl rfl)
set_option maxRecDepth 20000 in
theorem mb_X11_crossLine : xMb yX11_crossLine 0 := ⟨wi_X11, by decide +kernel⟩
set_option maxRecDepth 20000 in
theorem vlX11_312 : xVl RX11 312 yX11_crossLine 0 11 := ⟨(xg_7 156 rfl rfl), (xg_7 158 rfl rfl), (xg_s 69 rfl rfl), mb_X11_crossLine, _, _, rfl⟩
set_option maxRecDepth 20000 in
theorem coX11_crossLine : Cond.code yX11_crossLine cX11_crossLine 2 (some .boolean) ∈ xgw := (xg_7 159 rfl rfl)
set_option maxRecDepth 20000 in
theorem mb_X11_onceLine : xMb yX11_onceLine 2 := ⟨wi_X11, by decide +kernel⟩
set_option maxRecDepth 20000 in
theorem vlX11_315 : xVl RX11 315 yX11_onceLine 2 11 := ⟨(xg_7 160 rfl rfl), (xg_7 162 rfl rfl), (xg_s 70 rfl rfl), mb_X11_onceLine, _, _, rfl⟩
set_option maxRecDepth 20000 in
theorem coX11_onceLine : Cond.code yX11_onceLine cX11_onceLine 3 (some .boolean) ∈ xgw := (xg_7 163 rfl rfl)
set_option maxRecDepth 20000 in
theorem mb_X11_sumRead : xMb yX11_sumRead 0 := ⟨wi_X11, by decide +kernel⟩
set_option maxRecDepth 20000 in
theorem vlX11_318 : xVl RX11 318 yX11_sumRead 0 11 := ⟨(xg_7 164 rfl rfl), (xg_7 166 rfl rfl), (xg_s 71 rfl rfl), mb_X11_sumRead, _, _, rfl⟩
set_option maxRecDepth 20000 in
theorem coX11_sumRead : Cond.code yX11_sumRead cX11_sumRead 1 (some .boolean) ∈ xgw := (xg_7 167 rfl rfl)
set_option maxRecDepth 20000 in
theorem mb_X11_isSign : xMb yX11_isSign 1 := ⟨wi_X11, by decide +kernel⟩
set_option maxRecDepth 20000 in
theorem vlX11_248 : xVl RX11 248 yX11_isSign 1 11 := ⟨(xg_7 168 rfl rfl), (xg_7 170 rfl rfl), (xg_s 72 rfl rfl), mb_X11_isSign, _, _, rfl⟩
set_option maxRecDepth 20000 in
theorem coX11_isSign : Cond.code yX11_isSign cX11_isSign 2 (some .boolean) ∈ xgw := (xg_7 171 rfl rfl)
set_option maxRecDepth 20000 in
theorem mb_X11_leafRead : xMb yX11_leafRead 0 := ⟨wi_X11, by decide +kernel⟩
set_option maxRecDepth 20000 in
theorem vlX11_365 : xVl RX11 365 yX11_leafRead 0 11 := ⟨(xg_7 172 rfl rfl), (xg_7 174 rfl rfl), (xg_s 73 rfl rfl), mb_X11_leafRead, _, _, rfl⟩
set_option maxRecDepth 20000 in
theorem coX11_leafRead : Cond.code yX11_leafRead cX11_leafRead 2 (some .boolean) ∈ xgw := (xg_7 175 rfl rfl)
set_option maxRecDepth 20000 in
theorem mb_X11_waitsFor : xMb yX11_waitsFor 1 := ⟨wi_X11, by decide +kernel⟩
set_option maxRecDepth 20000 in
theorem vlX11_345 : xVl RX11 345 yX11_waitsFor 1 11 := ⟨(xg_7 176 rfl rfl), (xg_7 178 rfl rfl), (xg_s 74 rfl rfl), mb_X11_waitsFor, _, _, rfl⟩
set_option maxRecDepth 20000 in
theorem coX11_waitsFor : Cond.code yX11_waitsFor cX11_waitsFor 2 none ∈ xgw := (xg_7 179 rfl rfl)
set_option maxRecDepth 20000 in
theorem mb_X11_isCounted : xMb yX11_isCounted 0 := ⟨wi_X11, by decide +kernel⟩
set_option maxRecDepth 20000 in
theorem vlX11_353 : xVl RX11 353 yX11_isCounted 0 11 := ⟨(xg_7 180 rfl rfl), (xg_7 182 rfl rfl), (xg_s 75 rfl rfl), mb_X11_isCounted, _, _, rfl⟩
set_option maxRecDepth 20000 in
theorem coX11_isCounted : Cond.code yX11_isCounted cX11_isCounted 1 (some .boolean) ∈ xgw := (xg_7 183 rfl rfl)
set_option maxRecDepth 20000 in
theorem mb_X11_nameMet : xMb yX11_nameMet 0 := ⟨wi_X11, by decide +kernel⟩
set_option maxRecDepth 20000 in
theorem vlX11_356 : xVl RX11 356 yX11_nameMet 0 11 := ⟨(xg_7 184 rfl rfl), (xg_7 186 rfl rfl), (xg_s 76 rfl rfl), mb_X11_nameMet, _, _, rfl⟩
set_option maxRecDepth 20000 in
theorem coX11_nameMet : Cond.code yX11_nameMet cX11_nameMet 1 (some .int) ∈ xgw := (xg_7 187 rfl rfl)
set_option maxRecDepth 20000 in
theorem mb_X11_grown : xMb yX11_grown 3 := ⟨wi_X11, by decide +kernel⟩
set_option maxRecDepth 20000 in
theorem vlX11_338 : xVl RX11 338 yX11_grown 3 11 := ⟨(xg_7 188 rfl rfl), (xg_7 190 rfl rfl), (xg_s 77 rfl rfl), mb_X11_grown, _, _, rfl⟩
set_option maxRecDepth 20000 in
theorem coX11_grown : Cond.code yX11_grown cX11_grown 4 none ∈ xgw := (xg_7 191 rfl rfl)
set_option maxRecDepth 20000 in
theorem mb_X11_signs : xMb yX11_signs 0 := ⟨wi_X11, by decide +kernel⟩
set_option maxRecDepth 20000 in
theorem vlX11_368 : xVl RX11 368 yX11_signs 0 11 := ⟨(xg_7 192 rfl rfl), (xg_7 194 rfl rfl), (xg_s 78 rfl rfl), mb_X11_signs, _, _, rfl⟩
set_option maxRecDepth 20000 in
theorem coX11_signs : Cond.code yX11_signs cX11_signs 2 (some .boolean) ∈ xgw := (xg_7 195 rfl rfl)
set_option maxRecDepth 20000 in
theorem mb_X11_bind : xMb yX11_bind 1 := ⟨wi_X11, by decide +kernel⟩
set_option maxRecDepth 20000 in
theorem vlX11_362 : xVl RX11 362 yX11_bind 1 11 := ⟨(xg_7 196 rfl rfl), (xg_7 198 rfl rfl), (xg_s 79 rfl rfl), mb_X11_bind, _, _, rfl⟩
set_option maxRecDepth 20000 in
theorem coX11_bind : Cond.code yX11_bind cX11_bind 5 none ∈ xgw := (xg_7 199 rfl rfl)
set_option maxRecDepth 20000 in
theorem mb_X11_rank : xMb yX11_rank 1 := ⟨wi_X11, by decide +kernel⟩
set_option maxRecDepth 20000 in
theorem slX11_330 : xSl RX11 330 yX11_rank 1 := ⟨Or.inl (xg_7 200 rfl rfl), (xg_7 201 rfl rfl), mb_X11_rank⟩
set_option maxRecDepth 20000 in
theorem coX11_rank : Cond.code yX11_rank cX11_rank 1 (some .int) ∈ xgw := (xg_7 202 rfl rfl)
set_option maxRecDepth 20000 in
theorem mb_X11_dropHeld : xMb yX11_dropHeld 0 := ⟨wi_X11, by decide +kernel⟩
set_option maxRecDepth 20000 in
theorem vlX11_334 : xVl RX11 334 yX11_dropHeld 0 11 := ⟨(xg_7 203 rfl rfl), (xg_7 205 rfl rfl), (xg_s 80 rfl rfl), mb_X11_dropHeld, _, _, rfl⟩
set_option maxRecDepth 20000 in
theorem coX11_dropHeld : Cond.code yX11_dropHeld cX11_dropHeld 1 (some .int) ∈ xgw := (xg_7 206 rfl rfl)
set_option maxRecDepth 20000 in
theorem mb_X11_fault : xMb yX11_fault 1 := ⟨wi_X11, by decide +kernel⟩
set_option maxRecDepth 20000 in
theorem vlL_34 : xVl RL 34 yX11_fault 1 11 := ⟨(xg_7 207 rfl rfl), (xg_7 208 rfl rfl), (xg_7 209 rfl rfl), mb_X11_fault, _, _, rfl⟩
set_option maxRecDepth 20000 in
theorem coX11_fault : Cond.code yX11_fault cX11_fault 2 (some .int) ∈ xgw := (xg_7 210 rfl rfl)
set_option maxRecDepth 20000 in
theorem mb_X11_named : xMb yX11_named 1 := ⟨wi_X11, by decide +kernel⟩
set_option maxRecDepth 20000 in
theorem vlL_38 : xVl RL 38 yX11_named 1 11 := ⟨(xg_7 211 rfl rfl), (xg_7 212 rfl rfl), (xg_7 213 rfl rfl), mb_X11_named, _, _, rfl⟩
set_option maxRecDepth 20000 in
theorem coX11_named : Cond.code yX11_named cX11_named 2 (some .int) ∈ xgw := (xg_7 214 rfl rfl)
set_option maxRecDepth 20000 in
theorem mb_X11_person : xMb yX11_person 2 := ⟨wi_X11, by decide +kernel⟩
set_option maxRecDepth 20000 in
theorem vlL_44 : xVl RL 44 yX11_person 2 11 := ⟨(xg_7 215 rfl rfl), (xg_7 216 rfl rfl), (xg_7 217 rfl rfl), mb_X11_person, _, _, rfl⟩
set_option maxRecDepth 20000 in
theorem coX11_person : Cond.code yX11_person cX11_person 3 (some .int) ∈ xgw := (xg_7 218 rfl rfl)
set_option maxRecDepth 20000 in
theorem mb_X11_isPerson : xMb yX11_isPerson 1 := ⟨wi_X11, by decide +kernel⟩
set_option maxRecDepth 20000 in
theorem vlX11_456 : xVl RX11 456 yX11_isPerson 1 11 := ⟨(xg_7 219 rfl rfl), (xg_7 221 rfl rfl), (xg_s 81 rfl rfl), mb_X11_isPerson, _, _, rfl⟩
set_option maxRecDepth 20000 in
theorem coX11_isPerson : Cond.code yX11_isPerson cX11_isPerson 2 (some .boolean) ∈ xgw := (xg_7 222 rfl rfl)
set_option maxRecDepth 20000 in
theorem mb_X11_fails : xMb yX11_fails 1 := ⟨wi_X11, by decide +kernel⟩
set_option maxRecDepth 20000 in
theorem vlX11_459 : xVl RX11 459 yX11_fails 1 11 := ⟨(xg_7 223 rfl rfl), (xg_7 225 rfl rfl), (xg_s 82 rfl rfl), mb_X11_fails, _, _, rfl⟩
set_option maxRecDepth 20000 in
theorem coX11_fails : Cond.code yX11_fails cX11_fails 2 (some .int) ∈ xgw := (xg_7 226 rfl rfl)
set_option maxRecDepth 20000 in
theorem mb_X11_sumOwed : xMb yX11_sumOwed 2 := ⟨wi_X11, by decide +kernel⟩
set_option maxRecDepth 20000 in
theorem vlX11_462 : xVl RX11 462 yX11_sumOwed 2 11 := ⟨(xg_7 227 rfl rfl), (xg_7 229 rfl rfl), (xg_s 83 rfl rfl), mb_X11_sumOwed, _, _, rfl⟩
set_option maxRecDepth 20000 in
theorem coX11_sumOwed : Cond.code yX11_sumOwed cX11_sumOwed 5 (some .int) ∈ xgw := (xg_7 230 rfl rfl)
set_option maxRecDepth 20000 in
theorem mb_X11_isThere : xMb yX11_isThere 2 := ⟨wi_X11, by decide +kernel⟩
set_option maxRecDepth 20000 in
theorem vlX11_418 : xVl RX11 418 yX11_isThere 2 11 := ⟨(xg_7 231 rfl rfl), (xg_7 233 rfl rfl), (xg_s 84 rfl rfl), mb_X11_isThere, _, _, rfl⟩
set_option maxRecDepth 20000 in
theorem coX11_isThere : Cond.code yX11_isThere cX11_isThere 3 (some .boolean) ∈ xgw := (xg_7 234 rfl rfl)
set_option maxRecDepth 20000 in
theorem mb_X11_strand : xMb yX11_strand 2 := ⟨wi_X11, by decide +kernel⟩
set_option maxRecDepth 20000 in
theorem vlL_52 : xVl RL 52 yX11_strand 2 11 := ⟨(xg_7 235 rfl rfl), (xg_7 236 rfl rfl), (xg_7 237 rfl rfl), mb_X11_strand, _, _, rfl⟩
set_option maxRecDepth 20000 in
theorem coX11_strand : Cond.code yX11_strand cX11_strand 3 (some .int) ∈ xgw := (xg_7 238 rfl rfl)
set_option maxRecDepth 20000 in
theorem mb_X11_isStrand : xMb yX11_isStrand 1 := ⟨wi_X11, by decide +kernel⟩
set_option maxRecDepth 20000 in
theorem vlX11_465 : xVl RX11 465 yX11_isStrand 1 11 := ⟨(xg_7 239 rfl rfl), (xg_8 1 rfl rfl), (xg_s 85 rfl rfl), mb_X11_isStrand, _, _, rfl⟩
set_option maxRecDepth 20000 in
theorem coX11_isStrand : Cond.code yX11_isStrand cX11_isStrand 2 (some .boolean) ∈ xgw := (xg_8 2 rfl rfl)
set_option maxRecDepth 20000 in
theorem mb_X11_bearOf : xMb yX11_bearOf 3 := ⟨wi_X11, by decide +kernel⟩
set_option maxRecDepth 20000 in
theorem vlX11_439 : xVl RX11 439 yX11_bearOf 3 11 := ⟨(xg_8 3 rfl rfl), (xg_8 5 rfl rfl), (xg_s 86 rfl rfl), mb_X11_bearOf, _, _, rfl⟩
set_option maxRecDepth 20000 in
theorem coX11_bearOf : Cond.code yX11_bearOf cX11_bearOf 5 (some .int) ∈ xgw := (xg_8 6 rfl rfl)
set_option maxRecDepth 20000 in
theorem mb_X11_layNames : xMb yX11_layNames 3 := ⟨wi_X11, by decide +kernel⟩
set_option maxRecDepth 20000 in
theorem vlX11_431 : xVl RX11 431 yX11_layNames 3 11 := ⟨(xg_8 7 rfl rfl), (xg_8 9 rfl rfl), (xg_s 87 rfl rfl), mb_X11_layNames, _, _, rfl⟩
set_option maxRecDepth 20000 in
theorem coX11_layNames : Cond.code yX11_layNames cX11_layNames 4 none ∈ xgw := (xg_8 10 rfl rfl)
set_option maxRecDepth 20000 in
theorem mb_X11_twinOf : xMb yX11_twinOf 2 := ⟨wi_X11, by decide +kernel⟩
set_option maxRecDepth 20000 in
theorem vlX11_421 : xVl RX11 421 yX11_twinOf 2 11 := ⟨(xg_8 11 rfl rfl), (xg_8 13 rfl rfl), (xg_s 88 rfl rfl), mb_X11_twinOf, _, _, rfl⟩
set_option maxRecDepth 20000 in
theorem coX11_twinOf : Cond.code yX11_twinOf cX11_twinOf 4 (some .int) ∈ xgw := (xg_8 14 rfl rfl)
set_option maxRecDepth 20000 in
theorem mb_X11_boundLaw : xMb yX11_boundLaw 3 := ⟨wi_X11, by decide +kernel⟩
set_option maxRecDepth 20000 in
theorem vlX11_435 : xVl RX11 435 yX11_boundLaw 3 11 := ⟨(xg_8 15 rfl rfl), (xg_8 17 rfl rfl), (xg_s 89 rfl rfl), mb_X11_boundLaw, _, _, rfl⟩
set_option maxRecDepth 20000 in
theorem coX11_boundLaw : Cond.code yX11_boundLaw cX11_boundLaw 6 (some .int) ∈ xgw := (xg_8 18 rfl rfl)
set_option maxRecDepth 20000 in
theorem mb_X11_lawOf : xMb yX11_lawOf 1 := ⟨wi_X11, by decide +kernel⟩
set_option maxRecDepth 20000 in
theorem vlX11_428 : xVl RX11 428 yX11_lawOf 1 11 := ⟨(xg_8 19 rfl rfl), (xg_8 21 rfl rfl), (xg_s 90 rfl rfl), mb_X11_lawOf, _, _, rfl⟩
set_option maxRecDepth 20000 in
theorem coX11_lawOf : Cond.code yX11_lawOf cX11_lawOf 3 (some .long) ∈ xgw := (xg_8 22 rfl rfl)
set_option maxRecDepth 20000 in
theorem mb_X11_valueOf : xMb yX11_valueOf 1 := ⟨wi_X11, by decide +kernel⟩
set_option maxRecDepth 20000 in
theorem vlX11_424 : xVl RX11 424 yX11_valueOf 1 11 := ⟨(xg_8 23 rfl rfl), (xg_8 25 rfl rfl), (xg_s 91 rfl rfl), mb_X11_valueOf, _, _, rfl⟩
set_option maxRecDepth 20000 in
theorem coX11_valueOf : Cond.code yX11_valueOf cX11_valueOf 6 (some .long) ∈ xgw := (xg_8 26 rfl rfl)
set_option maxRecDepth 20000 in
theorem mb_X11_bounded : xMb yX11_bounded 1 := ⟨wi_X11, by decide +kernel⟩
set_option maxRecDepth 20000 in
theorem vlX11_378 : xVl RX11 378 yX11_bounded 1 11 := ⟨(xg_8 27 rfl rfl), (xg_8 29 rfl rfl), (xg_s 92 rfl rfl), mb_X11_bounded, _, _, rfl⟩
set_option maxRecDepth 20000 in
theorem coX11_bounded : Cond.code yX11_bounded cX11_bounded 3 (some .long) ∈ xgw := (xg_8 30 rfl rfl)
set_option maxRecDepth 20000 in
theorem kcX11_374 : Cond.constantLong RX11 374 (1000000000000) ∈ xgw := (xg_8 31 rfl rfl)
set_option maxRecDepth 20000 in
theorem kcX11_376 : Cond.constantLong RX11 376 (-1000000000000) ∈ xgw := (xg_8 32 rfl rfl)
set_option maxRecDepth 20000 in
theorem mb_X11_times : xMb yX11_times 2 := ⟨wi_X11, by decide +kernel⟩
set_option maxRecDepth 20000 in
theorem vlX11_382 : xVl RX11 382 yX11_times 2 11 := ⟨(xg_8 33 rfl rfl), (xg_8 35 rfl rfl), (xg_s 93 rfl rfl), mb_X11_times, _, _, rfl⟩
set_option maxRecDepth 20000 in
theorem coX11_times : Cond.code yX11_times cX11_times 6 (some .long) ∈ xgw := (xg_8 36 rfl rfl)
set_option maxRecDepth 20000 in
theorem mb_X11_compares : xMb yX11_compares 3 := ⟨wi_X11, by decide +kernel⟩
set_option maxRecDepth 20000 in
theorem slX11_386 : xSl RX11 386 yX11_compares 3 := ⟨Or.inl (xg_8 37 rfl rfl), (xg_8 38 rfl rfl), mb_X11_compares⟩
set_option maxRecDepth 20000 in
theorem coX11_compares : Cond.code yX11_compares cX11_compares 5 (some .boolean) ∈ xgw := (xg_8 39 rfl rfl)
set_option maxRecDepth 20000 in
theorem mb_X11_crossing : xMb yX11_crossing 2 := ⟨wi_X11, by decide +kernel⟩
set_option maxRecDepth 20000 in
theorem vlL_56 : xVl RL 56 yX11_crossing 2 11 := ⟨(xg_8 40 rfl rfl), (xg_8 41 rfl rfl), (xg_8 42 rfl rfl), mb_X11_crossing, _, _, rfl⟩
set_option maxRecDepth 20000 in
theorem coX11_crossing : Cond.code yX11_crossing cX11_crossing 3 (some .int) ∈ xgw := (xg_8 43 rfl rfl)
set_option maxRecDepth 20000 in
theorem mb_X11_law : xMb yX11_law 2 := ⟨wi_X11, by decide +kernel⟩
set_option maxRecDepth 20000 in
theorem vlL_61 : xVl RL 61 yX11_law 2 11 := ⟨(xg_8 44 rfl rfl), (xg_8 45 rfl rfl), (xg_8 46 rfl rfl), mb_X11_law, _, _, rfl⟩
set_option maxRecDepth 20000 in
theorem coX11_law : Cond.code yX11_law cX11_law 5 (some .long) ∈ xgw := (xg_8 47 rfl rfl)
set_option maxRecDepth 20000 in
theorem kcX11_468 : Cond.constantLong RX11 468 (-9223372036854775808) ∈ xgw := (xg_8 48 rfl rfl)
set_option maxRecDepth 20000 in
theorem mb_X11_bears : xMb yX11_bears 0 := ⟨wi_X11, by decide +kernel⟩
set_option maxRecDepth 20000 in
theorem vlL_65 : xVl RL 65 yX11_bears 0 11 := ⟨(xg_8 49 rfl rfl), (xg_8 50 rfl rfl), (xg_8 51 rfl rfl), mb_X11_bears, _, _, rfl⟩
set_option maxRecDepth 20000 in
theorem coX11_bears : Cond.code yX11_bears cX11_bears 1 (some .int) ∈ xgw := (xg_8 52 rfl rfl)
set_option maxRecDepth 20000 in
theorem mb_X11_bridge : xMb yX11_bridge 1 := ⟨wi_X11, by decide +kernel⟩
set_option maxRecDepth 20000 in
theorem vlX11_443 : xVl RX11 443 yX11_bridge 1 11 := ⟨(xg_8 53 rfl rfl), (xg_8 55 rfl rfl), (xg_s 94 rfl rfl), mb_X11_bridge, _, _, rfl⟩
set_option maxRecDepth 20000 in
theorem coX11_bridge : Cond.code yX11_bridge cX11_bridge 6 (some .int) ∈ xgw := (xg_8 56 rfl rfl)
set_option maxRecDepth 20000 in
theorem mb_X11_sag : xMb yX11_sag 1 := ⟨wi_X11, by decide +kernel⟩
set_option maxRecDepth 20000 in
theorem vlL_69 : xVl RL 69 yX11_sag 1 11 := ⟨(xg_8 57 rfl rfl), (xg_8 58 rfl rfl), (xg_8 59 rfl rfl), mb_X11_sag, _, _, rfl⟩
set_option maxRecDepth 20000 in
theorem coX11_sag : Cond.code yX11_sag cX11_sag 2 (some .int) ∈ xgw := (xg_8 60 rfl rfl)
set_option maxRecDepth 20000 in
theorem mb_X11_sagOf : xMb yX11_sagOf 2 := ⟨wi_X11, by decide +kernel⟩
set_option maxRecDepth 20000 in
theorem vlX11_470 : xVl RX11 470 yX11_sagOf 2 11 := ⟨(xg_8 61 rfl rfl), (xg_8 63 rfl rfl), (xg_s 95 rfl rfl), mb_X11_sagOf, _, _, rfl⟩
set_option maxRecDepth 20000 in
theorem coX11_sagOf : Cond.code yX11_sagOf cX11_sagOf 3 (some .int) ∈ xgw := (xg_8 64 rfl rfl)
set_option maxRecDepth 20000 in
theorem mb_X11_tie : xMb yX11_tie 4 := ⟨wi_X11, by decide +kernel⟩
set_option maxRecDepth 20000 in
theorem vlL_74 : xVl RL 74 yX11_tie 4 11 := ⟨(xg_8 65 rfl rfl), (xg_8 66 rfl rfl), (xg_8 67 rfl rfl), mb_X11_tie, _, _, rfl⟩
set_option maxRecDepth 20000 in
theorem coX11_tie : Cond.code yX11_tie cX11_tie 6 (some .int) ∈ xgw := (xg_8 68 rfl rfl)
set_option maxRecDepth 20000 in
theorem mb_X11_remember : xMb yX11_remember 0 := ⟨wi_X11, by decide +kernel⟩
set_option maxRecDepth 20000 in
theorem vlX11_473 : xVl RX11 473 yX11_remember 0 11 := ⟨(xg_8 69 rfl rfl), (xg_8 71 rfl rfl), (xg_s 96 rfl rfl), mb_X11_remember, _, _, rfl⟩
set_option maxRecDepth 20000 in
theorem coX11_remember : Cond.code yX11_remember cX11_remember 2 none ∈ xgw := (xg_8 72 rfl rfl)
set_option maxRecDepth 20000 in
theorem mb_X11_put : xMb yX11_put 2 := ⟨wi_X11, by decide +kernel⟩
set_option maxRecDepth 20000 in
theorem vlX11_548 : xVl RX11 548 yX11_put 2 11 := ⟨(xg_8 73 rfl rfl), (xg_8 75 rfl rfl), (xg_s 97 rfl rfl), mb_X11_put, _, _, rfl⟩
set_option maxRecDepth 20000 in
theorem coX11_put : Cond.code yX11_put cX11_put 4 none ∈ xgw := (xg_8 76 rfl rfl)
set_option maxRecDepth 20000 in
theorem mb_X11_forgive : xMb yX11_forgive 1 := ⟨wi_X11, by decide +kernel⟩
set_option maxRecDepth 20000 in
theorem vlL_79 : xVl RL 79 yX11_forgive 1 11 := ⟨(xg_8 77 rfl rfl), (xg_8 78 rfl rfl), (xg_8 79 rfl rfl), mb_X11_forgive, _, _, rfl⟩
set_option maxRecDepth 20000 in
theorem coX11_forgive : Cond.code yX11_forgive cX11_forgive 2 (some .boolean) ∈ xgw := (xg_8 80 rfl rfl)
set_option maxRecDepth 20000 in
theorem mb_X11_pay : xMb yX11_pay 1 := ⟨wi_X11, by decide +kernel⟩
set_option maxRecDepth 20000 in
theorem vlL_83 : xVl RL 83 yX11_pay 1 11 := ⟨(xg_8 81 rfl rfl), (xg_8 82 rfl rfl), (xg_8 83 rfl rfl), mb_X11_pay, _, _, rfl⟩
set_option maxRecDepth 20000 in
theorem coX11_pay : Cond.code yX11_pay cX11_pay 2 (some .boolean) ∈ xgw := (xg_8 84 rfl rfl)
set_option maxRecDepth 20000 in
theorem mb_X11_paid : xMb yX11_paid 2 := ⟨wi_X11, by decide +kernel⟩
set_option maxRecDepth 20000 in
theorem vlX11_452 : xVl RX11 452 yX11_paid 2 11 := ⟨(xg_8 85 rfl rfl), (xg_8 87 rfl rfl), (xg_s 98 rfl rfl), mb_X11_paid, _, _, rfl⟩
set_option maxRecDepth 20000 in
theorem coX11_paid : Cond.code yX11_paid cX11_paid 3 none ∈ xgw := (xg_8 88 rfl rfl)
set_option maxRecDepth 20000 in
theorem mb_X11_twist : xMb yX11_twist 2 := ⟨wi_X11, by decide +kernel⟩
set_option maxRecDepth 20000 in
theorem vlL_88 : xVl RL 88 yX11_twist 2 11 := ⟨(xg_8 89 rfl rfl), (xg_8 90 rfl rfl), (xg_8 91 rfl rfl), mb_X11_twist, _, _, rfl⟩
set_option maxRecDepth 20000 in
theorem coX11_twist : Cond.code yX11_twist cX11_twist 3 (some .boolean) ∈ xgw := (xg_8 92 rfl rfl)
set_option maxRecDepth 20000 in
theorem mb_X11_untwists : xMb yX11_untwists 1 := ⟨wi_X11, by decide +kernel⟩
set_option maxRecDepth 20000 in
theorem vlX11_476 : xVl RX11 476 yX11_untwists 1 11 := ⟨(xg_8 93 rfl rfl), (xg_8 95 rfl rfl), (xg_s 99 rfl rfl), mb_X11_untwists, _, _, rfl⟩
set_option maxRecDepth 20000 in
theorem coX11_untwists : Cond.code yX11_untwists cX11_untwists 3 none ∈ xgw := (xg_8 96 rfl rfl)
set_option maxRecDepth 20000 in
theorem mb_X11_cross : xMb yX11_cross 2 := ⟨wi_X11, by decide +kernel⟩
set_option maxRecDepth 20000 in
theorem vlL_92 : xVl RL 92 yX11_cross 2 11 := ⟨(xg_8 97 rfl rfl), (xg_8 98 rfl rfl), (xg_8 99 rfl rfl), mb_X11_cross, _, _, rfl⟩
set_option maxRecDepth 20000 in
theorem coX11_cross : Cond.code yX11_cross cX11_cross 3 (some .int) ∈ xgw := (xg_8 100 rfl rfl)
set_option maxRecDepth 20000 in
theorem mb_X11_years : xMb yX11_years 1 := ⟨wi_X11, by decide +kernel⟩
set_option maxRecDepth 20000 in
theorem vlL_96 : xVl RL 96 yX11_years 1 11 := ⟨(xg_8 101 rfl rfl), (xg_8 102 rfl rfl), (xg_8 103 rfl rfl), mb_X11_years, _, _, rfl⟩
set_option maxRecDepth 20000 in
theorem coX11_years : Cond.code yX11_years cX11_years 3 (some .int) ∈ xgw := (xg_8 104 rfl rfl)
set_option maxRecDepth 20000 in
theorem mb_X11_goOn : xMb yX11_goOn 1 := ⟨wi_X11, by decide +kernel⟩
set_option maxRecDepth 20000 in
theorem vlX11_479 : xVl RX11 479 yX11_goOn 1 11 := ⟨(xg_8 105 rfl rfl), (xg_8 107 rfl rfl), (xg_s 100 rfl rfl), mb_X11_goOn, _, _, rfl⟩
set_option maxRecDepth 20000 in
theorem coX11_goOn : Cond.code yX11_goOn cX11_goOn 4 none ∈ xgw := (xg_8 108 rfl rfl)
set_option maxRecDepth 20000 in
theorem mb_X11_crosses : xMb yX11_crosses 1 := ⟨wi_X11, by decide +kernel⟩
set_option maxRecDepth 20000 in
theorem vlX11_446 : xVl RX11 446 yX11_crosses 1 11 := ⟨(xg_8 109 rfl rfl), (xg_8 111 rfl rfl), (xg_s 101 rfl rfl), mb_X11_crosses, _, _, rfl⟩
set_option maxRecDepth 20000 in
theorem coX11_crosses : Cond.code yX11_crosses cX11_crosses 5 none ∈ xgw := (xg_8 112 rfl rfl)
set_option maxRecDepth 20000 in
theorem mb_X11_fraysBy : xMb yX11_fraysBy 3 := ⟨wi_X11, by decide +kernel⟩
set_option maxRecDepth 20000 in
theorem vlX11_449 : xVl RX11 449 yX11_fraysBy 3 11 := ⟨(xg_8 113 rfl rfl), (xg_8 115 rfl rfl), (xg_s 102 rfl rfl), mb_X11_fraysBy, _, _, rfl⟩
set_option maxRecDepth 20000 in
theorem coX11_fraysBy : Cond.code yX11_fraysBy cX11_fraysBy 4 none ∈ xgw := (xg_8 116 rfl rfl)
set_option maxRecDepth 20000 in
theorem mb_X11_order : xMb yX11_order 3 := ⟨wi_X11, by decide +kernel⟩
set_option maxRecDepth 20000 in
theorem vlL_101 : xVl RL 101 yX11_order 3 11 := ⟨(xg_8 117 rfl rfl), (xg_8 118 rfl rfl), (xg_8 119 rfl rfl), mb_X11_order, _, _, rfl⟩
set_option maxRecDepth 20000 in
theorem coX11_order : Cond.code yX11_order cX11_order 7 (some .int) ∈ xgw := (xg_8 120 rfl rfl)
set_option maxRecDepth 20000 in
theorem mb_X11_areThere : xMb yX11_areThere 1 := ⟨wi_X11, by decide +kernel⟩
set_option maxRecDepth 20000 in
theorem vlX11_494 : xVl RX11 494 yX11_areThere 1 11 := ⟨(xg_8 121 rfl rfl), (xg_8 123 rfl rfl), (xg_s 103 rfl rfl), mb_X11_areThere, _, _, rfl⟩
set_option maxRecDepth 20000 in
theorem coX11_areThere : Cond.code yX11_areThere cX11_areThere 3 (some .boolean) ∈ xgw := (xg_8 124 rfl rfl)
set_option maxRecDepth 20000 in
theorem mb_X11_isOf : xMb yX11_isOf 2 := ⟨wi_X11, by decide +kernel⟩
set_option maxRecDepth 20000 in
theorem slX11_485 : xSl RX11 485 yX11_isOf 2 := ⟨Or.inl (xg_8 125 rfl rfl), (xg_8 126 rfl rfl), mb_X11_isOf⟩
set_option maxRecDepth 20000 in
theorem coX11_isOf : Cond.code yX11_isOf cX11_isOf 2 (some .boolean) ∈ xgw := (xg_8 127 rfl rfl)
set_option maxRecDepth 20000 in
theorem mb_X11_layOrder : xMb yX11_layOrder 2 := ⟨wi_X11, by decide +kernel⟩
set_option maxRecDepth 20000 in
theorem vlX11_497 : xVl RX11 497 yX11_layOrder 2 11 := ⟨(xg_8 128 rfl rfl), (xg_8 130 rfl rfl), (xg_s 104 rfl rfl), mb_X11_layOrder, _, _, rfl⟩
set_option maxRecDepth 20000 in
theorem coX11_layOrder : Cond.code yX11_layOrder cX11_layOrder 5 none ∈ xgw := (xg_8 131 rfl rfl)
set_option maxRecDepth 20000 in
theorem mb_X11_canPay : xMb yX11_canPay 3 := ⟨wi_X11, by decide +kernel⟩
set_option maxRecDepth 20000 in
theorem vlX11_491 : xVl RX11 491 yX11_canPay 3 11 := ⟨(xg_8 132 rfl rfl), (xg_8 134 rfl rfl), (xg_s 105 rfl rfl), mb_X11_canPay, _, _, rfl⟩
set_option maxRecDepth 20000 in
theorem coX11_canPay : Cond.code yX11_canPay cX11_canPay 4 (some .boolean) ∈ xgw := (xg_8 135 rfl rfl)
set_option maxRecDepth 20000 in
theorem mb_X11_laySet : xMb yX11_laySet 1 := ⟨wi_X11, by decide +kernel⟩
set_option maxRecDepth 20000 in
theorem vlX11_488 : xVl RX11 488 yX11_laySet 1 11 := ⟨(xg_8 136 rfl rfl), (xg_8 138 rfl rfl), (xg_s 106 rfl rfl), mb_X11_laySet, _, _, rfl⟩
set_option maxRecDepth 20000 in
theorem coX11_laySet : Cond.code yX11_laySet cX11_laySet 3 none ∈ xgw := (xg_8 139 rfl rfl)
set_option maxRecDepth 20000 in
theorem mb_X11_layTried : xMb yX11_layTried 0 := ⟨wi_X11, by decide +kernel⟩
set_option maxRecDepth 20000 in
theorem vlX11_482 : xVl RX11 482 yX11_layTried 0 11 := ⟨(xg_8 140 rfl rfl), (xg_8 142 rfl rfl), (xg_s 107 rfl rfl), mb_X11_layTried, _, _, rfl⟩
set_option maxRecDepth 20000 in
theorem coX11_layTried : Cond.code yX11_layTried cX11_layTried 2 none ∈ xgw := (xg_8 143 rfl rfl)
set_option maxRecDepth 20000 in
theorem mb_X11_drop : xMb yX11_drop 1 := ⟨wi_X11, by decide +kernel⟩
set_option maxRecDepth 20000 in
theorem vlL_105 : xVl RL 105 yX11_drop 1 11 := ⟨(xg_8 144 rfl rfl), (xg_8 145 rfl rfl), (xg_8 146 rfl rfl), mb_X11_drop, _, _, rfl⟩
set_option maxRecDepth 20000 in
theorem coX11_drop : Cond.code yX11_drop cX11_drop 5 (some .int) ∈ xgw := (xg_8 147 rfl rfl)
set_option maxRecDepth 20000 in
theorem mb_X11_manyOf : xMb yX11_manyOf 1 := ⟨wi_X11, by decide +kernel⟩
set_option maxRecDepth 20000 in
theorem slX11_500 : xSl RX11 500 yX11_manyOf 1 := ⟨Or.inl (xg_8 148 rfl rfl), (xg_8 149 rfl rfl), mb_X11_manyOf⟩
set_option maxRecDepth 20000 in
theorem coX11_manyOf : Cond.code yX11_manyOf cX11_manyOf 3 (some .int) ∈ xgw := (xg_8 150 rfl rfl)
set_option maxRecDepth 20000 in
theorem mb_X11_loan : xMb yX11_loan 1 := ⟨wi_X11, by decide +kernel⟩
set_option maxRecDepth 20000 in
theorem vlL_109 : xVl RL 109 yX11_loan 1 11 := ⟨(xg_8 151 rfl rfl), (xg_8 152 rfl rfl), (xg_8 153 rfl rfl), mb_X11_loan, _, _, rfl⟩
set_option maxRecDepth 20000 in
theorem coX11_loan : Cond.code yX11_loan cX11_loan 4 (some .int) ∈ xgw := (xg_8 154 rfl rfl)
set_option maxRecDepth 20000 in
theorem kcX11_503 : Cond.constantLong RX11 503 (99) ∈ xgw := (xg_8 155 rfl rfl)
set_option maxRecDepth 20000 in
theorem mb_X11_strike : xMb yX11_strike 2 := ⟨wi_X11, by decide +kernel⟩
set_option maxRecDepth 20000 in
theorem vlL_113 : xVl RL 113 yX11_strike 2 11 := ⟨(xg_8 156 rfl rfl), (xg_8 157 rfl rfl), (xg_8 158 rfl rfl), mb_X11_strike, _, _, rfl⟩
set_option maxRecDepth 20000 in
theorem coX11_strike : Cond.code yX11_strike cX11_strike 5 (some .int) ∈ xgw := (xg_8 159 rfl rfl)
set_option maxRecDepth 20000 in
theorem mb_X11_twists : xMb yX11_twists 1 := ⟨wi_X11, by decide +kernel⟩
set_option maxRecDepth 20000 in
theorem vlL_117 : xVl RL 117 yX11_twists 1 11 := ⟨(xg_8 160 rfl rfl), (xg_8 161 rfl rfl), (xg_8 162 rfl rfl), mb_X11_twists, _, _, rfl⟩
set_option maxRecDepth 20000 in
theorem coX11_twists : Cond.code yX11_twists cX11_twists 2 (some .int) ∈ xgw := (xg_8 163 rfl rfl)
set_option maxRecDepth 20000 in
theorem mb_X11_layTwists : xMb yX11_layTwists 1 := ⟨wi_X11, by decide +kernel⟩
set_option maxRecDepth 20000 in
theorem vlX11_512 : xVl RX11 512 yX11_layTwists 1 11 := ⟨(xg_8 164 rfl rfl), (xg_8 166 rfl rfl), (xg_s 108 rfl rfl), mb_X11_layTwists, _, _, rfl⟩
set_option maxRecDepth 20000 in
theorem coX11_layTwists : Cond.code yX11_layTwists cX11_layTwists 10 none ∈ xgw := (xg_8 167 rfl rfl)
set_option maxRecDepth 20000 in
theorem mb_X11_mostOf : xMb yX11_mostOf 2 := ⟨wi_X11, by decide +kernel⟩
set_option maxRecDepth 20000 in
theorem vlX11_505 : xVl RX11 505 yX11_mostOf 2 11 := ⟨(xg_8 168 rfl rfl), (xg_8 170 rfl rfl), (xg_s 109 rfl rfl), mb_X11_mostOf, _, _, rfl⟩
set_option maxRecDepth 20000 in
theorem coX11_mostOf : Cond.code yX11_mostOf cX11_mostOf 3 (some .int) ∈ xgw := (xg_8 171 rfl rfl)
set_option maxRecDepth 20000 in
theorem mb_X11_isTwin : xMb yX11_isTwin 5 := ⟨wi_X11, by decide +kernel⟩
set_option maxRecDepth 20000 in
theorem vlX11_508 : xVl RX11 508 yX11_isTwin 5 11 := ⟨(xg_8 172 rfl rfl), (xg_8 174 rfl rfl), (xg_s 110 rfl rfl), mb_X11_isTwin, _, _, rfl⟩
set_option maxRecDepth 20000 in
theorem coX11_isTwin : Cond.code yX11_isTwin cX11_isTwin 7 (some .boolean) ∈ xgw := (xg_8 175 rfl rfl)
set_option maxRecDepth 20000 in
theorem mb_X11_partner : xMb yX11_partner 2 := ⟨wi_X11, by decide +kernel⟩
set_option maxRecDepth 20000 in
theorem vlL_121 : xVl RL 121 yX11_partner 2 11 := ⟨(xg_8 176 rfl rfl), (xg_8 177 rfl rfl), (xg_8 178 rfl rfl), mb_X11_partner, _, _, rfl⟩
set_option maxRecDepth 20000 in
theorem coX11_partner : Cond.code yX11_partner cX11_partner 3 (some .int) ∈ xgw := (xg_8 179 rfl rfl)
set_option maxRecDepth 20000 in
theorem mb_X11_life : xMb yX11_life 1 := ⟨wi_X11, by decide +kernel⟩
set_option maxRecDepth 20000 in
theorem vlL_125 : xVl RL 125 yX11_life 1 11 := ⟨(xg_8 180 rfl rfl), (xg_8 181 rfl rfl), (xg_8 182 rfl rfl), mb_X11_life, _, _, rfl⟩
set_option maxRecDepth 20000 in
theorem coX11_life : Cond.code yX11_life cX11_life 3 (some .int) ∈ xgw := (xg_8 183 rfl rfl)
set_option maxRecDepth 20000 in
theorem mb_X11_ahead : xMb yX11_ahead 1 := ⟨wi_X11, by decide +kernel⟩
set_option maxRecDepth 20000 in
theorem vlL_129 : xVl RL 129 yX11_ahead 1 11 := ⟨(xg_8 184 rfl rfl), (xg_8 185 rfl rfl), (xg_8 186 rfl rfl), mb_X11_ahead, _, _, rfl⟩
set_option maxRecDepth 20000 in
theorem coX11_ahead : Cond.code yX11_ahead cX11_ahead 5 (some .int) ∈ xgw := (xg_8 187 rfl rfl)
set_option maxRecDepth 20000 in
theorem mb_X11_see : xMb yX11_see 4 := ⟨wi_X11, by decide +kernel⟩
set_option maxRecDepth 20000 in
theorem vlL_134 : xVl RL 134 yX11_see 4 11 := ⟨(xg_8 188 rfl rfl), (xg_8 189 rfl rfl), (xg_8 190 rfl rfl), mb_X11_see, _, _, rfl⟩
set_option maxRecDepth 20000 in
theorem coX11_see : Cond.code yX11_see cX11_see 5 (some .int) ∈ xgw := (xg_8 191 rfl rfl)
set_option maxRecDepth 20000 in
theorem mb_X11_noted : xMb yX11_noted 4 := ⟨wi_X11, by decide +kernel⟩
set_option maxRecDepth 20000 in
theorem vlX11_515 : xVl RX11 515 yX11_noted 4 11 := ⟨(xg_8 192 rfl rfl), (xg_8 194 rfl rfl), (xg_s 111 rfl rfl), mb_X11_noted, _, _, rfl⟩
set_option maxRecDepth 20000 in
theorem coX11_noted : Cond.code yX11_noted cX11_noted 5 (some .int) ∈ xgw := (xg_8 195 rfl rfl)
set_option maxRecDepth 20000 in
theorem mb_X11_strikes : xMb yX11_strikes 1 := ⟨wi_X11, by decide +kernel⟩
set_option maxRecDepth 20000 in
theorem vlL_138 : xVl RL 138 yX11_strikes 1 11 := ⟨(xg_8 196 rfl rfl), (xg_8 197 rfl rfl), (xg_8 198 rfl rfl), mb_X11_strikes, _, _, rfl⟩
set_option maxRecDepth 20000 in
theorem coX11_strikes : Cond.code yX11_strikes cX11_strikes 2 (some .int) ∈ xgw := (xg_8 199 rfl rfl)
set_option maxRecDepth 20000 in
theorem mb_X11_known : xMb yX11_known 1 := ⟨wi_X11, by decide +kernel⟩
set_option maxRecDepth 20000 in
theorem vlL_142 : xVl RL 142 yX11_known 1 11 := ⟨(xg_8 200 rfl rfl), (xg_8 201 rfl rfl), (xg_8 202 rfl rfl), mb_X11_known, _, _, rfl⟩
set_option maxRecDepth 20000 in
theorem coX11_known : Cond.code yX11_known cX11_known 2 (some .boolean) ∈ xgw := (xg_8 203 rfl rfl)
set_option maxRecDepth 20000 in
theorem mb_X11_painted : xMb yX11_painted 0 := ⟨wi_X11, by decide +kernel⟩
set_option maxRecDepth 20000 in
theorem vlL_146 : xVl RL 146 yX11_painted 0 11 := ⟨(xg_8 204 rfl rfl), (xg_8 205 rfl rfl), (xg_8 206 rfl rfl), mb_X11_painted, _, _, rfl⟩
set_option maxRecDepth 20000 in
theorem coX11_painted : Cond.code yX11_painted cX11_painted 1 (some .int) ∈ xgw := (xg_8 207 rfl rfl)
set_option maxRecDepth 20000 in
theorem mb_X11_paintedBits : xMb yX11_paintedBits 0 := ⟨wi_X11, by decide +kernel⟩
set_option maxRecDepth 20000 in
theorem vlX11_528 : xVl RX11 528 yX11_paintedBits 0 11 := ⟨(xg_8 208 rfl rfl), (xg_8 210 rfl rfl), (xg_s 112 rfl rfl), mb_X11_paintedBits, _, _, rfl⟩
set_option maxRecDepth 20000 in
theorem coX11_paintedBits : Cond.code yX11_paintedBits cX11_paintedBits 6 (some .int) ∈ xgw := (xg_8 211 rfl rfl)
set_option maxRecDepth 20000 in
theorem mb_X11_knownBy : xMb yX11_knownBy 0 := ⟨wi_X11, by decide +kernel⟩
set_option maxRecDepth 20000 in
theorem vlX11_519 : xVl RX11 519 yX11_knownBy 0 11 := ⟨(xg_8 212 rfl rfl), (xg_8 214 rfl rfl), (xg_s 113 rfl rfl), mb_X11_knownBy, _, _, rfl⟩
set_option maxRecDepth 20000 in
theorem coX11_knownBy : Cond.code yX11_knownBy cX11_knownBy 1 (some .int) ∈ xgw := (xg_8 215 rfl rfl)
set_option maxRecDepth 20000 in
theorem mb_X11_paintsOne : xMb yX11_paintsOne 1 := ⟨wi_X11, by decide +kernel⟩
set_option maxRecDepth 20000 in
theorem vlX11_522 : xVl RX11 522 yX11_paintsOne 1 11 := ⟨(xg_8 216 rfl rfl), (xg_8 218 rfl rfl), (xg_s 114 rfl rfl), mb_X11_paintsOne, _, _, rfl⟩
set_option maxRecDepth 20000 in
theorem coX11_paintsOne : Cond.code yX11_paintsOne cX11_paintsOne 3 none ∈ xgw := (xg_8 219 rfl rfl)
set_option maxRecDepth 20000 in
theorem mb_X11_isSo : xMb yX11_isSo 2 := ⟨wi_X11, by decide +kernel⟩
set_option maxRecDepth 20000 in
theorem vlX11_525 : xVl RX11 525 yX11_isSo 2 11 := ⟨(xg_8 220 rfl rfl), (xg_8 222 rfl rfl), (xg_s 115 rfl rfl), mb_X11_isSo, _, _, rfl⟩
set_option maxRecDepth 20000 in
theorem coX11_isSo : Cond.code yX11_isSo cX11_isSo 5 (some .boolean) ∈ xgw := (xg_8 223 rfl rfl)
set_option maxRecDepth 20000 in
theorem mb_X11_tells : xMb yX11_tells 1 := ⟨wi_X11, by decide +kernel⟩
set_option maxRecDepth 20000 in
theorem vlL_150 : xVl RL 150 yX11_tells 1 11 := ⟨(xg_8 224 rfl rfl), (xg_8 225 rfl rfl), (xg_8 226 rfl rfl), mb_X11_tells, _, _, rfl⟩
set_option maxRecDepth 20000 in
theorem coX11_tells : Cond.code yX11_tells cX11_tells 11 (some .int) ∈ xgw := (xg_8 227 rfl rfl)
set_option maxRecDepth 20000 in
theorem mb_X11_rests : xMb yX11_rests 1 := ⟨wi_X11, by decide +kernel⟩
set_option maxRecDepth 20000 in
theorem vlL_154 : xVl RL 154 yX11_rests 1 11 := ⟨(xg_8 228 rfl rfl), (xg_8 229 rfl rfl), (xg_8 230 rfl rfl), mb_X11_rests, _, _, rfl⟩
set_option maxRecDepth 20000 in
theorem coX11_rests : Cond.code yX11_rests cX11_rests 2 (some .int) ∈ xgw := (xg_8 231 rfl rfl)
set_option maxRecDepth 20000 in
theorem mb_X11_restAt : xMb yX11_restAt 2 := ⟨wi_X11, by decide +kernel⟩
set_option maxRecDepth 20000 in
theorem vlX11_534 : xVl RX11 534 yX11_restAt 2 11 := ⟨(xg_8 232 rfl rfl), (xg_8 234 rfl rfl), (xg_s 116 rfl rfl), mb_X11_restAt, _, _, rfl⟩
set_option maxRecDepth 20000 in
theorem coX11_restAt : Cond.code yX11_restAt cX11_restAt 5 (some .int) ∈ xgw := (xg_8 235 rfl rfl)
set_option maxRecDepth 20000 in
theorem mb_X11_layWar : xMb yX11_layWar 1 := ⟨wi_X11, by decide +kernel⟩
set_option maxRecDepth 20000 in
theorem vlX11_531 : xVl RX11 531 yX11_layWar 1 11 := ⟨(xg_8 236 rfl rfl), (xg_8 238 rfl rfl), (xg_s 117 rfl rfl), mb_X11_layWar, _, _, rfl⟩
set_option maxRecDepth 20000 in
theorem coX11_layWar : Cond.code yX11_layWar cX11_layWar 5 none ∈ xgw := (xg_8 239 rfl rfl)
set_option maxRecDepth 20000 in
theorem mb_X11_rest : xMb yX11_rest 2 := ⟨wi_X11, by decide +kernel⟩
set_option maxRecDepth 20000 in
theorem vlL_158 : xVl RL 158 yX11_rest 2 11 := ⟨(xg_9 0 rfl rfl), (xg_9 1 rfl rfl), (xg_9 2 rfl rfl), mb_X11_rest, _, _, rfl⟩
set_option maxRecDepth 20000 in
theorem coX11_rest : Cond.code yX11_rest cX11_rest 3 (some .int) ∈ xgw := (xg_9 3 rfl rfl)
set_option maxRecDepth 20000 in
theorem mb_X11_chance : xMb yX11_chance 3 := ⟨wi_X11, by decide +kernel⟩
set_option maxRecDepth 20000 in
theorem vlL_162 : xVl RL 162 yX11_chance 3 11 := ⟨(xg_9 4 rfl rfl), (xg_9 5 rfl rfl), (xg_9 6 rfl rfl), mb_X11_chance, _, _, rfl⟩
set_option maxRecDepth 20000 in
theorem coX11_chance : Cond.code yX11_chance cX11_chance 11 (some .int) ∈ xgw := (xg_9 7 rfl rfl)
set_option maxRecDepth 20000 in
theorem mb_X11_number1 : xMb yX11_number1 1 := ⟨wi_X11, by decide +kernel⟩
set_option maxRecDepth 20000 in
theorem vlX11_545 : xVl RX11 545 yX11_number1 1 11 := ⟨(xg_9 8 rfl rfl), (xg_9 10 rfl rfl), (xg_s 118 rfl rfl), mb_X11_number1, _, _, rfl⟩
set_option maxRecDepth 20000 in
theorem coX11_number1 : Cond.code yX11_number1 cX11_number1 2 (some .int) ∈ xgw := (xg_9 11 rfl rfl)
set_option maxRecDepth 20000 in
theorem kcX11_537 : Cond.constantLong RX11 537 (1103515245) ∈ xgw := (xg_9 12 rfl rfl)
set_option maxRecDepth 20000 in
theorem kcX11_539 : Cond.constantLong RX11 539 (12345) ∈ xgw := (xg_9 13 rfl rfl)
set_option maxRecDepth 20000 in
theorem kcX11_541 : Cond.constantLong RX11 541 (2147483647) ∈ xgw := (xg_9 14 rfl rfl)
set_option maxRecDepth 20000 in
theorem kcX11_543 : Cond.constantLong RX11 543 (65536) ∈ xgw := (xg_9 15 rfl rfl)
set_option maxRecDepth 20000 in
theorem mb_X11_tried : xMb yX11_tried 3 := ⟨wi_X11, by decide +kernel⟩
set_option maxRecDepth 20000 in
theorem vlL_166 : xVl RL 166 yX11_tried 3 11 := ⟨(xg_9 16 rfl rfl), (xg_9 17 rfl rfl), (xg_9 18 rfl rfl), mb_X11_tried, _, _, rfl⟩
set_option maxRecDepth 20000 in
theorem coX11_tried : Cond.code yX11_tried cX11_tried 5 (some .int) ∈ xgw := (xg_9 19 rfl rfl)
set_option maxRecDepth 20000 in
theorem mb_X11_undo : xMb yX11_undo 0 := ⟨wi_X11, by decide +kernel⟩
set_option maxRecDepth 20000 in
theorem vlL_170 : xVl RL 170 yX11_undo 0 11 := ⟨(xg_9 20 rfl rfl), (xg_9 21 rfl rfl), (xg_9 22 rfl rfl), mb_X11_undo, _, _, rfl⟩
set_option maxRecDepth 20000 in
theorem coX11_undo : Cond.code yX11_undo cX11_undo 1 (some .int) ∈ xgw := (xg_9 23 rfl rfl)
set_option maxRecDepth 20000 in
theorem mb_X11_take : xMb yX11_take 2 := ⟨wi_X11, by decide +kernel⟩
set_option maxRecDepth 20000 in
theorem vlX11_551 : xVl RX11 551 yX11_take 2 11 := ⟨(xg_9 24 rfl rfl), (xg_9 26 rfl rfl), (xg_s 119 rfl rfl), mb_X11_take, _, _, rfl⟩
set_option maxRecDepth 20000 in
theorem coX11_take : Cond.code yX11_take cX11_take 4 none ∈ xgw := (xg_9 27 rfl rfl)
set_option maxRecDepth 20000 in
theorem mb_X11_keep : xMb yX11_keep 0 := ⟨wi_X11, by decide +kernel⟩
set_option maxRecDepth 20000 in
theorem vlL_174 : xVl RL 174 yX11_keep 0 11 := ⟨(xg_9 28 rfl rfl), (xg_9 29 rfl rfl), (xg_9 30 rfl rfl), mb_X11_keep, _, _, rfl⟩
set_option maxRecDepth 20000 in
theorem coX11_keep : Cond.code yX11_keep cX11_keep 2 (some .int) ∈ xgw := (xg_9 31 rfl rfl)
set_option maxRecDepth 20000 in
theorem mb_X11_back : xMb yX11_back 0 := ⟨wi_X11, by decide +kernel⟩
set_option maxRecDepth 20000 in
theorem vlL_178 : xVl RL 178 yX11_back 0 11 := ⟨(xg_9 32 rfl rfl), (xg_9 33 rfl rfl), (xg_9 34 rfl rfl), mb_X11_back, _, _, rfl⟩
set_option maxRecDepth 20000 in
theorem coX11_back : Cond.code yX11_back cX11_back 2 (some .int) ∈ xgw := (xg_9 35 rfl rfl)
set_option maxRecDepth 20000 in
theorem mb_X11_count : xMb yX11_count 1 := ⟨wi_X11, by decide +kernel⟩
set_option maxRecDepth 20000 in
theorem vlL_182 : xVl RL 182 yX11_count 1 11 := ⟨(xg_9 36 rfl rfl), (xg_9 37 rfl rfl), (xg_9 38 rfl rfl), mb_X11_count, _, _, rfl⟩
set_option maxRecDepth 20000 in
theorem coX11_count : Cond.code yX11_count cX11_count 2 (some .int) ∈ xgw := (xg_9 39 rfl rfl)
set_option maxRecDepth 20000 in
theorem mb_X11_manyHow : xMb yX11_manyHow 1 := ⟨wi_X11, by decide +kernel⟩
set_option maxRecDepth 20000 in
theorem vlX11_560 : xVl RX11 560 yX11_manyHow 1 11 := ⟨(xg_9 40 rfl rfl), (xg_9 42 rfl rfl), (xg_s 120 rfl rfl), mb_X11_manyHow, _, _, rfl⟩
set_option maxRecDepth 20000 in
theorem coX11_manyHow : Cond.code yX11_manyHow cX11_manyHow 4 (some .int) ∈ xgw := (xg_9 43 rfl rfl)
set_option maxRecDepth 20000 in
theorem mb_X11_manyMade : xMb yX11_manyMade 1 := ⟨wi_X11, by decide +kernel⟩
set_option maxRecDepth 20000 in
theorem vlX11_563 : xVl RX11 563 yX11_manyMade 1 11 := ⟨(xg_9 44 rfl rfl), (xg_9 46 rfl rfl), (xg_s 121 rfl rfl), mb_X11_manyMade, _, _, rfl⟩
set_option maxRecDepth 20000 in
theorem coX11_manyMade : Cond.code yX11_manyMade cX11_manyMade 4 (some .int) ∈ xgw := (xg_9 47 rfl rfl)
