/-! what the pools name: by program (wip/gen/links.py) -/
theorem xt_s {w : Cond} (h : w ∈ k2_sels lw_privs) : w ∈ lw_tbl := List.mem_append_left _ h
theorem xt_t {w : Cond} (h : w ∈ tables_1) : w ∈ lw_tbl := List.mem_append_right _ h
theorem xt_1 {w : Cond} (h : w ∈ tables_1_1) : w ∈ lw_tbl := xt_t (List.mem_append_left _ h)
theorem xg_1 {w : Cond} (i : Nat) (h : tables_1_1[i]? = some w) (g : goodWord w = true) : w ∈ xgw := List.mem_filter.mpr ⟨xt_1 (List.mem_of_getElem? h), g⟩
theorem xt_2 {w : Cond} (h : w ∈ tables_1_2) : w ∈ lw_tbl := xt_t (List.mem_append_right _ (List.mem_append_left _ h))
theorem xg_2 {w : Cond} (i : Nat) (h : tables_1_2[i]? = some w) (g : goodWord w = true) : w ∈ xgw := List.mem_filter.mpr ⟨xt_2 (List.mem_of_getElem? h), g⟩
theorem xt_3 {w : Cond} (h : w ∈ tables_1_3) : w ∈ lw_tbl := xt_t (List.mem_append_right _ (List.mem_append_right _ (List.mem_append_left _ h)))
theorem xg_3 {w : Cond} (i : Nat) (h : tables_1_3[i]? = some w) (g : goodWord w = true) : w ∈ xgw := List.mem_filter.mpr ⟨xt_3 (List.mem_of_getElem? h), g⟩
theorem xt_4 {w : Cond} (h : w ∈ tables_1_4) : w ∈ lw_tbl := xt_t (List.mem_append_right _ (List.mem_append_right _ (List.mem_append_right _ (List.mem_append_left _ h))))
theorem xg_4 {w : Cond} (i : Nat) (h : tables_1_4[i]? = some w) (g : goodWord w = true) : w ∈ xgw := List.mem_filter.mpr ⟨xt_4 (List.mem_of_getElem? h), g⟩
theorem xt_5 {w : Cond} (h : w ∈ tables_1_5) : w ∈ lw_tbl := xt_t (List.mem_append_right _ (List.mem_append_right _ (List.mem_append_right _ (List.mem_append_right _ (List.mem_append_left _ h)))))
theorem xg_5 {w : Cond} (i : Nat) (h : tables_1_5[i]? = some w) (g : goodWord w = true) : w ∈ xgw := List.mem_filter.mpr ⟨xt_5 (List.mem_of_getElem? h), g⟩
theorem xt_6 {w : Cond} (h : w ∈ tables_1_6) : w ∈ lw_tbl := xt_t (List.mem_append_right _ (List.mem_append_right _ (List.mem_append_right _ (List.mem_append_right _ (List.mem_append_right _ (List.mem_append_left _ h))))))
theorem xg_6 {w : Cond} (i : Nat) (h : tables_1_6[i]? = some w) (g : goodWord w = true) : w ∈ xgw := List.mem_filter.mpr ⟨xt_6 (List.mem_of_getElem? h), g⟩
theorem xt_7 {w : Cond} (h : w ∈ tables_1_7) : w ∈ lw_tbl := xt_t (List.mem_append_right _ (List.mem_append_right _ (List.mem_append_right _ (List.mem_append_right _ (List.mem_append_right _ (List.mem_append_right _ (List.mem_append_left _ h)))))))
theorem xg_7 {w : Cond} (i : Nat) (h : tables_1_7[i]? = some w) (g : goodWord w = true) : w ∈ xgw := List.mem_filter.mpr ⟨xt_7 (List.mem_of_getElem? h), g⟩
theorem xt_8 {w : Cond} (h : w ∈ tables_1_8) : w ∈ lw_tbl := xt_t (List.mem_append_right _ (List.mem_append_right _ (List.mem_append_right _ (List.mem_append_right _ (List.mem_append_right _ (List.mem_append_right _ (List.mem_append_right _ (List.mem_append_left _ h))))))))
theorem xg_8 {w : Cond} (i : Nat) (h : tables_1_8[i]? = some w) (g : goodWord w = true) : w ∈ xgw := List.mem_filter.mpr ⟨xt_8 (List.mem_of_getElem? h), g⟩
theorem xt_9 {w : Cond} (h : w ∈ tables_1_9) : w ∈ lw_tbl := xt_t (List.mem_append_right _ (List.mem_append_right _ (List.mem_append_right _ (List.mem_append_right _ (List.mem_append_right _ (List.mem_append_right _ (List.mem_append_right _ (List.mem_append_right _ (h)))))))))
theorem xg_9 {w : Cond} (i : Nat) (h : tables_1_9[i]? = some w) (g : goodWord w = true) : w ∈ xgw := List.mem_filter.mpr ⟨xt_9 (List.mem_of_getElem? h), g⟩
theorem xg_s {w : Cond} (i : Nat) (h : (k2_sels lw_privs)[i]? = some w) (g : goodWord w = true) : w ∈ xgw := List.mem_filter.mpr ⟨xt_s (List.mem_of_getElem? h), g⟩
set_option maxRecDepth 20000 in
theorem wi_L : Cond.initialized RL ∈ xgw := (xg_1 0 rfl rfl)
set_option maxRecDepth 20000 in
theorem wi_X10 : Cond.initialized RX10 ∈ xgw := (xg_1 1 rfl rfl)
set_option maxRecDepth 20000 in
theorem wi_X7 : Cond.initialized RX7 ∈ xgw := (xg_1 2 rfl rfl)
set_option maxRecDepth 20000 in
theorem wi_X6 : Cond.initialized RX6 ∈ xgw := (xg_1 3 rfl rfl)
set_option maxRecDepth 20000 in
theorem wi_X2 : Cond.initialized RX2 ∈ xgw := (xg_1 4 rfl rfl)
set_option maxRecDepth 20000 in
theorem wi_X0 : Cond.initialized RX0 ∈ xgw := (xg_1 5 rfl rfl)
set_option maxRecDepth 20000 in
theorem wi_X8 : Cond.initialized RX8 ∈ xgw := (xg_1 6 rfl rfl)
set_option maxRecDepth 20000 in
theorem wi_X1 : Cond.initialized RX1 ∈ xgw := (xg_1 7 rfl rfl)
set_option maxRecDepth 20000 in
theorem wi_X5 : Cond.initialized RX5 ∈ xgw := (xg_1 8 rfl rfl)
set_option maxRecDepth 20000 in
theorem wi_X9 : Cond.initialized RX9 ∈ xgw := (xg_1 9 rfl rfl)
set_option maxRecDepth 20000 in
theorem wi_X3 : Cond.initialized RX3 ∈ xgw := (xg_1 10 rfl rfl)
set_option maxRecDepth 20000 in
theorem wi_X4 : Cond.initialized RX4 ∈ xgw := (xg_1 11 rfl rfl)
set_option maxRecDepth 20000 in
theorem wi_X11 : Cond.initialized RX11 ∈ xgw := (xg_1 12 rfl rfl)
set_option maxRecDepth 20000 in
theorem wi_J9 : Cond.initialized RJ9 ∈ xgw := (xg_1 13 rfl rfl)
set_option maxRecDepth 20000 in
theorem wi_J0 : Cond.initialized RJ0 ∈ xgw := (xg_1 14 rfl rfl)
set_option maxRecDepth 20000 in
theorem wi_J1 : Cond.initialized RJ1 ∈ xgw := (xg_1 15 rfl rfl)
set_option maxRecDepth 20000 in
theorem wi_J3 : Cond.initialized RJ3 ∈ xgw := (xg_1 16 rfl rfl)
set_option maxRecDepth 20000 in
theorem wi_J2 : Cond.initialized RJ2 ∈ xgw := (xg_1 17 rfl rfl)
set_option maxRecDepth 20000 in
theorem wi_J10 : Cond.initialized RJ10 ∈ xgw := (xg_1 18 rfl rfl)
set_option maxRecDepth 20000 in
theorem wi_J6 : Cond.initialized RJ6 ∈ xgw := (xg_1 24 rfl rfl)
set_option maxRecDepth 20000 in
theorem wcL_8 : Cond.classLink RL 8 RX10 ∈ xgw := (xg_1 25 rfl rfl)
set_option maxRecDepth 20000 in
theorem nlL_8 : xNl RL 8 10 19 := ⟨_, _, rfl, wcL_8, (xg_1 26 rfl rfl), wi_X10⟩
set_option maxRecDepth 20000 in
theorem mb_X10_init : xMb yX10_init 0 := ⟨wi_X10, by decide +kernel⟩
set_option maxRecDepth 20000 in
theorem ilL_17 : xIl RL 17 yX10_init 0 := ⟨Or.inl (xg_1 27 rfl rfl), (xg_1 28 rfl rfl), rfl, mb_X10_init⟩
set_option maxRecDepth 20000 in
theorem coX10_init : Cond.code yX10_init cX10_init 2 none ∈ xgw := (xg_1 29 rfl rfl)
set_option maxRecDepth 20000 in
theorem olX10_1 : Cond.methodLink RX10 1 objectInit ∈ xgw := (xg_1 30 rfl rfl)
set_option maxRecDepth 20000 in
theorem wcX10_17 : Cond.classLink RX10 17 RX7 ∈ xgw := (xg_1 33 rfl rfl)
set_option maxRecDepth 20000 in
theorem nlX10_17 : xNl RX10 17 7 7 := ⟨_, _, rfl, wcX10_17, (xg_1 34 rfl rfl), wi_X7⟩
set_option maxRecDepth 20000 in
theorem mb_X7_init : xMb yX7_init 1 := ⟨wi_X7, by decide +kernel⟩
set_option maxRecDepth 20000 in
theorem ilX10_19 : xIl RX10 19 yX7_init 1 := ⟨Or.inl (xg_1 35 rfl rfl), (xg_1 36 rfl rfl), rfl, mb_X7_init⟩
set_option maxRecDepth 20000 in
theorem coX7_init : Cond.code yX7_init cX7_init 2 none ∈ xgw := (xg_1 37 rfl rfl)
set_option maxRecDepth 20000 in
theorem olX7_3 : Cond.methodLink RX7 3 objectInit ∈ xgw := (xg_1 38 rfl rfl)
set_option maxRecDepth 20000 in
theorem wcX7_9 : Cond.classLink RX7 9 RX6 ∈ xgw := (xg_1 39 rfl rfl)
set_option maxRecDepth 20000 in
theorem nlX7_9 : xNl RX7 9 6 13 := ⟨_, _, rfl, wcX7_9, (xg_1 40 rfl rfl), wi_X6⟩
set_option maxRecDepth 20000 in
theorem mb_X6_init : xMb yX6_init 0 := ⟨wi_X6, by decide +kernel⟩
set_option maxRecDepth 20000 in
theorem ilX7_11 : xIl RX7 11 yX6_init 0 := ⟨Or.inl (xg_1 41 rfl rfl), (xg_1 42 rfl rfl), rfl, mb_X6_init⟩
set_option maxRecDepth 20000 in
theorem coX6_init : Cond.code yX6_init cX6_init 1 none ∈ xgw := (xg_1 43 rfl rfl)
set_option maxRecDepth 20000 in
theorem olX6_3 : Cond.methodLink RX6 3 objectInit ∈ xgw := (xg_1 44 rfl rfl)
set_option maxRecDepth 20000 in
theorem wcX6_30 : Cond.classLink RX6 30 RX2 ∈ xgw := (xg_1 45 rfl rfl)
set_option maxRecDepth 20000 in
theorem nlX6_30 : xNl RX6 30 2 7 := ⟨_, _, rfl, wcX6_30, (xg_1 46 rfl rfl), wi_X2⟩
set_option maxRecDepth 20000 in
theorem mb_X2_init : xMb yX2_init 0 := ⟨wi_X2, by decide +kernel⟩
set_option maxRecDepth 20000 in
theorem ilX6_32 : xIl RX6 32 yX2_init 0 := ⟨Or.inr ⟨"RopeLedger", xt_1 (List.mem_of_getElem? (i := 47) rfl)⟩, (xg_1 48 rfl rfl), rfl, mb_X2_init⟩
set_option maxRecDepth 20000 in
theorem coX2_init : Cond.code yX2_init cX2_init 1 none ∈ xgw := (xg_1 49 rfl rfl)
set_option maxRecDepth 20000 in
theorem olX2_5 : Cond.methodLink RX2 5 objectInit ∈ xgw := (xg_1 50 rfl rfl)
set_option maxRecDepth 20000 in
theorem flX2_11 : xFl RX2 11 2 0 (.array .int) := ⟨_, _, _, rfl, by decide, (xg_1 51 rfl rfl), by decide +kernel⟩
set_option maxRecDepth 20000 in
theorem flX2_17 : xFl RX2 17 2 1 (.array .int) := ⟨_, _, _, rfl, by decide, (xg_1 52 rfl rfl), by decide +kernel⟩
set_option maxRecDepth 20000 in
theorem flX1_62 : xFl RX1 62 2 1 (.array .int) := ⟨_, _, _, rfl, by decide, (xg_1 53 rfl rfl), by decide +kernel⟩
set_option maxRecDepth 20000 in
theorem flX7_184 : xFl RX7 184 2 1 (.array .int) := ⟨_, _, _, rfl, by decide, (xg_1 54 rfl rfl), by decide +kernel⟩
set_option maxRecDepth 20000 in
theorem flX2_20 : xFl RX2 20 2 2 (.array .int) := ⟨_, _, _, rfl, by decide, (xg_1 55 rfl rfl), by decide +kernel⟩
set_option maxRecDepth 20000 in
theorem flX1_65 : xFl RX1 65 2 2 (.array .int) := ⟨_, _, _, rfl, by decide, (xg_1 56 rfl rfl), by decide +kernel⟩
set_option maxRecDepth 20000 in
theorem flX2_23 : xFl RX2 23 2 3 (.array .long) := ⟨_, _, _, rfl, by decide, (xg_1 57 rfl rfl), by decide +kernel⟩
set_option maxRecDepth 20000 in
theorem flX0_95 : xFl RX0 95 2 3 (.array .long) := ⟨_, _, _, rfl, by decide, (xg_1 58 rfl rfl), by decide +kernel⟩
set_option maxRecDepth 20000 in
theorem flX2_27 : xFl RX2 27 2 4 (.array .long) := ⟨_, _, _, rfl, by decide, (xg_1 59 rfl rfl), by decide +kernel⟩
set_option maxRecDepth 20000 in
theorem flX2_30 : xFl RX2 30 2 5 .int := ⟨_, _, _, rfl, by decide, (xg_1 60 rfl rfl), by decide +kernel⟩
set_option maxRecDepth 20000 in
theorem flX1_82 : xFl RX1 82 2 5 .int := ⟨_, _, _, rfl, by decide, (xg_1 61 rfl rfl), by decide +kernel⟩
set_option maxRecDepth 20000 in
theorem flX10_409 : xFl RX10 409 2 5 .int := ⟨_, _, _, rfl, by decide, (xg_1 62 rfl rfl), by decide +kernel⟩
set_option maxRecDepth 20000 in
theorem flX1_37 : xFl RX1 37 2 6 .int := ⟨_, _, _, rfl, by decide, (xg_1 63 rfl rfl), by decide +kernel⟩
set_option maxRecDepth 20000 in
theorem flX2_34 : xFl RX2 34 2 6 .int := ⟨_, _, _, rfl, by decide, (xg_1 64 rfl rfl), by decide +kernel⟩
set_option maxRecDepth 20000 in
theorem mb_X6_clear : xMb yX6_clear 0 := ⟨wi_X6, by decide +kernel⟩
set_option maxRecDepth 20000 in
theorem vlX6_37 : xVl RX6 37 yX6_clear 0 6 := ⟨(xg_1 83 rfl rfl), (xg_1 84 rfl rfl), (xg_1 85 rfl rfl), mb_X6_clear, _, _, rfl⟩
set_option maxRecDepth 20000 in
theorem coX6_clear : Cond.code yX6_clear cX6_clear 1 none ∈ xgw := (xg_1 86 rfl rfl)
set_option maxRecDepth 20000 in
theorem mb_X2_clear : xMb yX2_clear 0 := ⟨wi_X2, by decide +kernel⟩
set_option maxRecDepth 20000 in
theorem vlX6_47 : xVl RX6 47 yX2_clear 0 2 := ⟨(xg_1 87 rfl rfl), (xg_1 88 rfl rfl), (xg_1 89 rfl rfl), mb_X2_clear, _, _, rfl⟩
set_option maxRecDepth 20000 in
theorem coX2_clear : Cond.code yX2_clear cX2_clear 2 none ∈ xgw := (xg_1 90 rfl rfl)
set_option maxRecDepth 20000 in
theorem flX6_9 : xFl RX6 9 6 0 (.array .int) := ⟨_, _, _, rfl, by decide, (xg_1 91 rfl rfl), by decide +kernel⟩
set_option maxRecDepth 20000 in
theorem flX6_15 : xFl RX6 15 6 1 (.array .int) := ⟨_, _, _, rfl, by decide, (xg_1 92 rfl rfl), by decide +kernel⟩
set_option maxRecDepth 20000 in
theorem flX10_154 : xFl RX10 154 6 1 (.array .int) := ⟨_, _, _, rfl, by decide, (xg_1 93 rfl rfl), by decide +kernel⟩
set_option maxRecDepth 20000 in
theorem flX7_139 : xFl RX7 139 6 1 (.array .int) := ⟨_, _, _, rfl, by decide, (xg_1 94 rfl rfl), by decide +kernel⟩
set_option maxRecDepth 20000 in
theorem flX0_84 : xFl RX0 84 6 1 (.array .int) := ⟨_, _, _, rfl, by decide, (xg_1 95 rfl rfl), by decide +kernel⟩
set_option maxRecDepth 20000 in
theorem flX6_18 : xFl RX6 18 6 2 (.array .int) := ⟨_, _, _, rfl, by decide, (xg_1 96 rfl rfl), by decide +kernel⟩
set_option maxRecDepth 20000 in
theorem flX10_151 : xFl RX10 151 6 2 (.array .int) := ⟨_, _, _, rfl, by decide, (xg_1 97 rfl rfl), by decide +kernel⟩
set_option maxRecDepth 20000 in
theorem flX0_142 : xFl RX0 142 6 2 (.array .int) := ⟨_, _, _, rfl, by decide, (xg_1 98 rfl rfl), by decide +kernel⟩
set_option maxRecDepth 20000 in
theorem flX6_40 : xFl RX6 40 6 3 .int := ⟨_, _, _, rfl, by decide, (xg_1 99 rfl rfl), by decide +kernel⟩
set_option maxRecDepth 20000 in
theorem flX7_108 : xFl RX7 108 6 3 .int := ⟨_, _, _, rfl, by decide, (xg_1 100 rfl rfl), by decide +kernel⟩
set_option maxRecDepth 20000 in
theorem flX10_169 : xFl RX10 169 6 3 .int := ⟨_, _, _, rfl, by decide, (xg_1 101 rfl rfl), by decide +kernel⟩
set_option maxRecDepth 20000 in
theorem flX6_21 : xFl RX6 21 6 4 (.array .int) := ⟨_, _, _, rfl, by decide, (xg_1 102 rfl rfl), by decide +kernel⟩
set_option maxRecDepth 20000 in
theorem flX10_208 : xFl RX10 208 6 4 (.array .int) := ⟨_, _, _, rfl, by decide, (xg_1 103 rfl rfl), by decide +kernel⟩
set_option maxRecDepth 20000 in
theorem flX0_139 : xFl RX0 139 6 4 (.array .int) := ⟨_, _, _, rfl, by decide, (xg_1 104 rfl rfl), by decide +kernel⟩
set_option maxRecDepth 20000 in
theorem flX6_24 : xFl RX6 24 6 5 (.array .int) := ⟨_, _, _, rfl, by decide, (xg_1 105 rfl rfl), by decide +kernel⟩
set_option maxRecDepth 20000 in
theorem flX10_211 : xFl RX10 211 6 5 (.array .int) := ⟨_, _, _, rfl, by decide, (xg_1 106 rfl rfl), by decide +kernel⟩
set_option maxRecDepth 20000 in
theorem flX0_145 : xFl RX0 145 6 5 (.array .int) := ⟨_, _, _, rfl, by decide, (xg_1 107 rfl rfl), by decide +kernel⟩
set_option maxRecDepth 20000 in
theorem flX6_27 : xFl RX6 27 6 6 (.array .int) := ⟨_, _, _, rfl, by decide, (xg_1 108 rfl rfl), by decide +kernel⟩
set_option maxRecDepth 20000 in
theorem flX10_214 : xFl RX10 214 6 6 (.array .int) := ⟨_, _, _, rfl, by decide, (xg_1 109 rfl rfl), by decide +kernel⟩
set_option maxRecDepth 20000 in
theorem flX0_136 : xFl RX0 136 6 6 (.array .int) := ⟨_, _, _, rfl, by decide, (xg_1 110 rfl rfl), by decide +kernel⟩
set_option maxRecDepth 20000 in
theorem flX6_44 : xFl RX6 44 6 7 .int := ⟨_, _, _, rfl, by decide, (xg_1 111 rfl rfl), by decide +kernel⟩
set_option maxRecDepth 20000 in
theorem flX0_79 : xFl RX0 79 6 7 .int := ⟨_, _, _, rfl, by decide, (xg_1 112 rfl rfl), by decide +kernel⟩
set_option maxRecDepth 20000 in
theorem flX10_205 : xFl RX10 205 6 7 .int := ⟨_, _, _, rfl, by decide, (xg_1 113 rfl rfl), by decide +kernel⟩
set_option maxRecDepth 20000 in
theorem flX7_163 : xFl RX7 163 6 7 .int := ⟨_, _, _, rfl, by decide, (xg_1 114 rfl rfl), by decide +kernel⟩
set_option maxRecDepth 20000 in
theorem flX6_33 : xFl RX6 33 6 8 (.object "RopeLedger$Laws") := ⟨_, _, _, rfl, by decide, (xg_1 115 rfl rfl), by decide +kernel⟩
set_option maxRecDepth 20000 in
theorem flX10_231 : xFl RX10 231 6 8 (.object "RopeLedger$Laws") := ⟨_, _, _, rfl, by decide, (xg_1 116 rfl rfl), by decide +kernel⟩
set_option maxRecDepth 20000 in
theorem flX0_91 : xFl RX0 91 6 8 (.object "RopeLedger$Laws") := ⟨_, _, _, rfl, by decide, (xg_1 117 rfl rfl), by decide +kernel⟩
set_option maxRecDepth 20000 in
theorem flX7_180 : xFl RX7 180 6 8 (.object "RopeLedger$Laws") := ⟨_, _, _, rfl, by decide, (xg_1 118 rfl rfl), by decide +kernel⟩
set_option maxRecDepth 20000 in
theorem flX6_48 : xFl RX6 48 6 9 .int := ⟨_, _, _, rfl, by decide, (xg_1 119 rfl rfl), by decide +kernel⟩
set_option maxRecDepth 20000 in
theorem flX7_146 : xFl RX7 146 6 9 .int := ⟨_, _, _, rfl, by decide, (xg_1 120 rfl rfl), by decide +kernel⟩
set_option maxRecDepth 20000 in
theorem flX10_341 : xFl RX10 341 6 9 .int := ⟨_, _, _, rfl, by decide, (xg_1 121 rfl rfl), by decide +kernel⟩
set_option maxRecDepth 20000 in
theorem flX6_51 : xFl RX6 51 6 10 .int := ⟨_, _, _, rfl, by decide, (xg_1 122 rfl rfl), by decide +kernel⟩
set_option maxRecDepth 20000 in
theorem flX10_112 : xFl RX10 112 6 10 .int := ⟨_, _, _, rfl, by decide, (xg_1 123 rfl rfl), by decide +kernel⟩
set_option maxRecDepth 20000 in
theorem flX7_90 : xFl RX7 90 6 10 .int := ⟨_, _, _, rfl, by decide, (xg_1 124 rfl rfl), by decide +kernel⟩
set_option maxRecDepth 20000 in
theorem flX6_54 : xFl RX6 54 6 11 .boolean := ⟨_, _, _, rfl, by decide, (xg_1 125 rfl rfl), by decide +kernel⟩
set_option maxRecDepth 20000 in
theorem flX7_169 : xFl RX7 169 6 11 .boolean := ⟨_, _, _, rfl, by decide, (xg_1 126 rfl rfl), by decide +kernel⟩
set_option maxRecDepth 20000 in
theorem flX6_58 : xFl RX6 58 6 12 .boolean := ⟨_, _, _, rfl, by decide, (xg_1 127 rfl rfl), by decide +kernel⟩
set_option maxRecDepth 20000 in
theorem flX7_176 : xFl RX7 176 6 12 .boolean := ⟨_, _, _, rfl, by decide, (xg_1 128 rfl rfl), by decide +kernel⟩
set_option maxRecDepth 20000 in
theorem wcX7_18 : Cond.classLink RX7 18 RX0 ∈ xgw := (xg_1 156 rfl rfl)
set_option maxRecDepth 20000 in
theorem nlX7_18 : xNl RX7 18 0 16 := ⟨_, _, rfl, wcX7_18, (xg_1 157 rfl rfl), wi_X0⟩
set_option maxRecDepth 20000 in
theorem mb_X0_init : xMb yX0_init 1 := ⟨wi_X0, by decide +kernel⟩
set_option maxRecDepth 20000 in
theorem ilX7_20 : xIl RX7 20 yX0_init 1 := ⟨Or.inl (xg_1 158 rfl rfl), (xg_1 159 rfl rfl), rfl, mb_X0_init⟩
set_option maxRecDepth 20000 in
theorem coX0_init : Cond.code yX0_init cX0_init 2 none ∈ xgw := (xg_1 160 rfl rfl)
set_option maxRecDepth 20000 in
theorem olX0_3 : Cond.methodLink RX0 3 objectInit ∈ xgw := (xg_1 161 rfl rfl)
set_option maxRecDepth 20000 in
theorem mb_X0_clear : xMb yX0_clear 1 := ⟨wi_X0, by decide +kernel⟩
set_option maxRecDepth 20000 in
theorem vlX0_45 : xVl RX0 45 yX0_clear 1 0 := ⟨(xg_1 162 rfl rfl), (xg_1 163 rfl rfl), (xg_1 164 rfl rfl), mb_X0_clear, _, _, rfl⟩
set_option maxRecDepth 20000 in
theorem coX0_clear : Cond.code yX0_clear cX0_clear 3 none ∈ xgw := (xg_1 165 rfl rfl)
set_option maxRecDepth 20000 in
theorem flX0_49 : xFl RX0 49 0 0 (.object "RopeLedger$Tale") := ⟨_, _, _, rfl, by decide, (xg_1 166 rfl rfl), by decide +kernel⟩
set_option maxRecDepth 20000 in
theorem flX0_9 : xFl RX0 9 0 1 (.array .int) := ⟨_, _, _, rfl, by decide, (xg_1 167 rfl rfl), by decide +kernel⟩
set_option maxRecDepth 20000 in
theorem flX10_148 : xFl RX10 148 0 1 (.array .int) := ⟨_, _, _, rfl, by decide, (xg_1 168 rfl rfl), by decide +kernel⟩
set_option maxRecDepth 20000 in
theorem flX7_122 : xFl RX7 122 0 1 (.array .int) := ⟨_, _, _, rfl, by decide, (xg_1 169 rfl rfl), by decide +kernel⟩
set_option maxRecDepth 20000 in
theorem flX0_15 : xFl RX0 15 0 2 (.array .int) := ⟨_, _, _, rfl, by decide, (xg_1 170 rfl rfl), by decide +kernel⟩
set_option maxRecDepth 20000 in
theorem flX10_157 : xFl RX10 157 0 2 (.array .int) := ⟨_, _, _, rfl, by decide, (xg_1 171 rfl rfl), by decide +kernel⟩
set_option maxRecDepth 20000 in
theorem flX7_126 : xFl RX7 126 0 2 (.array .int) := ⟨_, _, _, rfl, by decide, (xg_1 172 rfl rfl), by decide +kernel⟩
set_option maxRecDepth 20000 in
theorem flX0_18 : xFl RX0 18 0 3 (.array .int) := ⟨_, _, _, rfl, by decide, (xg_1 173 rfl rfl), by decide +kernel⟩
set_option maxRecDepth 20000 in
theorem flX10_175 : xFl RX10 175 0 3 (.array .int) := ⟨_, _, _, rfl, by decide, (xg_1 174 rfl rfl), by decide +kernel⟩
set_option maxRecDepth 20000 in
theorem flX0_21 : xFl RX0 21 0 4 (.array .int) := ⟨_, _, _, rfl, by decide, (xg_1 175 rfl rfl), by decide +kernel⟩
set_option maxRecDepth 20000 in
theorem flX10_178 : xFl RX10 178 0 4 (.array .int) := ⟨_, _, _, rfl, by decide, (xg_1 176 rfl rfl), by decide +kernel⟩
set_option maxRecDepth 20000 in
theorem flX0_24 : xFl RX0 24 0 5 (.array .int) := ⟨_, _, _, rfl, by decide, (xg_1 177 rfl rfl), by decide +kernel⟩
set_option maxRecDepth 20000 in
theorem flX10_181 : xFl RX10 181 0 5 (.array .int) := ⟨_, _, _, rfl, by decide, (xg_1 178 rfl rfl), by decide +kernel⟩
set_option maxRecDepth 20000 in
theorem flX0_27 : xFl RX0 27 0 6 (.array .int) := ⟨_, _, _, rfl, by decide, (xg_1 179 rfl rfl), by decide +kernel⟩
set_option maxRecDepth 20000 in
theorem flX10_184 : xFl RX10 184 0 6 (.array .int) := ⟨_, _, _, rfl, by decide, (xg_1 180 rfl rfl), by decide +kernel⟩
set_option maxRecDepth 20000 in
theorem flX0_30 : xFl RX0 30 0 7 (.array .int) := ⟨_, _, _, rfl, by decide, (xg_1 181 rfl rfl), by decide +kernel⟩
set_option maxRecDepth 20000 in
theorem flX10_187 : xFl RX10 187 0 7 (.array .int) := ⟨_, _, _, rfl, by decide, (xg_1 182 rfl rfl), by decide +kernel⟩
set_option maxRecDepth 20000 in
theorem flX0_33 : xFl RX0 33 0 8 (.array .int) := ⟨_, _, _, rfl, by decide, (xg_1 183 rfl rfl), by decide +kernel⟩
set_option maxRecDepth 20000 in
theorem flX10_202 : xFl RX10 202 0 8 (.array .int) := ⟨_, _, _, rfl, by decide, (xg_1 184 rfl rfl), by decide +kernel⟩
set_option maxRecDepth 20000 in
theorem flX0_36 : xFl RX0 36 0 9 (.array .int) := ⟨_, _, _, rfl, by decide, (xg_1 185 rfl rfl), by decide +kernel⟩
set_option maxRecDepth 20000 in
theorem flX10_190 : xFl RX10 190 0 9 (.array .int) := ⟨_, _, _, rfl, by decide, (xg_1 186 rfl rfl), by decide +kernel⟩
set_option maxRecDepth 20000 in
theorem flX0_39 : xFl RX0 39 0 10 (.array .int) := ⟨_, _, _, rfl, by decide, (xg_1 187 rfl rfl), by decide +kernel⟩
set_option maxRecDepth 20000 in
theorem flX9_39 : xFl RX9 39 0 10 (.array .int) := ⟨_, _, _, rfl, by decide, (xg_1 188 rfl rfl), by decide +kernel⟩
set_option maxRecDepth 20000 in
theorem flX10_199 : xFl RX10 199 0 10 (.array .int) := ⟨_, _, _, rfl, by decide, (xg_1 189 rfl rfl), by decide +kernel⟩
set_option maxRecDepth 20000 in
theorem flX7_160 : xFl RX7 160 0 10 (.array .int) := ⟨_, _, _, rfl, by decide, (xg_1 190 rfl rfl), by decide +kernel⟩
set_option maxRecDepth 20000 in
theorem flX0_42 : xFl RX0 42 0 11 (.array .int) := ⟨_, _, _, rfl, by decide, (xg_1 191 rfl rfl), by decide +kernel⟩
set_option maxRecDepth 20000 in
theorem flX10_217 : xFl RX10 217 0 11 (.array .int) := ⟨_, _, _, rfl, by decide, (xg_1 192 rfl rfl), by decide +kernel⟩
set_option maxRecDepth 20000 in
theorem flX0_53 : xFl RX0 53 0 12 .int := ⟨_, _, _, rfl, by decide, (xg_1 193 rfl rfl), by decide +kernel⟩
set_option maxRecDepth 20000 in
theorem flX7_147 : xFl RX7 147 0 12 .int := ⟨_, _, _, rfl, by decide, (xg_1 194 rfl rfl), by decide +kernel⟩
set_option maxRecDepth 20000 in
theorem flX10_394 : xFl RX10 394 0 12 .int := ⟨_, _, _, rfl, by decide, (xg_1 195 rfl rfl), by decide +kernel⟩
set_option maxRecDepth 20000 in
theorem flX9_18 : xFl RX9 18 0 13 .int := ⟨_, _, _, rfl, by decide, (xg_1 196 rfl rfl), by decide +kernel⟩
set_option maxRecDepth 20000 in
theorem flX0_57 : xFl RX0 57 0 13 .int := ⟨_, _, _, rfl, by decide, (xg_1 197 rfl rfl), by decide +kernel⟩
set_option maxRecDepth 20000 in
theorem flX7_133 : xFl RX7 133 0 13 .int := ⟨_, _, _, rfl, by decide, (xg_1 198 rfl rfl), by decide +kernel⟩
set_option maxRecDepth 20000 in
theorem flX10_251 : xFl RX10 251 0 13 .int := ⟨_, _, _, rfl, by decide, (xg_1 199 rfl rfl), by decide +kernel⟩
set_option maxRecDepth 20000 in
theorem flX0_60 : xFl RX0 60 0 14 .int := ⟨_, _, _, rfl, by decide, (xg_1 200 rfl rfl), by decide +kernel⟩
set_option maxRecDepth 20000 in
theorem flX9_32 : xFl RX9 32 0 14 .int := ⟨_, _, _, rfl, by decide, (xg_1 201 rfl rfl), by decide +kernel⟩
set_option maxRecDepth 20000 in
theorem flX7_173 : xFl RX7 173 0 14 .int := ⟨_, _, _, rfl, by decide, (xg_1 202 rfl rfl), by decide +kernel⟩
set_option maxRecDepth 20000 in
theorem flX10_301 : xFl RX10 301 0 14 .int := ⟨_, _, _, rfl, by decide, (xg_1 203 rfl rfl), by decide +kernel⟩
set_option maxRecDepth 20000 in
theorem flX0_63 : xFl RX0 63 0 15 .int := ⟨_, _, _, rfl, by decide, (xg_1 204 rfl rfl), by decide +kernel⟩
set_option maxRecDepth 20000 in
theorem flX10_273 : xFl RX10 273 0 15 .int := ⟨_, _, _, rfl, by decide, (xg_1 205 rfl rfl), by decide +kernel⟩
set_option maxRecDepth 20000 in
theorem wcX7_27 : Cond.classLink RX7 27 RX8 ∈ xgw := (xg_1 239 rfl rfl)
set_option maxRecDepth 20000 in
theorem nlX7_27 : xNl RX7 27 8 6 := ⟨_, _, rfl, wcX7_27, (xg_2 0 rfl rfl), wi_X8⟩
set_option maxRecDepth 20000 in
theorem mb_X8_init : xMb yX8_init 1 := ⟨wi_X8, by decide +kernel⟩
set_option maxRecDepth 20000 in
theorem ilX7_29 : xIl RX7 29 yX8_init 1 := ⟨Or.inl (xg_2 1 rfl rfl), (xg_2 2 rfl rfl), rfl, mb_X8_init⟩
set_option maxRecDepth 20000 in
theorem coX8_init : Cond.code yX8_init cX8_init 2 none ∈ xgw := (xg_2 3 rfl rfl)
set_option maxRecDepth 20000 in
theorem olX8_3 : Cond.methodLink RX8 3 objectInit ∈ xgw := (xg_2 4 rfl rfl)
set_option maxRecDepth 20000 in
theorem flX8_9 : xFl RX8 9 8 0 (.array .byte) := ⟨_, _, _, rfl, by decide, (xg_2 5 rfl rfl), by decide +kernel⟩
set_option maxRecDepth 20000 in
theorem flX8_24 : xFl RX8 24 8 1 .int := ⟨_, _, _, rfl, by decide, (xg_2 6 rfl rfl), by decide +kernel⟩
set_option maxRecDepth 20000 in
theorem flX8_28 : xFl RX8 28 8 2 .int := ⟨_, _, _, rfl, by decide, (xg_2 7 rfl rfl), by decide +kernel⟩
set_option maxRecDepth 20000 in
theorem flX8_34 : xFl RX8 34 8 3 .int := ⟨_, _, _, rfl, by decide, (xg_2 8 rfl rfl), by decide +kernel⟩
set_option maxRecDepth 20000 in
theorem flX7_96 : xFl RX7 96 8 3 .int := ⟨_, _, _, rfl, by decide, (xg_2 9 rfl rfl), by decide +kernel⟩
set_option maxRecDepth 20000 in
theorem flX7_61 : xFl RX7 61 8 4 .int := ⟨_, _, _, rfl, by decide, (xg_2 10 rfl rfl), by decide +kernel⟩
set_option maxRecDepth 20000 in
theorem flX1_68 : xFl RX1 68 8 4 .int := ⟨_, _, _, rfl, by decide, (xg_2 11 rfl rfl), by decide +kernel⟩
set_option maxRecDepth 20000 in
theorem flX8_37 : xFl RX8 37 8 4 .int := ⟨_, _, _, rfl, by decide, (xg_2 12 rfl rfl), by decide +kernel⟩
set_option maxRecDepth 20000 in
theorem flX1_79 : xFl RX1 79 8 5 .int := ⟨_, _, _, rfl, by decide, (xg_2 13 rfl rfl), by decide +kernel⟩
set_option maxRecDepth 20000 in
theorem flX8_56 : xFl RX8 56 8 5 .int := ⟨_, _, _, rfl, by decide, (xg_2 14 rfl rfl), by decide +kernel⟩
set_option maxRecDepth 20000 in
theorem flX7_102 : xFl RX7 102 8 5 .int := ⟨_, _, _, rfl, by decide, (xg_2 15 rfl rfl), by decide +kernel⟩
set_option maxRecDepth 20000 in
theorem wcX7_36 : Cond.classLink RX7 36 RX1 ∈ xgw := (xg_2 29 rfl rfl)
set_option maxRecDepth 20000 in
theorem nlX7_36 : xNl RX7 36 1 7 := ⟨_, _, rfl, wcX7_36, (xg_2 30 rfl rfl), wi_X1⟩
set_option maxRecDepth 20000 in
theorem mb_X1_init : xMb yX1_init 1 := ⟨wi_X1, by decide +kernel⟩
set_option maxRecDepth 20000 in
theorem ilX7_38 : xIl RX7 38 yX1_init 1 := ⟨Or.inl (xg_2 31 rfl rfl), (xg_2 32 rfl rfl), rfl, mb_X1_init⟩
set_option maxRecDepth 20000 in
theorem coX1_init : Cond.code yX1_init cX1_init 2 none ∈ xgw := (xg_2 33 rfl rfl)
set_option maxRecDepth 20000 in
theorem olX1_5 : Cond.methodLink RX1 5 objectInit ∈ xgw := (xg_2 34 rfl rfl)
set_option maxRecDepth 20000 in
theorem flX1_15 : xFl RX1 15 1 0 (.object "RopeLedger$Tokens") := ⟨_, _, _, rfl, by decide, (xg_2 35 rfl rfl), by decide +kernel⟩
set_option maxRecDepth 20000 in
theorem flX1_11 : xFl RX1 11 1 1 (.array .int) := ⟨_, _, _, rfl, by decide, (xg_2 36 rfl rfl), by decide +kernel⟩
set_option maxRecDepth 20000 in
theorem flX1_23 : xFl RX1 23 1 2 .int := ⟨_, _, _, rfl, by decide, (xg_2 37 rfl rfl), by decide +kernel⟩
set_option maxRecDepth 20000 in
theorem flX1_27 : xFl RX1 27 1 3 .int := ⟨_, _, _, rfl, by decide, (xg_2 38 rfl rfl), by decide +kernel⟩
set_option maxRecDepth 20000 in
theorem flX1_30 : xFl RX1 30 1 4 .boolean := ⟨_, _, _, rfl, by decide, (xg_2 39 rfl rfl), by decide +kernel⟩
set_option maxRecDepth 20000 in
theorem flX1_34 : xFl RX1 34 1 5 .boolean := ⟨_, _, _, rfl, by decide, (xg_2 40 rfl rfl), by decide +kernel⟩
set_option maxRecDepth 20000 in
theorem flX1_19 : xFl RX1 19 1 6 (.object "RopeLedger$Laws") := ⟨_, _, _, rfl, by decide, (xg_2 41 rfl rfl), by decide +kernel⟩
set_option maxRecDepth 20000 in
theorem flX7_32 : xFl RX7 32 7 0 (.object "RopeLedger$Tokens") := ⟨_, _, _, rfl, by decide, (xg_2 57 rfl rfl), by decide +kernel⟩
set_option maxRecDepth 20000 in
theorem flX7_41 : xFl RX7 41 7 1 (.object "RopeLedger$LawReader") := ⟨_, _, _, rfl, by decide, (xg_2 58 rfl rfl), by decide +kernel⟩
set_option maxRecDepth 20000 in
theorem flX7_12 : xFl RX7 12 7 2 (.object "RopeLedger$Tale") := ⟨_, _, _, rfl, by decide, (xg_2 59 rfl rfl), by decide +kernel⟩
set_option maxRecDepth 20000 in
theorem flX10_115 : xFl RX10 115 7 2 (.object "RopeLedger$Tale") := ⟨_, _, _, rfl, by decide, (xg_2 60 rfl rfl), by decide +kernel⟩
set_option maxRecDepth 20000 in
theorem flX7_23 : xFl RX7 23 7 3 (.object "RopeLedger$Bridge") := ⟨_, _, _, rfl, by decide, (xg_2 61 rfl rfl), by decide +kernel⟩
set_option maxRecDepth 20000 in
theorem flX10_116 : xFl RX10 116 7 3 (.object "RopeLedger$Bridge") := ⟨_, _, _, rfl, by decide, (xg_2 62 rfl rfl), by decide +kernel⟩
set_option maxRecDepth 20000 in
theorem flX7_45 : xFl RX7 45 7 4 .int := ⟨_, _, _, rfl, by decide, (xg_2 63 rfl rfl), by decide +kernel⟩
set_option maxRecDepth 20000 in
theorem flX10_104 : xFl RX10 104 7 4 .int := ⟨_, _, _, rfl, by decide, (xg_2 64 rfl rfl), by decide +kernel⟩
set_option maxRecDepth 20000 in
theorem flX7_49 : xFl RX7 49 7 5 .int := ⟨_, _, _, rfl, by decide, (xg_2 65 rfl rfl), by decide +kernel⟩
set_option maxRecDepth 20000 in
theorem flX10_108 : xFl RX10 108 7 5 .int := ⟨_, _, _, rfl, by decide, (xg_2 66 rfl rfl), by decide +kernel⟩
set_option maxRecDepth 20000 in
theorem flX7_105 : xFl RX7 105 7 6 .int := ⟨_, _, _, rfl, by decide, (xg_2 67 rfl rfl), by decide +kernel⟩
set_option maxRecDepth 20000 in
theorem wcX10_26 : Cond.classLink RX10 26 RX6 ∈ xgw := (xg_2 83 rfl rfl)
set_option maxRecDepth 20000 in
theorem nlX10_26 : xNl RX10 26 6 13 := ⟨_, _, rfl, wcX10_26, (xg_1 40 rfl rfl), wi_X6⟩
set_option maxRecDepth 20000 in
theorem ilX10_28 : xIl RX10 28 yX6_init 0 := ⟨Or.inl (xg_2 84 rfl rfl), (xg_1 42 rfl rfl), rfl, mb_X6_init⟩
set_option maxRecDepth 20000 in
theorem wcX10_33 : Cond.classLink RX10 33 RX0 ∈ xgw := (xg_2 85 rfl rfl)
set_option maxRecDepth 20000 in
theorem nlX10_33 : xNl RX10 33 0 16 := ⟨_, _, rfl, wcX10_33, (xg_1 157 rfl rfl), wi_X0⟩
set_option maxRecDepth 20000 in
theorem ilX10_35 : xIl RX10 35 yX0_init 1 := ⟨Or.inl (xg_2 86 rfl rfl), (xg_1 159 rfl rfl), rfl, mb_X0_init⟩
set_option maxRecDepth 20000 in
theorem wcX10_55 : Cond.classLink RX10 55 RX5 ∈ xgw := (xg_2 88 rfl rfl)
set_option maxRecDepth 20000 in
theorem nlX10_55 : xNl RX10 55 5 6 := ⟨_, _, rfl, wcX10_55, (xg_2 89 rfl rfl), wi_X5⟩
set_option maxRecDepth 20000 in
theorem mb_X5_init : xMb yX5_init 0 := ⟨wi_X5, by decide +kernel⟩
set_option maxRecDepth 20000 in
theorem ilX10_57 : xIl RX10 57 yX5_init 0 := ⟨Or.inr ⟨"RopeLedger", xt_2 (List.mem_of_getElem? (i := 90) rfl)⟩, (xg_2 91 rfl rfl), rfl, mb_X5_init⟩
set_option maxRecDepth 20000 in
theorem coX5_init : Cond.code yX5_init cX5_init 1 none ∈ xgw := (xg_2 92 rfl rfl)
set_option maxRecDepth 20000 in
theorem olX5_3 : Cond.methodLink RX5 3 objectInit ∈ xgw := (xg_2 93 rfl rfl)
set_option maxRecDepth 20000 in
theorem flX5_9 : xFl RX5 9 5 0 (.array .int) := ⟨_, _, _, rfl, by decide, (xg_2 94 rfl rfl), by decide +kernel⟩
set_option maxRecDepth 20000 in
theorem flX5_15 : xFl RX5 15 5 1 (.array .int) := ⟨_, _, _, rfl, by decide, (xg_2 95 rfl rfl), by decide +kernel⟩
set_option maxRecDepth 20000 in
theorem flX5_18 : xFl RX5 18 5 2 (.array .int) := ⟨_, _, _, rfl, by decide, (xg_2 96 rfl rfl), by decide +kernel⟩
set_option maxRecDepth 20000 in
theorem flX5_21 : xFl RX5 21 5 3 (.array .int) := ⟨_, _, _, rfl, by decide, (xg_2 97 rfl rfl), by decide +kernel⟩
set_option maxRecDepth 20000 in
theorem flX5_28 : xFl RX5 28 5 4 .int := ⟨_, _, _, rfl, by decide, (xg_2 98 rfl rfl), by decide +kernel⟩
set_option maxRecDepth 20000 in
theorem flX10_332 : xFl RX10 332 5 4 .int := ⟨_, _, _, rfl, by decide, (xg_2 99 rfl rfl), by decide +kernel⟩
set_option maxRecDepth 20000 in
theorem flX5_24 : xFl RX5 24 5 5 .int := ⟨_, _, _, rfl, by decide, (xg_2 100 rfl rfl), by decide +kernel⟩
set_option maxRecDepth 20000 in
theorem flX10_335 : xFl RX10 335 5 5 .int := ⟨_, _, _, rfl, by decide, (xg_2 101 rfl rfl), by decide +kernel⟩
set_option maxRecDepth 20000 in
theorem wcX10_62 : Cond.classLink RX10 62 RX9 ∈ xgw := (xg_2 115 rfl rfl)
set_option maxRecDepth 20000 in
theorem nlX10_62 : xNl RX10 62 9 2 := ⟨_, _, rfl, wcX10_62, (xg_2 116 rfl rfl), wi_X9⟩
set_option maxRecDepth 20000 in
theorem mb_X9_init : xMb yX9_init 0 := ⟨wi_X9, by decide +kernel⟩
set_option maxRecDepth 20000 in
theorem ilX10_64 : xIl RX10 64 yX9_init 0 := ⟨Or.inr ⟨"RopeLedger", xt_2 (List.mem_of_getElem? (i := 117) rfl)⟩, (xg_2 118 rfl rfl), rfl, mb_X9_init⟩
set_option maxRecDepth 20000 in
theorem coX9_init : Cond.code yX9_init cX9_init 1 none ∈ xgw := (xg_2 119 rfl rfl)
set_option maxRecDepth 20000 in
theorem olX9_3 : Cond.methodLink RX9 3 objectInit ∈ xgw := (xg_2 120 rfl rfl)
set_option maxRecDepth 20000 in
theorem flX9_9 : xFl RX9 9 9 0 (.array .int) := ⟨_, _, _, rfl, by decide, (xg_2 121 rfl rfl), by decide +kernel⟩
set_option maxRecDepth 20000 in
theorem flX10_314 : xFl RX10 314 9 0 (.array .int) := ⟨_, _, _, rfl, by decide, (xg_2 122 rfl rfl), by decide +kernel⟩
set_option maxRecDepth 20000 in
theorem flX9_15 : xFl RX9 15 9 1 (.array .int) := ⟨_, _, _, rfl, by decide, (xg_2 123 rfl rfl), by decide +kernel⟩
set_option maxRecDepth 20000 in
theorem wcX10_69 : Cond.classLink RX10 69 RX3 ∈ xgw := (xg_2 129 rfl rfl)
set_option maxRecDepth 20000 in
theorem nlX10_69 : xNl RX10 69 3 1 := ⟨_, _, rfl, wcX10_69, (xg_2 130 rfl rfl), wi_X3⟩
set_option maxRecDepth 20000 in
theorem mb_X3_init : xMb yX3_init 0 := ⟨wi_X3, by decide +kernel⟩
set_option maxRecDepth 20000 in
theorem ilX10_71 : xIl RX10 71 yX3_init 0 := ⟨Or.inr ⟨"RopeLedger", xt_2 (List.mem_of_getElem? (i := 131) rfl)⟩, (xg_2 132 rfl rfl), rfl, mb_X3_init⟩
set_option maxRecDepth 20000 in
theorem coX3_init : Cond.code yX3_init cX3_init 1 none ∈ xgw := (xg_2 133 rfl rfl)
set_option maxRecDepth 20000 in
theorem olX3_3 : Cond.methodLink RX3 3 objectInit ∈ xgw := (xg_2 134 rfl rfl)
set_option maxRecDepth 20000 in
theorem flX3_9 : xFl RX3 9 3 0 (.array .int) := ⟨_, _, _, rfl, by decide, (xg_2 135 rfl rfl), by decide +kernel⟩
set_option maxRecDepth 20000 in
theorem flX10_325 : xFl RX10 325 3 0 (.array .int) := ⟨_, _, _, rfl, by decide, (xg_2 136 rfl rfl), by decide +kernel⟩
set_option maxRecDepth 20000 in
theorem wcX10_76 : Cond.classLink RX10 76 RX4 ∈ xgw := (xg_2 140 rfl rfl)
set_option maxRecDepth 20000 in
theorem nlX10_76 : xNl RX10 76 4 4 := ⟨_, _, rfl, wcX10_76, (xg_2 141 rfl rfl), wi_X4⟩
set_option maxRecDepth 20000 in
theorem mb_X4_init : xMb yX4_init 0 := ⟨wi_X4, by decide +kernel⟩
set_option maxRecDepth 20000 in
theorem ilX10_78 : xIl RX10 78 yX4_init 0 := ⟨Or.inr ⟨"RopeLedger", xt_2 (List.mem_of_getElem? (i := 142) rfl)⟩, (xg_2 143 rfl rfl), rfl, mb_X4_init⟩
set_option maxRecDepth 20000 in
theorem coX4_init : Cond.code yX4_init cX4_init 1 none ∈ xgw := (xg_2 144 rfl rfl)
set_option maxRecDepth 20000 in
theorem olX4_3 : Cond.methodLink RX4 3 objectInit ∈ xgw := (xg_2 145 rfl rfl)
set_option maxRecDepth 20000 in
theorem flX4_9 : xFl RX4 9 4 0 (.array .int) := ⟨_, _, _, rfl, by decide, (xg_2 146 rfl rfl), by decide +kernel⟩
set_option maxRecDepth 20000 in
theorem flX10_291 : xFl RX10 291 4 0 (.array .int) := ⟨_, _, _, rfl, by decide, (xg_2 147 rfl rfl), by decide +kernel⟩
set_option maxRecDepth 20000 in
theorem flX4_15 : xFl RX4 15 4 1 (.array .int) := ⟨_, _, _, rfl, by decide, (xg_2 148 rfl rfl), by decide +kernel⟩
set_option maxRecDepth 20000 in
theorem flX4_18 : xFl RX4 18 4 2 .int := ⟨_, _, _, rfl, by decide, (xg_2 149 rfl rfl), by decide +kernel⟩
set_option maxRecDepth 20000 in
theorem flX4_22 : xFl RX4 22 4 3 .int := ⟨_, _, _, rfl, by decide, (xg_2 150 rfl rfl), by decide +kernel⟩
set_option maxRecDepth 20000 in
theorem flX10_9 : xFl RX10 9 10 0 (.array .byte) := ⟨_, _, _, rfl, by decide, (xg_2 160 rfl rfl), by decide +kernel⟩
set_option maxRecDepth 20000 in
theorem flX10_87 : xFl RX10 87 10 1 .int := ⟨_, _, _, rfl, by decide, (xg_2 161 rfl rfl), by decide +kernel⟩
set_option maxRecDepth 20000 in
theorem flX10_107 : xFl RX10 107 10 2 .int := ⟨_, _, _, rfl, by decide, (xg_2 162 rfl rfl), by decide +kernel⟩
set_option maxRecDepth 20000 in
theorem flX10_13 : xFl RX10 13 10 3 .int := ⟨_, _, _, rfl, by decide, (xg_2 163 rfl rfl), by decide +kernel⟩
set_option maxRecDepth 20000 in
theorem flX10_22 : xFl RX10 22 10 4 (.object "RopeLedger$Teller") := ⟨_, _, _, rfl, by decide, (xg_2 164 rfl rfl), by decide +kernel⟩
set_option maxRecDepth 20000 in
theorem flX10_29 : xFl RX10 29 10 5 (.object "RopeLedger$Tale") := ⟨_, _, _, rfl, by decide, (xg_2 165 rfl rfl), by decide +kernel⟩
set_option maxRecDepth 20000 in
theorem flX10_38 : xFl RX10 38 10 6 (.object "RopeLedger$Bridge") := ⟨_, _, _, rfl, by decide, (xg_2 166 rfl rfl), by decide +kernel⟩
set_option maxRecDepth 20000 in
theorem flX10_42 : xFl RX10 42 10 7 (.object "RopeLedger$Bridge") := ⟨_, _, _, rfl, by decide, (xg_2 167 rfl rfl), by decide +kernel⟩
set_option maxRecDepth 20000 in
theorem flX10_45 : xFl RX10 45 10 8 (.object "RopeLedger$Bridge") := ⟨_, _, _, rfl, by decide, (xg_2 168 rfl rfl), by decide +kernel⟩
set_option maxRecDepth 20000 in
theorem flX10_123 : xFl RX10 123 10 9 .boolean := ⟨_, _, _, rfl, by decide, (xg_2 169 rfl rfl), by decide +kernel⟩
set_option maxRecDepth 20000 in
theorem flX10_48 : xFl RX10 48 10 10 (.object "RopeLedger$Bridge") := ⟨_, _, _, rfl, by decide, (xg_2 170 rfl rfl), by decide +kernel⟩
set_option maxRecDepth 20000 in
theorem flX10_51 : xFl RX10 51 10 11 (.array (.object "RopeLedger$Bridge")) := ⟨_, _, _, rfl, by decide, (xg_2 171 rfl rfl), by decide +kernel⟩
set_option maxRecDepth 20000 in
theorem flX10_397 : xFl RX10 397 10 12 .int := ⟨_, _, _, rfl, by decide, (xg_2 172 rfl rfl), by decide +kernel⟩
set_option maxRecDepth 20000 in
theorem flX10_400 : xFl RX10 400 10 13 .int := ⟨_, _, _, rfl, by decide, (xg_2 173 rfl rfl), by decide +kernel⟩
set_option maxRecDepth 20000 in
theorem flX10_58 : xFl RX10 58 10 14 (.object "RopeLedger$Sags") := ⟨_, _, _, rfl, by decide, (xg_2 174 rfl rfl), by decide +kernel⟩
set_option maxRecDepth 20000 in
theorem flX10_65 : xFl RX10 65 10 15 (.object "RopeLedger$Weights") := ⟨_, _, _, rfl, by decide, (xg_2 175 rfl rfl), by decide +kernel⟩
set_option maxRecDepth 20000 in
theorem flX10_72 : xFl RX10 72 10 16 (.object "RopeLedger$Pairing") := ⟨_, _, _, rfl, by decide, (xg_2 176 rfl rfl), by decide +kernel⟩
set_option maxRecDepth 20000 in
theorem flX10_79 : xFl RX10 79 10 17 (.object "RopeLedger$Payments") := ⟨_, _, _, rfl, by decide, (xg_2 177 rfl rfl), by decide +kernel⟩
set_option maxRecDepth 20000 in
theorem flX10_83 : xFl RX10 83 10 18 (.array .int) := ⟨_, _, _, rfl, by decide, (xg_2 178 rfl rfl), by decide +kernel⟩
set_option maxRecDepth 20000 in
theorem mb_X10_feed : xMb yX10_feed 5 := ⟨wi_X10, by decide +kernel⟩
set_option maxRecDepth 20000 in
theorem vlL_21 : xVl RL 21 yX10_feed 5 10 := ⟨(xg_2 218 rfl rfl), (xg_2 219 rfl rfl), (xg_2 220 rfl rfl), mb_X10_feed, _, _, rfl⟩
set_option maxRecDepth 20000 in
theorem coX10_feed : Cond.code yX10_feed cX10_feed 6 (some .int) ∈ xgw := (xg_2 221 rfl rfl)
set_option maxRecDepth 20000 in
theorem mb_X10_putNumber : xMb yX10_putNumber 1 := ⟨wi_X10, by decide +kernel⟩
set_option maxRecDepth 20000 in
theorem vlX10_90 : xVl RX10 90 yX10_putNumber 1 10 := ⟨(xg_2 222 rfl rfl), (xg_2 224 rfl rfl), (xg_s 0 rfl rfl), mb_X10_putNumber, _, _, rfl⟩
set_option maxRecDepth 20000 in
theorem coX10_putNumber : Cond.code yX10_putNumber cX10_putNumber 3 none ∈ xgw := (xg_2 225 rfl rfl)
set_option maxRecDepth 20000 in
theorem mb_X10_text : xMb yX10_text 1 := ⟨wi_X10, by decide +kernel⟩
set_option maxRecDepth 20000 in
theorem vlL_26 : xVl RL 26 yX10_text 1 10 := ⟨(xg_2 226 rfl rfl), (xg_2 227 rfl rfl), (xg_2 228 rfl rfl), mb_X10_text, _, _, rfl⟩
set_option maxRecDepth 20000 in
theorem coX10_text : Cond.code yX10_text cX10_text 4 (some .int) ∈ xgw := (xg_2 229 rfl rfl)
set_option maxRecDepth 20000 in
theorem mb_X7_begin : xMb yX7_begin 1 := ⟨wi_X7, by decide +kernel⟩
set_option maxRecDepth 20000 in
theorem vlX10_94 : xVl RX10 94 yX7_begin 1 7 := ⟨(xg_2 230 rfl rfl), (xg_2 231 rfl rfl), (xg_2 232 rfl rfl), mb_X7_begin, _, _, rfl⟩
set_option maxRecDepth 20000 in
theorem coX7_begin : Cond.code yX7_begin cX7_begin 2 none ∈ xgw := (xg_2 233 rfl rfl)
set_option maxRecDepth 20000 in
theorem vlX7_52 : xVl RX7 52 yX6_clear 0 6 := ⟨(xg_2 234 rfl rfl), (xg_1 84 rfl rfl), (xg_1 85 rfl rfl), mb_X6_clear, _, _, rfl⟩
set_option maxRecDepth 20000 in
theorem vlX7_55 : xVl RX7 55 yX0_clear 1 0 := ⟨(xg_2 235 rfl rfl), (xg_1 163 rfl rfl), (xg_1 164 rfl rfl), mb_X0_clear, _, _, rfl⟩
set_option maxRecDepth 20000 in
theorem mb_X8_begin : xMb yX8_begin 1 := ⟨wi_X8, by decide +kernel⟩
set_option maxRecDepth 20000 in
theorem vlX7_57 : xVl RX7 57 yX8_begin 1 8 := ⟨(xg_2 236 rfl rfl), (xg_2 237 rfl rfl), (xg_2 238 rfl rfl), mb_X8_begin, _, _, rfl⟩
set_option maxRecDepth 20000 in
theorem coX8_begin : Cond.code yX8_begin cX8_begin 2 none ∈ xgw := (xg_2 239 rfl rfl)
set_option maxRecDepth 20000 in
theorem hlX8_15 : Cond.methodLink RX8 15 Lib.Math.min.name ∈ xgw := (xg_3 0 rfl rfl)
set_option maxRecDepth 20000 in
theorem coJ9_min_7cf53 : Cond.code yJ9_min_7cf53 cJ9_min_7cf53 2 (some .int) ∈ xgw := (xg_3 2 rfl rfl)
set_option maxRecDepth 20000 in
theorem hlX8_21 : Cond.methodLink RX8 21 Lib.Math.max.name ∈ xgw := (xg_3 3 rfl rfl)
set_option maxRecDepth 20000 in
theorem coJ9_max_7cf53 : Cond.code yJ9_max_7cf53 cJ9_max_7cf53 2 (some .int) ∈ xgw := (xg_3 5 rfl rfl)
set_option maxRecDepth 20000 in
theorem mb_X8_advance : xMb yX8_advance 0 := ⟨wi_X8, by decide +kernel⟩
set_option maxRecDepth 20000 in
theorem vlX8_31 : xVl RX8 31 yX8_advance 0 8 := ⟨(xg_3 6 rfl rfl), (xg_3 7 rfl rfl), (xg_3 8 rfl rfl), mb_X8_advance, _, _, rfl⟩
set_option maxRecDepth 20000 in
theorem coX8_advance : Cond.code yX8_advance cX8_advance 1 none ∈ xgw := (xg_3 9 rfl rfl)
set_option maxRecDepth 20000 in
theorem mb_X8_isLetter : xMb yX8_isLetter 1 := ⟨wi_X8, by decide +kernel⟩
set_option maxRecDepth 20000 in
theorem slX8_40 : xSl RX8 40 yX8_isLetter 1 := ⟨Or.inl (xg_3 10 rfl rfl), (xg_3 11 rfl rfl), mb_X8_isLetter⟩
set_option maxRecDepth 20000 in
theorem coX8_isLetter : Cond.code yX8_isLetter cX8_isLetter 1 (some .boolean) ∈ xgw := (xg_3 12 rfl rfl)
set_option maxRecDepth 20000 in
theorem mb_X8_readWord : xMb yX8_readWord 0 := ⟨wi_X8, by decide +kernel⟩
set_option maxRecDepth 20000 in
theorem vlX8_44 : xVl RX8 44 yX8_readWord 0 8 := ⟨(xg_3 13 rfl rfl), (xg_3 15 rfl rfl), (xg_s 1 rfl rfl), mb_X8_readWord, _, _, rfl⟩
set_option maxRecDepth 20000 in
theorem coX8_readWord : Cond.code yX8_readWord cX8_readWord 2 none ∈ xgw := (xg_3 16 rfl rfl)
set_option maxRecDepth 20000 in
theorem mb_X8_wordKind : xMb yX8_wordKind 1 := ⟨wi_X8, by decide +kernel⟩
set_option maxRecDepth 20000 in
theorem vlX8_59 : xVl RX8 59 yX8_wordKind 1 8 := ⟨(xg_3 17 rfl rfl), (xg_3 19 rfl rfl), (xg_s 2 rfl rfl), mb_X8_wordKind, _, _, rfl⟩
set_option maxRecDepth 20000 in
theorem coX8_wordKind : Cond.code yX8_wordKind cX8_wordKind 7 (some .int) ∈ xgw := (xg_3 20 rfl rfl)
set_option maxRecDepth 20000 in
theorem mb_J0_length_8abf5 : xMb yJ0_length_8abf5 0 := ⟨wi_J0, by decide +kernel⟩
set_option maxRecDepth 20000 in
theorem coJ0_length_8abf5 : Cond.code yJ0_length_8abf5 cJ0_length_8abf5 1 (some .int) ∈ xgw := (xg_3 25 rfl rfl)
set_option maxRecDepth 20000 in
theorem mb_J0_coder_7d493 : xMb yJ0_coder_7d493 0 := ⟨wi_J0, by decide +kernel⟩
set_option maxRecDepth 20000 in
theorem coJ0_coder_7d493 : Cond.code yJ0_coder_7d493 cJ0_coder_7d493 1 (some .byte) ∈ xgw := (xg_3 29 rfl rfl)
set_option maxRecDepth 20000 in
theorem mb_J0_charAt_5068e : xMb yJ0_charAt_5068e 1 := ⟨wi_J0, by decide +kernel⟩
set_option maxRecDepth 20000 in
theorem coJ0_charAt_5068e : Cond.code yJ0_charAt_5068e cJ0_charAt_5068e 2 (some .char) ∈ xgw := (xg_3 35 rfl rfl)
set_option maxRecDepth 20000 in
theorem mb_J0_isLatin1_aae02 : xMb yJ0_isLatin1_aae02 0 := ⟨wi_J0, by decide +kernel⟩
set_option maxRecDepth 20000 in
theorem coJ0_isLatin1_aae02 : Cond.code yJ0_isLatin1_aae02 cJ0_isLatin1_aae02 1 (some .boolean) ∈ xgw := (xg_3 39 rfl rfl)
set_option maxRecDepth 20000 in
theorem mb_J1_charAt_3b067 : xMb yJ1_charAt_3b067 2 := ⟨wi_J1, by decide +kernel⟩
set_option maxRecDepth 20000 in
theorem slJ0_495 : xSl RJ0 495 yJ1_charAt_3b067 2 := ⟨Or.inl (xg_3 40 rfl rfl), (xg_3 41 rfl rfl), mb_J1_charAt_3b067⟩
set_option maxRecDepth 20000 in
theorem coJ1_charAt_3b067 : Cond.code yJ1_charAt_3b067 cJ1_charAt_3b067 2 (some .char) ∈ xgw := (xg_3 42 rfl rfl)
set_option maxRecDepth 20000 in
theorem mb_J0_checkIndex_df160 : xMb yJ0_checkIndex_df160 2 := ⟨wi_J0, by decide +kernel⟩
set_option maxRecDepth 20000 in
theorem slJ1_9 : xSl RJ1 9 yJ0_checkIndex_df160 2 := ⟨Or.inl (xg_3 43 rfl rfl), (xg_3 44 rfl rfl), mb_J0_checkIndex_df160⟩
set_option maxRecDepth 20000 in
theorem coJ0_checkIndex_df160 : Cond.code yJ0_checkIndex_df160 cJ0_checkIndex_df160 2 none ∈ xgw := (xg_3 45 rfl rfl)
set_option maxRecDepth 20000 in
theorem mb_J3_checkIndex_8e157 : xMb yJ3_checkIndex_8e157 3 := ⟨wi_J3, by decide +kernel⟩
set_option maxRecDepth 20000 in
theorem slJ0_1059 : xSl RJ0 1059 yJ3_checkIndex_8e157 3 := ⟨Or.inl (xg_3 48 rfl rfl), (xg_3 49 rfl rfl), mb_J3_checkIndex_8e157⟩
set_option maxRecDepth 20000 in
theorem coJ3_checkIndex_8e157 : Cond.code yJ3_checkIndex_8e157 cJ3_checkIndex_8e157 3 (some .int) ∈ xgw := (xg_3 50 rfl rfl)
set_option maxRecDepth 20000 in
theorem mb_J2_charAt_3b067 : xMb yJ2_charAt_3b067 2 := ⟨wi_J2, by decide +kernel⟩
set_option maxRecDepth 20000 in
theorem slJ0_498 : xSl RJ0 498 yJ2_charAt_3b067 2 := ⟨Or.inl (xg_3 51 rfl rfl), (xg_3 52 rfl rfl), mb_J2_charAt_3b067⟩
set_option maxRecDepth 20000 in
theorem coJ2_charAt_3b067 : Cond.code yJ2_charAt_3b067 cJ2_charAt_3b067 2 (some .char) ∈ xgw := (xg_3 53 rfl rfl)
set_option maxRecDepth 20000 in
theorem mb_J2_checkIndex_2214a : xMb yJ2_checkIndex_2214a 2 := ⟨wi_J2, by decide +kernel⟩
set_option maxRecDepth 20000 in
theorem slJ2_67 : xSl RJ2 67 yJ2_checkIndex_2214a 2 := ⟨Or.inl (xg_3 54 rfl rfl), (xg_3 55 rfl rfl), mb_J2_checkIndex_2214a⟩
set_option maxRecDepth 20000 in
theorem coJ2_checkIndex_2214a : Cond.code yJ2_checkIndex_2214a cJ2_checkIndex_2214a 2 none ∈ xgw := (xg_3 56 rfl rfl)
set_option maxRecDepth 20000 in
theorem mb_J2_length_9d52b : xMb yJ2_length_9d52b 1 := ⟨wi_J2, by decide +kernel⟩
set_option maxRecDepth 20000 in
theorem slJ2_48 : xSl RJ2 48 yJ2_length_9d52b 1 := ⟨Or.inl (xg_3 57 rfl rfl), (xg_3 58 rfl rfl), mb_J2_length_9d52b⟩
set_option maxRecDepth 20000 in
theorem coJ2_length_9d52b : Cond.code yJ2_length_9d52b cJ2_length_9d52b 1 (some .int) ∈ xgw := (xg_3 59 rfl rfl)
set_option maxRecDepth 20000 in
theorem slJ2_414 : xSl RJ2 414 yJ0_checkIndex_df160 2 := ⟨Or.inl (xg_3 60 rfl rfl), (xg_3 44 rfl rfl), mb_J0_checkIndex_df160⟩
set_option maxRecDepth 20000 in
theorem mb_J2_getChar_3b067 : xMb yJ2_getChar_3b067 2 := ⟨wi_J2, by decide +kernel⟩
set_option maxRecDepth 20000 in
theorem slJ2_71 : xSl RJ2 71 yJ2_getChar_3b067 2 := ⟨Or.inl (xg_3 61 rfl rfl), (xg_3 62 rfl rfl), mb_J2_getChar_3b067⟩
set_option maxRecDepth 20000 in
theorem coJ2_getChar_3b067 : Cond.code yJ2_getChar_3b067 cJ2_getChar_3b067 2 (some .char) ∈ xgw := (xg_3 63 rfl rfl)
set_option maxRecDepth 20000 in
theorem mb_X8_isDigit : xMb yX8_isDigit 1 := ⟨wi_X8, by decide +kernel⟩
set_option maxRecDepth 20000 in
theorem slX8_47 : xSl RX8 47 yX8_isDigit 1 := ⟨Or.inl (xg_3 70 rfl rfl), (xg_3 71 rfl rfl), mb_X8_isDigit⟩
set_option maxRecDepth 20000 in
theorem coX8_isDigit : Cond.code yX8_isDigit cX8_isDigit 1 (some .boolean) ∈ xgw := (xg_3 72 rfl rfl)
set_option maxRecDepth 20000 in
theorem mb_X8_readNumber : xMb yX8_readNumber 0 := ⟨wi_X8, by decide +kernel⟩
set_option maxRecDepth 20000 in
theorem vlX8_50 : xVl RX8 50 yX8_readNumber 0 8 := ⟨(xg_3 73 rfl rfl), (xg_3 75 rfl rfl), (xg_s 3 rfl rfl), mb_X8_readNumber, _, _, rfl⟩
set_option maxRecDepth 20000 in
theorem coX8_readNumber : Cond.code yX8_readNumber cX8_readNumber 1 none ∈ xgw := (xg_3 76 rfl rfl)
set_option maxRecDepth 20000 in
theorem kcX8_74 : Cond.constant RX8 74 (1000000) ∈ xgw := (xg_3 77 rfl rfl)
set_option maxRecDepth 20000 in
theorem mb_X8_readSign : xMb yX8_readSign 0 := ⟨wi_X8, by decide +kernel⟩
set_option maxRecDepth 20000 in
theorem vlX8_53 : xVl RX8 53 yX8_readSign 0 8 := ⟨(xg_3 78 rfl rfl), (xg_3 80 rfl rfl), (xg_s 4 rfl rfl), mb_X8_readSign, _, _, rfl⟩
set_option maxRecDepth 20000 in
theorem coX8_readSign : Cond.code yX8_readSign cX8_readSign 3 none ∈ xgw := (xg_3 81 rfl rfl)
set_option maxRecDepth 20000 in
theorem mb_X8_doubleKind : xMb yX8_doubleKind 2 := ⟨wi_X8, by decide +kernel⟩
set_option maxRecDepth 20000 in
theorem slX8_75 : xSl RX8 75 yX8_doubleKind 2 := ⟨Or.inl (xg_3 82 rfl rfl), (xg_3 83 rfl rfl), mb_X8_doubleKind⟩
set_option maxRecDepth 20000 in
theorem coX8_doubleKind : Cond.code yX8_doubleKind cX8_doubleKind 2 (some .int) ∈ xgw := (xg_3 84 rfl rfl)
set_option maxRecDepth 20000 in
theorem mb_X8_singleKind : xMb yX8_singleKind 1 := ⟨wi_X8, by decide +kernel⟩
set_option maxRecDepth 20000 in
theorem slX8_78 : xSl RX8 78 yX8_singleKind 1 := ⟨Or.inl (xg_3 85 rfl rfl), (xg_3 86 rfl rfl), mb_X8_singleKind⟩
set_option maxRecDepth 20000 in
theorem coX8_singleKind : Cond.code yX8_singleKind cX8_singleKind 1 (some .int) ∈ xgw := (xg_3 87 rfl rfl)
set_option maxRecDepth 20000 in
theorem mb_X7_hasMore : xMb yX7_hasMore 0 := ⟨wi_X7, by decide +kernel⟩
set_option maxRecDepth 20000 in
theorem vlX10_97 : xVl RX10 97 yX7_hasMore 0 7 := ⟨(xg_3 88 rfl rfl), (xg_3 89 rfl rfl), (xg_3 90 rfl rfl), mb_X7_hasMore, _, _, rfl⟩
set_option maxRecDepth 20000 in
theorem coX7_hasMore : Cond.code yX7_hasMore cX7_hasMore 1 (some .boolean) ∈ xgw := (xg_3 91 rfl rfl)
set_option maxRecDepth 20000 in
theorem mb_X7_tellLine : xMb yX7_tellLine 0 := ⟨wi_X7, by decide +kernel⟩
set_option maxRecDepth 20000 in
theorem vlX10_101 : xVl RX10 101 yX7_tellLine 0 7 := ⟨(xg_3 92 rfl rfl), (xg_3 93 rfl rfl), (xg_3 94 rfl rfl), mb_X7_tellLine, _, _, rfl⟩
set_option maxRecDepth 20000 in
theorem coX7_tellLine : Cond.code yX7_tellLine cX7_tellLine 2 (some .boolean) ∈ xgw := (xg_3 95 rfl rfl)
set_option maxRecDepth 20000 in
theorem mb_X7_personLine : xMb yX7_personLine 0 := ⟨wi_X7, by decide +kernel⟩
set_option maxRecDepth 20000 in
theorem vlX7_64 : xVl RX7 64 yX7_personLine 0 7 := ⟨(xg_3 96 rfl rfl), (xg_3 98 rfl rfl), (xg_s 5 rfl rfl), mb_X7_personLine, _, _, rfl⟩
set_option maxRecDepth 20000 in
theorem coX7_personLine : Cond.code yX7_personLine cX7_personLine 4 (some .boolean) ∈ xgw := (xg_3 99 rfl rfl)
set_option maxRecDepth 20000 in
theorem mb_X7_open : xMb yX7_open 2 := ⟨wi_X7, by decide +kernel⟩
set_option maxRecDepth 20000 in
theorem vlX7_111 : xVl RX7 111 yX7_open 2 7 := ⟨(xg_3 100 rfl rfl), (xg_3 102 rfl rfl), (xg_s 6 rfl rfl), mb_X7_open, _, _, rfl⟩
set_option maxRecDepth 20000 in
theorem coX7_open : Cond.code yX7_open cX7_open 3 (some .boolean) ∈ xgw := (xg_3 103 rfl rfl)
set_option maxRecDepth 20000 in
theorem mb_X7_fail : xMb yX7_fail 1 := ⟨wi_X7, by decide +kernel⟩
set_option maxRecDepth 20000 in
theorem vlX7_86 : xVl RX7 86 yX7_fail 1 7 := ⟨(xg_3 104 rfl rfl), (xg_3 106 rfl rfl), (xg_s 7 rfl rfl), mb_X7_fail, _, _, rfl⟩
set_option maxRecDepth 20000 in
theorem coX7_fail : Cond.code yX7_fail cX7_fail 2 (some .boolean) ∈ xgw := (xg_3 107 rfl rfl)
set_option maxRecDepth 20000 in
theorem vlX7_99 : xVl RX7 99 yX8_advance 0 8 := ⟨(xg_3 108 rfl rfl), (xg_3 7 rfl rfl), (xg_3 8 rfl rfl), mb_X8_advance, _, _, rfl⟩
set_option maxRecDepth 20000 in
theorem mb_X6_personNamed : xMb yX6_personNamed 1 := ⟨wi_X6, by decide +kernel⟩
set_option maxRecDepth 20000 in
theorem vlX7_115 : xVl RX7 115 yX6_personNamed 1 6 := ⟨(xg_3 109 rfl rfl), (xg_3 110 rfl rfl), (xg_3 111 rfl rfl), mb_X6_personNamed, _, _, rfl⟩
set_option maxRecDepth 20000 in
theorem coX6_personNamed : Cond.code yX6_personNamed cX6_personNamed 3 (some .int) ∈ xgw := (xg_3 112 rfl rfl)
set_option maxRecDepth 20000 in
theorem mb_X7_number : xMb yX7_number 2 := ⟨wi_X7, by decide +kernel⟩
set_option maxRecDepth 20000 in
theorem vlX7_119 : xVl RX7 119 yX7_number 2 7 := ⟨(xg_3 113 rfl rfl), (xg_3 115 rfl rfl), (xg_s 8 rfl rfl), mb_X7_number, _, _, rfl⟩
set_option maxRecDepth 20000 in
theorem coX7_number : Cond.code yX7_number cX7_number 3 (some .boolean) ∈ xgw := (xg_3 116 rfl rfl)
set_option maxRecDepth 20000 in
theorem mb_X6_addPerson : xMb yX6_addPerson 3 := ⟨wi_X6, by decide +kernel⟩
set_option maxRecDepth 20000 in
theorem vlX7_129 : xVl RX7 129 yX6_addPerson 3 6 := ⟨(xg_3 117 rfl rfl), (xg_3 118 rfl rfl), (xg_3 119 rfl rfl), mb_X6_addPerson, _, _, rfl⟩
set_option maxRecDepth 20000 in
theorem coX6_addPerson : Cond.code yX6_addPerson cX6_addPerson 4 none ∈ xgw := (xg_3 120 rfl rfl)
set_option maxRecDepth 20000 in
theorem mb_X7_debtLine : xMb yX7_debtLine 0 := ⟨wi_X7, by decide +kernel⟩
set_option maxRecDepth 20000 in
theorem vlX7_68 : xVl RX7 68 yX7_debtLine 0 7 := ⟨(xg_3 121 rfl rfl), (xg_3 123 rfl rfl), (xg_s 9 rfl rfl), mb_X7_debtLine, _, _, rfl⟩
set_option maxRecDepth 20000 in
theorem coX7_debtLine : Cond.code yX7_debtLine cX7_debtLine 5 (some .boolean) ∈ xgw := (xg_3 124 rfl rfl)
set_option maxRecDepth 20000 in
theorem mb_X7_toldPerson : xMb yX7_toldPerson 0 := ⟨wi_X7, by decide +kernel⟩
set_option maxRecDepth 20000 in
theorem vlX7_136 : xVl RX7 136 yX7_toldPerson 0 7 := ⟨(xg_3 125 rfl rfl), (xg_3 127 rfl rfl), (xg_s 10 rfl rfl), mb_X7_toldPerson, _, _, rfl⟩
set_option maxRecDepth 20000 in
theorem coX7_toldPerson : Cond.code yX7_toldPerson cX7_toldPerson 1 (some .boolean) ∈ xgw := (xg_3 128 rfl rfl)
set_option maxRecDepth 20000 in
theorem mb_X0_addStrand : xMb yX0_addStrand 5 := ⟨wi_X0, by decide +kernel⟩
set_option maxRecDepth 20000 in
theorem vlX7_142 : xVl RX7 142 yX0_addStrand 5 0 := ⟨(xg_3 129 rfl rfl), (xg_3 130 rfl rfl), (xg_3 131 rfl rfl), mb_X0_addStrand, _, _, rfl⟩
set_option maxRecDepth 20000 in
theorem coX0_addStrand : Cond.code yX0_addStrand cX0_addStrand 6 none ∈ xgw := (xg_3 132 rfl rfl)
set_option maxRecDepth 20000 in
theorem mb_X7_twistLine : xMb yX7_twistLine 0 := ⟨wi_X7, by decide +kernel⟩
set_option maxRecDepth 20000 in
theorem vlX7_71 : xVl RX7 71 yX7_twistLine 0 7 := ⟨(xg_3 133 rfl rfl), (xg_3 135 rfl rfl), (xg_s 11 rfl rfl), mb_X7_twistLine, _, _, rfl⟩
set_option maxRecDepth 20000 in
theorem coX7_twistLine : Cond.code yX7_twistLine cX7_twistLine 2 (some .boolean) ∈ xgw := (xg_3 136 rfl rfl)
set_option maxRecDepth 20000 in
theorem mb_X7_freeStrand : xMb yX7_freeStrand 1 := ⟨wi_X7, by decide +kernel⟩
set_option maxRecDepth 20000 in
theorem vlX7_150 : xVl RX7 150 yX7_freeStrand 1 7 := ⟨(xg_3 137 rfl rfl), (xg_3 139 rfl rfl), (xg_s 12 rfl rfl), mb_X7_freeStrand, _, _, rfl⟩
set_option maxRecDepth 20000 in
theorem coX7_freeStrand : Cond.code yX7_freeStrand cX7_freeStrand 2 (some .boolean) ∈ xgw := (xg_3 140 rfl rfl)
set_option maxRecDepth 20000 in
theorem mb_X0_isStrand : xMb yX0_isStrand 1 := ⟨wi_X0, by decide +kernel⟩
set_option maxRecDepth 20000 in
theorem vlX7_157 : xVl RX7 157 yX0_isStrand 1 0 := ⟨(xg_3 141 rfl rfl), (xg_3 142 rfl rfl), (xg_3 143 rfl rfl), mb_X0_isStrand, _, _, rfl⟩
set_option maxRecDepth 20000 in
theorem coX0_isStrand : Cond.code yX0_isStrand cX0_isStrand 2 (some .boolean) ∈ xgw := (xg_3 144 rfl rfl)
set_option maxRecDepth 20000 in
theorem mb_X0_twine : xMb yX0_twine 2 := ⟨wi_X0, by decide +kernel⟩
set_option maxRecDepth 20000 in
theorem vlX7_153 : xVl RX7 153 yX0_twine 2 0 := ⟨(xg_3 145 rfl rfl), (xg_3 146 rfl rfl), (xg_3 147 rfl rfl), mb_X0_twine, _, _, rfl⟩
set_option maxRecDepth 20000 in
theorem coX0_twine : Cond.code yX0_twine cX0_twine 3 none ∈ xgw := (xg_3 148 rfl rfl)
set_option maxRecDepth 20000 in
theorem mb_X7_crossLine : xMb yX7_crossLine 0 := ⟨wi_X7, by decide +kernel⟩
set_option maxRecDepth 20000 in
theorem vlX7_74 : xVl RX7 74 yX7_crossLine 0 7 := ⟨(xg_3 149 rfl rfl), (xg_3 151 rfl rfl), (xg_s 13 rfl rfl), mb_X7_crossLine, _, _, rfl⟩
set_option maxRecDepth 20000 in
theorem coX7_crossLine : Cond.code yX7_crossLine cX7_crossLine 3 (some .boolean) ∈ xgw := (xg_3 152 rfl rfl)
set_option maxRecDepth 20000 in
theorem mb_X6_addCrossing : xMb yX6_addCrossing 3 := ⟨wi_X6, by decide +kernel⟩
set_option maxRecDepth 20000 in
theorem vlX7_166 : xVl RX7 166 yX6_addCrossing 3 6 := ⟨(xg_3 153 rfl rfl), (xg_3 154 rfl rfl), (xg_3 155 rfl rfl), mb_X6_addCrossing, _, _, rfl⟩
set_option maxRecDepth 20000 in
theorem coX6_addCrossing : Cond.code yX6_addCrossing cX6_addCrossing 4 none ∈ xgw := (xg_3 156 rfl rfl)
set_option maxRecDepth 20000 in
theorem mb_X7_plankLine : xMb yX7_plankLine 0 := ⟨wi_X7, by decide +kernel⟩
set_option maxRecDepth 20000 in
theorem vlX7_77 : xVl RX7 77 yX7_plankLine 0 7 := ⟨(xg_3 157 rfl rfl), (xg_3 159 rfl rfl), (xg_s 14 rfl rfl), mb_X7_plankLine, _, _, rfl⟩
set_option maxRecDepth 20000 in
theorem coX7_plankLine : Cond.code yX7_plankLine cX7_plankLine 1 (some .boolean) ∈ xgw := (xg_3 160 rfl rfl)
set_option maxRecDepth 20000 in
theorem mb_X7_seedLine : xMb yX7_seedLine 0 := ⟨wi_X7, by decide +kernel⟩
set_option maxRecDepth 20000 in
theorem vlX7_80 : xVl RX7 80 yX7_seedLine 0 7 := ⟨(xg_3 161 rfl rfl), (xg_3 163 rfl rfl), (xg_s 15 rfl rfl), mb_X7_seedLine, _, _, rfl⟩
set_option maxRecDepth 20000 in
theorem coX7_seedLine : Cond.code yX7_seedLine cX7_seedLine 1 (some .boolean) ∈ xgw := (xg_3 164 rfl rfl)
set_option maxRecDepth 20000 in
theorem kcX7_179 : Cond.constant RX7 179 (99999) ∈ xgw := (xg_3 165 rfl rfl)
set_option maxRecDepth 20000 in
theorem mb_X7_lawLine : xMb yX7_lawLine 0 := ⟨wi_X7, by decide +kernel⟩
set_option maxRecDepth 20000 in
theorem vlX7_83 : xVl RX7 83 yX7_lawLine 0 7 := ⟨(xg_3 166 rfl rfl), (xg_3 168 rfl rfl), (xg_s 16 rfl rfl), mb_X7_lawLine, _, _, rfl⟩
set_option maxRecDepth 20000 in
theorem coX7_lawLine : Cond.code yX7_lawLine cX7_lawLine 3 (some .boolean) ∈ xgw := (xg_3 169 rfl rfl)
set_option maxRecDepth 20000 in
theorem mb_X1_readInto : xMb yX1_readInto 2 := ⟨wi_X1, by decide +kernel⟩
set_option maxRecDepth 20000 in
theorem vlX7_189 : xVl RX7 189 yX1_readInto 2 1 := ⟨(xg_3 170 rfl rfl), (xg_3 171 rfl rfl), (xg_3 172 rfl rfl), mb_X1_readInto, _, _, rfl⟩
set_option maxRecDepth 20000 in
theorem coX1_readInto : Cond.code yX1_readInto cX1_readInto 6 (some .int) ∈ xgw := (xg_3 173 rfl rfl)
set_option maxRecDepth 20000 in
theorem mb_X1_atEnd : xMb yX1_atEnd 0 := ⟨wi_X1, by decide +kernel⟩
set_option maxRecDepth 20000 in
theorem vlX1_42 : xVl RX1 42 yX1_atEnd 0 1 := ⟨(xg_3 174 rfl rfl), (xg_3 176 rfl rfl), (xg_s 17 rfl rfl), mb_X1_atEnd, _, _, rfl⟩
set_option maxRecDepth 20000 in
theorem coX1_atEnd : Cond.code yX1_atEnd cX1_atEnd 1 (some .boolean) ∈ xgw := (xg_3 177 rfl rfl)
set_option maxRecDepth 20000 in
theorem mb_X1_part : xMb yX1_part 0 := ⟨wi_X1, by decide +kernel⟩
set_option maxRecDepth 20000 in
theorem vlX1_46 : xVl RX1 46 yX1_part 0 1 := ⟨(xg_3 178 rfl rfl), (xg_3 180 rfl rfl), (xg_s 18 rfl rfl), mb_X1_part, _, _, rfl⟩
set_option maxRecDepth 20000 in
theorem coX1_part : Cond.code yX1_part cX1_part 3 (some .int) ∈ xgw := (xg_3 181 rfl rfl)
set_option maxRecDepth 20000 in
theorem mb_X1_openBracket : xMb yX1_openBracket 0 := ⟨wi_X1, by decide +kernel⟩
set_option maxRecDepth 20000 in
theorem vlX1_71 : xVl RX1 71 yX1_openBracket 0 1 := ⟨(xg_3 182 rfl rfl), (xg_3 184 rfl rfl), (xg_s 19 rfl rfl), mb_X1_openBracket, _, _, rfl⟩
set_option maxRecDepth 20000 in
theorem coX1_openBracket : Cond.code yX1_openBracket cX1_openBracket 1 (some .int) ∈ xgw := (xg_3 185 rfl rfl)
set_option maxRecDepth 20000 in
theorem mb_X1_pushWaiting : xMb yX1_pushWaiting 1 := ⟨wi_X1, by decide +kernel⟩
set_option maxRecDepth 20000 in
theorem vlX1_88 : xVl RX1 88 yX1_pushWaiting 1 1 := ⟨(xg_3 186 rfl rfl), (xg_3 188 rfl rfl), (xg_s 20 rfl rfl), mb_X1_pushWaiting, _, _, rfl⟩
set_option maxRecDepth 20000 in
theorem coX1_pushWaiting : Cond.code yX1_pushWaiting cX1_pushWaiting 2 none ∈ xgw := (xg_3 189 rfl rfl)
set_option maxRecDepth 20000 in
theorem mb_X1_knotWaits : xMb yX1_knotWaits 0 := ⟨wi_X1, by decide +kernel⟩
set_option maxRecDepth 20000 in
theorem vlX1_74 : xVl RX1 74 yX1_knotWaits 0 1 := ⟨(xg_3 190 rfl rfl), (xg_3 192 rfl rfl), (xg_s 21 rfl rfl), mb_X1_knotWaits, _, _, rfl⟩
set_option maxRecDepth 20000 in
theorem coX1_knotWaits : Cond.code yX1_knotWaits cX1_knotWaits 1 (some .int) ∈ xgw := (xg_3 193 rfl rfl)
set_option maxRecDepth 20000 in
theorem mb_X2_put : xMb yX2_put 1 := ⟨wi_X2, by decide +kernel⟩
set_option maxRecDepth 20000 in
theorem vlX1_85 : xVl RX1 85 yX2_put 1 2 := ⟨(xg_3 194 rfl rfl), (xg_3 195 rfl rfl), (xg_3 196 rfl rfl), mb_X2_put, _, _, rfl⟩
set_option maxRecDepth 20000 in
theorem coX2_put : Cond.code yX2_put cX2_put 2 none ∈ xgw := (xg_3 197 rfl rfl)
set_option maxRecDepth 20000 in
theorem mb_X1_behindPart : xMb yX1_behindPart 0 := ⟨wi_X1, by decide +kernel⟩
set_option maxRecDepth 20000 in
theorem vlX1_50 : xVl RX1 50 yX1_behindPart 0 1 := ⟨(xg_3 198 rfl rfl), (xg_3 200 rfl rfl), (xg_s 22 rfl rfl), mb_X1_behindPart, _, _, rfl⟩
set_option maxRecDepth 20000 in
theorem coX1_behindPart : Cond.code yX1_behindPart cX1_behindPart 2 (some .int) ∈ xgw := (xg_3 201 rfl rfl)
set_option maxRecDepth 20000 in
theorem mb_X1_settle : xMb yX1_settle 1 := ⟨wi_X1, by decide +kernel⟩
set_option maxRecDepth 20000 in
theorem vlX1_58 : xVl RX1 58 yX1_settle 1 1 := ⟨(xg_3 202 rfl rfl), (xg_3 204 rfl rfl), (xg_s 23 rfl rfl), mb_X1_settle, _, _, rfl⟩
set_option maxRecDepth 20000 in
theorem coX1_settle : Cond.code yX1_settle cX1_settle 3 none ∈ xgw := (xg_3 205 rfl rfl)
set_option maxRecDepth 20000 in
theorem mb_X1_lastRank : xMb yX1_lastRank 0 := ⟨wi_X1, by decide +kernel⟩
set_option maxRecDepth 20000 in
theorem vlX1_101 : xVl RX1 101 yX1_lastRank 0 1 := ⟨(xg_3 206 rfl rfl), (xg_3 208 rfl rfl), (xg_s 24 rfl rfl), mb_X1_lastRank, _, _, rfl⟩
set_option maxRecDepth 20000 in
theorem coX1_lastRank : Cond.code yX1_lastRank cX1_lastRank 1 (some .int) ∈ xgw := (xg_3 209 rfl rfl)
set_option maxRecDepth 20000 in
theorem mb_X1_rankOf : xMb yX1_rankOf 1 := ⟨wi_X1, by decide +kernel⟩
set_option maxRecDepth 20000 in
theorem slX1_97 : xSl RX1 97 yX1_rankOf 1 := ⟨Or.inl (xg_3 210 rfl rfl), (xg_3 211 rfl rfl), mb_X1_rankOf⟩
set_option maxRecDepth 20000 in
theorem coX1_rankOf : Cond.code yX1_rankOf cX1_rankOf 1 (some .int) ∈ xgw := (xg_3 212 rfl rfl)
set_option maxRecDepth 20000 in
theorem hlX1_91 : Cond.methodLink RX1 91 Lib.Math.max.name ∈ xgw := (xg_3 213 rfl rfl)
set_option maxRecDepth 20000 in
theorem vlX1_53 : xVl RX1 53 yX8_advance 0 8 := ⟨(xg_3 214 rfl rfl), (xg_3 7 rfl rfl), (xg_3 8 rfl rfl), mb_X8_advance, _, _, rfl⟩
set_option maxRecDepth 20000 in
theorem mb_X7_skip : xMb yX7_skip 1 := ⟨wi_X7, by decide +kernel⟩
set_option maxRecDepth 20000 in
theorem vlX7_93 : xVl RX7 93 yX7_skip 1 7 := ⟨(xg_3 215 rfl rfl), (xg_3 217 rfl rfl), (xg_s 25 rfl rfl), mb_X7_skip, _, _, rfl⟩
set_option maxRecDepth 20000 in
theorem coX7_skip : Cond.code yX7_skip cX7_skip 2 (some .boolean) ∈ xgw := (xg_3 218 rfl rfl)
set_option maxRecDepth 20000 in
theorem mb_X10_takeTold : xMb yX10_takeTold 0 := ⟨wi_X10, by decide +kernel⟩
set_option maxRecDepth 20000 in
theorem vlX10_109 : xVl RX10 109 yX10_takeTold 0 10 := ⟨(xg_3 219 rfl rfl), (xg_3 221 rfl rfl), (xg_s 26 rfl rfl), mb_X10_takeTold, _, _, rfl⟩
set_option maxRecDepth 20000 in
theorem coX10_takeTold : Cond.code yX10_takeTold cX10_takeTold 2 none ∈ xgw := (xg_3 222 rfl rfl)
set_option maxRecDepth 20000 in
theorem mb_X0_become : xMb yX0_become 1 := ⟨wi_X0, by decide +kernel⟩
set_option maxRecDepth 20000 in
theorem vlX10_119 : xVl RX10 119 yX0_become 1 0 := ⟨(xg_3 223 rfl rfl), (xg_3 224 rfl rfl), (xg_3 225 rfl rfl), mb_X0_become, _, _, rfl⟩
set_option maxRecDepth 20000 in
theorem coX0_become : Cond.code yX0_become cX0_become 2 none ∈ xgw := (xg_3 226 rfl rfl)
set_option maxRecDepth 20000 in
theorem alX0_66 : Cond.methodLink RX0 66 arraycopyName ∈ xgw := (xg_3 227 rfl rfl)
set_option maxRecDepth 20000 in
theorem mb_X10_forgetActs : xMb yX10_forgetActs 0 := ⟨wi_X10, by decide +kernel⟩
set_option maxRecDepth 20000 in
theorem vlX10_127 : xVl RX10 127 yX10_forgetActs 0 10 := ⟨(xg_3 230 rfl rfl), (xg_3 232 rfl rfl), (xg_s 27 rfl rfl), mb_X10_forgetActs, _, _, rfl⟩
set_option maxRecDepth 20000 in
theorem coX10_forgetActs : Cond.code yX10_forgetActs cX10_forgetActs 1 none ∈ xgw := (xg_3 233 rfl rfl)
set_option maxRecDepth 20000 in
theorem mb_X5_clear : xMb yX5_clear 0 := ⟨wi_X5, by decide +kernel⟩
set_option maxRecDepth 20000 in
theorem vlX10_130 : xVl RX10 130 yX5_clear 0 5 := ⟨(xg_3 234 rfl rfl), (xg_3 235 rfl rfl), (xg_3 236 rfl rfl), mb_X5_clear, _, _, rfl⟩
set_option maxRecDepth 20000 in
theorem coX5_clear : Cond.code yX5_clear cX5_clear 1 none ∈ xgw := (xg_3 237 rfl rfl)
set_option maxRecDepth 20000 in
theorem mb_X10_fault : xMb yX10_fault 1 := ⟨wi_X10, by decide +kernel⟩
set_option maxRecDepth 20000 in
theorem vlL_31 : xVl RL 31 yX10_fault 1 10 := ⟨(xg_3 238 rfl rfl), (xg_3 239 rfl rfl), (xg_4 0 rfl rfl), mb_X10_fault, _, _, rfl⟩
set_option maxRecDepth 20000 in
theorem coX10_fault : Cond.code yX10_fault cX10_fault 2 (some .int) ∈ xgw := (xg_4 1 rfl rfl)
set_option maxRecDepth 20000 in
theorem mb_X10_named : xMb yX10_named 1 := ⟨wi_X10, by decide +kernel⟩
set_option maxRecDepth 20000 in
theorem vlL_35 : xVl RL 35 yX10_named 1 10 := ⟨(xg_4 2 rfl rfl), (xg_4 3 rfl rfl), (xg_4 4 rfl rfl), mb_X10_named, _, _, rfl⟩
set_option maxRecDepth 20000 in
theorem coX10_named : Cond.code yX10_named cX10_named 2 (some .int) ∈ xgw := (xg_4 5 rfl rfl)
set_option maxRecDepth 20000 in
theorem vlX10_133 : xVl RX10 133 yX6_personNamed 1 6 := ⟨(xg_4 6 rfl rfl), (xg_3 110 rfl rfl), (xg_3 111 rfl rfl), mb_X6_personNamed, _, _, rfl⟩
set_option maxRecDepth 20000 in
theorem mb_X10_strand : xMb yX10_strand 2 := ⟨wi_X10, by decide +kernel⟩
set_option maxRecDepth 20000 in
theorem vlL_49 : xVl RL 49 yX10_strand 2 10 := ⟨(xg_4 7 rfl rfl), (xg_4 8 rfl rfl), (xg_4 9 rfl rfl), mb_X10_strand, _, _, rfl⟩
set_option maxRecDepth 20000 in
theorem coX10_strand : Cond.code yX10_strand cX10_strand 3 (some .int) ∈ xgw := (xg_4 10 rfl rfl)
set_option maxRecDepth 20000 in
theorem vlX10_172 : xVl RX10 172 yX0_isStrand 1 0 := ⟨(xg_4 11 rfl rfl), (xg_3 142 rfl rfl), (xg_3 143 rfl rfl), mb_X0_isStrand, _, _, rfl⟩
set_option maxRecDepth 20000 in
theorem mb_X0_twoOf : xMb yX0_twoOf 1 := ⟨wi_X0, by decide +kernel⟩
set_option maxRecDepth 20000 in
theorem vlX10_193 : xVl RX10 193 yX0_twoOf 1 0 := ⟨(xg_4 12 rfl rfl), (xg_4 13 rfl rfl), (xg_4 14 rfl rfl), mb_X0_twoOf, _, _, rfl⟩
set_option maxRecDepth 20000 in
theorem coX0_twoOf : Cond.code yX0_twoOf cX0_twoOf 2 (some .int) ∈ xgw := (xg_4 15 rfl rfl)
set_option maxRecDepth 20000 in
theorem mb_X0_isThere : xMb yX0_isThere 1 := ⟨wi_X0, by decide +kernel⟩
set_option maxRecDepth 20000 in
theorem vlX0_76 : xVl RX0 76 yX0_isThere 1 0 := ⟨(xg_4 16 rfl rfl), (xg_4 17 rfl rfl), (xg_4 18 rfl rfl), mb_X0_isThere, _, _, rfl⟩
set_option maxRecDepth 20000 in
theorem coX0_isThere : Cond.code yX0_isThere cX0_isThere 2 (some .boolean) ∈ xgw := (xg_4 19 rfl rfl)
set_option maxRecDepth 20000 in
theorem vlX0_72 : xVl RX0 72 yX0_isStrand 1 0 := ⟨(xg_4 20 rfl rfl), (xg_3 142 rfl rfl), (xg_3 143 rfl rfl), mb_X0_isStrand, _, _, rfl⟩
set_option maxRecDepth 20000 in
theorem mb_X0_alone : xMb yX0_alone 2 := ⟨wi_X0, by decide +kernel⟩
set_option maxRecDepth 20000 in
theorem vlX10_196 : xVl RX10 196 yX0_alone 2 0 := ⟨(xg_4 21 rfl rfl), (xg_4 22 rfl rfl), (xg_4 23 rfl rfl), mb_X0_alone, _, _, rfl⟩
set_option maxRecDepth 20000 in
theorem coX0_alone : Cond.code yX0_alone cX0_alone 3 (some .int) ∈ xgw := (xg_4 24 rfl rfl)
set_option maxRecDepth 20000 in
theorem mb_X0_measure : xMb yX0_measure 2 := ⟨wi_X0, by decide +kernel⟩
set_option maxRecDepth 20000 in
theorem vlX0_101 : xVl RX0 101 yX0_measure 2 0 := ⟨(xg_4 25 rfl rfl), (xg_4 26 rfl rfl), (xg_4 27 rfl rfl), mb_X0_measure, _, _, rfl⟩
set_option maxRecDepth 20000 in
theorem coX0_measure : Cond.code yX0_measure cX0_measure 3 none ∈ xgw := (xg_4 28 rfl rfl)
set_option maxRecDepth 20000 in
theorem mb_X0_setNames : xMb yX0_setNames 6 := ⟨wi_X0, by decide +kernel⟩
set_option maxRecDepth 20000 in
theorem vlX0_87 : xVl RX0 87 yX0_setNames 6 0 := ⟨(xg_4 29 rfl rfl), (xg_4 31 rfl rfl), (xg_s 28 rfl rfl), mb_X0_setNames, _, _, rfl⟩
set_option maxRecDepth 20000 in
theorem coX0_setNames : Cond.code yX0_setNames cX0_setNames 8 none ∈ xgw := (xg_4 32 rfl rfl)
set_option maxRecDepth 20000 in
theorem mb_X2_work : xMb yX2_work 1 := ⟨wi_X2, by decide +kernel⟩
set_option maxRecDepth 20000 in
theorem vlX0_105 : xVl RX0 105 yX2_work 1 2 := ⟨(xg_4 33 rfl rfl), (xg_4 34 rfl rfl), (xg_4 35 rfl rfl), mb_X2_work, _, _, rfl⟩
set_option maxRecDepth 20000 in
theorem coX2_work : Cond.code yX2_work cX2_work 8 (some .long) ∈ xgw := (xg_4 36 rfl rfl)
set_option maxRecDepth 20000 in
theorem kcX2_37 : Cond.constantLong RX2 37 (-9223372036854775808) ∈ xgw := (xg_4 37 rfl rfl)
set_option maxRecDepth 20000 in
theorem mb_X2_plainValue : xMb yX2_plainValue 1 := ⟨wi_X2, by decide +kernel⟩
set_option maxRecDepth 20000 in
theorem vlX2_41 : xVl RX2 41 yX2_plainValue 1 2 := ⟨(xg_4 38 rfl rfl), (xg_4 40 rfl rfl), (xg_s 29 rfl rfl), mb_X2_plainValue, _, _, rfl⟩
set_option maxRecDepth 20000 in
theorem coX2_plainValue : Cond.code yX2_plainValue cX2_plainValue 3 (some .long) ∈ xgw := (xg_4 41 rfl rfl)
set_option maxRecDepth 20000 in
theorem mb_X2_joined : xMb yX2_joined 3 := ⟨wi_X2, by decide +kernel⟩
set_option maxRecDepth 20000 in
theorem slX2_45 : xSl RX2 45 yX2_joined 3 := ⟨Or.inl (xg_4 42 rfl rfl), (xg_4 43 rfl rfl), mb_X2_joined⟩
set_option maxRecDepth 20000 in
theorem coX2_joined : Cond.code yX2_joined cX2_joined 7 (some .long) ∈ xgw := (xg_4 44 rfl rfl)
set_option maxRecDepth 20000 in
theorem kcX2_49 : Cond.constantLong RX2 49 (1000000000000) ∈ xgw := (xg_4 45 rfl rfl)
set_option maxRecDepth 20000 in
theorem kcX2_51 : Cond.constantLong RX2 51 (-1000000000000) ∈ xgw := (xg_4 46 rfl rfl)
set_option maxRecDepth 20000 in
theorem mb_X0_within : xMb yX0_within 3 := ⟨wi_X0, by decide +kernel⟩
set_option maxRecDepth 20000 in
theorem slX0_109 : xSl RX0 109 yX0_within 3 := ⟨Or.inl (xg_4 47 rfl rfl), (xg_4 48 rfl rfl), mb_X0_within⟩
set_option maxRecDepth 20000 in
theorem coX0_within : Cond.code yX0_within cX0_within 4 (some .int) ∈ xgw := (xg_4 49 rfl rfl)
set_option maxRecDepth 20000 in
theorem kcX0_113 : Cond.constantLong RX0 113 (-9223372036854775808) ∈ xgw := (xg_4 50 rfl rfl)
set_option maxRecDepth 20000 in
theorem mb_X10_crossing : xMb yX10_crossing 2 := ⟨wi_X10, by decide +kernel⟩
set_option maxRecDepth 20000 in
theorem vlL_53 : xVl RL 53 yX10_crossing 2 10 := ⟨(xg_4 51 rfl rfl), (xg_4 52 rfl rfl), (xg_4 53 rfl rfl), mb_X10_crossing, _, _, rfl⟩
set_option maxRecDepth 20000 in
theorem coX10_crossing : Cond.code yX10_crossing cX10_crossing 3 (some .int) ∈ xgw := (xg_4 54 rfl rfl)
set_option maxRecDepth 20000 in
theorem mb_X10_law : xMb yX10_law 2 := ⟨wi_X10, by decide +kernel⟩
set_option maxRecDepth 20000 in
theorem vlL_57 : xVl RL 57 yX10_law 2 10 := ⟨(xg_4 55 rfl rfl), (xg_4 56 rfl rfl), (xg_4 57 rfl rfl), mb_X10_law, _, _, rfl⟩
set_option maxRecDepth 20000 in
theorem coX10_law : Cond.code yX10_law cX10_law 3 (some .long) ∈ xgw := (xg_4 58 rfl rfl)
set_option maxRecDepth 20000 in
theorem vlX10_220 : xVl RX10 220 yX0_isThere 1 0 := ⟨(xg_4 59 rfl rfl), (xg_4 17 rfl rfl), (xg_4 18 rfl rfl), mb_X0_isThere, _, _, rfl⟩
set_option maxRecDepth 20000 in
theorem kcX10_225 : Cond.constantLong RX10 225 (-9223372036854775808) ∈ xgw := (xg_4 60 rfl rfl)
set_option maxRecDepth 20000 in
theorem vlX10_227 : xVl RX10 227 yX0_measure 2 0 := ⟨(xg_4 61 rfl rfl), (xg_4 26 rfl rfl), (xg_4 27 rfl rfl), mb_X0_measure, _, _, rfl⟩
set_option maxRecDepth 20000 in
theorem vlX10_235 : xVl RX10 235 yX2_work 1 2 := ⟨(xg_4 62 rfl rfl), (xg_4 34 rfl rfl), (xg_4 35 rfl rfl), mb_X2_work, _, _, rfl⟩
set_option maxRecDepth 20000 in
theorem mb_X10_bears : xMb yX10_bears 0 := ⟨wi_X10, by decide +kernel⟩
set_option maxRecDepth 20000 in
theorem vlL_62 : xVl RL 62 yX10_bears 0 10 := ⟨(xg_4 63 rfl rfl), (xg_4 64 rfl rfl), (xg_4 65 rfl rfl), mb_X10_bears, _, _, rfl⟩
set_option maxRecDepth 20000 in
theorem coX10_bears : Cond.code yX10_bears cX10_bears 1 (some .int) ∈ xgw := (xg_4 66 rfl rfl)
set_option maxRecDepth 20000 in
theorem mb_X0_bridgeBears : xMb yX0_bridgeBears 0 := ⟨wi_X0, by decide +kernel⟩
set_option maxRecDepth 20000 in
theorem vlX10_239 : xVl RX10 239 yX0_bridgeBears 0 0 := ⟨(xg_4 67 rfl rfl), (xg_4 68 rfl rfl), (xg_4 69 rfl rfl), mb_X0_bridgeBears, _, _, rfl⟩
set_option maxRecDepth 20000 in
theorem coX0_bridgeBears : Cond.code yX0_bridgeBears cX0_bridgeBears 5 (some .int) ∈ xgw := (xg_4 70 rfl rfl)
set_option maxRecDepth 20000 in
theorem vlX0_115 : xVl RX0 115 yX0_twoOf 1 0 := ⟨(xg_4 71 rfl rfl), (xg_4 13 rfl rfl), (xg_4 14 rfl rfl), mb_X0_twoOf, _, _, rfl⟩
set_option maxRecDepth 20000 in
theorem vlX0_119 : xVl RX0 119 yX0_alone 2 0 := ⟨(xg_4 72 rfl rfl), (xg_4 22 rfl rfl), (xg_4 23 rfl rfl), mb_X0_alone, _, _, rfl⟩
set_option maxRecDepth 20000 in
theorem mb_X10_sag : xMb yX10_sag 1 := ⟨wi_X10, by decide +kernel⟩
set_option maxRecDepth 20000 in
theorem vlL_66 : xVl RL 66 yX10_sag 1 10 := ⟨(xg_4 73 rfl rfl), (xg_4 74 rfl rfl), (xg_4 75 rfl rfl), mb_X10_sag, _, _, rfl⟩
set_option maxRecDepth 20000 in
theorem coX10_sag : Cond.code yX10_sag cX10_sag 2 (some .int) ∈ xgw := (xg_4 76 rfl rfl)
set_option maxRecDepth 20000 in
theorem mb_X10_sagOf : xMb yX10_sagOf 2 := ⟨wi_X10, by decide +kernel⟩
set_option maxRecDepth 20000 in
theorem slX10_243 : xSl RX10 243 yX10_sagOf 2 := ⟨Or.inl (xg_4 77 rfl rfl), (xg_4 78 rfl rfl), mb_X10_sagOf⟩
set_option maxRecDepth 20000 in
theorem coX10_sagOf : Cond.code yX10_sagOf cX10_sagOf 2 (some .int) ∈ xgw := (xg_4 79 rfl rfl)
set_option maxRecDepth 20000 in
theorem hlX10_246 : Cond.methodLink RX10 246 Lib.Math.min.name ∈ xgw := (xg_4 80 rfl rfl)
set_option maxRecDepth 20000 in
theorem mb_X10_tie : xMb yX10_tie 4 := ⟨wi_X10, by decide +kernel⟩
set_option maxRecDepth 20000 in
theorem vlL_70 : xVl RL 70 yX10_tie 4 10 := ⟨(xg_4 81 rfl rfl), (xg_4 82 rfl rfl), (xg_4 83 rfl rfl), mb_X10_tie, _, _, rfl⟩
set_option maxRecDepth 20000 in
theorem coX10_tie : Cond.code yX10_tie cX10_tie 5 (some .int) ∈ xgw := (xg_4 84 rfl rfl)
set_option maxRecDepth 20000 in
theorem mb_X10_isPerson : xMb yX10_isPerson 1 := ⟨wi_X10, by decide +kernel⟩
set_option maxRecDepth 20000 in
theorem vlX10_137 : xVl RX10 137 yX10_isPerson 1 10 := ⟨(xg_4 85 rfl rfl), (xg_4 87 rfl rfl), (xg_s 30 rfl rfl), mb_X10_isPerson, _, _, rfl⟩
set_option maxRecDepth 20000 in
theorem coX10_isPerson : Cond.code yX10_isPerson cX10_isPerson 2 (some .boolean) ∈ xgw := (xg_4 88 rfl rfl)
set_option maxRecDepth 20000 in
theorem mb_X10_saveAct : xMb yX10_saveAct 0 := ⟨wi_X10, by decide +kernel⟩
set_option maxRecDepth 20000 in
theorem vlX10_254 : xVl RX10 254 yX10_saveAct 0 10 := ⟨(xg_4 89 rfl rfl), (xg_4 91 rfl rfl), (xg_s 31 rfl rfl), mb_X10_saveAct, _, _, rfl⟩
set_option maxRecDepth 20000 in
theorem coX10_saveAct : Cond.code yX10_saveAct cX10_saveAct 1 none ∈ xgw := (xg_4 92 rfl rfl)
set_option maxRecDepth 20000 in
theorem vlX10_257 : xVl RX10 257 yX0_addStrand 5 0 := ⟨(xg_4 93 rfl rfl), (xg_3 130 rfl rfl), (xg_3 131 rfl rfl), mb_X0_addStrand, _, _, rfl⟩
set_option maxRecDepth 20000 in
theorem mb_X10_forgive : xMb yX10_forgive 1 := ⟨wi_X10, by decide +kernel⟩
set_option maxRecDepth 20000 in
theorem vlL_75 : xVl RL 75 yX10_forgive 1 10 := ⟨(xg_4 94 rfl rfl), (xg_4 95 rfl rfl), (xg_4 96 rfl rfl), mb_X10_forgive, _, _, rfl⟩
set_option maxRecDepth 20000 in
theorem coX10_forgive : Cond.code yX10_forgive cX10_forgive 2 (some .boolean) ∈ xgw := (xg_4 97 rfl rfl)
set_option maxRecDepth 20000 in
theorem mb_X10_pay : xMb yX10_pay 1 := ⟨wi_X10, by decide +kernel⟩
set_option maxRecDepth 20000 in
theorem vlL_80 : xVl RL 80 yX10_pay 1 10 := ⟨(xg_4 98 rfl rfl), (xg_4 99 rfl rfl), (xg_4 100 rfl rfl), mb_X10_pay, _, _, rfl⟩
set_option maxRecDepth 20000 in
theorem coX10_pay : Cond.code yX10_pay cX10_pay 2 (some .boolean) ∈ xgw := (xg_4 101 rfl rfl)
set_option maxRecDepth 20000 in
theorem mb_X0_canPay : xMb yX0_canPay 1 := ⟨wi_X0, by decide +kernel⟩
set_option maxRecDepth 20000 in
theorem vlX10_261 : xVl RX10 261 yX0_canPay 1 0 := ⟨(xg_4 102 rfl rfl), (xg_4 103 rfl rfl), (xg_4 104 rfl rfl), mb_X0_canPay, _, _, rfl⟩
set_option maxRecDepth 20000 in
theorem coX0_canPay : Cond.code yX0_canPay cX0_canPay 2 (some .boolean) ∈ xgw := (xg_4 105 rfl rfl)
set_option maxRecDepth 20000 in
theorem mb_X0_payOut : xMb yX0_payOut 1 := ⟨wi_X0, by decide +kernel⟩
set_option maxRecDepth 20000 in
theorem vlX10_264 : xVl RX10 264 yX0_payOut 1 0 := ⟨(xg_4 106 rfl rfl), (xg_4 107 rfl rfl), (xg_4 108 rfl rfl), mb_X0_payOut, _, _, rfl⟩
set_option maxRecDepth 20000 in
theorem coX0_payOut : Cond.code yX0_payOut cX0_payOut 2 none ∈ xgw := (xg_4 109 rfl rfl)
set_option maxRecDepth 20000 in
theorem mb_X10_twist : xMb yX10_twist 2 := ⟨wi_X10, by decide +kernel⟩
set_option maxRecDepth 20000 in
theorem vlL_84 : xVl RL 84 yX10_twist 2 10 := ⟨(xg_4 110 rfl rfl), (xg_4 111 rfl rfl), (xg_4 112 rfl rfl), mb_X10_twist, _, _, rfl⟩
set_option maxRecDepth 20000 in
theorem coX10_twist : Cond.code yX10_twist cX10_twist 4 (some .boolean) ∈ xgw := (xg_4 113 rfl rfl)
set_option maxRecDepth 20000 in
theorem mb_X0_untwine : xMb yX0_untwine 1 := ⟨wi_X0, by decide +kernel⟩
set_option maxRecDepth 20000 in
theorem vlX10_267 : xVl RX10 267 yX0_untwine 1 0 := ⟨(xg_4 114 rfl rfl), (xg_4 115 rfl rfl), (xg_4 116 rfl rfl), mb_X0_untwine, _, _, rfl⟩
set_option maxRecDepth 20000 in
theorem coX0_untwine : Cond.code yX0_untwine cX0_untwine 3 none ∈ xgw := (xg_4 117 rfl rfl)
set_option maxRecDepth 20000 in
theorem vlX10_270 : xVl RX10 270 yX0_twine 2 0 := ⟨(xg_4 118 rfl rfl), (xg_3 146 rfl rfl), (xg_3 147 rfl rfl), mb_X0_twine, _, _, rfl⟩
set_option maxRecDepth 20000 in
theorem mb_X10_cross : xMb yX10_cross 2 := ⟨wi_X10, by decide +kernel⟩
set_option maxRecDepth 20000 in
theorem vlL_89 : xVl RL 89 yX10_cross 2 10 := ⟨(xg_4 119 rfl rfl), (xg_4 120 rfl rfl), (xg_4 121 rfl rfl), mb_X10_cross, _, _, rfl⟩
set_option maxRecDepth 20000 in
theorem coX10_cross : Cond.code yX10_cross cX10_cross 3 (some .int) ∈ xgw := (xg_4 122 rfl rfl)
set_option maxRecDepth 20000 in
theorem mb_X10_years : xMb yX10_years 1 := ⟨wi_X10, by decide +kernel⟩
set_option maxRecDepth 20000 in
theorem vlL_93 : xVl RL 93 yX10_years 1 10 := ⟨(xg_4 123 rfl rfl), (xg_4 124 rfl rfl), (xg_4 125 rfl rfl), mb_X10_years, _, _, rfl⟩
set_option maxRecDepth 20000 in
theorem coX10_years : Cond.code yX10_years cX10_years 3 (some .int) ∈ xgw := (xg_4 126 rfl rfl)
set_option maxRecDepth 20000 in
theorem mb_X0_goYear : xMb yX0_goYear 1 := ⟨wi_X0, by decide +kernel⟩
set_option maxRecDepth 20000 in
theorem vlX10_276 : xVl RX10 276 yX0_goYear 1 0 := ⟨(xg_4 127 rfl rfl), (xg_4 128 rfl rfl), (xg_4 129 rfl rfl), mb_X0_goYear, _, _, rfl⟩
set_option maxRecDepth 20000 in
theorem coX0_goYear : Cond.code yX0_goYear cX0_goYear 3 (some .int) ∈ xgw := (xg_4 130 rfl rfl)
set_option maxRecDepth 20000 in
theorem mb_X0_letCross : xMb yX0_letCross 0 := ⟨wi_X0, by decide +kernel⟩
set_option maxRecDepth 20000 in
theorem vlX0_123 : xVl RX0 123 yX0_letCross 0 0 := ⟨(xg_4 131 rfl rfl), (xg_4 133 rfl rfl), (xg_s 32 rfl rfl), mb_X0_letCross, _, _, rfl⟩
set_option maxRecDepth 20000 in
theorem coX0_letCross : Cond.code yX0_letCross cX0_letCross 4 (some .int) ∈ xgw := (xg_4 134 rfl rfl)
set_option maxRecDepth 20000 in
theorem vlX0_148 : xVl RX0 148 yX0_bridgeBears 0 0 := ⟨(xg_4 135 rfl rfl), (xg_4 68 rfl rfl), (xg_4 69 rfl rfl), mb_X0_bridgeBears, _, _, rfl⟩
set_option maxRecDepth 20000 in
theorem mb_X0_frayAll : xMb yX0_frayAll 0 := ⟨wi_X0, by decide +kernel⟩
set_option maxRecDepth 20000 in
theorem vlX0_127 : xVl RX0 127 yX0_frayAll 0 0 := ⟨(xg_4 136 rfl rfl), (xg_4 138 rfl rfl), (xg_s 33 rfl rfl), mb_X0_frayAll, _, _, rfl⟩
set_option maxRecDepth 20000 in
theorem coX0_frayAll : Cond.code yX0_frayAll cX0_frayAll 2 none ∈ xgw := (xg_4 139 rfl rfl)
set_option maxRecDepth 20000 in
theorem mb_X0_fray : xMb yX0_fray 2 := ⟨wi_X0, by decide +kernel⟩
set_option maxRecDepth 20000 in
theorem vlX0_151 : xVl RX0 151 yX0_fray 2 0 := ⟨(xg_4 140 rfl rfl), (xg_4 141 rfl rfl), (xg_4 142 rfl rfl), mb_X0_fray, _, _, rfl⟩
set_option maxRecDepth 20000 in
theorem coX0_fray : Cond.code yX0_fray cX0_fray 3 none ∈ xgw := (xg_4 143 rfl rfl)
set_option maxRecDepth 20000 in
theorem mb_X0_growAll : xMb yX0_growAll 0 := ⟨wi_X0, by decide +kernel⟩
set_option maxRecDepth 20000 in
theorem vlX0_130 : xVl RX0 130 yX0_growAll 0 0 := ⟨(xg_4 144 rfl rfl), (xg_4 146 rfl rfl), (xg_s 34 rfl rfl), mb_X0_growAll, _, _, rfl⟩
set_option maxRecDepth 20000 in
theorem coX0_growAll : Cond.code yX0_growAll cX0_growAll 2 none ∈ xgw := (xg_4 147 rfl rfl)
set_option maxRecDepth 20000 in
theorem hlX0_154 : Cond.methodLink RX0 154 Lib.Math.min.name ∈ xgw := (xg_4 148 rfl rfl)
set_option maxRecDepth 20000 in
theorem mb_X0_payAll : xMb yX0_payAll 0 := ⟨wi_X0, by decide +kernel⟩
set_option maxRecDepth 20000 in
theorem vlX0_133 : xVl RX0 133 yX0_payAll 0 0 := ⟨(xg_4 149 rfl rfl), (xg_4 151 rfl rfl), (xg_s 35 rfl rfl), mb_X0_payAll, _, _, rfl⟩
set_option maxRecDepth 20000 in
theorem coX0_payAll : Cond.code yX0_payAll cX0_payAll 2 none ∈ xgw := (xg_4 152 rfl rfl)
set_option maxRecDepth 20000 in
theorem vlX0_159 : xVl RX0 159 yX0_canPay 1 0 := ⟨(xg_4 153 rfl rfl), (xg_4 103 rfl rfl), (xg_4 104 rfl rfl), mb_X0_canPay, _, _, rfl⟩
set_option maxRecDepth 20000 in
theorem vlX0_162 : xVl RX0 162 yX0_payOut 1 0 := ⟨(xg_4 154 rfl rfl), (xg_4 107 rfl rfl), (xg_4 108 rfl rfl), mb_X0_payOut, _, _, rfl⟩
set_option maxRecDepth 20000 in
theorem mb_X10_order : xMb yX10_order 3 := ⟨wi_X10, by decide +kernel⟩
set_option maxRecDepth 20000 in
theorem vlL_97 : xVl RL 97 yX10_order 3 10 := ⟨(xg_4 155 rfl rfl), (xg_4 156 rfl rfl), (xg_4 157 rfl rfl), mb_X10_order, _, _, rfl⟩
set_option maxRecDepth 20000 in
theorem coX10_order : Cond.code yX10_order cX10_order 4 (some .int) ∈ xgw := (xg_4 158 rfl rfl)
set_option maxRecDepth 20000 in
theorem mb_X0_thereBits : xMb yX0_thereBits 0 := ⟨wi_X0, by decide +kernel⟩
set_option maxRecDepth 20000 in
theorem vlX10_279 : xVl RX10 279 yX0_thereBits 0 0 := ⟨(xg_4 159 rfl rfl), (xg_4 160 rfl rfl), (xg_4 161 rfl rfl), mb_X0_thereBits, _, _, rfl⟩
set_option maxRecDepth 20000 in
theorem coX0_thereBits : Cond.code yX0_thereBits cX0_thereBits 3 (some .int) ∈ xgw := (xg_4 162 rfl rfl)
set_option maxRecDepth 20000 in
theorem mb_J6_bitCount_0f7a4 : xMb yJ6_bitCount_0f7a4 1 := ⟨wi_J6, by decide +kernel⟩
set_option maxRecDepth 20000 in
theorem slX10_282 : xSl RX10 282 yJ6_bitCount_0f7a4 1 := ⟨Or.inl (xg_4 163 rfl rfl), (xg_4 164 rfl rfl), mb_J6_bitCount_0f7a4⟩
set_option maxRecDepth 20000 in
theorem coJ6_bitCount_0f7a4 : Cond.code yJ6_bitCount_0f7a4 cJ6_bitCount_0f7a4 1 (some .int) ∈ xgw := (xg_4 165 rfl rfl)
set_option maxRecDepth 20000 in
theorem kcJ6_265 : Cond.constant RJ6 265 (1431655765) ∈ xgw := (xg_4 166 rfl rfl)
set_option maxRecDepth 20000 in
theorem kcJ6_266 : Cond.constant RJ6 266 (858993459) ∈ xgw := (xg_4 167 rfl rfl)
set_option maxRecDepth 20000 in
theorem kcJ6_267 : Cond.constant RJ6 267 (252645135) ∈ xgw := (xg_4 168 rfl rfl)
set_option maxRecDepth 20000 in
theorem mb_X4_search : xMb yX4_search 3 := ⟨wi_X4, by decide +kernel⟩
set_option maxRecDepth 20000 in
theorem vlX10_287 : xVl RX10 287 yX4_search 3 4 := ⟨(xg_4 169 rfl rfl), (xg_4 170 rfl rfl), (xg_4 171 rfl rfl), mb_X4_search, _, _, rfl⟩
set_option maxRecDepth 20000 in
theorem coX4_search : Cond.code yX4_search cX4_search 5 (some .boolean) ∈ xgw := (xg_4 172 rfl rfl)
set_option maxRecDepth 20000 in
theorem mb_X4_endBears : xMb yX4_endBears 1 := ⟨wi_X4, by decide +kernel⟩
set_option maxRecDepth 20000 in
theorem vlX4_25 : xVl RX4 25 yX4_endBears 1 4 := ⟨(xg_4 173 rfl rfl), (xg_4 175 rfl rfl), (xg_s 36 rfl rfl), mb_X4_endBears, _, _, rfl⟩
set_option maxRecDepth 20000 in
theorem coX4_endBears : Cond.code yX4_endBears cX4_endBears 4 (some .boolean) ∈ xgw := (xg_4 176 rfl rfl)
set_option maxRecDepth 20000 in
theorem vlX4_33 : xVl RX4 33 yX0_payOut 1 0 := ⟨(xg_4 177 rfl rfl), (xg_4 107 rfl rfl), (xg_4 108 rfl rfl), mb_X0_payOut, _, _, rfl⟩
set_option maxRecDepth 20000 in
theorem vlX4_39 : xVl RX4 39 yX0_bridgeBears 0 0 := ⟨(xg_4 178 rfl rfl), (xg_4 68 rfl rfl), (xg_4 69 rfl rfl), mb_X0_bridgeBears, _, _, rfl⟩
set_option maxRecDepth 20000 in
theorem mb_X0_takeBack : xMb yX0_takeBack 1 := ⟨wi_X0, by decide +kernel⟩
set_option maxRecDepth 20000 in
theorem vlX4_43 : xVl RX4 43 yX0_takeBack 1 0 := ⟨(xg_4 179 rfl rfl), (xg_4 180 rfl rfl), (xg_4 181 rfl rfl), mb_X0_takeBack, _, _, rfl⟩
set_option maxRecDepth 20000 in
theorem coX0_takeBack : Cond.code yX0_takeBack cX0_takeBack 2 none ∈ xgw := (xg_4 182 rfl rfl)
set_option maxRecDepth 20000 in
theorem mb_X4_payRest : xMb yX4_payRest 3 := ⟨wi_X4, by decide +kernel⟩
set_option maxRecDepth 20000 in
theorem vlX4_29 : xVl RX4 29 yX4_payRest 3 4 := ⟨(xg_4 183 rfl rfl), (xg_4 185 rfl rfl), (xg_s 37 rfl rfl), mb_X4_payRest, _, _, rfl⟩
set_option maxRecDepth 20000 in
theorem coX4_payRest : Cond.code yX4_payRest cX4_payRest 7 (some .boolean) ∈ xgw := (xg_4 186 rfl rfl)
set_option maxRecDepth 20000 in
theorem mb_X4_isDead : xMb yX4_isDead 1 := ⟨wi_X4, by decide +kernel⟩
set_option maxRecDepth 20000 in
theorem vlX4_46 : xVl RX4 46 yX4_isDead 1 4 := ⟨(xg_4 187 rfl rfl), (xg_4 189 rfl rfl), (xg_s 38 rfl rfl), mb_X4_isDead, _, _, rfl⟩
set_option maxRecDepth 20000 in
theorem coX4_isDead : Cond.code yX4_isDead cX4_isDead 3 (some .boolean) ∈ xgw := (xg_4 190 rfl rfl)
set_option maxRecDepth 20000 in
theorem vlX4_50 : xVl RX4 50 yX0_canPay 1 0 := ⟨(xg_4 191 rfl rfl), (xg_4 103 rfl rfl), (xg_4 104 rfl rfl), mb_X0_canPay, _, _, rfl⟩
set_option maxRecDepth 20000 in
theorem mb_X4_markDead : xMb yX4_markDead 1 := ⟨wi_X4, by decide +kernel⟩
set_option maxRecDepth 20000 in
theorem vlX4_53 : xVl RX4 53 yX4_markDead 1 4 := ⟨(xg_4 192 rfl rfl), (xg_4 194 rfl rfl), (xg_s 39 rfl rfl), mb_X4_markDead, _, _, rfl⟩
set_option maxRecDepth 20000 in
theorem coX4_markDead : Cond.code yX4_markDead cX4_markDead 3 none ∈ xgw := (xg_4 195 rfl rfl)
set_option maxRecDepth 20000 in
theorem mb_X10_drop : xMb yX10_drop 1 := ⟨wi_X10, by decide +kernel⟩
set_option maxRecDepth 20000 in
theorem vlL_102 : xVl RL 102 yX10_drop 1 10 := ⟨(xg_4 196 rfl rfl), (xg_4 197 rfl rfl), (xg_4 198 rfl rfl), mb_X10_drop, _, _, rfl⟩
set_option maxRecDepth 20000 in
theorem coX10_drop : Cond.code yX10_drop cX10_drop 2 (some .int) ∈ xgw := (xg_4 199 rfl rfl)
set_option maxRecDepth 20000 in
theorem mb_X9_weigh : xMb yX9_weigh 1 := ⟨wi_X9, by decide +kernel⟩
set_option maxRecDepth 20000 in
theorem vlX10_294 : xVl RX10 294 yX9_weigh 1 9 := ⟨(xg_4 200 rfl rfl), (xg_4 201 rfl rfl), (xg_4 202 rfl rfl), mb_X9_weigh, _, _, rfl⟩
set_option maxRecDepth 20000 in
theorem coX9_weigh : Cond.code yX9_weigh cX9_weigh 3 none ∈ xgw := (xg_4 203 rfl rfl)
set_option maxRecDepth 20000 in
theorem vlX9_24 : xVl RX9 24 yX0_alone 2 0 := ⟨(xg_4 204 rfl rfl), (xg_4 22 rfl rfl), (xg_4 23 rfl rfl), mb_X0_alone, _, _, rfl⟩
set_option maxRecDepth 20000 in
theorem vlX9_28 : xVl RX9 28 yX0_twoOf 1 0 := ⟨(xg_4 205 rfl rfl), (xg_4 13 rfl rfl), (xg_4 14 rfl rfl), mb_X0_twoOf, _, _, rfl⟩
set_option maxRecDepth 20000 in
theorem mb_X9_without : xMb yX9_without 2 := ⟨wi_X9, by decide +kernel⟩
set_option maxRecDepth 20000 in
theorem vlX10_297 : xVl RX10 297 yX9_without 2 9 := ⟨(xg_4 206 rfl rfl), (xg_4 207 rfl rfl), (xg_4 208 rfl rfl), mb_X9_without, _, _, rfl⟩
set_option maxRecDepth 20000 in
theorem coX9_without : Cond.code yX9_without cX9_without 7 (some .int) ∈ xgw := (xg_4 209 rfl rfl)
set_option maxRecDepth 20000 in
theorem mb_X9_stays : xMb yX9_stays 3 := ⟨wi_X9, by decide +kernel⟩
set_option maxRecDepth 20000 in
theorem slX9_35 : xSl RX9 35 yX9_stays 3 := ⟨Or.inl (xg_4 210 rfl rfl), (xg_4 211 rfl rfl), mb_X9_stays⟩
set_option maxRecDepth 20000 in
theorem coX9_stays : Cond.code yX9_stays cX9_stays 3 (some .boolean) ∈ xgw := (xg_4 212 rfl rfl)
set_option maxRecDepth 20000 in
theorem vlX9_42 : xVl RX9 42 yX0_isThere 1 0 := ⟨(xg_4 213 rfl rfl), (xg_4 17 rfl rfl), (xg_4 18 rfl rfl), mb_X0_isThere, _, _, rfl⟩
set_option maxRecDepth 20000 in
theorem mb_X10_fewestCuts : xMb yX10_fewestCuts 1 := ⟨wi_X10, by decide +kernel⟩
set_option maxRecDepth 20000 in
theorem vlX10_304 : xVl RX10 304 yX10_fewestCuts 1 10 := ⟨(xg_4 214 rfl rfl), (xg_4 216 rfl rfl), (xg_s 40 rfl rfl), mb_X10_fewestCuts, _, _, rfl⟩
set_option maxRecDepth 20000 in
theorem coX10_fewestCuts : Cond.code yX10_fewestCuts cX10_fewestCuts 7 (some .int) ∈ xgw := (xg_4 217 rfl rfl)
set_option maxRecDepth 20000 in
theorem mb_X10_loan : xMb yX10_loan 1 := ⟨wi_X10, by decide +kernel⟩
set_option maxRecDepth 20000 in
theorem vlL_106 : xVl RL 106 yX10_loan 1 10 := ⟨(xg_4 218 rfl rfl), (xg_4 219 rfl rfl), (xg_4 220 rfl rfl), mb_X10_loan, _, _, rfl⟩
set_option maxRecDepth 20000 in
theorem coX10_loan : Cond.code yX10_loan cX10_loan 4 (some .int) ∈ xgw := (xg_4 221 rfl rfl)
set_option maxRecDepth 20000 in
theorem mb_X0_loanBears : xMb yX0_loanBears 1 := ⟨wi_X0, by decide +kernel⟩
set_option maxRecDepth 20000 in
theorem vlX10_307 : xVl RX10 307 yX0_loanBears 1 0 := ⟨(xg_4 222 rfl rfl), (xg_4 223 rfl rfl), (xg_4 224 rfl rfl), mb_X0_loanBears, _, _, rfl⟩
set_option maxRecDepth 20000 in
theorem coX0_loanBears : Cond.code yX0_loanBears cX0_loanBears 2 (some .int) ∈ xgw := (xg_4 225 rfl rfl)
set_option maxRecDepth 20000 in
theorem mb_X10_strike : xMb yX10_strike 2 := ⟨wi_X10, by decide +kernel⟩
set_option maxRecDepth 20000 in
theorem vlL_110 : xVl RL 110 yX10_strike 2 10 := ⟨(xg_4 226 rfl rfl), (xg_4 227 rfl rfl), (xg_4 228 rfl rfl), mb_X10_strike, _, _, rfl⟩
set_option maxRecDepth 20000 in
theorem coX10_strike : Cond.code yX10_strike cX10_strike 3 (some .int) ∈ xgw := (xg_4 229 rfl rfl)
set_option maxRecDepth 20000 in
theorem mb_X0_owedBetween : xMb yX0_owedBetween 2 := ⟨wi_X0, by decide +kernel⟩
set_option maxRecDepth 20000 in
theorem vlX10_160 : xVl RX10 160 yX0_owedBetween 2 0 := ⟨(xg_4 230 rfl rfl), (xg_4 231 rfl rfl), (xg_4 232 rfl rfl), mb_X0_owedBetween, _, _, rfl⟩
set_option maxRecDepth 20000 in
theorem coX0_owedBetween : Cond.code yX0_owedBetween cX0_owedBetween 6 (some .int) ∈ xgw := (xg_4 233 rfl rfl)
set_option maxRecDepth 20000 in
theorem mb_X10_twists : xMb yX10_twists 1 := ⟨wi_X10, by decide +kernel⟩
set_option maxRecDepth 20000 in
theorem vlL_114 : xVl RL 114 yX10_twists 1 10 := ⟨(xg_4 234 rfl rfl), (xg_4 235 rfl rfl), (xg_4 236 rfl rfl), mb_X10_twists, _, _, rfl⟩
set_option maxRecDepth 20000 in
theorem coX10_twists : Cond.code yX10_twists cX10_twists 2 (some .int) ∈ xgw := (xg_4 237 rfl rfl)
set_option maxRecDepth 20000 in
theorem mb_X9_untwisted : xMb yX9_untwisted 1 := ⟨wi_X9, by decide +kernel⟩
set_option maxRecDepth 20000 in
theorem vlX10_310 : xVl RX10 310 yX9_untwisted 1 9 := ⟨(xg_4 238 rfl rfl), (xg_4 239 rfl rfl), (xg_5 0 rfl rfl), mb_X9_untwisted, _, _, rfl⟩
set_option maxRecDepth 20000 in
theorem coX9_untwisted : Cond.code yX9_untwisted cX9_untwisted 4 (some .int) ∈ xgw := (xg_5 1 rfl rfl)
set_option maxRecDepth 20000 in
theorem mb_X3_gain : xMb yX3_gain 3 := ⟨wi_X3, by decide +kernel⟩
set_option maxRecDepth 20000 in
theorem vlX10_317 : xVl RX10 317 yX3_gain 3 3 := ⟨(xg_5 2 rfl rfl), (xg_5 3 rfl rfl), (xg_5 4 rfl rfl), mb_X3_gain, _, _, rfl⟩
set_option maxRecDepth 20000 in
theorem coX3_gain : Cond.code yX3_gain cX3_gain 9 (some .int) ∈ xgw := (xg_5 5 rfl rfl)
set_option maxRecDepth 20000 in
theorem slX3_15 : xSl RX3 15 yJ6_bitCount_0f7a4 1 := ⟨Or.inl (xg_5 6 rfl rfl), (xg_4 164 rfl rfl), mb_J6_bitCount_0f7a4⟩
set_option maxRecDepth 20000 in
theorem hlX3_21 : Cond.methodLink RX3 21 Lib.Math.min.name ∈ xgw := (xg_5 7 rfl rfl)
