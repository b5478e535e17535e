
set_option maxRecDepth 20000 in
theorem hL_L_belay_114 : GoodIn lw_tbl (va_wsS RL 114 yL_belay wsL_belay) := goodIn_sub (List.forall_mem_append.mpr ⟨(List.forall_mem_cons.mpr ⟨wq28_11, List.forall_mem_cons.mpr ⟨wq28_12, List.forall_mem_cons.mpr ⟨wq7_22, fun _ h => absurd h List.not_mem_nil⟩⟩⟩), wm_wsL_belay⟩) (by decide +kernel)
set_option maxRecDepth 20000 in
theorem hL_L_braced_187 : GoodIn lw_tbl (va_wsS RL 187 yL_braced wsL_braced) := goodIn_sub (List.forall_mem_append.mpr ⟨(List.forall_mem_cons.mpr ⟨wq45_9, List.forall_mem_cons.mpr ⟨wq45_10, List.forall_mem_cons.mpr ⟨wq7_22, fun _ h => absurd h List.not_mem_nil⟩⟩⟩), wm_wsL_braced⟩) (by decide +kernel)
set_option maxRecDepth 20000 in
theorem hL_L_current_103 : GoodIn lw_tbl (va_wsS RL 103 yL_current wsL_current) := goodIn_sub (List.forall_mem_append.mpr ⟨(List.forall_mem_cons.mpr ⟨wq22_5, List.forall_mem_cons.mpr ⟨wq22_6, List.forall_mem_cons.mpr ⟨wq7_22, fun _ h => absurd h List.not_mem_nil⟩⟩⟩), wm_wsL_current⟩) (by decide +kernel)
set_option maxRecDepth 20000 in
theorem hL_L_force_178 : GoodIn lw_tbl (va_wsS RL 178 yL_force wsL_force) := goodIn_sub (List.forall_mem_append.mpr ⟨(List.forall_mem_cons.mpr ⟨wq43_18, List.forall_mem_cons.mpr ⟨wq43_19, List.forall_mem_cons.mpr ⟨wq7_22, fun _ h => absurd h List.not_mem_nil⟩⟩⟩), wm_wsL_force⟩) (by decide +kernel)
set_option maxRecDepth 20000 in
theorem hL_L_helm_106 : GoodIn lw_tbl (va_wsS RL 106 yL_helm wsL_helm) := goodIn_sub (List.forall_mem_append.mpr ⟨(List.forall_mem_cons.mpr ⟨wq22_20, List.forall_mem_cons.mpr ⟨wq22_21, List.forall_mem_cons.mpr ⟨wq7_22, fun _ h => absurd h List.not_mem_nil⟩⟩⟩), wm_wsL_helm⟩) (by decide +kernel)
set_option maxRecDepth 20000 in
theorem hL_L_isSprung_190 : GoodIn lw_tbl (va_wsS RL 190 yL_isSprung wsL_isSprung) := goodIn_sub (List.forall_mem_append.mpr ⟨(List.forall_mem_cons.mpr ⟨wq46_1, List.forall_mem_cons.mpr ⟨wq46_2, List.forall_mem_cons.mpr ⟨wq7_22, fun _ h => absurd h List.not_mem_nil⟩⟩⟩), wm_wsL_isSprung⟩) (by decide +kernel)
set_option maxRecDepth 20000 in
theorem hL_L_jettison_146 : GoodIn lw_tbl (va_wsS RL 146 yL_jettison wnL_jettison) := goodIn_sub (by decide +kernel) (by decide +kernel)
set_option maxRecDepth 20000 in
theorem hL_L_left_143 : GoodIn lw_tbl (va_wsS RL 143 yL_left wsL_left) := goodIn_sub (List.forall_mem_append.mpr ⟨(List.forall_mem_cons.mpr ⟨wq35_4, List.forall_mem_cons.mpr ⟨wq35_5, List.forall_mem_cons.mpr ⟨wq7_22, fun _ h => absurd h List.not_mem_nil⟩⟩⟩), wm_wsL_left⟩) (by decide +kernel)
set_option maxRecDepth 20000 in
theorem hL_L_lineMinute_216 : GoodIn lw_tbl (va_wsS RL 216 yL_lineMinute wsL_lineMinute) := goodIn_sub (List.forall_mem_append.mpr ⟨(List.forall_mem_cons.mpr ⟨wq48_21, List.forall_mem_cons.mpr ⟨wq48_22, List.forall_mem_cons.mpr ⟨wq7_22, fun _ h => absurd h List.not_mem_nil⟩⟩⟩), wm_wsL_lineMinute⟩) (by decide +kernel)
set_option maxRecDepth 20000 in
theorem hL_L_line_213 : GoodIn lw_tbl (va_wsS RL 213 yL_line wsL_line) := goodIn_sub (List.forall_mem_append.mpr ⟨(List.forall_mem_cons.mpr ⟨wq48_5, List.forall_mem_cons.mpr ⟨wq48_6, List.forall_mem_cons.mpr ⟨wq7_22, fun _ h => absurd h List.not_mem_nil⟩⟩⟩), wm_wsL_line⟩) (by decide +kernel)
set_option maxRecDepth 20000 in
theorem hL_L_meanStrength_224 : GoodIn lw_tbl (va_wsS RL 224 yL_meanStrength wsL_meanStrength) := goodIn_sub (List.forall_mem_append.mpr ⟨(List.forall_mem_cons.mpr ⟨wq50_2, List.forall_mem_cons.mpr ⟨wq50_3, List.forall_mem_cons.mpr ⟨wq7_22, fun _ h => absurd h List.not_mem_nil⟩⟩⟩), wm_wsL_meanStrength⟩) (by decide +kernel)
set_option maxRecDepth 20000 in
theorem hL_L_order_110 : GoodIn lw_tbl (va_wsS RL 110 yL_order wsL_order) := goodIn_sub (List.forall_mem_append.mpr ⟨(List.forall_mem_cons.mpr ⟨wq23_10, List.forall_mem_cons.mpr ⟨wq23_11, List.forall_mem_cons.mpr ⟨wq7_22, fun _ h => absurd h List.not_mem_nil⟩⟩⟩), wm_wsL_order⟩) (by decide +kernel)
set_option maxRecDepth 20000 in
theorem hL_L_sail_150 : GoodIn lw_tbl (va_wsS RL 150 yL_sail wsL_sail) := goodIn_sub (List.forall_mem_append.mpr ⟨(List.forall_mem_cons.mpr ⟨wq36_23, List.forall_mem_cons.mpr ⟨wq37_0, List.forall_mem_cons.mpr ⟨wq7_22, fun _ h => absurd h List.not_mem_nil⟩⟩⟩), wm_wsL_sail⟩) (by decide +kernel)
set_option maxRecDepth 20000 in
theorem hL_L_sick_136 : GoodIn lw_tbl (va_wsS RL 136 yL_sick wsL_sick) := goodIn_sub (List.forall_mem_append.mpr ⟨(List.forall_mem_cons.mpr ⟨wq33_20, List.forall_mem_cons.mpr ⟨wq33_21, List.forall_mem_cons.mpr ⟨wq7_22, fun _ h => absurd h List.not_mem_nil⟩⟩⟩), wm_wsL_sick⟩) (by decide +kernel)
set_option maxRecDepth 20000 in
theorem hL_L_spread_181 : GoodIn lw_tbl (va_wsS RL 181 yL_spread wsL_spread) := goodIn_sub (List.forall_mem_append.mpr ⟨(List.forall_mem_cons.mpr ⟨wq44_11, List.forall_mem_cons.mpr ⟨wq44_12, List.forall_mem_cons.mpr ⟨wq7_22, fun _ h => absurd h List.not_mem_nil⟩⟩⟩), wm_wsL_spread⟩) (by decide +kernel)
set_option maxRecDepth 20000 in
theorem hL_L_state_117 : GoodIn lw_tbl (va_wsS RL 117 yL_state wsL_state) := goodIn_sub (List.forall_mem_append.mpr ⟨(List.forall_mem_cons.mpr ⟨wq30_13, List.forall_mem_cons.mpr ⟨wq30_14, List.forall_mem_cons.mpr ⟨wq7_22, fun _ h => absurd h List.not_mem_nil⟩⟩⟩), wm_wsL_state⟩) (by decide +kernel)
set_option maxRecDepth 20000 in
theorem hL_L_stow_139 : GoodIn lw_tbl (va_wsS RL 139 yL_stow wsL_stow) := goodIn_sub (List.forall_mem_append.mpr ⟨(List.forall_mem_cons.mpr ⟨wq34_7, List.forall_mem_cons.mpr ⟨wq34_8, List.forall_mem_cons.mpr ⟨wq7_22, fun _ h => absurd h List.not_mem_nil⟩⟩⟩), wm_wsL_stow⟩) (by decide +kernel)
set_option maxRecDepth 20000 in
theorem hL_L_strength_184 : GoodIn lw_tbl (va_wsS RL 184 yL_strength wsL_strength) := goodIn_sub (List.forall_mem_append.mpr ⟨(List.forall_mem_cons.mpr ⟨wq44_22, List.forall_mem_cons.mpr ⟨wq44_23, List.forall_mem_cons.mpr ⟨wq7_22, fun _ h => absurd h List.not_mem_nil⟩⟩⟩), wm_wsL_strength⟩) (by decide +kernel)
set_option maxRecDepth 20000 in
theorem hL_L_tired_133 : GoodIn lw_tbl (va_wsS RL 133 yL_tired wsL_tired) := goodIn_sub (List.forall_mem_append.mpr ⟨(List.forall_mem_cons.mpr ⟨wq33_8, List.forall_mem_cons.mpr ⟨wq33_9, List.forall_mem_cons.mpr ⟨wq7_22, fun _ h => absurd h List.not_mem_nil⟩⟩⟩), wm_wsL_tired⟩) (by decide +kernel)
set_option maxRecDepth 20000 in
theorem hL_L_wind_94 : GoodIn lw_tbl (va_wsS RL 94 yL_wind wsL_wind) := goodIn_sub (List.forall_mem_append.mpr ⟨(List.forall_mem_cons.mpr ⟨wq7_20, List.forall_mem_cons.mpr ⟨wq7_21, List.forall_mem_cons.mpr ⟨wq7_22, fun _ h => absurd h List.not_mem_nil⟩⟩⟩), wm_wsL_wind⟩) (by decide +kernel)
set_option maxRecDepth 20000 in
theorem hL_X11_best_193 : GoodIn lw_tbl (wsV RL 193 RX11 yX11_best wsX11_best) := goodIn_sub (List.forall_mem_append.mpr ⟨(List.forall_mem_cons.mpr ⟨wq46_12, List.forall_mem_cons.mpr ⟨wq46_13, List.forall_mem_cons.mpr ⟨wq46_14, List.forall_mem_cons.mpr ⟨wq1_2, fun _ h => absurd h List.not_mem_nil⟩⟩⟩⟩), wm_wsX11_best⟩) (by decide +kernel)
set_option maxRecDepth 20000 in
theorem hL_X11_callAll_120 : GoodIn lw_tbl (wsV RL 120 RX11 yX11_callAll wsX11_callAll) := goodIn_sub (List.forall_mem_append.mpr ⟨(List.forall_mem_cons.mpr ⟨wq31_0, List.forall_mem_cons.mpr ⟨wq31_1, List.forall_mem_cons.mpr ⟨wq31_2, List.forall_mem_cons.mpr ⟨wq1_2, fun _ h => absurd h List.not_mem_nil⟩⟩⟩⟩), wm_wsX11_callAll⟩) (by decide +kernel)
set_option maxRecDepth 20000 in
theorem hL_X11_east_165 : GoodIn lw_tbl (wsV RL 165 RX11 yX11_east wsX11_east) := goodIn_sub (List.forall_mem_append.mpr ⟨(List.forall_mem_cons.mpr ⟨wq42_17, List.forall_mem_cons.mpr ⟨wq42_18, List.forall_mem_cons.mpr ⟨wq42_19, List.forall_mem_cons.mpr ⟨wq1_2, fun _ h => absurd h List.not_mem_nil⟩⟩⟩⟩), wm_wsX11_east⟩) (by decide +kernel)
set_option maxRecDepth 20000 in
theorem hL_X11_free_129 : GoodIn lw_tbl (wsV RL 129 RX11 yX11_free wsX11_free) := goodIn_sub (List.forall_mem_append.mpr ⟨(List.forall_mem_cons.mpr ⟨wq31_18, List.forall_mem_cons.mpr ⟨wq31_19, List.forall_mem_cons.mpr ⟨wq31_20, List.forall_mem_cons.mpr ⟨wq1_2, fun _ h => absurd h List.not_mem_nil⟩⟩⟩⟩), wm_wsX11_free⟩) (by decide +kernel)
set_option maxRecDepth 20000 in
theorem hL_X11_heading_157 : GoodIn lw_tbl (wsV RL 157 RX11 yX11_heading wsX11_heading) := goodIn_sub (List.forall_mem_append.mpr ⟨(List.forall_mem_cons.mpr ⟨wq42_1, List.forall_mem_cons.mpr ⟨wq42_2, List.forall_mem_cons.mpr ⟨wq42_3, List.forall_mem_cons.mpr ⟨wq1_2, fun _ h => absurd h List.not_mem_nil⟩⟩⟩⟩), wm_wsX11_heading⟩) (by decide +kernel)
set_option maxRecDepth 20000 in
theorem hL_X11_init_90 : GoodIn lw_tbl (wsX11_init) := goodIn_sub wm_wsX11_init (by decide +kernel)
set_option maxRecDepth 20000 in
theorem hL_X11_isSame_228 : GoodIn lw_tbl (wsV RL 228 RX11 yX11_isSame wsX11_isSame) := goodIn_sub (List.forall_mem_append.mpr ⟨(List.forall_mem_cons.mpr ⟨wq51_0, List.forall_mem_cons.mpr ⟨wq51_1, List.forall_mem_cons.mpr ⟨wq51_2, List.forall_mem_cons.mpr ⟨wq1_2, fun _ h => absurd h List.not_mem_nil⟩⟩⟩⟩), wm_wsX11_isSame⟩) (by decide +kernel)
set_option maxRecDepth 20000 in
theorem hL_X11_lines_209 : GoodIn lw_tbl (wsV RL 209 RX11 yX11_lines wsX11_lines) := goodIn_sub (List.forall_mem_append.mpr ⟨(List.forall_mem_cons.mpr ⟨wq47_21, List.forall_mem_cons.mpr ⟨wq47_22, List.forall_mem_cons.mpr ⟨wq47_23, List.forall_mem_cons.mpr ⟨wq1_2, fun _ h => absurd h List.not_mem_nil⟩⟩⟩⟩), wm_wsX11_lines⟩) (by decide +kernel)
set_option maxRecDepth 20000 in
theorem hL_X11_minute_153 : GoodIn lw_tbl (wsV RL 153 RX11 yX11_minute wsX11_minute) := goodIn_sub (List.forall_mem_append.mpr ⟨(List.forall_mem_cons.mpr ⟨wq41_17, List.forall_mem_cons.mpr ⟨wq41_18, List.forall_mem_cons.mpr ⟨wq41_19, List.forall_mem_cons.mpr ⟨wq1_2, fun _ h => absurd h List.not_mem_nil⟩⟩⟩⟩), wm_wsX11_minute⟩) (by decide +kernel)
set_option maxRecDepth 20000 in
theorem hL_X11_noon_197 : GoodIn lw_tbl (wsV RL 197 RX11 yX11_noon wsX11_noon) := goodIn_sub (List.forall_mem_append.mpr ⟨(List.forall_mem_cons.mpr ⟨wq46_21, List.forall_mem_cons.mpr ⟨wq46_22, List.forall_mem_cons.mpr ⟨wq46_23, List.forall_mem_cons.mpr ⟨wq1_2, fun _ h => absurd h List.not_mem_nil⟩⟩⟩⟩), wm_wsX11_noon⟩) (by decide +kernel)
set_option maxRecDepth 20000 in
theorem hL_X11_north_170 : GoodIn lw_tbl (wsV RL 170 RX11 yX11_north wsX11_north) := goodIn_sub (List.forall_mem_append.mpr ⟨(List.forall_mem_cons.mpr ⟨wq43_1, List.forall_mem_cons.mpr ⟨wq43_2, List.forall_mem_cons.mpr ⟨wq43_3, List.forall_mem_cons.mpr ⟨wq1_2, fun _ h => absurd h List.not_mem_nil⟩⟩⟩⟩), wm_wsX11_north⟩) (by decide +kernel)
set_option maxRecDepth 20000 in
theorem hL_X11_off_174 : GoodIn lw_tbl (wsV RL 174 RX11 yX11_off wsX11_off) := goodIn_sub (List.forall_mem_append.mpr ⟨(List.forall_mem_cons.mpr ⟨wq43_9, List.forall_mem_cons.mpr ⟨wq43_10, List.forall_mem_cons.mpr ⟨wq43_11, List.forall_mem_cons.mpr ⟨wq1_2, fun _ h => absurd h List.not_mem_nil⟩⟩⟩⟩), wm_wsX11_off⟩) (by decide +kernel)
set_option maxRecDepth 20000 in
theorem hL_X11_reckonedEast_201 : GoodIn lw_tbl (wsV RL 201 RX11 yX11_reckonedEast wsX11_reckonedEast) := goodIn_sub (List.forall_mem_append.mpr ⟨(List.forall_mem_cons.mpr ⟨wq47_5, List.forall_mem_cons.mpr ⟨wq47_6, List.forall_mem_cons.mpr ⟨wq47_7, List.forall_mem_cons.mpr ⟨wq1_2, fun _ h => absurd h List.not_mem_nil⟩⟩⟩⟩), wm_wsX11_reckonedEast⟩) (by decide +kernel)
set_option maxRecDepth 20000 in
theorem hL_X11_reckonedNorth_205 : GoodIn lw_tbl (wsV RL 205 RX11 yX11_reckonedNorth wsX11_reckonedNorth) := goodIn_sub (List.forall_mem_append.mpr ⟨(List.forall_mem_cons.mpr ⟨wq47_13, List.forall_mem_cons.mpr ⟨wq47_14, List.forall_mem_cons.mpr ⟨wq47_15, List.forall_mem_cons.mpr ⟨wq1_2, fun _ h => absurd h List.not_mem_nil⟩⟩⟩⟩), wm_wsX11_reckonedNorth⟩) (by decide +kernel)
set_option maxRecDepth 20000 in
theorem hL_X11_setShare_219 : GoodIn lw_tbl (wsV RL 219 RX11 yX11_setShare wsX11_setShare) := goodIn_sub (List.forall_mem_append.mpr ⟨(List.forall_mem_cons.mpr ⟨wq49_12, List.forall_mem_cons.mpr ⟨wq49_13, List.forall_mem_cons.mpr ⟨wq49_14, List.forall_mem_cons.mpr ⟨wq1_2, fun _ h => absurd h List.not_mem_nil⟩⟩⟩⟩), wm_wsX11_setShare⟩) (by decide +kernel)
set_option maxRecDepth 20000 in
theorem hL_X11_speed_161 : GoodIn lw_tbl (wsV RL 161 RX11 yX11_speed wsX11_speed) := goodIn_sub (List.forall_mem_append.mpr ⟨(List.forall_mem_cons.mpr ⟨wq42_9, List.forall_mem_cons.mpr ⟨wq42_10, List.forall_mem_cons.mpr ⟨wq42_11, List.forall_mem_cons.mpr ⟨wq1_2, fun _ h => absurd h List.not_mem_nil⟩⟩⟩⟩), wm_wsX11_speed⟩) (by decide +kernel)
set_option maxRecDepth 20000 in
theorem hL_X11_watch_125 : GoodIn lw_tbl (wsV RL 125 RX11 yX11_watch wsX11_watch) := goodIn_sub (List.forall_mem_append.mpr ⟨(List.forall_mem_cons.mpr ⟨wq31_9, List.forall_mem_cons.mpr ⟨wq31_10, List.forall_mem_cons.mpr ⟨wq31_11, List.forall_mem_cons.mpr ⟨wq1_2, fun _ h => absurd h List.not_mem_nil⟩⟩⟩⟩), wm_wsX11_watch⟩) (by decide +kernel)
set_option maxRecDepth 20000 in
theorem hL_X15_belay_116 : GoodIn lw_tbl (wsV RL 116 RX15 yX15_belay wsX15_belay) := goodIn_sub (List.forall_mem_append.mpr ⟨(List.forall_mem_cons.mpr ⟨wq29_1, List.forall_mem_cons.mpr ⟨wq29_2, List.forall_mem_cons.mpr ⟨wq29_3, List.forall_mem_cons.mpr ⟨wq1_5, fun _ h => absurd h List.not_mem_nil⟩⟩⟩⟩), wm_wsX15_belay⟩) (by decide +kernel)
set_option maxRecDepth 20000 in
theorem hL_X15_best_196 : GoodIn lw_tbl (wsV RL 196 RX15 yX15_best wsX15_best) := goodIn_sub (List.forall_mem_append.mpr ⟨(List.forall_mem_cons.mpr ⟨wq46_17, List.forall_mem_cons.mpr ⟨wq46_18, List.forall_mem_cons.mpr ⟨wq46_19, List.forall_mem_cons.mpr ⟨wq1_5, fun _ h => absurd h List.not_mem_nil⟩⟩⟩⟩), wm_wsX15_best⟩) (by decide +kernel)
set_option maxRecDepth 20000 in
theorem hL_X15_braced_189 : GoodIn lw_tbl (wsV RL 189 RX15 yX15_braced wsX15_braced) := goodIn_sub (List.forall_mem_append.mpr ⟨(List.forall_mem_cons.mpr ⟨wq45_17, List.forall_mem_cons.mpr ⟨wq45_18, List.forall_mem_cons.mpr ⟨wq45_19, List.forall_mem_cons.mpr ⟨wq1_5, fun _ h => absurd h List.not_mem_nil⟩⟩⟩⟩), wm_wsX15_braced⟩) (by decide +kernel)
set_option maxRecDepth 20000 in
theorem hL_X15_callAll_124 : GoodIn lw_tbl (wsV RL 124 RX15 yX15_callAll wsX15_callAll) := goodIn_sub (List.forall_mem_append.mpr ⟨(List.forall_mem_cons.mpr ⟨wq31_4, List.forall_mem_cons.mpr ⟨wq31_5, List.forall_mem_cons.mpr ⟨wq31_6, List.forall_mem_cons.mpr ⟨wq1_5, fun _ h => absurd h List.not_mem_nil⟩⟩⟩⟩), wm_wsX15_callAll⟩) (by decide +kernel)
set_option maxRecDepth 20000 in
theorem hL_X15_current_105 : GoodIn lw_tbl (wsV RL 105 RX15 yX15_current wsX15_current) := goodIn_sub (List.forall_mem_append.mpr ⟨(List.forall_mem_cons.mpr ⟨wq22_12, List.forall_mem_cons.mpr ⟨wq22_13, List.forall_mem_cons.mpr ⟨wq22_14, List.forall_mem_cons.mpr ⟨wq1_5, fun _ h => absurd h List.not_mem_nil⟩⟩⟩⟩), wm_wsX15_current⟩) (by decide +kernel)
set_option maxRecDepth 20000 in
theorem hL_X15_east_169 : GoodIn lw_tbl (wsV RL 169 RX15 yX15_east wsX15_east) := goodIn_sub (List.forall_mem_append.mpr ⟨(List.forall_mem_cons.mpr ⟨wq42_21, List.forall_mem_cons.mpr ⟨wq42_22, List.forall_mem_cons.mpr ⟨wq42_23, List.forall_mem_cons.mpr ⟨wq1_5, fun _ h => absurd h List.not_mem_nil⟩⟩⟩⟩), wm_wsX15_east⟩) (by decide +kernel)
set_option maxRecDepth 20000 in
theorem hL_X15_force_180 : GoodIn lw_tbl (wsV RL 180 RX15 yX15_force wsX15_force) := goodIn_sub (List.forall_mem_append.mpr ⟨(List.forall_mem_cons.mpr ⟨wq44_3, List.forall_mem_cons.mpr ⟨wq44_4, List.forall_mem_cons.mpr ⟨wq44_5, List.forall_mem_cons.mpr ⟨wq1_5, fun _ h => absurd h List.not_mem_nil⟩⟩⟩⟩), wm_wsX15_force⟩) (by decide +kernel)
set_option maxRecDepth 20000 in
theorem hL_X15_free_132 : GoodIn lw_tbl (wsV RL 132 RX15 yX15_free wsX15_free) := goodIn_sub (List.forall_mem_append.mpr ⟨(List.forall_mem_cons.mpr ⟨wq31_23, List.forall_mem_cons.mpr ⟨wq32_0, List.forall_mem_cons.mpr ⟨wq32_1, List.forall_mem_cons.mpr ⟨wq1_5, fun _ h => absurd h List.not_mem_nil⟩⟩⟩⟩), wm_wsX15_free⟩) (by decide +kernel)
set_option maxRecDepth 20000 in
theorem hL_X15_heading_160 : GoodIn lw_tbl (wsV RL 160 RX15 yX15_heading wsX15_heading) := goodIn_sub (List.forall_mem_append.mpr ⟨(List.forall_mem_cons.mpr ⟨wq42_5, List.forall_mem_cons.mpr ⟨wq42_6, List.forall_mem_cons.mpr ⟨wq42_7, List.forall_mem_cons.mpr ⟨wq1_5, fun _ h => absurd h List.not_mem_nil⟩⟩⟩⟩), wm_wsX15_heading⟩) (by decide +kernel)
set_option maxRecDepth 20000 in
theorem hL_X15_helm_109 : GoodIn lw_tbl (wsV RL 109 RX15 yX15_helm wsX15_helm) := goodIn_sub (List.forall_mem_append.mpr ⟨(List.forall_mem_cons.mpr ⟨wq23_3, List.forall_mem_cons.mpr ⟨wq23_4, List.forall_mem_cons.mpr ⟨wq23_5, List.forall_mem_cons.mpr ⟨wq1_5, fun _ h => absurd h List.not_mem_nil⟩⟩⟩⟩), wm_wsX15_helm⟩) (by decide +kernel)
set_option maxRecDepth 20000 in
theorem hL_X15_init_93 : GoodIn lw_tbl (wsX15_init) := goodIn_sub wm_wsX15_init (by decide +kernel)
set_option maxRecDepth 20000 in
theorem hL_X15_isSame_232 : GoodIn lw_tbl (wsV RL 232 RX15 yX15_isSame wsX15_isSame) := goodIn_sub (List.forall_mem_append.mpr ⟨(List.forall_mem_cons.mpr ⟨wq52_8, List.forall_mem_cons.mpr ⟨wq52_9, List.forall_mem_cons.mpr ⟨wq52_10, List.forall_mem_cons.mpr ⟨wq1_5, fun _ h => absurd h List.not_mem_nil⟩⟩⟩⟩), wm_wsX15_isSame⟩) (by decide +kernel)
set_option maxRecDepth 20000 in
theorem hL_X15_isSprung_192 : GoodIn lw_tbl (wsV RL 192 RX15 yX15_isSprung wsX15_isSprung) := goodIn_sub (List.forall_mem_append.mpr ⟨(List.forall_mem_cons.mpr ⟨wq46_8, List.forall_mem_cons.mpr ⟨wq46_9, List.forall_mem_cons.mpr ⟨wq46_10, List.forall_mem_cons.mpr ⟨wq1_5, fun _ h => absurd h List.not_mem_nil⟩⟩⟩⟩), wm_wsX15_isSprung⟩) (by decide +kernel)
set_option maxRecDepth 20000 in
theorem hL_X15_jettison_149 : GoodIn lw_tbl (wsV RL 149 RX15 yX15_jettison wsX15_jettison) := goodIn_sub (List.forall_mem_append.mpr ⟨(List.forall_mem_cons.mpr ⟨wq36_6, List.forall_mem_cons.mpr ⟨wq36_7, List.forall_mem_cons.mpr ⟨wq36_8, List.forall_mem_cons.mpr ⟨wq1_5, fun _ h => absurd h List.not_mem_nil⟩⟩⟩⟩), wm_wsX15_jettison⟩) (by decide +kernel)
set_option maxRecDepth 20000 in
theorem hL_X15_left_145 : GoodIn lw_tbl (wsV RL 145 RX15 yX15_left wsX15_left) := goodIn_sub (List.forall_mem_append.mpr ⟨(List.forall_mem_cons.mpr ⟨wq35_15, List.forall_mem_cons.mpr ⟨wq35_16, List.forall_mem_cons.mpr ⟨wq35_17, List.forall_mem_cons.mpr ⟨wq1_5, fun _ h => absurd h List.not_mem_nil⟩⟩⟩⟩), wm_wsX15_left⟩) (by decide +kernel)
set_option maxRecDepth 20000 in
theorem hL_X15_lineMinute_218 : GoodIn lw_tbl (wsV RL 218 RX15 yX15_lineMinute wsX15_lineMinute) := goodIn_sub (List.forall_mem_append.mpr ⟨(List.forall_mem_cons.mpr ⟨wq49_8, List.forall_mem_cons.mpr ⟨wq49_9, List.forall_mem_cons.mpr ⟨wq49_10, List.forall_mem_cons.mpr ⟨wq1_5, fun _ h => absurd h List.not_mem_nil⟩⟩⟩⟩), wm_wsX15_lineMinute⟩) (by decide +kernel)
set_option maxRecDepth 20000 in
theorem hL_X15_line_215 : GoodIn lw_tbl (wsV RL 215 RX15 yX15_line wsX15_line) := goodIn_sub (List.forall_mem_append.mpr ⟨(List.forall_mem_cons.mpr ⟨wq48_16, List.forall_mem_cons.mpr ⟨wq48_17, List.forall_mem_cons.mpr ⟨wq48_18, List.forall_mem_cons.mpr ⟨wq1_5, fun _ h => absurd h List.not_mem_nil⟩⟩⟩⟩), wm_wsX15_line⟩) (by decide +kernel)
set_option maxRecDepth 20000 in
theorem hL_X15_lines_212 : GoodIn lw_tbl (wsV RL 212 RX15 yX15_lines wsX15_lines) := goodIn_sub (List.forall_mem_append.mpr ⟨(List.forall_mem_cons.mpr ⟨wq48_1, List.forall_mem_cons.mpr ⟨wq48_2, List.forall_mem_cons.mpr ⟨wq48_3, List.forall_mem_cons.mpr ⟨wq1_5, fun _ h => absurd h List.not_mem_nil⟩⟩⟩⟩), wm_wsX15_lines⟩) (by decide +kernel)
set_option maxRecDepth 20000 in
theorem hL_X15_meanStrength_227 : GoodIn lw_tbl (wsV RL 227 RX15 yX15_meanStrength wsX15_meanStrength) := goodIn_sub (List.forall_mem_append.mpr ⟨(List.forall_mem_cons.mpr ⟨wq50_20, List.forall_mem_cons.mpr ⟨wq50_21, List.forall_mem_cons.mpr ⟨wq50_22, List.forall_mem_cons.mpr ⟨wq1_5, fun _ h => absurd h List.not_mem_nil⟩⟩⟩⟩), wm_wsX15_meanStrength⟩) (by decide +kernel)
set_option maxRecDepth 20000 in
theorem hL_X15_minute_156 : GoodIn lw_tbl (wsV RL 156 RX15 yX15_minute wsX15_minute) := goodIn_sub (List.forall_mem_append.mpr ⟨(List.forall_mem_cons.mpr ⟨wq41_21, List.forall_mem_cons.mpr ⟨wq41_22, List.forall_mem_cons.mpr ⟨wq41_23, List.forall_mem_cons.mpr ⟨wq1_5, fun _ h => absurd h List.not_mem_nil⟩⟩⟩⟩), wm_wsX15_minute⟩) (by decide +kernel)
set_option maxRecDepth 20000 in
theorem hL_X15_noon_200 : GoodIn lw_tbl (wsV RL 200 RX15 yX15_noon wsX15_noon) := goodIn_sub (List.forall_mem_append.mpr ⟨(List.forall_mem_cons.mpr ⟨wq47_1, List.forall_mem_cons.mpr ⟨wq47_2, List.forall_mem_cons.mpr ⟨wq47_3, List.forall_mem_cons.mpr ⟨wq1_5, fun _ h => absurd h List.not_mem_nil⟩⟩⟩⟩), wm_wsX15_noon⟩) (by decide +kernel)
set_option maxRecDepth 20000 in
theorem hL_X15_north_173 : GoodIn lw_tbl (wsV RL 173 RX15 yX15_north wsX15_north) := goodIn_sub (List.forall_mem_append.mpr ⟨(List.forall_mem_cons.mpr ⟨wq43_5, List.forall_mem_cons.mpr ⟨wq43_6, List.forall_mem_cons.mpr ⟨wq43_7, List.forall_mem_cons.mpr ⟨wq1_5, fun _ h => absurd h List.not_mem_nil⟩⟩⟩⟩), wm_wsX15_north⟩) (by decide +kernel)
set_option maxRecDepth 20000 in
theorem hL_X15_off_177 : GoodIn lw_tbl (wsV RL 177 RX15 yX15_off wsX15_off) := goodIn_sub (List.forall_mem_append.mpr ⟨(List.forall_mem_cons.mpr ⟨wq43_14, List.forall_mem_cons.mpr ⟨wq43_15, List.forall_mem_cons.mpr ⟨wq43_16, List.forall_mem_cons.mpr ⟨wq1_5, fun _ h => absurd h List.not_mem_nil⟩⟩⟩⟩), wm_wsX15_off⟩) (by decide +kernel)
set_option maxRecDepth 20000 in
theorem hL_X15_order_113 : GoodIn lw_tbl (wsV RL 113 RX15 yX15_order wsX15_order) := goodIn_sub (List.forall_mem_append.mpr ⟨(List.forall_mem_cons.mpr ⟨wq23_23, List.forall_mem_cons.mpr ⟨wq24_0, List.forall_mem_cons.mpr ⟨wq24_1, List.forall_mem_cons.mpr ⟨wq1_5, fun _ h => absurd h List.not_mem_nil⟩⟩⟩⟩), wm_wsX15_order⟩) (by decide +kernel)
set_option maxRecDepth 20000 in
theorem hL_X15_reckonedEast_204 : GoodIn lw_tbl (wsV RL 204 RX15 yX15_reckonedEast wsX15_reckonedEast) := goodIn_sub (List.forall_mem_append.mpr ⟨(List.forall_mem_cons.mpr ⟨wq47_9, List.forall_mem_cons.mpr ⟨wq47_10, List.forall_mem_cons.mpr ⟨wq47_11, List.forall_mem_cons.mpr ⟨wq1_5, fun _ h => absurd h List.not_mem_nil⟩⟩⟩⟩), wm_wsX15_reckonedEast⟩) (by decide +kernel)
set_option maxRecDepth 20000 in
theorem hL_X15_reckonedNorth_208 : GoodIn lw_tbl (wsV RL 208 RX15 yX15_reckonedNorth wsX15_reckonedNorth) := goodIn_sub (List.forall_mem_append.mpr ⟨(List.forall_mem_cons.mpr ⟨wq47_17, List.forall_mem_cons.mpr ⟨wq47_18, List.forall_mem_cons.mpr ⟨wq47_19, List.forall_mem_cons.mpr ⟨wq1_5, fun _ h => absurd h List.not_mem_nil⟩⟩⟩⟩), wm_wsX15_reckonedNorth⟩) (by decide +kernel)
set_option maxRecDepth 20000 in
theorem hL_X15_sail_152 : GoodIn lw_tbl (wsV RL 152 RX15 yX15_sail wsX15_sail) := goodIn_sub (List.forall_mem_append.mpr ⟨(List.forall_mem_cons.mpr ⟨wq37_6, List.forall_mem_cons.mpr ⟨wq37_7, List.forall_mem_cons.mpr ⟨wq37_8, List.forall_mem_cons.mpr ⟨wq1_5, fun _ h => absurd h List.not_mem_nil⟩⟩⟩⟩), wm_wsX15_sail⟩) (by decide +kernel)
set_option maxRecDepth 20000 in
theorem hL_X15_setShare_223 : GoodIn lw_tbl (wsV RL 223 RX15 yX15_setShare wsX15_setShare) := goodIn_sub (List.forall_mem_append.mpr ⟨(List.forall_mem_cons.mpr ⟨wq49_21, List.forall_mem_cons.mpr ⟨wq49_22, List.forall_mem_cons.mpr ⟨wq49_23, List.forall_mem_cons.mpr ⟨wq1_5, fun _ h => absurd h List.not_mem_nil⟩⟩⟩⟩), wm_wsX15_setShare⟩) (by decide +kernel)
set_option maxRecDepth 20000 in
theorem hL_X15_sick_138 : GoodIn lw_tbl (wsV RL 138 RX15 yX15_sick wsX15_sick) := goodIn_sub (List.forall_mem_append.mpr ⟨(List.forall_mem_cons.mpr ⟨wq34_3, List.forall_mem_cons.mpr ⟨wq34_4, List.forall_mem_cons.mpr ⟨wq34_5, List.forall_mem_cons.mpr ⟨wq1_5, fun _ h => absurd h List.not_mem_nil⟩⟩⟩⟩), wm_wsX15_sick⟩) (by decide +kernel)
set_option maxRecDepth 20000 in
theorem hL_X15_speed_164 : GoodIn lw_tbl (wsV RL 164 RX15 yX15_speed wsX15_speed) := goodIn_sub (List.forall_mem_append.mpr ⟨(List.forall_mem_cons.mpr ⟨wq42_13, List.forall_mem_cons.mpr ⟨wq42_14, List.forall_mem_cons.mpr ⟨wq42_15, List.forall_mem_cons.mpr ⟨wq1_5, fun _ h => absurd h List.not_mem_nil⟩⟩⟩⟩), wm_wsX15_speed⟩) (by decide +kernel)
set_option maxRecDepth 20000 in
theorem hL_X15_spread_183 : GoodIn lw_tbl (wsV RL 183 RX15 yX15_spread wsX15_spread) := goodIn_sub (List.forall_mem_append.mpr ⟨(List.forall_mem_cons.mpr ⟨wq44_18, List.forall_mem_cons.mpr ⟨wq44_19, List.forall_mem_cons.mpr ⟨wq44_20, List.forall_mem_cons.mpr ⟨wq1_5, fun _ h => absurd h List.not_mem_nil⟩⟩⟩⟩), wm_wsX15_spread⟩) (by decide +kernel)
set_option maxRecDepth 20000 in
theorem hL_X15_state_119 : GoodIn lw_tbl (wsV RL 119 RX15 yX15_state wsX15_state) := goodIn_sub (List.forall_mem_append.mpr ⟨(List.forall_mem_cons.mpr ⟨wq30_20, List.forall_mem_cons.mpr ⟨wq30_21, List.forall_mem_cons.mpr ⟨wq30_22, List.forall_mem_cons.mpr ⟨wq1_5, fun _ h => absurd h List.not_mem_nil⟩⟩⟩⟩), wm_wsX15_state⟩) (by decide +kernel)
set_option maxRecDepth 20000 in
theorem hL_X15_stow_142 : GoodIn lw_tbl (wsV RL 142 RX15 yX15_stow wsX15_stow) := goodIn_sub (List.forall_mem_append.mpr ⟨(List.forall_mem_cons.mpr ⟨wq34_14, List.forall_mem_cons.mpr ⟨wq34_15, List.forall_mem_cons.mpr ⟨wq34_16, List.forall_mem_cons.mpr ⟨wq1_5, fun _ h => absurd h List.not_mem_nil⟩⟩⟩⟩), wm_wsX15_stow⟩) (by decide +kernel)
set_option maxRecDepth 20000 in
theorem hL_X15_strength_186 : GoodIn lw_tbl (wsV RL 186 RX15 yX15_strength wsX15_strength) := goodIn_sub (List.forall_mem_append.mpr ⟨(List.forall_mem_cons.mpr ⟨wq45_5, List.forall_mem_cons.mpr ⟨wq45_6, List.forall_mem_cons.mpr ⟨wq45_7, List.forall_mem_cons.mpr ⟨wq1_5, fun _ h => absurd h List.not_mem_nil⟩⟩⟩⟩), wm_wsX15_strength⟩) (by decide +kernel)
set_option maxRecDepth 20000 in
theorem hL_X15_thrown_100 : GoodIn lw_tbl (wsV RL 100 RX15 yX15_thrown wsX15_thrown) := goodIn_sub (List.forall_mem_append.mpr ⟨(List.forall_mem_cons.mpr ⟨wq22_1, List.forall_mem_cons.mpr ⟨wq22_2, List.forall_mem_cons.mpr ⟨wq22_3, List.forall_mem_cons.mpr ⟨wq1_5, fun _ h => absurd h List.not_mem_nil⟩⟩⟩⟩), wm_wsX15_thrown⟩) (by decide +kernel)
set_option maxRecDepth 20000 in
theorem hL_X15_tired_135 : GoodIn lw_tbl (wsV RL 135 RX15 yX15_tired wsX15_tired) := goodIn_sub (List.forall_mem_append.mpr ⟨(List.forall_mem_cons.mpr ⟨wq33_16, List.forall_mem_cons.mpr ⟨wq33_17, List.forall_mem_cons.mpr ⟨wq33_18, List.forall_mem_cons.mpr ⟨wq1_5, fun _ h => absurd h List.not_mem_nil⟩⟩⟩⟩), wm_wsX15_tired⟩) (by decide +kernel)
set_option maxRecDepth 20000 in
theorem hL_X15_watch_128 : GoodIn lw_tbl (wsV RL 128 RX15 yX15_watch wsX15_watch) := goodIn_sub (List.forall_mem_append.mpr ⟨(List.forall_mem_cons.mpr ⟨wq31_13, List.forall_mem_cons.mpr ⟨wq31_14, List.forall_mem_cons.mpr ⟨wq31_15, List.forall_mem_cons.mpr ⟨wq1_5, fun _ h => absurd h List.not_mem_nil⟩⟩⟩⟩), wm_wsX15_watch⟩) (by decide +kernel)
set_option maxRecDepth 20000 in
theorem hL_X15_wind_99 : GoodIn lw_tbl (wsV RL 99 RX15 yX15_wind wsX15_wind) := goodIn_sub (List.forall_mem_append.mpr ⟨(List.forall_mem_cons.mpr ⟨wq21_13, List.forall_mem_cons.mpr ⟨wq21_14, List.forall_mem_cons.mpr ⟨wq21_15, List.forall_mem_cons.mpr ⟨wq1_5, fun _ h => absurd h List.not_mem_nil⟩⟩⟩⟩), wm_wsX15_wind⟩) (by decide +kernel)
