set_option maxRecDepth 20000 in
theorem ggL_law_X15_wind : GoodIn wsL_law wsX15_wind := goodIn_r _ [496, 497, 498, 499, 500, 501, 502, 503, 5, 504, 1240, 1241, 1242, 1243, 1244, 1245, 1246, 1247, 1248, 1249, 1250, 1251, 1252, 1253, 1254, 1255, 1256, 1257, 1258, 1259, 1260, 1261, 1262, 1263, 1264, 1265, 1266, 1267] (by decide +kernel) (by decide +kernel)
set_option maxRecDepth 20000 in
theorem gL_law_X15_wind : GoodIn wsL_law (wsV RL 99 RX15 yX15_wind wsX15_wind) := goodIn_app (goodIn_of _ (by decide +kernel)) ggL_law_X15_wind
set_option maxRecDepth 20000 in
theorem ggL_law_X15_watch : GoodIn wsL_law wsX15_watch := goodIn_r _ [736, 499, 737, 1240, 1241, 1242, 1243, 1244, 1245, 1246, 1247, 1248, 1249, 1250, 1251, 1252, 1253, 1254, 1255, 1256, 1257, 1258, 1259, 1260, 1261, 1262, 1263, 1264, 1265, 1266, 1267] (by decide +kernel) (by decide +kernel)
set_option maxRecDepth 20000 in
theorem gL_law_X15_watch : GoodIn wsL_law (wsV RL 128 RX15 yX15_watch wsX15_watch) := goodIn_app (goodIn_of _ (by decide +kernel)) ggL_law_X15_watch
set_option maxRecDepth 20000 in
theorem ggL_law_X15_tired : GoodIn wsL_law wsX15_tired := goodIn_ca (goodIn_r _ [787, 499, 152, 502, 503, 5, 504, 1240, 1241, 1242, 1243, 1244, 1245, 1246, 1247, 1248, 1249, 1250, 1251, 1252, 1253, 1254, 1255, 1256, 1257, 1258, 1259, 1260, 1261, 1262, 1263, 1264, 1265, 1266, 1267] (by decide +kernel) (by decide +kernel)) (goodIn_sub (fun _ h => List.mem_append_left _ (List.mem_append_left _ (List.mem_append_left _ (List.mem_append_left _ (List.mem_append_left _ (List.mem_append_left _ (List.mem_append_left _ (List.mem_append_right _ h)))))))) (by decide +kernel))
set_option maxRecDepth 20000 in
theorem gL_law_X15_tired : GoodIn wsL_law (wsV RL 135 RX15 yX15_tired wsX15_tired) := goodIn_app (goodIn_of _ (by decide +kernel)) ggL_law_X15_tired
set_option maxRecDepth 20000 in
theorem hL_X15_tired_135 : GoodIn lw_tbl (wsV RL 135 RX15 yX15_tired wsX15_tired) := wl_good gL_law_X15_tired (by decide +kernel)
set_option maxRecDepth 20000 in
theorem hL_X15_watch_128 : GoodIn lw_tbl (wsV RL 128 RX15 yX15_watch wsX15_watch) := wl_good gL_law_X15_watch (by decide +kernel)
set_option maxRecDepth 20000 in
theorem hL_X15_wind_99 : GoodIn lw_tbl (wsV RL 99 RX15 yX15_wind wsX15_wind) := wl_good gL_law_X15_wind (by decide +kernel)
