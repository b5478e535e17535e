set_option maxRecDepth 20000 in
theorem ggL_law_X15_init : GoodIn wsL_law wsX15_init := goodIn_ca (goodIn_r _ [150, 151, 12, 13, 129, 152, 153, 154, 19, 20, 155, 156, 157, 158, 159, 131, 160, 161, 162, 163, 112, 113, 114, 115, 116, 117, 118, 119, 120, 121, 122, 123, 124, 125, 1240, 1241, 1242, 1243, 1244, 1245, 1246, 1247, 1248, 1249, 1250, 1251, 1252, 1253, 1254, 1255, 1256, 1257, 1258, 1259, 1260, 1261, 1262, 1263, 1264, 1265, 1266, 1267, 1285, 1286, 1287] (by decide +kernel) (by decide +kernel)) (goodIn_sub (fun _ h => List.mem_append_left _ (List.mem_append_left _ (List.mem_append_left _ (List.mem_append_left _ (List.mem_append_left _ (List.mem_append_left _ (List.mem_append_left _ (List.mem_append_right _ h)))))))) (by decide +kernel))
set_option maxRecDepth 20000 in
theorem gL_law_X15_init : GoodIn wsL_law (wsX15_init) := ggL_law_X15_init
set_option maxRecDepth 20000 in
theorem ggL_law_X15_helm : GoodIn wsL_law wsX15_helm := goodIn_r _ [534, 535, 536, 499, 537, 502, 503, 5, 504, 1240, 1241, 1242, 1243, 1244, 1245, 1246, 1247, 1248, 1249, 1250, 1251, 1252, 1253, 1254, 1255, 1256, 1257, 1258, 1259, 1260, 1261, 1262, 1263, 1264, 1265, 1266, 1267] (by decide +kernel) (by decide +kernel)
set_option maxRecDepth 20000 in
theorem gL_law_X15_helm : GoodIn wsL_law (wsV RL 109 RX15 yX15_helm wsX15_helm) := goodIn_app (goodIn_of _ (by decide +kernel)) ggL_law_X15_helm
set_option maxRecDepth 20000 in
theorem ggL_law_X15_left : GoodIn wsL_law wsX15_left := goodIn_r _ [834, 156, 499, 835, 646, 647, 194, 20, 196, 197, 502, 503, 5, 504, 678, 679, 296, 298, 299, 300, 301, 302, 303, 304, 305, 306, 307, 308, 309, 310, 115, 1240, 1241, 1242, 1243, 1244, 1245, 1246, 1247, 1248, 1249, 1250, 1251, 1252, 1253, 1254, 1255, 1256, 1257, 1258, 1259, 1260, 1261, 1262, 1263, 1264, 1265, 1266, 1267, 1346, 1347, 1285, 1286, 1287] (by decide +kernel) (by decide +kernel)
set_option maxRecDepth 20000 in
theorem gL_law_X15_left : GoodIn wsL_law (wsV RL 145 RX15 yX15_left wsX15_left) := goodIn_app (goodIn_of _ (by decide +kernel)) ggL_law_X15_left
set_option maxRecDepth 20000 in
theorem ggL_law_X15_jettison : GoodIn wsL_law wsX15_jettison := goodIn_r _ [849, 156, 499, 835, 850, 851, 852, 20, 853, 197, 646, 647, 194, 196, 854, 855, 856, 857, 115, 299, 300, 301, 302, 303, 304, 305, 306, 858, 859, 860, 861, 202, 203, 862, 247, 248, 249, 1240, 1241, 1242, 1243, 1244, 1245, 1246, 1247, 1248, 1249, 1250, 1251, 1252, 1253, 1254, 1255, 1256, 1257, 1258, 1259, 1260, 1261, 1262, 1263, 1264, 1265, 1266, 1267, 1346, 1347, 1285, 1286, 1287] (by decide +kernel) (by decide +kernel)
set_option maxRecDepth 20000 in
theorem gL_law_X15_jettison : GoodIn wsL_law (wsV RL 149 RX15 yX15_jettison wsX15_jettison) := goodIn_app (goodIn_of _ (by decide +kernel)) ggL_law_X15_jettison
set_option maxRecDepth 20000 in
theorem ggL_law_X15_heading : GoodIn wsL_law wsX15_heading := goodIn_r _ [992, 499, 928, 1240, 1241, 1242, 1243, 1244, 1245, 1246, 1247, 1248, 1249, 1250, 1251, 1252, 1253, 1254, 1255, 1256, 1257, 1258, 1259, 1260, 1261, 1262, 1263, 1264, 1265, 1266, 1267] (by decide +kernel) (by decide +kernel)
set_option maxRecDepth 20000 in
theorem gL_law_X15_heading : GoodIn wsL_law (wsV RL 160 RX15 yX15_heading wsX15_heading) := goodIn_app (goodIn_of _ (by decide +kernel)) ggL_law_X15_heading
set_option maxRecDepth 20000 in
theorem ggL_law_X15_isSprung : GoodIn wsL_law wsX15_isSprung := goodIn_ca (goodIn_r _ [1091, 162, 1077, 1078, 1079, 5, 1080, 556, 499, 502, 503, 504, 1240, 1241, 1242, 1243, 1244, 1245, 1246, 1247, 1248, 1249, 1250, 1251, 1252, 1253, 1254, 1255, 1256, 1257, 1258, 1259, 1260, 1261, 1262, 1263, 1264, 1265, 1266, 1267] (by decide +kernel) (by decide +kernel)) (goodIn_sub (fun _ h => List.mem_append_left _ (List.mem_append_left _ (List.mem_append_left _ (List.mem_append_left _ (List.mem_append_left _ (List.mem_append_left _ (List.mem_append_left _ (List.mem_append_right _ h)))))))) (by decide +kernel))
set_option maxRecDepth 20000 in
theorem gL_law_X15_isSprung : GoodIn wsL_law (wsV RL 192 RX15 yX15_isSprung wsX15_isSprung) := goodIn_app (goodIn_of _ (by decide +kernel)) ggL_law_X15_isSprung
set_option maxRecDepth 20000 in
theorem ggL_law_X15_line : GoodIn wsL_law wsX15_line := goodIn_r _ [1147, 157, 499, 1148, 646, 647, 194, 20, 196, 197, 502, 503, 5, 504, 678, 679, 296, 298, 299, 300, 301, 302, 303, 304, 305, 306, 307, 308, 309, 310, 115, 1240, 1241, 1242, 1243, 1244, 1245, 1246, 1247, 1248, 1249, 1250, 1251, 1252, 1253, 1254, 1255, 1256, 1257, 1258, 1259, 1260, 1261, 1262, 1263, 1264, 1265, 1266, 1267, 1348, 1349, 1285, 1286, 1287] (by decide +kernel) (by decide +kernel)
set_option maxRecDepth 20000 in
theorem gL_law_X15_line : GoodIn wsL_law (wsV RL 215 RX15 yX15_line wsX15_line) := goodIn_app (goodIn_of _ (by decide +kernel)) ggL_law_X15_line
set_option maxRecDepth 20000 in
theorem ggL_law_X15_lineMinute : GoodIn wsL_law wsX15_lineMinute := goodIn_r _ [1163, 157, 499, 1148, 646, 647, 194, 20, 196, 197, 502, 503, 5, 504, 678, 679, 296, 298, 299, 300, 301, 302, 303, 304, 305, 306, 307, 308, 309, 310, 115, 1240, 1241, 1242, 1243, 1244, 1245, 1246, 1247, 1248, 1249, 1250, 1251, 1252, 1253, 1254, 1255, 1256, 1257, 1258, 1259, 1260, 1261, 1262, 1263, 1264, 1265, 1266, 1267, 1348, 1349, 1285, 1286, 1287] (by decide +kernel) (by decide +kernel)
set_option maxRecDepth 20000 in
theorem gL_law_X15_lineMinute : GoodIn wsL_law (wsV RL 218 RX15 yX15_lineMinute wsX15_lineMinute) := goodIn_app (goodIn_of _ (by decide +kernel)) ggL_law_X15_lineMinute
set_option maxRecDepth 20000 in
theorem ggL_law_X15_isSame : GoodIn wsL_law wsX15_isSame := goodIn_r _ [1235, 499, 1240, 1241, 1242, 1243, 1244, 1245, 1246, 1247, 1248, 1249, 1250, 1251, 1252, 1253, 1254, 1255, 1256, 1257, 1258, 1259, 1260, 1261, 1262, 1263, 1264, 1265, 1266, 1267] (by decide +kernel) (by decide +kernel)
set_option maxRecDepth 20000 in
theorem gL_law_X15_isSame : GoodIn wsL_law (wsV RL 232 RX15 yX15_isSame wsX15_isSame) := goodIn_app (goodIn_of _ (by decide +kernel)) ggL_law_X15_isSame
set_option maxRecDepth 20000 in
theorem hL_X15_heading_160 : GoodIn lw_tbl (wsV RL 160 RX15 yX15_heading wsX15_heading) := wl_good gL_law_X15_heading (by decide +kernel)
set_option maxRecDepth 20000 in
theorem hL_X15_helm_109 : GoodIn lw_tbl (wsV RL 109 RX15 yX15_helm wsX15_helm) := wl_good gL_law_X15_helm (by decide +kernel)
set_option maxRecDepth 20000 in
theorem hL_X15_init_93 : GoodIn lw_tbl (wsX15_init) := wl_good gL_law_X15_init (by decide +kernel)
set_option maxRecDepth 20000 in
theorem hL_X15_isSame_232 : GoodIn lw_tbl (wsV RL 232 RX15 yX15_isSame wsX15_isSame) := wl_good gL_law_X15_isSame (by decide +kernel)
set_option maxRecDepth 20000 in
theorem hL_X15_isSprung_192 : GoodIn lw_tbl (wsV RL 192 RX15 yX15_isSprung wsX15_isSprung) := wl_good gL_law_X15_isSprung (by decide +kernel)
set_option maxRecDepth 20000 in
theorem hL_X15_jettison_149 : GoodIn lw_tbl (wsV RL 149 RX15 yX15_jettison wsX15_jettison) := wl_good gL_law_X15_jettison (by decide +kernel)
set_option maxRecDepth 20000 in
theorem hL_X15_left_145 : GoodIn lw_tbl (wsV RL 145 RX15 yX15_left wsX15_left) := wl_good gL_law_X15_left (by decide +kernel)
set_option maxRecDepth 20000 in
theorem hL_X15_lineMinute_218 : GoodIn lw_tbl (wsV RL 218 RX15 yX15_lineMinute wsX15_lineMinute) := wl_good gL_law_X15_lineMinute (by decide +kernel)
set_option maxRecDepth 20000 in
theorem hL_X15_line_215 : GoodIn lw_tbl (wsV RL 215 RX15 yX15_line wsX15_line) := wl_good gL_law_X15_line (by decide +kernel)
