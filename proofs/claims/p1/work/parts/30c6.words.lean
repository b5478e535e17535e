set_option maxRecDepth 20000 in
theorem ggL_law_X15_order : GoodIn wsL_law wsX15_order := goodIn_r _ [554, 555, 556, 557, 558, 155, 499, 559, 560, 561, 562, 563, 564, 565, 566, 567, 568, 569, 570, 571, 572, 573, 574, 575, 576, 577, 578, 579, 580, 581, 582, 583, 584, 585, 586, 587, 588, 589, 590, 591, 217, 218, 219, 592, 244, 245, 593, 594, 595, 596, 597, 598, 599, 600, 601, 602, 603, 604, 605, 606, 607, 608, 609, 610, 611, 612, 613, 614, 615, 616, 617, 618, 619, 620, 305, 621, 622, 623, 624, 625, 626, 627, 628, 629, 630, 631, 632, 633, 634, 635, 636, 637, 638, 639, 640, 641, 642, 643, 644, 645, 502, 503, 5, 504, 646, 647, 194, 20, 196, 197, 648, 649, 650, 651, 12, 13, 652, 653, 654, 655, 656, 657, 658, 199, 201, 202, 203, 115, 204, 205, 206, 207, 208, 209, 210, 211, 212, 213, 214, 215, 114, 216, 220, 221, 222, 223, 224, 225, 226, 227, 228, 229, 230, 231, 232, 233, 234, 235, 236, 237, 238, 239, 240, 241, 242, 243, 246, 247, 248, 249, 1240, 1241, 1242, 1243, 1244, 1245, 1246, 1247, 1248, 1249, 1250, 1251, 1252, 1253, 1254, 1255, 1256, 1257, 1258, 1259, 1260, 1261, 1262, 1263, 1264, 1265, 1266, 1267, 1334, 1335, 1336, 1337, 1338, 1339, 1340, 1341, 1285, 1286, 1287] (by decide +kernel) (by decide +kernel)
set_option maxRecDepth 20000 in
theorem gL_law_X15_order : GoodIn wsL_law (wsV RL 113 RX15 yX15_order wsX15_order) := goodIn_app (goodIn_of _ (by decide +kernel)) ggL_law_X15_order
set_option maxRecDepth 20000 in
theorem ggL_law_X15_minute : GoodIn wsL_law wsX15_minute := goodIn_r _ [984, 499, 562, 1240, 1241, 1242, 1243, 1244, 1245, 1246, 1247, 1248, 1249, 1250, 1251, 1252, 1253, 1254, 1255, 1256, 1257, 1258, 1259, 1260, 1261, 1262, 1263, 1264, 1265, 1266, 1267] (by decide +kernel) (by decide +kernel)
set_option maxRecDepth 20000 in
theorem gL_law_X15_minute : GoodIn wsL_law (wsV RL 156 RX15 yX15_minute wsX15_minute) := goodIn_app (goodIn_of _ (by decide +kernel)) ggL_law_X15_minute
set_option maxRecDepth 20000 in
theorem ggL_law_X15_north : GoodIn wsL_law wsX15_north := goodIn_r _ [1016, 499, 957, 1240, 1241, 1242, 1243, 1244, 1245, 1246, 1247, 1248, 1249, 1250, 1251, 1252, 1253, 1254, 1255, 1256, 1257, 1258, 1259, 1260, 1261, 1262, 1263, 1264, 1265, 1266, 1267] (by decide +kernel) (by decide +kernel)
set_option maxRecDepth 20000 in
theorem gL_law_X15_north : GoodIn wsL_law (wsV RL 173 RX15 yX15_north wsX15_north) := goodIn_app (goodIn_of _ (by decide +kernel)) ggL_law_X15_north
set_option maxRecDepth 20000 in
theorem ggL_law_X15_off : GoodIn wsL_law wsX15_off := goodIn_r _ [1025, 499, 937, 938, 939, 5, 940, 924, 925, 926, 927, 501, 928, 929, 360, 361, 362, 919, 920, 921, 922, 923, 244, 218, 245, 1240, 1241, 1242, 1243, 1244, 1245, 1246, 1247, 1248, 1249, 1250, 1251, 1252, 1253, 1254, 1255, 1256, 1257, 1258, 1259, 1260, 1261, 1262, 1263, 1264, 1265, 1266, 1267] (by decide +kernel) (by decide +kernel)
set_option maxRecDepth 20000 in
theorem gL_law_X15_off : GoodIn wsL_law (wsV RL 177 RX15 yX15_off wsX15_off) := goodIn_app (goodIn_of _ (by decide +kernel)) ggL_law_X15_off
set_option maxRecDepth 20000 in
theorem ggL_law_X15_noon : GoodIn wsL_law wsX15_noon := goodIn_r _ [1108, 499, 957, 971, 1240, 1241, 1242, 1243, 1244, 1245, 1246, 1247, 1248, 1249, 1250, 1251, 1252, 1253, 1254, 1255, 1256, 1257, 1258, 1259, 1260, 1261, 1262, 1263, 1264, 1265, 1266, 1267] (by decide +kernel) (by decide +kernel)
set_option maxRecDepth 20000 in
theorem gL_law_X15_noon : GoodIn wsL_law (wsV RL 200 RX15 yX15_noon wsX15_noon) := goodIn_app (goodIn_of _ (by decide +kernel)) ggL_law_X15_noon
set_option maxRecDepth 20000 in
theorem ggL_law_X15_reckonedEast : GoodIn wsL_law wsX15_reckonedEast := goodIn_r _ [1116, 499, 972, 1240, 1241, 1242, 1243, 1244, 1245, 1246, 1247, 1248, 1249, 1250, 1251, 1252, 1253, 1254, 1255, 1256, 1257, 1258, 1259, 1260, 1261, 1262, 1263, 1264, 1265, 1266, 1267] (by decide +kernel) (by decide +kernel)
set_option maxRecDepth 20000 in
theorem gL_law_X15_reckonedEast : GoodIn wsL_law (wsV RL 204 RX15 yX15_reckonedEast wsX15_reckonedEast) := goodIn_app (goodIn_of _ (by decide +kernel)) ggL_law_X15_reckonedEast
set_option maxRecDepth 20000 in
theorem ggL_law_X15_reckonedNorth : GoodIn wsL_law wsX15_reckonedNorth := goodIn_r _ [1124, 499, 971, 1240, 1241, 1242, 1243, 1244, 1245, 1246, 1247, 1248, 1249, 1250, 1251, 1252, 1253, 1254, 1255, 1256, 1257, 1258, 1259, 1260, 1261, 1262, 1263, 1264, 1265, 1266, 1267] (by decide +kernel) (by decide +kernel)
set_option maxRecDepth 20000 in
theorem gL_law_X15_reckonedNorth : GoodIn wsL_law (wsV RL 208 RX15 yX15_reckonedNorth wsX15_reckonedNorth) := goodIn_app (goodIn_of _ (by decide +kernel)) ggL_law_X15_reckonedNorth
set_option maxRecDepth 20000 in
theorem ggL_law_X15_lines : GoodIn wsL_law wsX15_lines := goodIn_r _ [1132, 499, 157, 646, 647, 194, 20, 196, 197, 1240, 1241, 1242, 1243, 1244, 1245, 1246, 1247, 1248, 1249, 1250, 1251, 1252, 1253, 1254, 1255, 1256, 1257, 1258, 1259, 1260, 1261, 1262, 1263, 1264, 1265, 1266, 1267, 1285, 1286, 1287] (by decide +kernel) (by decide +kernel)
set_option maxRecDepth 20000 in
theorem gL_law_X15_lines : GoodIn wsL_law (wsV RL 212 RX15 yX15_lines wsX15_lines) := goodIn_app (goodIn_of _ (by decide +kernel)) ggL_law_X15_lines
set_option maxRecDepth 20000 in
theorem ggL_law_X15_meanStrength : GoodIn wsL_law wsX15_meanStrength := goodIn_ca (goodIn_r _ [1199, 160, 159, 499, 1240, 1241, 1242, 1243, 1244, 1245, 1246, 1247, 1248, 1249, 1250, 1251, 1252, 1253, 1254, 1255, 1256, 1257, 1258, 1259, 1260, 1261, 1262, 1263, 1264, 1265, 1266, 1267] (by decide +kernel) (by decide +kernel)) (goodIn_sub (fun _ h => List.mem_append_left _ (List.mem_append_left _ (List.mem_append_left _ (List.mem_append_left _ (List.mem_append_left _ (List.mem_append_left _ (List.mem_append_left _ (List.mem_append_right _ h)))))))) (by decide +kernel))
set_option maxRecDepth 20000 in
theorem gL_law_X15_meanStrength : GoodIn wsL_law (wsV RL 227 RX15 yX15_meanStrength wsX15_meanStrength) := goodIn_app (goodIn_of _ (by decide +kernel)) ggL_law_X15_meanStrength
set_option maxRecDepth 20000 in
theorem hL_X15_lines_212 : GoodIn lw_tbl (wsV RL 212 RX15 yX15_lines wsX15_lines) := wl_good gL_law_X15_lines (by decide +kernel)
set_option maxRecDepth 20000 in
theorem hL_X15_meanStrength_227 : GoodIn lw_tbl (wsV RL 227 RX15 yX15_meanStrength wsX15_meanStrength) := wl_good gL_law_X15_meanStrength (by decide +kernel)
set_option maxRecDepth 20000 in
theorem hL_X15_minute_156 : GoodIn lw_tbl (wsV RL 156 RX15 yX15_minute wsX15_minute) := wl_good gL_law_X15_minute (by decide +kernel)
set_option maxRecDepth 20000 in
theorem hL_X15_noon_200 : GoodIn lw_tbl (wsV RL 200 RX15 yX15_noon wsX15_noon) := wl_good gL_law_X15_noon (by decide +kernel)
set_option maxRecDepth 20000 in
theorem hL_X15_north_173 : GoodIn lw_tbl (wsV RL 173 RX15 yX15_north wsX15_north) := wl_good gL_law_X15_north (by decide +kernel)
set_option maxRecDepth 20000 in
theorem hL_X15_off_177 : GoodIn lw_tbl (wsV RL 177 RX15 yX15_off wsX15_off) := wl_good gL_law_X15_off (by decide +kernel)
set_option maxRecDepth 20000 in
theorem hL_X15_order_113 : GoodIn lw_tbl (wsV RL 113 RX15 yX15_order wsX15_order) := wl_good gL_law_X15_order (by decide +kernel)
set_option maxRecDepth 20000 in
theorem hL_X15_reckonedEast_204 : GoodIn lw_tbl (wsV RL 204 RX15 yX15_reckonedEast wsX15_reckonedEast) := wl_good gL_law_X15_reckonedEast (by decide +kernel)
set_option maxRecDepth 20000 in
theorem hL_X15_reckonedNorth_208 : GoodIn lw_tbl (wsV RL 208 RX15 yX15_reckonedNorth wsX15_reckonedNorth) := wl_good gL_law_X15_reckonedNorth (by decide +kernel)
