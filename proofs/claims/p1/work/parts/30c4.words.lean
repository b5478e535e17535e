set_option maxRecDepth 20000 in
theorem ggL_law_X15_current : GoodIn wsL_law wsX15_current := goodIn_r _ [519, 520, 521, 499, 522, 523, 502, 503, 5, 504, 1240, 1241, 1242, 1243, 1244, 1245, 1246, 1247, 1248, 1249, 1250, 1251, 1252, 1253, 1254, 1255, 1256, 1257, 1258, 1259, 1260, 1261, 1262, 1263, 1264, 1265, 1266, 1267] (by decide +kernel) (by decide +kernel)
set_option maxRecDepth 20000 in
theorem gL_law_X15_current : GoodIn wsL_law (wsV RL 105 RX15 yX15_current wsX15_current) := goodIn_app (goodIn_of _ (by decide +kernel)) ggL_law_X15_current
set_option maxRecDepth 20000 in
theorem ggL_law_X15_belay : GoodIn wsL_law wsX15_belay := goodIn_r _ [676, 155, 677, 499, 646, 647, 194, 20, 196, 197, 502, 503, 5, 504, 678, 679, 296, 298, 299, 300, 301, 302, 303, 304, 305, 306, 307, 308, 309, 310, 115, 680, 681, 682, 683, 684, 685, 686, 687, 688, 689, 690, 691, 12, 13, 692, 693, 203, 694, 695, 696, 697, 698, 699, 700, 701, 702, 703, 704, 705, 706, 707, 708, 1240, 1241, 1242, 1243, 1244, 1245, 1246, 1247, 1248, 1249, 1250, 1251, 1252, 1253, 1254, 1255, 1256, 1257, 1258, 1259, 1260, 1261, 1262, 1263, 1264, 1265, 1266, 1267, 1334, 1335, 1336, 1337, 1338, 1339, 1285, 1286, 1287, 1342, 1343, 1344, 1345] (by decide +kernel) (by decide +kernel)
set_option maxRecDepth 20000 in
theorem gL_law_X15_belay : GoodIn wsL_law (wsV RL 116 RX15 yX15_belay wsX15_belay) := goodIn_app (goodIn_of _ (by decide +kernel)) ggL_law_X15_belay
set_option maxRecDepth 20000 in
theorem ggL_law_X15_callAll : GoodIn wsL_law wsX15_callAll := goodIn_r _ [727, 499, 728, 1240, 1241, 1242, 1243, 1244, 1245, 1246, 1247, 1248, 1249, 1250, 1251, 1252, 1253, 1254, 1255, 1256, 1257, 1258, 1259, 1260, 1261, 1262, 1263, 1264, 1265, 1266, 1267] (by decide +kernel) (by decide +kernel)
set_option maxRecDepth 20000 in
theorem gL_law_X15_callAll : GoodIn wsL_law (wsV RL 124 RX15 yX15_callAll wsX15_callAll) := goodIn_app (goodIn_of _ (by decide +kernel)) ggL_law_X15_callAll
set_option maxRecDepth 20000 in
theorem ggL_law_X11_watch : GoodIn wsL_law wsX11_watch := goodIn_r _ [732, 17, 1236, 1237, 1238, 1239, 1268, 1269, 1270, 1271, 1272, 1273, 1274, 1275, 1276, 1277, 1278, 1279, 1280, 1281, 1282, 1283, 1284, 1294, 1295, 1296, 1297, 1298, 1299, 1300] (by decide +kernel) (by decide +kernel)
set_option maxRecDepth 20000 in
theorem gL_law_X11_watch : GoodIn wsL_law (wsV RL 125 RX11 yX11_watch wsX11_watch) := goodIn_app (goodIn_of _ (by decide +kernel)) ggL_law_X11_watch
set_option maxRecDepth 20000 in
theorem ggL_law_X15_free : GoodIn wsL_law wsX15_free := goodIn_ca (goodIn_r _ [746, 499, 747, 748, 749, 5, 750, 153, 737, 728, 155, 677, 751, 217, 218, 219, 680, 681, 682, 20, 683, 684, 685, 686, 687, 688, 689, 690, 691, 12, 13, 692, 693, 203, 694, 695, 696, 697, 698, 699, 700, 701, 702, 703, 704, 705, 706, 707, 708, 752, 753, 754, 755, 756, 757, 758, 759, 760, 566, 761, 572, 573, 574, 575, 576, 577, 578, 762, 763, 589, 764, 765, 766, 767, 618, 768, 304, 305, 306, 769, 770, 601, 771, 772, 773, 774, 612, 613, 614, 775, 625, 626, 627, 628, 629, 630, 1240, 1241, 1242, 1243, 1244, 1245, 1246, 1247, 1248, 1249, 1250, 1251, 1252, 1253, 1254, 1255, 1256, 1257, 1258, 1259, 1260, 1261, 1262, 1263, 1264, 1265, 1266, 1267, 1334, 1335, 1336, 1337, 1338, 1339, 1342, 1343, 1344, 1345, 1285, 1286, 1287, 1340, 1341] (by decide +kernel) (by decide +kernel)) (goodIn_sub (fun _ h => List.mem_append_left _ (List.mem_append_left _ (List.mem_append_left _ (List.mem_append_left _ (List.mem_append_left _ (List.mem_append_left _ (List.mem_append_left _ (List.mem_append_right _ h)))))))) (by decide +kernel))
set_option maxRecDepth 20000 in
theorem gL_law_X15_free : GoodIn wsL_law (wsV RL 132 RX15 yX15_free wsX15_free) := goodIn_app (goodIn_of _ (by decide +kernel)) ggL_law_X15_free
set_option maxRecDepth 20000 in
theorem ggL_law_X15_east : GoodIn wsL_law wsX15_east := goodIn_r _ [1008, 499, 958, 1240, 1241, 1242, 1243, 1244, 1245, 1246, 1247, 1248, 1249, 1250, 1251, 1252, 1253, 1254, 1255, 1256, 1257, 1258, 1259, 1260, 1261, 1262, 1263, 1264, 1265, 1266, 1267] (by decide +kernel) (by decide +kernel)
set_option maxRecDepth 20000 in
theorem gL_law_X15_east : GoodIn wsL_law (wsV RL 169 RX15 yX15_east wsX15_east) := goodIn_app (goodIn_of _ (by decide +kernel)) ggL_law_X15_east
set_option maxRecDepth 20000 in
theorem ggL_law_X15_force : GoodIn wsL_law wsX15_force := goodIn_ca (goodIn_r _ [1038, 1039, 1040, 1041, 5, 1042, 555, 499, 502, 503, 504, 911, 912, 913, 914, 158, 500, 755, 756, 757, 758, 759, 760, 566, 761, 572, 573, 574, 575, 576, 577, 578, 762, 763, 589, 764, 765, 766, 767, 618, 768, 304, 305, 306, 769, 770, 601, 771, 772, 773, 774, 612, 613, 614, 775, 625, 626, 627, 628, 629, 630, 915, 916, 917, 918, 161, 910, 397, 218, 398, 751, 217, 219, 919, 920, 921, 922, 923, 244, 245, 924, 925, 926, 927, 501, 928, 929, 360, 361, 362, 930, 931, 932, 887, 888, 889, 933, 934, 935, 936, 937, 938, 939, 940, 1240, 1241, 1242, 1243, 1244, 1245, 1246, 1247, 1248, 1249, 1250, 1251, 1252, 1253, 1254, 1255, 1256, 1257, 1258, 1259, 1260, 1261, 1262, 1263, 1264, 1265, 1266, 1267, 1340, 1341] (by decide +kernel) (by decide +kernel)) (goodIn_sub (fun _ h => List.mem_append_left _ (List.mem_append_left _ (List.mem_append_left _ (List.mem_append_left _ (List.mem_append_left _ (List.mem_append_left _ (List.mem_append_left _ (List.mem_append_right _ h)))))))) (by decide +kernel))
set_option maxRecDepth 20000 in
theorem gL_law_X15_force : GoodIn wsL_law (wsV RL 180 RX15 yX15_force wsX15_force) := goodIn_app (goodIn_of _ (by decide +kernel)) ggL_law_X15_force
set_option maxRecDepth 20000 in
theorem ggL_law_X15_braced : GoodIn wsL_law wsX15_braced := goodIn_ca (goodIn_r _ [1076, 161, 1077, 1078, 1079, 5, 1080, 556, 499, 502, 503, 504, 1240, 1241, 1242, 1243, 1244, 1245, 1246, 1247, 1248, 1249, 1250, 1251, 1252, 1253, 1254, 1255, 1256, 1257, 1258, 1259, 1260, 1261, 1262, 1263, 1264, 1265, 1266, 1267] (by decide +kernel) (by decide +kernel)) (goodIn_sub (fun _ h => List.mem_append_left _ (List.mem_append_left _ (List.mem_append_left _ (List.mem_append_left _ (List.mem_append_left _ (List.mem_append_left _ (List.mem_append_left _ (List.mem_append_right _ h)))))))) (by decide +kernel))
set_option maxRecDepth 20000 in
theorem gL_law_X15_braced : GoodIn wsL_law (wsV RL 189 RX15 yX15_braced wsX15_braced) := goodIn_app (goodIn_of _ (by decide +kernel)) ggL_law_X15_braced
set_option maxRecDepth 20000 in
theorem ggL_law_X15_best : GoodIn wsL_law wsX15_best := goodIn_r _ [1100, 499, 933, 934, 935, 5, 936, 923, 244, 218, 245, 919, 920, 921, 922, 924, 925, 926, 927, 501, 928, 929, 360, 361, 362, 937, 938, 939, 940, 1240, 1241, 1242, 1243, 1244, 1245, 1246, 1247, 1248, 1249, 1250, 1251, 1252, 1253, 1254, 1255, 1256, 1257, 1258, 1259, 1260, 1261, 1262, 1263, 1264, 1265, 1266, 1267] (by decide +kernel) (by decide +kernel)
set_option maxRecDepth 20000 in
theorem gL_law_X15_best : GoodIn wsL_law (wsV RL 196 RX15 yX15_best wsX15_best) := goodIn_app (goodIn_of _ (by decide +kernel)) ggL_law_X15_best
set_option maxRecDepth 20000 in
theorem hL_X11_watch_125 : GoodIn lw_tbl (wsV RL 125 RX11 yX11_watch wsX11_watch) := wl_good gL_law_X11_watch (by decide +kernel)
set_option maxRecDepth 20000 in
theorem hL_X15_belay_116 : GoodIn lw_tbl (wsV RL 116 RX15 yX15_belay wsX15_belay) := wl_good gL_law_X15_belay (by decide +kernel)
set_option maxRecDepth 20000 in
theorem hL_X15_best_196 : GoodIn lw_tbl (wsV RL 196 RX15 yX15_best wsX15_best) := wl_good gL_law_X15_best (by decide +kernel)
set_option maxRecDepth 20000 in
theorem hL_X15_braced_189 : GoodIn lw_tbl (wsV RL 189 RX15 yX15_braced wsX15_braced) := wl_good gL_law_X15_braced (by decide +kernel)
set_option maxRecDepth 20000 in
theorem hL_X15_callAll_124 : GoodIn lw_tbl (wsV RL 124 RX15 yX15_callAll wsX15_callAll) := wl_good gL_law_X15_callAll (by decide +kernel)
set_option maxRecDepth 20000 in
theorem hL_X15_current_105 : GoodIn lw_tbl (wsV RL 105 RX15 yX15_current wsX15_current) := wl_good gL_law_X15_current (by decide +kernel)
set_option maxRecDepth 20000 in
theorem hL_X15_east_169 : GoodIn lw_tbl (wsV RL 169 RX15 yX15_east wsX15_east) := wl_good gL_law_X15_east (by decide +kernel)
set_option maxRecDepth 20000 in
theorem hL_X15_force_180 : GoodIn lw_tbl (wsV RL 180 RX15 yX15_force wsX15_force) := wl_good gL_law_X15_force (by decide +kernel)
set_option maxRecDepth 20000 in
theorem hL_X15_free_132 : GoodIn lw_tbl (wsV RL 132 RX15 yX15_free wsX15_free) := wl_good gL_law_X15_free (by decide +kernel)
