set_option maxRecDepth 20000 in
theorem ggL_law_X15_thrown : GoodIn wsL_law wsX15_thrown := goodIn_r _ [508, 499, 1240, 1241, 1242, 1243, 1244, 1245, 1246, 1247, 1248, 1249, 1250, 1251, 1252, 1253, 1254, 1255, 1256, 1257, 1258, 1259, 1260, 1261, 1262, 1263, 1264, 1265, 1266, 1267] (by decide +kernel) (by decide +kernel)
set_option maxRecDepth 20000 in
theorem gL_law_X15_thrown : GoodIn wsL_law (wsV RL 100 RX15 yX15_thrown wsX15_thrown) := goodIn_app (goodIn_of _ (by decide +kernel)) ggL_law_X15_thrown
set_option maxRecDepth 20000 in
theorem ggL_law_X15_state : GoodIn wsL_law wsX15_state := goodIn_r _ [719, 155, 499, 677, 646, 647, 194, 20, 196, 197, 502, 503, 5, 504, 678, 679, 296, 298, 299, 300, 301, 302, 303, 304, 305, 306, 307, 308, 309, 310, 115, 1240, 1241, 1242, 1243, 1244, 1245, 1246, 1247, 1248, 1249, 1250, 1251, 1252, 1253, 1254, 1255, 1256, 1257, 1258, 1259, 1260, 1261, 1262, 1263, 1264, 1265, 1266, 1267, 1334, 1335, 1336, 1337, 1338, 1339, 1285, 1286, 1287] (by decide +kernel) (by decide +kernel)
set_option maxRecDepth 20000 in
theorem gL_law_X15_state : GoodIn wsL_law (wsV RL 119 RX15 yX15_state wsX15_state) := goodIn_app (goodIn_of _ (by decide +kernel)) ggL_law_X15_state
set_option maxRecDepth 20000 in
theorem ggL_law_X15_sick : GoodIn wsL_law wsX15_sick := goodIn_ca (goodIn_r _ [798, 499, 153, 502, 503, 5, 504, 1240, 1241, 1242, 1243, 1244, 1245, 1246, 1247, 1248, 1249, 1250, 1251, 1252, 1253, 1254, 1255, 1256, 1257, 1258, 1259, 1260, 1261, 1262, 1263, 1264, 1265, 1266, 1267] (by decide +kernel) (by decide +kernel)) (goodIn_sub (fun _ h => List.mem_append_left _ (List.mem_append_left _ (List.mem_append_left _ (List.mem_append_left _ (List.mem_append_left _ (List.mem_append_left _ (List.mem_append_left _ (List.mem_append_right _ h)))))))) (by decide +kernel))
set_option maxRecDepth 20000 in
theorem gL_law_X15_sick : GoodIn wsL_law (wsV RL 138 RX15 yX15_sick wsX15_sick) := goodIn_app (goodIn_of _ (by decide +kernel)) ggL_law_X15_sick
set_option maxRecDepth 20000 in
theorem ggL_law_X15_stow : GoodIn wsL_law wsX15_stow := goodIn_r _ [809, 810, 156, 499, 811, 812, 813, 502, 503, 5, 504, 646, 647, 194, 20, 196, 197, 814, 815, 816, 817, 12, 13, 818, 819, 657, 658, 199, 201, 202, 203, 115, 204, 205, 206, 207, 208, 209, 210, 211, 212, 213, 214, 215, 114, 216, 217, 218, 219, 220, 221, 222, 223, 224, 225, 226, 227, 228, 229, 230, 231, 232, 233, 234, 235, 236, 237, 238, 239, 240, 241, 242, 243, 244, 245, 246, 247, 248, 249, 1240, 1241, 1242, 1243, 1244, 1245, 1246, 1247, 1248, 1249, 1250, 1251, 1252, 1253, 1254, 1255, 1256, 1257, 1258, 1259, 1260, 1261, 1262, 1263, 1264, 1265, 1266, 1267, 1346, 1347, 1285, 1286, 1287] (by decide +kernel) (by decide +kernel)
set_option maxRecDepth 20000 in
theorem gL_law_X15_stow : GoodIn wsL_law (wsV RL 142 RX15 yX15_stow wsX15_stow) := goodIn_app (goodIn_of _ (by decide +kernel)) ggL_law_X15_stow
set_option maxRecDepth 20000 in
theorem ggL_law_X15_sail : GoodIn wsL_law wsX15_sail := goodIn_ca (goodIn_ca (goodIn_r _ [873, 874, 499, 562, 502, 503, 5, 504, 875, 876, 877, 878, 155, 677, 152, 737, 680, 681, 682, 20, 683, 684, 685, 686, 687, 688, 689, 690, 691, 12, 13, 692, 693, 203, 694, 695, 696, 697, 698, 699, 700, 701, 702, 703, 704, 705, 706, 707, 708, 879, 880, 881, 882, 158, 161, 160, 159, 162, 883, 884, 885, 886, 887, 888, 889, 755, 756, 757, 758, 759, 760, 566, 761, 572, 573, 574, 575, 576, 577, 578, 762, 763, 589, 764, 765, 766, 767, 618, 768, 304, 305, 306, 769, 770, 601, 771, 772, 773, 774, 612, 613, 614, 775, 625, 626, 627, 628, 629, 630, 890, 891, 892, 893, 157, 894, 895, 896, 897, 898, 899, 900, 901, 902, 657, 658, 199, 201, 202, 115, 197, 204, 205, 206, 207, 208, 209, 210, 211, 212, 213, 214, 215, 114, 216, 217, 218, 219, 220, 221, 222, 223, 224, 225, 226, 227, 228, 229, 230, 231, 232, 233, 234, 235, 236, 237, 238, 239, 240, 241, 242, 243, 244, 245, 246, 247, 248, 249, 646, 647, 194, 196, 854, 855, 856, 857, 299, 300, 301, 302, 303, 858, 859, 860, 861, 862, 752, 753, 754, 747, 748, 749, 750, 153, 728, 751, 903, 904, 905, 906, 907, 908, 909, 129, 910, 397, 398, 911, 912, 913, 914, 500, 915, 916, 917, 918, 919, 920, 921, 922, 923, 924, 925, 926, 927, 501, 928, 929, 360, 361, 362, 930, 931, 932, 933, 934, 935, 936, 937, 938, 939, 940, 941, 942, 943, 944, 945, 946, 947, 537, 948, 949, 950, 951, 952, 953, 954, 955, 956, 957, 523, 958, 522, 959, 960, 961, 962, 963, 964, 965, 966, 967, 968, 969, 970, 971, 972, 973, 974, 975, 976, 156, 835, 678, 679, 296, 298, 307, 308, 309, 310, 1240, 1241, 1242, 1243, 1244, 1245, 1246, 1247, 1248, 1249, 1250, 1251, 1252, 1253, 1254, 1255, 1256, 1257, 1258, 1259, 1260, 1261, 1262, 1263, 1264, 1265, 1266, 1267, 1334, 1335, 1336, 1337, 1338, 1339, 1342, 1343, 1344, 1345, 1285, 1286, 1287, 1340, 1341, 1348, 1349, 1346, 1347] (by decide +kernel) (by decide +kernel)) (goodIn_sub (fun _ h => List.mem_append_left _ (List.mem_append_left _ (List.mem_append_left _ (List.mem_append_left _ (List.mem_append_left _ (List.mem_append_left _ (List.mem_append_left _ (List.mem_append_right _ h)))))))) (by decide +kernel))) (goodIn_sub (fun _ h => List.mem_append_left _ (List.mem_append_left _ (List.mem_append_left _ (List.mem_append_left _ (List.mem_append_left _ (List.mem_append_right _ h)))))) (by decide +kernel))
set_option maxRecDepth 20000 in
theorem gL_law_X15_sail : GoodIn wsL_law (wsV RL 152 RX15 yX15_sail wsX15_sail) := goodIn_app (goodIn_of _ (by decide +kernel)) ggL_law_X15_sail
set_option maxRecDepth 20000 in
theorem ggL_law_X15_speed : GoodIn wsL_law wsX15_speed := goodIn_r _ [1000, 499, 946, 1240, 1241, 1242, 1243, 1244, 1245, 1246, 1247, 1248, 1249, 1250, 1251, 1252, 1253, 1254, 1255, 1256, 1257, 1258, 1259, 1260, 1261, 1262, 1263, 1264, 1265, 1266, 1267] (by decide +kernel) (by decide +kernel)
set_option maxRecDepth 20000 in
theorem gL_law_X15_speed : GoodIn wsL_law (wsV RL 164 RX15 yX15_speed wsX15_speed) := goodIn_app (goodIn_of _ (by decide +kernel)) ggL_law_X15_speed
set_option maxRecDepth 20000 in
theorem ggL_law_X15_spread : GoodIn wsL_law wsX15_spread := goodIn_ca (goodIn_r _ [1053, 160, 158, 1039, 1040, 1041, 5, 1042, 555, 499, 502, 503, 504, 1240, 1241, 1242, 1243, 1244, 1245, 1246, 1247, 1248, 1249, 1250, 1251, 1252, 1253, 1254, 1255, 1256, 1257, 1258, 1259, 1260, 1261, 1262, 1263, 1264, 1265, 1266, 1267] (by decide +kernel) (by decide +kernel)) (goodIn_sub (fun _ h => List.mem_append_left _ (List.mem_append_left _ (List.mem_append_left _ (List.mem_append_left _ (List.mem_append_left _ (List.mem_append_left _ (List.mem_append_left _ (List.mem_append_right _ h)))))))) (by decide +kernel))
set_option maxRecDepth 20000 in
theorem gL_law_X15_spread : GoodIn wsL_law (wsV RL 183 RX15 yX15_spread wsX15_spread) := goodIn_app (goodIn_of _ (by decide +kernel)) ggL_law_X15_spread
set_option maxRecDepth 20000 in
theorem ggL_law_X15_strength : GoodIn wsL_law wsX15_strength := goodIn_ca (goodIn_r _ [1064, 159, 1039, 1040, 1041, 5, 1042, 555, 499, 502, 503, 504, 1240, 1241, 1242, 1243, 1244, 1245, 1246, 1247, 1248, 1249, 1250, 1251, 1252, 1253, 1254, 1255, 1256, 1257, 1258, 1259, 1260, 1261, 1262, 1263, 1264, 1265, 1266, 1267] (by decide +kernel) (by decide +kernel)) (goodIn_sub (fun _ h => List.mem_append_left _ (List.mem_append_left _ (List.mem_append_left _ (List.mem_append_left _ (List.mem_append_left _ (List.mem_append_left _ (List.mem_append_left _ (List.mem_append_right _ h)))))))) (by decide +kernel))
set_option maxRecDepth 20000 in
theorem gL_law_X15_strength : GoodIn wsL_law (wsV RL 186 RX15 yX15_strength wsX15_strength) := goodIn_app (goodIn_of _ (by decide +kernel)) ggL_law_X15_strength
set_option maxRecDepth 20000 in
theorem ggL_law_X15_setShare : GoodIn wsL_law wsX15_setShare := goodIn_ca (goodIn_r _ [1176, 499, 158, 1177, 1240, 1241, 1242, 1243, 1244, 1245, 1246, 1247, 1248, 1249, 1250, 1251, 1252, 1253, 1254, 1255, 1256, 1257, 1258, 1259, 1260, 1261, 1262, 1263, 1264, 1265, 1266, 1267] (by decide +kernel) (by decide +kernel)) (goodIn_sub (fun _ h => List.mem_append_left _ (List.mem_append_left _ (List.mem_append_left _ (List.mem_append_left _ (List.mem_append_left _ (List.mem_append_left _ (List.mem_append_left _ (List.mem_append_right _ h)))))))) (by decide +kernel))
set_option maxRecDepth 20000 in
theorem gL_law_X15_setShare : GoodIn wsL_law (wsV RL 223 RX15 yX15_setShare wsX15_setShare) := goodIn_app (goodIn_of _ (by decide +kernel)) ggL_law_X15_setShare
set_option maxRecDepth 20000 in
theorem hL_X15_sail_152 : GoodIn lw_tbl (wsV RL 152 RX15 yX15_sail wsX15_sail) := wl_good gL_law_X15_sail (by decide +kernel)
set_option maxRecDepth 20000 in
theorem hL_X15_setShare_223 : GoodIn lw_tbl (wsV RL 223 RX15 yX15_setShare wsX15_setShare) := wl_good gL_law_X15_setShare (by decide +kernel)
set_option maxRecDepth 20000 in
theorem hL_X15_sick_138 : GoodIn lw_tbl (wsV RL 138 RX15 yX15_sick wsX15_sick) := wl_good gL_law_X15_sick (by decide +kernel)
set_option maxRecDepth 20000 in
theorem hL_X15_speed_164 : GoodIn lw_tbl (wsV RL 164 RX15 yX15_speed wsX15_speed) := wl_good gL_law_X15_speed (by decide +kernel)
set_option maxRecDepth 20000 in
theorem hL_X15_spread_183 : GoodIn lw_tbl (wsV RL 183 RX15 yX15_spread wsX15_spread) := wl_good gL_law_X15_spread (by decide +kernel)
set_option maxRecDepth 20000 in
theorem hL_X15_state_119 : GoodIn lw_tbl (wsV RL 119 RX15 yX15_state wsX15_state) := wl_good gL_law_X15_state (by decide +kernel)
set_option maxRecDepth 20000 in
theorem hL_X15_stow_142 : GoodIn lw_tbl (wsV RL 142 RX15 yX15_stow wsX15_stow) := wl_good gL_law_X15_stow (by decide +kernel)
set_option maxRecDepth 20000 in
theorem hL_X15_strength_186 : GoodIn lw_tbl (wsV RL 186 RX15 yX15_strength wsX15_strength) := wl_good gL_law_X15_strength (by decide +kernel)
set_option maxRecDepth 20000 in
theorem hL_X15_thrown_100 : GoodIn lw_tbl (wsV RL 100 RX15 yX15_thrown wsX15_thrown) := wl_good gL_law_X15_thrown (by decide +kernel)
