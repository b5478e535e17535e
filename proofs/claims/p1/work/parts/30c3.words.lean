set_option maxRecDepth 20000 in
theorem ggL_law_X11_minute : GoodIn wsL_law wsX11_minute := goodIn_r _ [980, 17, 1236, 1237, 1238, 1239, 1268, 1269, 1270, 1271, 1272, 1273, 1274, 1275, 1276, 1277, 1278, 1279, 1280, 1281, 1282, 1283, 1284] (by decide +kernel) (by decide +kernel)
set_option maxRecDepth 20000 in
theorem gL_law_X11_minute : GoodIn wsL_law (wsV RL 153 RX11 yX11_minute wsX11_minute) := goodIn_app (goodIn_of _ (by decide +kernel)) ggL_law_X11_minute
set_option maxRecDepth 20000 in
theorem ggL_law_X11_speed : GoodIn wsL_law wsX11_speed := goodIn_r _ [996, 17, 1236, 1237, 1238, 1239, 1268, 1269, 1270, 1271, 1272, 1273, 1274, 1275, 1276, 1277, 1278, 1279, 1280, 1281, 1282, 1283, 1284] (by decide +kernel) (by decide +kernel)
set_option maxRecDepth 20000 in
theorem gL_law_X11_speed : GoodIn wsL_law (wsV RL 161 RX11 yX11_speed wsX11_speed) := goodIn_app (goodIn_of _ (by decide +kernel)) ggL_law_X11_speed
set_option maxRecDepth 20000 in
theorem ggL_law_X11_north : GoodIn wsL_law wsX11_north := goodIn_r _ [1012, 17, 1236, 1237, 1238, 1239, 1268, 1269, 1270, 1271, 1272, 1273, 1274, 1275, 1276, 1277, 1278, 1279, 1280, 1281, 1282, 1283, 1284, 1308, 1309] (by decide +kernel) (by decide +kernel)
set_option maxRecDepth 20000 in
theorem gL_law_X11_north : GoodIn wsL_law (wsV RL 170 RX11 yX11_north wsX11_north) := goodIn_app (goodIn_of _ (by decide +kernel)) ggL_law_X11_north
set_option maxRecDepth 20000 in
theorem ggL_law_X11_off : GoodIn wsL_law wsX11_off := goodIn_r _ [1020, 17, 1021, 388, 389, 16, 390, 48, 54, 1236, 1237, 1238, 1239, 1268, 1269, 1270, 1271, 1272, 1273, 1274, 1275, 1276, 1277, 1278, 1279, 1280, 1281, 1282, 1283, 1284] (by decide +kernel) (by decide +kernel)
set_option maxRecDepth 20000 in
theorem gL_law_X11_off : GoodIn wsL_law (wsV RL 174 RX11 yX11_off wsX11_off) := goodIn_app (goodIn_of _ (by decide +kernel)) ggL_law_X11_off
set_option maxRecDepth 20000 in
theorem ggL_law_X11_noon : GoodIn wsL_law wsX11_noon := goodIn_ca (goodIn_ca (goodIn_r _ [1104, 17, 178, 179, 180, 2, 181, 182, 183, 184, 21, 185, 186, 187, 188, 12, 13, 189, 190, 191, 192, 193, 194, 195, 20, 196, 197, 198, 199, 200, 201, 202, 203, 115, 204, 205, 206, 207, 208, 209, 210, 211, 212, 213, 214, 215, 114, 216, 217, 218, 219, 220, 221, 222, 223, 224, 225, 226, 227, 228, 229, 230, 231, 232, 233, 234, 235, 236, 237, 238, 239, 240, 241, 242, 243, 244, 245, 246, 247, 248, 249, 250, 251, 252, 16, 253, 48, 49, 50, 51, 52, 34, 38, 47, 46, 254, 255, 256, 257, 30, 258, 259, 260, 53, 261, 262, 263, 29, 264, 265, 266, 267, 268, 72, 269, 270, 271, 272, 273, 274, 275, 276, 277, 278, 279, 280, 281, 282, 33, 283, 101, 104, 284, 285, 286, 287, 288, 289, 290, 291, 292, 293, 294, 295, 296, 297, 298, 299, 300, 301, 302, 303, 304, 305, 306, 307, 308, 309, 310, 311, 312, 313, 37, 314, 133, 130, 132, 315, 316, 317, 318, 319, 320, 321, 322, 42, 323, 324, 325, 326, 105, 327, 328, 329, 330, 331, 332, 333, 334, 335, 336, 337, 338, 339, 71, 340, 85, 86, 341, 342, 343, 344, 68, 345, 346, 347, 348, 349, 350, 351, 352, 353, 41, 354, 141, 138, 139, 140, 355, 356, 357, 358, 359, 360, 361, 362, 363, 364, 365, 366, 102, 367, 368, 369, 370, 103, 371, 372, 373, 374, 98, 99, 375, 376, 377, 97, 378, 110, 379, 380, 381, 382, 383, 384, 385, 386, 387, 388, 389, 390, 54, 391, 392, 393, 394, 395, 396, 397, 398, 399, 73, 400, 401, 402, 403, 404, 405, 406, 407, 408, 409, 410, 411, 412, 413, 414, 415, 416, 84, 417, 418, 419, 420, 421, 422, 423, 424, 425, 57, 55, 426, 427, 428, 429, 56, 430, 431, 432, 433, 434, 435, 436, 437, 58, 438, 439, 440, 441, 442, 443, 444, 445, 446, 45, 447, 146, 145, 448, 449, 450, 451, 452, 453, 454, 455, 65, 66, 67, 456, 457, 458, 459, 460, 461, 462, 463, 464, 465, 466, 467, 109, 468, 469, 470, 471, 472, 473, 474, 475, 476, 477, 478, 479, 480, 481, 482, 483, 484, 485, 486, 487, 488, 489, 490, 491, 492, 1236, 1237, 1238, 1239, 1268, 1269, 1270, 1271, 1272, 1273, 1274, 1275, 1276, 1277, 1278, 1279, 1280, 1281, 1282, 1283, 1284, 1308, 1309, 1323, 1324, 1325, 1326, 1285, 1286, 1287, 1294, 1295, 1296, 1297, 1298, 1299, 1300, 1327, 1328, 1329, 1330, 1331, 1332, 1333, 1313, 1314, 1315, 1316, 1317, 1318, 1319, 1320, 1288, 1289, 1290, 1291, 1292, 1293, 1301, 1302, 1303, 1310, 1311, 1312, 1304, 1305, 1306, 1307, 1321, 1322] (by decide +kernel) (by decide +kernel)) (goodIn_sub (fun _ h => List.mem_append_left _ (List.mem_append_left _ (List.mem_append_left _ (List.mem_append_left _ (List.mem_append_left _ (List.mem_append_left _ (List.mem_append_left _ (List.mem_append_right _ h)))))))) (by decide +kernel))) (goodIn_sub (fun _ h => List.mem_append_left _ (List.mem_append_left _ (List.mem_append_left _ (List.mem_append_left _ (List.mem_append_left _ (List.mem_append_right _ h)))))) (by decide +kernel))
set_option maxRecDepth 20000 in
theorem gL_law_X11_noon : GoodIn wsL_law (wsV RL 197 RX11 yX11_noon wsX11_noon) := goodIn_app (goodIn_of _ (by decide +kernel)) ggL_law_X11_noon
set_option maxRecDepth 20000 in
theorem ggL_law_X11_reckonedEast : GoodIn wsL_law wsX11_reckonedEast := goodIn_r _ [1112, 17, 1236, 1237, 1238, 1239, 1268, 1269, 1270, 1271, 1272, 1273, 1274, 1275, 1276, 1277, 1278, 1279, 1280, 1281, 1282, 1283, 1284, 1308, 1309] (by decide +kernel) (by decide +kernel)
set_option maxRecDepth 20000 in
theorem gL_law_X11_reckonedEast : GoodIn wsL_law (wsV RL 201 RX11 yX11_reckonedEast wsX11_reckonedEast) := goodIn_app (goodIn_of _ (by decide +kernel)) ggL_law_X11_reckonedEast
set_option maxRecDepth 20000 in
theorem ggL_law_X11_reckonedNorth : GoodIn wsL_law wsX11_reckonedNorth := goodIn_r _ [1120, 17, 1236, 1237, 1238, 1239, 1268, 1269, 1270, 1271, 1272, 1273, 1274, 1275, 1276, 1277, 1278, 1279, 1280, 1281, 1282, 1283, 1284, 1308, 1309] (by decide +kernel) (by decide +kernel)
set_option maxRecDepth 20000 in
theorem gL_law_X11_reckonedNorth : GoodIn wsL_law (wsV RL 205 RX11 yX11_reckonedNorth wsX11_reckonedNorth) := goodIn_app (goodIn_of _ (by decide +kernel)) ggL_law_X11_reckonedNorth
set_option maxRecDepth 20000 in
theorem ggL_law_X11_lines : GoodIn wsL_law wsX11_lines := goodIn_r _ [1128, 17, 1236, 1237, 1238, 1239, 1268, 1269, 1270, 1271, 1272, 1273, 1274, 1275, 1276, 1277, 1278, 1279, 1280, 1281, 1282, 1283, 1284, 1304, 1305, 1306, 1307] (by decide +kernel) (by decide +kernel)
set_option maxRecDepth 20000 in
theorem gL_law_X11_lines : GoodIn wsL_law (wsV RL 209 RX11 yX11_lines wsX11_lines) := goodIn_app (goodIn_of _ (by decide +kernel)) ggL_law_X11_lines
set_option maxRecDepth 20000 in
theorem ggL_law_X11_setShare : GoodIn wsL_law wsX11_setShare := goodIn_r _ [1167, 17, 1168, 1169, 1170, 1171, 29, 1172, 72, 1236, 1237, 1238, 1239, 1268, 1269, 1270, 1271, 1272, 1273, 1274, 1275, 1276, 1277, 1278, 1279, 1280, 1281, 1282, 1283, 1284, 1288, 1289, 1290, 1291, 1292, 1293, 1313, 1314, 1315, 1316, 1317, 1318, 1319, 1320] (by decide +kernel) (by decide +kernel)
set_option maxRecDepth 20000 in
theorem gL_law_X11_setShare : GoodIn wsL_law (wsV RL 219 RX11 yX11_setShare wsX11_setShare) := goodIn_app (goodIn_of _ (by decide +kernel)) ggL_law_X11_setShare
set_option maxRecDepth 20000 in
theorem hL_X11_lines_209 : GoodIn lw_tbl (wsV RL 209 RX11 yX11_lines wsX11_lines) := wl_good gL_law_X11_lines (by decide +kernel)
set_option maxRecDepth 20000 in
theorem hL_X11_minute_153 : GoodIn lw_tbl (wsV RL 153 RX11 yX11_minute wsX11_minute) := wl_good gL_law_X11_minute (by decide +kernel)
set_option maxRecDepth 20000 in
theorem hL_X11_noon_197 : GoodIn lw_tbl (wsV RL 197 RX11 yX11_noon wsX11_noon) := wl_good gL_law_X11_noon (by decide +kernel)
set_option maxRecDepth 20000 in
theorem hL_X11_north_170 : GoodIn lw_tbl (wsV RL 170 RX11 yX11_north wsX11_north) := wl_good gL_law_X11_north (by decide +kernel)
set_option maxRecDepth 20000 in
theorem hL_X11_off_174 : GoodIn lw_tbl (wsV RL 174 RX11 yX11_off wsX11_off) := wl_good gL_law_X11_off (by decide +kernel)
set_option maxRecDepth 20000 in
theorem hL_X11_reckonedEast_201 : GoodIn lw_tbl (wsV RL 201 RX11 yX11_reckonedEast wsX11_reckonedEast) := wl_good gL_law_X11_reckonedEast (by decide +kernel)
set_option maxRecDepth 20000 in
theorem hL_X11_reckonedNorth_205 : GoodIn lw_tbl (wsV RL 205 RX11 yX11_reckonedNorth wsX11_reckonedNorth) := wl_good gL_law_X11_reckonedNorth (by decide +kernel)
set_option maxRecDepth 20000 in
theorem hL_X11_setShare_219 : GoodIn lw_tbl (wsV RL 219 RX11 yX11_setShare wsX11_setShare) := wl_good gL_law_X11_setShare (by decide +kernel)
set_option maxRecDepth 20000 in
theorem hL_X11_speed_161 : GoodIn lw_tbl (wsV RL 161 RX11 yX11_speed wsX11_speed) := wl_good gL_law_X11_speed (by decide +kernel)
