set_option maxRecDepth 20000 in
theorem wsL_law_in0 : ∀ w ∈ wsL_law0, w ∈ lw_tbl := fun w h => (goodIn_p wsL_law0 [81, 84, 89, 95, 101, 125, 190, 196, 212, 215, 218, 268, 287, 308, 1232, 881, 884, 408, 413, 435, 439, 443, 447, 451, 457, 454, 461, 464, 496, 502, 511, 515, 519, 523, 528, 563, 569, 573, 577, 580, 583, 587, 592, 596, 600, 604, 608, 611, 614, 618, 622, 625, 628, 632, 636, 639, 643, 647, 651, 655, 659, 663, 667, 671, 677, 674, 682, 687, 691, 695, 700, 704, 708, 712, 716, 722, 726, 729, 735, 739, 743, 747, 751, 755, 759, 764, 768, 772, 1328, 1332, 1324, 963, 1337, 971, 1343, 980, 983, 1349, 1354, 1358, 1362, 1368, 1372, 1375, 1378, 1383, 1386, 1392, 1395, 1398, 1401, 1406, 1409, 1412, 1421, 1424, 1427, 1431, 1449, 1032, 1485, 1501, 1506, 1530, 1539, 1543, 1069, 1558, 404, 1562, 776, 1566, 780, 1570, 1574, 1577, 1581, 1585, 1588, 1591, 1595, 1598, 1076, 1604, 1085, 1608, 1092, 1612, 1618, 1101, 1106, 1632, 1114, 1636, 1645, 1654, 1658, 1137, 1663, 1668, 1672, 1676, 1679, 1684, 1689, 1702, 1706, 1710, 1715, 1719, 1723, 1729, 1733, 1737, 1742, 1746, 1750, 1753, 1756, 1760, 1766, 785, 1770, 789, 1774, 793, 1778, 797, 1782, 801, 1786, 805, 1790, 1145, 1794, 1798, 1155, 1802, 1162, 1806, 1169, 1810, 1814, 1178, 1818, 810, 1822, 815, 1826, 819, 1830, 823, 1834, 827, 1838, 1185, 869, 1842, 1194, 873, 1846, 831, 835, 1850, 1216, 1220, 1227, 1855, 840, 845, 849, 853, 857, 861, 865, 1859] (by decide +kernel) (by decide +kernel) w h).1
theorem wsL_law_x0 : ∀ w ∈ (vx_atM "java/lang/ArrayIndexOutOfBoundsException" ["java/lang/IndexOutOfBoundsException", "java/lang/RuntimeException", "java/lang/Exception"]).filter goodWord, w ∈ lw_tbl := by decide +kernel
theorem wsL_law_x1 : ∀ w ∈ (vx_atS RX11 38 "java/lang/IllegalArgumentException" ["java/lang/RuntimeException", "java/lang/Exception"]).filter goodWord, w ∈ lw_tbl := by decide +kernel
theorem wsL_law_x2 : ∀ w ∈ (vx_atM "java/lang/ArithmeticException" ["java/lang/RuntimeException", "java/lang/Exception"]).filter goodWord, w ∈ lw_tbl := by decide +kernel
theorem wsL_law_x3 : ∀ w ∈ (vx_atS RX11 88 "java/lang/IllegalStateException" ["java/lang/RuntimeException", "java/lang/Exception"]).filter goodWord, w ∈ lw_tbl := by decide +kernel
theorem wsL_law_x4 : ∀ w ∈ (vx_atS RX11 97 "java/lang/IndexOutOfBoundsException" ["java/lang/RuntimeException", "java/lang/Exception"]).filter goodWord, w ∈ lw_tbl := by decide +kernel
theorem wsL_law_x5 : ∀ w ∈ (vx_atS RX11 108 "java/lang/UnsupportedOperationException" ["java/lang/RuntimeException", "java/lang/Exception"]).filter goodWord, w ∈ lw_tbl := by decide +kernel
theorem wsL_law_x7 : ∀ w ∈ (vx_atS RX11 265 "java/lang/ArithmeticException" ["java/lang/RuntimeException", "java/lang/Exception"]).filter goodWord, w ∈ lw_tbl := by decide +kernel
set_option maxRecDepth 20000 in
theorem ggL_law_L_wind : GoodIn wsL_law wsL_wind := goodIn_ca (goodIn_ca (goodIn_ca (goodIn_r _ [167, 168, 169, 170, 171, 2, 172, 173, 174, 17, 175, 176, 177, 178, 179, 180, 181, 182, 183, 184, 21, 185, 186, 187, 188, 12, 13, 189, 190, 191, 192, 193, 194, 195, 20, 196, 197, 198, 199, 200, 201, 202, 203, 115, 204, 205, 206, 207, 208, 209, 210, 211, 212, 213, 214, 215, 114, 216, 217, 218, 219, 220, 221, 222, 223, 224, 225, 226, 227, 228, 229, 230, 231, 232, 233, 234, 235, 236, 237, 238, 239, 240, 241, 242, 243, 244, 245, 246, 247, 248, 249, 250, 251, 252, 16, 253, 48, 49, 50, 51, 52, 34, 38, 47, 46, 254, 255, 256, 257, 30, 258, 259, 260, 53, 261, 262, 263, 29, 264, 265, 266, 267, 268, 72, 269, 270, 271, 272, 273, 274, 275, 276, 277, 278, 279, 280, 281, 282, 33, 283, 101, 104, 284, 285, 286, 287, 288, 289, 290, 291, 292, 293, 294, 295, 296, 297, 298, 299, 300, 301, 302, 303, 304, 305, 306, 307, 308, 309, 310, 311, 312, 313, 37, 314, 133, 130, 132, 315, 316, 317, 318, 319, 320, 321, 322, 42, 323, 324, 325, 326, 105, 327, 328, 329, 330, 331, 332, 333, 334, 335, 336, 337, 338, 339, 71, 340, 85, 86, 341, 342, 343, 344, 68, 345, 346, 347, 348, 349, 350, 351, 352, 353, 41, 354, 141, 138, 139, 140, 355, 356, 357, 358, 359, 360, 361, 362, 363, 364, 365, 366, 102, 367, 368, 369, 370, 103, 371, 372, 373, 374, 98, 99, 375, 376, 377, 97, 378, 110, 379, 380, 381, 382, 383, 384, 385, 386, 387, 388, 389, 390, 54, 391, 392, 393, 394, 395, 396, 397, 398, 399, 73, 400, 401, 402, 403, 404, 405, 406, 407, 408, 409, 410, 411, 412, 413, 414, 415, 416, 84, 417, 418, 419, 420, 421, 422, 423, 424, 425, 57, 55, 426, 427, 428, 429, 56, 430, 431, 432, 433, 434, 435, 436, 437, 58, 438, 439, 440, 441, 442, 443, 444, 445, 446, 45, 447, 146, 145, 448, 449, 450, 451, 452, 453, 454, 455, 65, 66, 67, 456, 457, 458, 459, 460, 461, 462, 463, 464, 465, 466, 467, 109, 468, 469, 470, 471, 472, 473, 474, 475, 476, 477, 478, 479, 480, 481, 482, 483, 484, 485, 486, 487, 488, 489, 490, 491, 492, 1236, 1237, 1238, 1239, 1268, 1269, 1270, 1271, 1272, 1273, 1274, 1275, 1276, 1277, 1278, 1279, 1280, 1281, 1282, 1283, 1284, 1323, 1324, 1325, 1326, 1285, 1286, 1287, 1294, 1295, 1296, 1297, 1298, 1299, 1300, 1308, 1309, 1327, 1328, 1329, 1330, 1331, 1332, 1333, 1313, 1314, 1315, 1316, 1317, 1318, 1319, 1320, 1288, 1289, 1290, 1291, 1292, 1293, 1301, 1302, 1303, 1310, 1311, 1312, 1304, 1305, 1306, 1307, 1321, 1322] (by decide +kernel) (by decide +kernel)) (goodIn_sub (fun _ h => List.mem_append_left _ (List.mem_append_left _ (List.mem_append_left _ (List.mem_append_left _ (List.mem_append_left _ (List.mem_append_left _ (List.mem_append_left _ (List.mem_append_right _ h)))))))) (by decide +kernel))) (goodIn_sub (fun _ h => List.mem_append_left _ (List.mem_append_left _ (List.mem_append_left _ (List.mem_append_left _ (List.mem_append_left _ (List.mem_append_left _ (List.mem_append_right _ h))))))) (by decide +kernel))) (goodIn_sub (fun _ h => List.mem_append_left _ (List.mem_append_left _ (List.mem_append_left _ (List.mem_append_left _ (List.mem_append_left _ (List.mem_append_right _ h)))))) (by decide +kernel))
set_option maxRecDepth 20000 in
theorem gL_law_L_wind : GoodIn wsL_law (va_wsS RL 94 yL_wind wsL_wind) := goodIn_app (goodIn_of _ (by decide +kernel)) ggL_law_L_wind
set_option maxRecDepth 20000 in
theorem ggL_law_X15_wind : GoodIn wsL_law wsX15_wind := goodIn_r _ [496, 497, 498, 499, 500, 501, 502, 503, 5, 504, 1240, 1241, 1242, 1243, 1244, 1245, 1246, 1247, 1248, 1249, 1250, 1251, 1252, 1253, 1254, 1255, 1256, 1257, 1258, 1259, 1260, 1261, 1262, 1263, 1264, 1265, 1266, 1267] (by decide +kernel) (by decide +kernel)
set_option maxRecDepth 20000 in
theorem gL_law_X15_wind : GoodIn wsL_law (wsV RL 99 RX15 yX15_wind wsX15_wind) := goodIn_app (goodIn_of _ (by decide +kernel)) ggL_law_X15_wind
set_option maxRecDepth 20000 in
theorem ggL_law_X15_thrown : GoodIn wsL_law wsX15_thrown := goodIn_r _ [508, 499, 1240, 1241, 1242, 1243, 1244, 1245, 1246, 1247, 1248, 1249, 1250, 1251, 1252, 1253, 1254, 1255, 1256, 1257, 1258, 1259, 1260, 1261, 1262, 1263, 1264, 1265, 1266, 1267] (by decide +kernel) (by decide +kernel)
set_option maxRecDepth 20000 in
theorem gL_law_X15_thrown : GoodIn wsL_law (wsV RL 100 RX15 yX15_thrown wsX15_thrown) := goodIn_app (goodIn_of _ (by decide +kernel)) ggL_law_X15_thrown
set_option maxRecDepth 20000 in
theorem ggL_law_L_current : GoodIn wsL_law wsL_current := goodIn_ca (goodIn_ca (goodIn_ca (goodIn_r _ [511, 168, 512, 513, 514, 2, 515, 173, 174, 17, 175, 176, 177, 178, 179, 180, 181, 182, 183, 184, 21, 185, 186, 187, 188, 12, 13, 189, 190, 191, 192, 193, 194, 195, 20, 196, 197, 198, 199, 200, 201, 202, 203, 115, 204, 205, 206, 207, 208, 209, 210, 211, 212, 213, 214, 215, 114, 216, 217, 218, 219, 220, 221, 222, 223, 224, 225, 226, 227, 228, 229, 230, 231, 232, 233, 234, 235, 236, 237, 238, 239, 240, 241, 242, 243, 244, 245, 246, 247, 248, 249, 250, 251, 252, 16, 253, 48, 49, 50, 51, 52, 34, 38, 47, 46, 254, 255, 256, 257, 30, 258, 259, 260, 53, 261, 262, 263, 29, 264, 265, 266, 267, 268, 72, 269, 270, 271, 272, 273, 274, 275, 276, 277, 278, 279, 280, 281, 282, 33, 283, 101, 104, 284, 285, 286, 287, 288, 289, 290, 291, 292, 293, 294, 295, 296, 297, 298, 299, 300, 301, 302, 303, 304, 305, 306, 307, 308, 309, 310, 311, 312, 313, 37, 314, 133, 130, 132, 315, 316, 317, 318, 319, 320, 321, 322, 42, 323, 324, 325, 326, 105, 327, 328, 329, 330, 331, 332, 333, 334, 335, 336, 337, 338, 339, 71, 340, 85, 86, 341, 342, 343, 344, 68, 345, 346, 347, 348, 349, 350, 351, 352, 353, 41, 354, 141, 138, 139, 140, 355, 356, 357, 358, 359, 360, 361, 362, 363, 364, 365, 366, 102, 367, 368, 369, 370, 103, 371, 372, 373, 374, 98, 99, 375, 376, 377, 97, 378, 110, 379, 380, 381, 382, 383, 384, 385, 386, 387, 388, 389, 390, 54, 391, 392, 393, 394, 395, 396, 397, 398, 399, 73, 400, 401, 402, 403, 404, 405, 406, 407, 408, 409, 410, 411, 412, 413, 414, 415, 416, 84, 417, 418, 419, 420, 421, 422, 423, 424, 425, 57, 55, 426, 427, 428, 429, 56, 430, 431, 432, 433, 434, 435, 436, 437, 58, 438, 439, 440, 441, 442, 443, 444, 445, 446, 45, 447, 146, 145, 448, 449, 450, 451, 452, 453, 454, 455, 65, 66, 67, 456, 457, 458, 459, 460, 461, 462, 463, 464, 465, 466, 467, 109, 468, 469, 470, 471, 472, 473, 474, 475, 476, 477, 478, 479, 480, 481, 482, 483, 484, 485, 486, 487, 488, 489, 490, 491, 492, 1236, 1237, 1238, 1239, 1268, 1269, 1270, 1271, 1272, 1273, 1274, 1275, 1276, 1277, 1278, 1279, 1280, 1281, 1282, 1283, 1284, 1323, 1324, 1325, 1326, 1285, 1286, 1287, 1294, 1295, 1296, 1297, 1298, 1299, 1300, 1308, 1309, 1327, 1328, 1329, 1330, 1331, 1332, 1333, 1313, 1314, 1315, 1316, 1317, 1318, 1319, 1320, 1288, 1289, 1290, 1291, 1292, 1293, 1301, 1302, 1303, 1310, 1311, 1312, 1304, 1305, 1306, 1307, 1321, 1322] (by decide +kernel) (by decide +kernel)) (goodIn_sub (fun _ h => List.mem_append_left _ (List.mem_append_left _ (List.mem_append_left _ (List.mem_append_left _ (List.mem_append_left _ (List.mem_append_left _ (List.mem_append_left _ (List.mem_append_right _ h)))))))) (by decide +kernel))) (goodIn_sub (fun _ h => List.mem_append_left _ (List.mem_append_left _ (List.mem_append_left _ (List.mem_append_left _ (List.mem_append_left _ (List.mem_append_left _ (List.mem_append_right _ h))))))) (by decide +kernel))) (goodIn_sub (fun _ h => List.mem_append_left _ (List.mem_append_left _ (List.mem_append_left _ (List.mem_append_left _ (List.mem_append_left _ (List.mem_append_right _ h)))))) (by decide +kernel))
set_option maxRecDepth 20000 in
theorem gL_law_L_current : GoodIn wsL_law (va_wsS RL 103 yL_current wsL_current) := goodIn_app (goodIn_of _ (by decide +kernel)) ggL_law_L_current
set_option maxRecDepth 20000 in
theorem ggL_law_X15_current : GoodIn wsL_law wsX15_current := goodIn_r _ [519, 520, 521, 499, 522, 523, 502, 503, 5, 504, 1240, 1241, 1242, 1243, 1244, 1245, 1246, 1247, 1248, 1249, 1250, 1251, 1252, 1253, 1254, 1255, 1256, 1257, 1258, 1259, 1260, 1261, 1262, 1263, 1264, 1265, 1266, 1267] (by decide +kernel) (by decide +kernel)
set_option maxRecDepth 20000 in
theorem gL_law_X15_current : GoodIn wsL_law (wsV RL 105 RX15 yX15_current wsX15_current) := goodIn_app (goodIn_of _ (by decide +kernel)) ggL_law_X15_current
set_option maxRecDepth 20000 in
theorem ggL_law_L_helm : GoodIn wsL_law wsL_helm := goodIn_ca (goodIn_ca (goodIn_ca (goodIn_r _ [526, 168, 527, 528, 529, 2, 530, 173, 174, 17, 175, 176, 177, 178, 179, 180, 181, 182, 183, 184, 21, 185, 186, 187, 188, 12, 13, 189, 190, 191, 192, 193, 194, 195, 20, 196, 197, 198, 199, 200, 201, 202, 203, 115, 204, 205, 206, 207, 208, 209, 210, 211, 212, 213, 214, 215, 114, 216, 217, 218, 219, 220, 221, 222, 223, 224, 225, 226, 227, 228, 229, 230, 231, 232, 233, 234, 235, 236, 237, 238, 239, 240, 241, 242, 243, 244, 245, 246, 247, 248, 249, 250, 251, 252, 16, 253, 48, 49, 50, 51, 52, 34, 38, 47, 46, 254, 255, 256, 257, 30, 258, 259, 260, 53, 261, 262, 263, 29, 264, 265, 266, 267, 268, 72, 269, 270, 271, 272, 273, 274, 275, 276, 277, 278, 279, 280, 281, 282, 33, 283, 101, 104, 284, 285, 286, 287, 288, 289, 290, 291, 292, 293, 294, 295, 296, 297, 298, 299, 300, 301, 302, 303, 304, 305, 306, 307, 308, 309, 310, 311, 312, 313, 37, 314, 133, 130, 132, 315, 316, 317, 318, 319, 320, 321, 322, 42, 323, 324, 325, 326, 105, 327, 328, 329, 330, 331, 332, 333, 334, 335, 336, 337, 338, 339, 71, 340, 85, 86, 341, 342, 343, 344, 68, 345, 346, 347, 348, 349, 350, 351, 352, 353, 41, 354, 141, 138, 139, 140, 355, 356, 357, 358, 359, 360, 361, 362, 363, 364, 365, 366, 102, 367, 368, 369, 370, 103, 371, 372, 373, 374, 98, 99, 375, 376, 377, 97, 378, 110, 379, 380, 381, 382, 383, 384, 385, 386, 387, 388, 389, 390, 54, 391, 392, 393, 394, 395, 396, 397, 398, 399, 73, 400, 401, 402, 403, 404, 405, 406, 407, 408, 409, 410, 411, 412, 413, 414, 415, 416, 84, 417, 418, 419, 420, 421, 422, 423, 424, 425, 57, 55, 426, 427, 428, 429, 56, 430, 431, 432, 433, 434, 435, 436, 437, 58, 438, 439, 440, 441, 442, 443, 444, 445, 446, 45, 447, 146, 145, 448, 449, 450, 451, 452, 453, 454, 455, 65, 66, 67, 456, 457, 458, 459, 460, 461, 462, 463, 464, 465, 466, 467, 109, 468, 469, 470, 471, 472, 473, 474, 475, 476, 477, 478, 479, 480, 481, 482, 483, 484, 485, 486, 487, 488, 489, 490, 491, 492, 1236, 1237, 1238, 1239, 1268, 1269, 1270, 1271, 1272, 1273, 1274, 1275, 1276, 1277, 1278, 1279, 1280, 1281, 1282, 1283, 1284, 1323, 1324, 1325, 1326, 1285, 1286, 1287, 1294, 1295, 1296, 1297, 1298, 1299, 1300, 1308, 1309, 1327, 1328, 1329, 1330, 1331, 1332, 1333, 1313, 1314, 1315, 1316, 1317, 1318, 1319, 1320, 1288, 1289, 1290, 1291, 1292, 1293, 1301, 1302, 1303, 1310, 1311, 1312, 1304, 1305, 1306, 1307, 1321, 1322] (by decide +kernel) (by decide +kernel)) (goodIn_sub (fun _ h => List.mem_append_left _ (List.mem_append_left _ (List.mem_append_left _ (List.mem_append_left _ (List.mem_append_left _ (List.mem_append_left _ (List.mem_append_left _ (List.mem_append_right _ h)))))))) (by decide +kernel))) (goodIn_sub (fun _ h => List.mem_append_left _ (List.mem_append_left _ (List.mem_append_left _ (List.mem_append_left _ (List.mem_append_left _ (List.mem_append_left _ (List.mem_append_right _ h))))))) (by decide +kernel))) (goodIn_sub (fun _ h => List.mem_append_left _ (List.mem_append_left _ (List.mem_append_left _ (List.mem_append_left _ (List.mem_append_left _ (List.mem_append_right _ h)))))) (by decide +kernel))
set_option maxRecDepth 20000 in
theorem gL_law_L_helm : GoodIn wsL_law (va_wsS RL 106 yL_helm wsL_helm) := goodIn_app (goodIn_of _ (by decide +kernel)) ggL_law_L_helm
set_option maxRecDepth 20000 in
theorem ggL_law_X15_helm : GoodIn wsL_law wsX15_helm := goodIn_r _ [534, 535, 536, 499, 537, 502, 503, 5, 504, 1240, 1241, 1242, 1243, 1244, 1245, 1246, 1247, 1248, 1249, 1250, 1251, 1252, 1253, 1254, 1255, 1256, 1257, 1258, 1259, 1260, 1261, 1262, 1263, 1264, 1265, 1266, 1267] (by decide +kernel) (by decide +kernel)
set_option maxRecDepth 20000 in
theorem gL_law_X15_helm : GoodIn wsL_law (wsV RL 109 RX15 yX15_helm wsX15_helm) := goodIn_app (goodIn_of _ (by decide +kernel)) ggL_law_X15_helm
set_option maxRecDepth 20000 in
theorem ggL_law_L_order : GoodIn wsL_law wsL_order := goodIn_ca (goodIn_ca (goodIn_ca (goodIn_ca (goodIn_r _ [540, 168, 541, 542, 543, 544, 2, 545, 173, 174, 546, 547, 17, 548, 549, 550, 175, 176, 177, 193, 194, 195, 20, 196, 197, 178, 179, 180, 181, 182, 183, 184, 21, 185, 186, 187, 188, 12, 13, 189, 190, 191, 192, 198, 199, 200, 201, 202, 203, 115, 204, 205, 206, 207, 208, 209, 210, 211, 212, 213, 214, 215, 114, 216, 217, 218, 219, 220, 221, 222, 223, 224, 225, 226, 227, 228, 229, 230, 231, 232, 233, 234, 235, 236, 237, 238, 239, 240, 241, 242, 243, 244, 245, 246, 247, 248, 249, 250, 251, 252, 16, 253, 48, 49, 50, 51, 52, 34, 38, 47, 46, 254, 255, 256, 257, 30, 258, 259, 260, 53, 261, 262, 263, 29, 264, 265, 266, 267, 268, 72, 269, 270, 271, 272, 273, 274, 275, 276, 277, 278, 279, 280, 281, 282, 33, 283, 101, 104, 284, 285, 286, 287, 288, 289, 290, 291, 292, 293, 294, 295, 296, 297, 298, 299, 300, 301, 302, 303, 304, 305, 306, 307, 308, 309, 310, 311, 312, 313, 37, 314, 133, 130, 132, 315, 316, 317, 318, 319, 320, 321, 322, 42, 323, 324, 325, 326, 105, 327, 328, 329, 330, 331, 332, 333, 334, 335, 336, 337, 338, 339, 71, 340, 85, 86, 341, 342, 343, 344, 68, 345, 346, 347, 348, 349, 350, 351, 352, 353, 41, 354, 141, 138, 139, 140, 355, 356, 357, 358, 359, 360, 361, 362, 363, 364, 365, 366, 102, 367, 368, 369, 370, 103, 371, 372, 373, 374, 98, 99, 375, 376, 377, 97, 378, 110, 379, 380, 381, 382, 383, 384, 385, 386, 387, 388, 389, 390, 54, 391, 392, 393, 394, 395, 396, 397, 398, 399, 73, 400, 401, 402, 403, 404, 405, 406, 407, 408, 409, 410, 411, 412, 413, 414, 415, 416, 84, 417, 418, 419, 420, 421, 422, 423, 424, 425, 57, 55, 426, 427, 428, 429, 56, 430, 431, 432, 433, 434, 435, 436, 437, 58, 438, 439, 440, 441, 442, 443, 444, 445, 446, 45, 447, 146, 145, 448, 449, 450, 451, 452, 453, 454, 455, 65, 66, 67, 456, 457, 458, 459, 460, 461, 462, 463, 464, 465, 466, 467, 109, 468, 469, 470, 471, 472, 473, 474, 475, 476, 477, 478, 479, 480, 481, 482, 483, 484, 485, 486, 487, 488, 489, 490, 491, 492, 1236, 1237, 1238, 1239, 1268, 1269, 1270, 1271, 1272, 1273, 1274, 1275, 1276, 1277, 1278, 1279, 1280, 1281, 1282, 1283, 1284, 1294, 1295, 1296, 1297, 1298, 1299, 1300, 1285, 1286, 1287, 1323, 1324, 1325, 1326, 1308, 1309, 1327, 1328, 1329, 1330, 1331, 1332, 1333, 1313, 1314, 1315, 1316, 1317, 1318, 1319, 1320, 1288, 1289, 1290, 1291, 1292, 1293, 1301, 1302, 1303, 1310, 1311, 1312, 1304, 1305, 1306, 1307, 1321, 1322] (by decide +kernel) (by decide +kernel)) (goodIn_sub (fun _ h => List.mem_append_left _ (List.mem_append_left _ (List.mem_append_left _ (List.mem_append_left _ (List.mem_append_left _ (List.mem_append_left _ (List.mem_append_left _ (List.mem_append_right _ h)))))))) (by decide +kernel))) (goodIn_sub (fun _ h => List.mem_append_left _ (List.mem_append_left _ (List.mem_append_left _ (List.mem_append_left _ (List.mem_append_left _ (List.mem_append_left _ (List.mem_append_right _ h))))))) (by decide +kernel))) (goodIn_sub (fun _ h => List.mem_append_left _ (List.mem_append_left _ (List.mem_append_left _ (List.mem_append_left _ (List.mem_append_right _ h))))) (by decide +kernel))) (goodIn_sub (fun _ h => List.mem_append_left _ (List.mem_append_left _ (List.mem_append_left _ (List.mem_append_left _ (List.mem_append_left _ (List.mem_append_right _ h)))))) (by decide +kernel))
set_option maxRecDepth 20000 in
theorem gL_law_L_order : GoodIn wsL_law (va_wsS RL 110 yL_order wsL_order) := goodIn_app (goodIn_of _ (by decide +kernel)) ggL_law_L_order
set_option maxRecDepth 20000 in
theorem ggL_law_X15_order : GoodIn wsL_law wsX15_order := goodIn_r _ [554, 555, 556, 557, 558, 155, 499, 559, 560, 561, 562, 563, 564, 565, 566, 567, 568, 569, 570, 571, 572, 573, 574, 575, 576, 577, 578, 579, 580, 581, 582, 583, 584, 585, 586, 587, 588, 589, 590, 591, 217, 218, 219, 592, 244, 245, 593, 594, 595, 596, 597, 598, 599, 600, 601, 602, 603, 604, 605, 606, 607, 608, 609, 610, 611, 612, 613, 614, 615, 616, 617, 618, 619, 620, 305, 621, 622, 623, 624, 625, 626, 627, 628, 629, 630, 631, 632, 633, 634, 635, 636, 637, 638, 639, 640, 641, 642, 643, 644, 645, 502, 503, 5, 504, 646, 647, 194, 20, 196, 197, 648, 649, 650, 651, 12, 13, 652, 653, 654, 655, 656, 657, 658, 199, 201, 202, 203, 115, 204, 205, 206, 207, 208, 209, 210, 211, 212, 213, 214, 215, 114, 216, 220, 221, 222, 223, 224, 225, 226, 227, 228, 229, 230, 231, 232, 233, 234, 235, 236, 237, 238, 239, 240, 241, 242, 243, 246, 247, 248, 249, 1240, 1241, 1242, 1243, 1244, 1245, 1246, 1247, 1248, 1249, 1250, 1251, 1252, 1253, 1254, 1255, 1256, 1257, 1258, 1259, 1260, 1261, 1262, 1263, 1264, 1265, 1266, 1267, 1334, 1335, 1336, 1337, 1338, 1339, 1340, 1341, 1285, 1286, 1287] (by decide +kernel) (by decide +kernel)
set_option maxRecDepth 20000 in
theorem gL_law_X15_order : GoodIn wsL_law (wsV RL 113 RX15 yX15_order wsX15_order) := goodIn_app (goodIn_of _ (by decide +kernel)) ggL_law_X15_order
set_option maxRecDepth 20000 in
theorem ggL_law_L_belay : GoodIn wsL_law wsL_belay := goodIn_ca (goodIn_ca (goodIn_ca (goodIn_ca (goodIn_r _ [661, 662, 663, 664, 665, 666, 2, 667, 668, 669, 670, 671, 17, 672, 291, 292, 33, 293, 101, 294, 284, 194, 195, 20, 196, 197, 295, 296, 297, 298, 299, 300, 301, 302, 303, 304, 305, 306, 307, 308, 309, 310, 115, 178, 179, 180, 181, 182, 183, 184, 21, 185, 186, 187, 188, 12, 13, 189, 190, 191, 192, 193, 198, 199, 200, 201, 202, 203, 204, 205, 206, 207, 208, 209, 210, 211, 212, 213, 214, 215, 114, 216, 217, 218, 219, 220, 221, 222, 223, 224, 225, 226, 227, 228, 229, 230, 231, 232, 233, 234, 235, 236, 237, 238, 239, 240, 241, 242, 243, 244, 245, 246, 247, 248, 249, 250, 251, 252, 16, 253, 48, 49, 50, 51, 52, 34, 38, 47, 46, 254, 255, 256, 257, 30, 258, 259, 260, 53, 261, 262, 263, 29, 264, 265, 266, 267, 268, 72, 269, 270, 271, 272, 273, 274, 275, 276, 277, 278, 279, 280, 281, 282, 283, 104, 285, 286, 287, 288, 289, 290, 311, 312, 313, 37, 314, 133, 130, 132, 315, 316, 317, 318, 319, 320, 321, 322, 42, 323, 324, 325, 326, 105, 327, 328, 329, 330, 331, 332, 333, 334, 335, 336, 337, 338, 339, 71, 340, 85, 86, 341, 342, 343, 344, 68, 345, 346, 347, 348, 349, 350, 351, 352, 353, 41, 354, 141, 138, 139, 140, 355, 356, 357, 358, 359, 360, 361, 362, 363, 364, 365, 366, 102, 367, 368, 369, 370, 103, 371, 372, 373, 374, 98, 99, 375, 376, 377, 97, 378, 110, 379, 380, 381, 382, 383, 384, 385, 386, 387, 388, 389, 390, 54, 391, 392, 393, 394, 395, 396, 397, 398, 399, 73, 400, 401, 402, 403, 404, 405, 406, 407, 408, 409, 410, 411, 412, 413, 414, 415, 416, 84, 417, 418, 419, 420, 421, 422, 423, 424, 425, 57, 55, 426, 427, 428, 429, 56, 430, 431, 432, 433, 434, 435, 436, 437, 58, 438, 439, 440, 441, 442, 443, 444, 445, 446, 45, 447, 146, 145, 448, 449, 450, 451, 452, 453, 454, 455, 65, 66, 67, 456, 457, 458, 459, 460, 461, 462, 463, 464, 465, 466, 467, 109, 468, 469, 470, 471, 472, 473, 474, 475, 476, 477, 478, 479, 480, 481, 482, 483, 484, 485, 486, 487, 488, 489, 490, 491, 492, 1236, 1237, 1238, 1239, 1268, 1269, 1270, 1271, 1272, 1273, 1274, 1275, 1276, 1277, 1278, 1279, 1280, 1281, 1282, 1283, 1284, 1327, 1328, 1329, 1330, 1331, 1332, 1333, 1294, 1295, 1296, 1297, 1298, 1299, 1300, 1285, 1286, 1287, 1323, 1324, 1325, 1326, 1308, 1309, 1313, 1314, 1315, 1316, 1317, 1318, 1319, 1320, 1288, 1289, 1290, 1291, 1292, 1293, 1301, 1302, 1303, 1310, 1311, 1312, 1304, 1305, 1306, 1307, 1321, 1322] (by decide +kernel) (by decide +kernel)) (goodIn_sub (fun _ h => List.mem_append_left _ (List.mem_append_left _ (List.mem_append_left _ (List.mem_append_left _ (List.mem_append_left _ (List.mem_append_left _ (List.mem_append_left _ (List.mem_append_right _ h)))))))) (by decide +kernel))) (goodIn_sub (fun _ h => List.mem_append_left _ (List.mem_append_left _ (List.mem_append_left _ (List.mem_append_right _ h)))) (by decide +kernel))) (goodIn_sub (fun _ h => List.mem_append_left _ (List.mem_append_left _ (List.mem_append_right _ h))) (by decide +kernel))) (goodIn_sub (fun _ h => List.mem_append_left _ (List.mem_append_left _ (List.mem_append_left _ (List.mem_append_left _ (List.mem_append_left _ (List.mem_append_right _ h)))))) (by decide +kernel))
set_option maxRecDepth 20000 in
theorem gL_law_L_belay : GoodIn wsL_law (va_wsS RL 114 yL_belay wsL_belay) := goodIn_app (goodIn_of _ (by decide +kernel)) ggL_law_L_belay
set_option maxRecDepth 20000 in
theorem ggL_law_X15_belay : GoodIn wsL_law wsX15_belay := goodIn_r _ [676, 155, 677, 499, 646, 647, 194, 20, 196, 197, 502, 503, 5, 504, 678, 679, 296, 298, 299, 300, 301, 302, 303, 304, 305, 306, 307, 308, 309, 310, 115, 680, 681, 682, 683, 684, 685, 686, 687, 688, 689, 690, 691, 12, 13, 692, 693, 203, 694, 695, 696, 697, 698, 699, 700, 701, 702, 703, 704, 705, 706, 707, 708, 1240, 1241, 1242, 1243, 1244, 1245, 1246, 1247, 1248, 1249, 1250, 1251, 1252, 1253, 1254, 1255, 1256, 1257, 1258, 1259, 1260, 1261, 1262, 1263, 1264, 1265, 1266, 1267, 1334, 1335, 1336, 1337, 1338, 1339, 1285, 1286, 1287, 1342, 1343, 1344, 1345] (by decide +kernel) (by decide +kernel)
set_option maxRecDepth 20000 in
theorem gL_law_X15_belay : GoodIn wsL_law (wsV RL 116 RX15 yX15_belay wsX15_belay) := goodIn_app (goodIn_of _ (by decide +kernel)) ggL_law_X15_belay
set_option maxRecDepth 20000 in
theorem ggL_law_L_state : GoodIn wsL_law wsL_state := goodIn_ca (goodIn_ca (goodIn_r _ [711, 662, 712, 713, 714, 2, 715, 668, 669, 17, 672, 291, 292, 33, 293, 101, 294, 284, 194, 195, 20, 196, 197, 295, 296, 297, 298, 299, 300, 301, 302, 303, 304, 305, 306, 307, 308, 309, 310, 115, 1236, 1237, 1238, 1239, 1268, 1269, 1270, 1271, 1272, 1273, 1274, 1275, 1276, 1277, 1278, 1279, 1280, 1281, 1282, 1283, 1284, 1327, 1328, 1329, 1330, 1331, 1332, 1333, 1294, 1295, 1296, 1297, 1298, 1299, 1300, 1285, 1286, 1287] (by decide +kernel) (by decide +kernel)) (goodIn_sub (fun _ h => List.mem_append_left _ (List.mem_append_left _ (List.mem_append_left _ (List.mem_append_left _ (List.mem_append_left _ (List.mem_append_left _ (List.mem_append_left _ (List.mem_append_right _ h)))))))) (by decide +kernel))) (goodIn_sub (fun _ h => List.mem_append_left _ (List.mem_append_left _ (List.mem_append_left _ (List.mem_append_right _ h)))) (by decide +kernel))
set_option maxRecDepth 20000 in
theorem gL_law_L_state : GoodIn wsL_law (va_wsS RL 117 yL_state wsL_state) := goodIn_app (goodIn_of _ (by decide +kernel)) ggL_law_L_state
set_option maxRecDepth 20000 in
theorem ggL_law_X15_state : GoodIn wsL_law wsX15_state := goodIn_r _ [719, 155, 499, 677, 646, 647, 194, 20, 196, 197, 502, 503, 5, 504, 678, 679, 296, 298, 299, 300, 301, 302, 303, 304, 305, 306, 307, 308, 309, 310, 115, 1240, 1241, 1242, 1243, 1244, 1245, 1246, 1247, 1248, 1249, 1250, 1251, 1252, 1253, 1254, 1255, 1256, 1257, 1258, 1259, 1260, 1261, 1262, 1263, 1264, 1265, 1266, 1267, 1334, 1335, 1336, 1337, 1338, 1339, 1285, 1286, 1287] (by decide +kernel) (by decide +kernel)
set_option maxRecDepth 20000 in
theorem gL_law_X15_state : GoodIn wsL_law (wsV RL 119 RX15 yX15_state wsX15_state) := goodIn_app (goodIn_of _ (by decide +kernel)) ggL_law_X15_state
set_option maxRecDepth 20000 in
theorem ggL_law_X11_callAll : GoodIn wsL_law wsX11_callAll := goodIn_ca (goodIn_ca (goodIn_r _ [723, 17, 178, 179, 180, 2, 181, 182, 183, 184, 21, 185, 186, 187, 188, 12, 13, 189, 190, 191, 192, 193, 194, 195, 20, 196, 197, 198, 199, 200, 201, 202, 203, 115, 204, 205, 206, 207, 208, 209, 210, 211, 212, 213, 214, 215, 114, 216, 217, 218, 219, 220, 221, 222, 223, 224, 225, 226, 227, 228, 229, 230, 231, 232, 233, 234, 235, 236, 237, 238, 239, 240, 241, 242, 243, 244, 245, 246, 247, 248, 249, 250, 251, 252, 16, 253, 48, 49, 50, 51, 52, 34, 38, 47, 46, 254, 255, 256, 257, 30, 258, 259, 260, 53, 261, 262, 263, 29, 264, 265, 266, 267, 268, 72, 269, 270, 271, 272, 273, 274, 275, 276, 277, 278, 279, 280, 281, 282, 33, 283, 101, 104, 284, 285, 286, 287, 288, 289, 290, 291, 292, 293, 294, 295, 296, 297, 298, 299, 300, 301, 302, 303, 304, 305, 306, 307, 308, 309, 310, 311, 312, 313, 37, 314, 133, 130, 132, 315, 316, 317, 318, 319, 320, 321, 322, 42, 323, 324, 325, 326, 105, 327, 328, 329, 330, 331, 332, 333, 334, 335, 336, 337, 338, 339, 71, 340, 85, 86, 341, 342, 343, 344, 68, 345, 346, 347, 348, 349, 350, 351, 352, 353, 41, 354, 141, 138, 139, 140, 355, 356, 357, 358, 359, 360, 361, 362, 363, 364, 365, 366, 102, 367, 368, 369, 370, 103, 371, 372, 373, 374, 98, 99, 375, 376, 377, 97, 378, 110, 379, 380, 381, 382, 383, 384, 385, 386, 387, 388, 389, 390, 54, 391, 392, 393, 394, 395, 396, 397, 398, 399, 73, 400, 401, 402, 403, 404, 405, 406, 407, 408, 409, 410, 411, 412, 413, 414, 415, 416, 84, 417, 418, 419, 420, 421, 422, 423, 424, 425, 57, 55, 426, 427, 428, 429, 56, 430, 431, 432, 433, 434, 435, 436, 437, 58, 438, 439, 440, 441, 442, 443, 444, 445, 446, 45, 447, 146, 145, 448, 449, 450, 451, 452, 453, 454, 455, 65, 66, 67, 456, 457, 458, 459, 460, 461, 462, 463, 464, 465, 466, 467, 109, 468, 469, 470, 471, 472, 473, 474, 475, 476, 477, 478, 479, 480, 481, 482, 483, 484, 485, 486, 487, 488, 489, 490, 491, 492, 1236, 1237, 1238, 1239, 1268, 1269, 1270, 1271, 1272, 1273, 1274, 1275, 1276, 1277, 1278, 1279, 1280, 1281, 1282, 1283, 1284, 1294, 1295, 1296, 1297, 1298, 1299, 1300, 1323, 1324, 1325, 1326, 1285, 1286, 1287, 1308, 1309, 1327, 1328, 1329, 1330, 1331, 1332, 1333, 1313, 1314, 1315, 1316, 1317, 1318, 1319, 1320, 1288, 1289, 1290, 1291, 1292, 1293, 1301, 1302, 1303, 1310, 1311, 1312, 1304, 1305, 1306, 1307, 1321, 1322] (by decide +kernel) (by decide +kernel)) (goodIn_sub (fun _ h => List.mem_append_left _ (List.mem_append_left _ (List.mem_append_left _ (List.mem_append_left _ (List.mem_append_left _ (List.mem_append_left _ (List.mem_append_left _ (List.mem_append_right _ h)))))))) (by decide +kernel))) (goodIn_sub (fun _ h => List.mem_append_left _ (List.mem_append_left _ (List.mem_append_left _ (List.mem_append_left _ (List.mem_append_left _ (List.mem_append_right _ h)))))) (by decide +kernel))
set_option maxRecDepth 20000 in
theorem gL_law_X11_callAll : GoodIn wsL_law (wsV RL 120 RX11 yX11_callAll wsX11_callAll) := goodIn_app (goodIn_of _ (by decide +kernel)) ggL_law_X11_callAll
set_option maxRecDepth 20000 in
theorem ggL_law_X15_callAll : GoodIn wsL_law wsX15_callAll := goodIn_r _ [727, 499, 728, 1240, 1241, 1242, 1243, 1244, 1245, 1246, 1247, 1248, 1249, 1250, 1251, 1252, 1253, 1254, 1255, 1256, 1257, 1258, 1259, 1260, 1261, 1262, 1263, 1264, 1265, 1266, 1267] (by decide +kernel) (by decide +kernel)
set_option maxRecDepth 20000 in
theorem gL_law_X15_callAll : GoodIn wsL_law (wsV RL 124 RX15 yX15_callAll wsX15_callAll) := goodIn_app (goodIn_of _ (by decide +kernel)) ggL_law_X15_callAll
set_option maxRecDepth 20000 in
theorem ggL_law_X11_watch : GoodIn wsL_law wsX11_watch := goodIn_r _ [732, 17, 1236, 1237, 1238, 1239, 1268, 1269, 1270, 1271, 1272, 1273, 1274, 1275, 1276, 1277, 1278, 1279, 1280, 1281, 1282, 1283, 1284, 1294, 1295, 1296, 1297, 1298, 1299, 1300] (by decide +kernel) (by decide +kernel)
set_option maxRecDepth 20000 in
theorem gL_law_X11_watch : GoodIn wsL_law (wsV RL 125 RX11 yX11_watch wsX11_watch) := goodIn_app (goodIn_of _ (by decide +kernel)) ggL_law_X11_watch
set_option maxRecDepth 20000 in
theorem ggL_law_X15_watch : GoodIn wsL_law wsX15_watch := goodIn_r _ [736, 499, 737, 1240, 1241, 1242, 1243, 1244, 1245, 1246, 1247, 1248, 1249, 1250, 1251, 1252, 1253, 1254, 1255, 1256, 1257, 1258, 1259, 1260, 1261, 1262, 1263, 1264, 1265, 1266, 1267] (by decide +kernel) (by decide +kernel)
set_option maxRecDepth 20000 in
theorem gL_law_X15_watch : GoodIn wsL_law (wsV RL 128 RX15 yX15_watch wsX15_watch) := goodIn_app (goodIn_of _ (by decide +kernel)) ggL_law_X15_watch
set_option maxRecDepth 20000 in
theorem ggL_law_X11_free : GoodIn wsL_law wsX11_free := goodIn_r _ [741, 17, 742, 368, 369, 33, 370, 102, 103, 105, 371, 372, 373, 374, 98, 99, 375, 376, 377, 97, 378, 110, 1236, 1237, 1238, 1239, 1268, 1269, 1270, 1271, 1272, 1273, 1274, 1275, 1276, 1277, 1278, 1279, 1280, 1281, 1282, 1283, 1284, 1294, 1295, 1296, 1297, 1298, 1299, 1300, 1321, 1322] (by decide +kernel) (by decide +kernel)
set_option maxRecDepth 20000 in
theorem gL_law_X11_free : GoodIn wsL_law (wsV RL 129 RX11 yX11_free wsX11_free) := goodIn_app (goodIn_of _ (by decide +kernel)) ggL_law_X11_free
set_option maxRecDepth 20000 in
theorem ggL_law_X15_free : GoodIn wsL_law wsX15_free := goodIn_ca (goodIn_r _ [746, 499, 747, 748, 749, 5, 750, 153, 737, 728, 155, 677, 751, 217, 218, 219, 680, 681, 682, 20, 683, 684, 685, 686, 687, 688, 689, 690, 691, 12, 13, 692, 693, 203, 694, 695, 696, 697, 698, 699, 700, 701, 702, 703, 704, 705, 706, 707, 708, 752, 753, 754, 755, 756, 757, 758, 759, 760, 566, 761, 572, 573, 574, 575, 576, 577, 578, 762, 763, 589, 764, 765, 766, 767, 618, 768, 304, 305, 306, 769, 770, 601, 771, 772, 773, 774, 612, 613, 614, 775, 625, 626, 627, 628, 629, 630, 1240, 1241, 1242, 1243, 1244, 1245, 1246, 1247, 1248, 1249, 1250, 1251, 1252, 1253, 1254, 1255, 1256, 1257, 1258, 1259, 1260, 1261, 1262, 1263, 1264, 1265, 1266, 1267, 1334, 1335, 1336, 1337, 1338, 1339, 1342, 1343, 1344, 1345, 1285, 1286, 1287, 1340, 1341] (by decide +kernel) (by decide +kernel)) (goodIn_sub (fun _ h => List.mem_append_left _ (List.mem_append_left _ (List.mem_append_left _ (List.mem_append_left _ (List.mem_append_left _ (List.mem_append_left _ (List.mem_append_left _ (List.mem_append_right _ h)))))))) (by decide +kernel))
set_option maxRecDepth 20000 in
theorem gL_law_X15_free : GoodIn wsL_law (wsV RL 132 RX15 yX15_free wsX15_free) := goodIn_app (goodIn_of _ (by decide +kernel)) ggL_law_X15_free
set_option maxRecDepth 20000 in
theorem ggL_law_L_tired : GoodIn wsL_law wsL_tired := goodIn_ca (goodIn_ca (goodIn_r _ [778, 662, 779, 780, 781, 2, 782, 668, 669, 17, 175, 176, 177, 783, 372, 373, 33, 374, 98, 99, 1236, 1237, 1238, 1239, 1268, 1269, 1270, 1271, 1272, 1273, 1274, 1275, 1276, 1277, 1278, 1279, 1280, 1281, 1282, 1283, 1284, 1321, 1322, 1294, 1295, 1296, 1297, 1298, 1299, 1300] (by decide +kernel) (by decide +kernel)) (goodIn_sub (fun _ h => List.mem_append_left _ (List.mem_append_left _ (List.mem_append_left _ (List.mem_append_left _ (List.mem_append_left _ (List.mem_append_left _ (List.mem_append_left _ (List.mem_append_right _ h)))))))) (by decide +kernel))) (goodIn_sub (fun _ h => List.mem_append_left _ (List.mem_append_left _ (List.mem_append_left _ (List.mem_append_right _ h)))) (by decide +kernel))
set_option maxRecDepth 20000 in
theorem gL_law_L_tired : GoodIn wsL_law (va_wsS RL 133 yL_tired wsL_tired) := goodIn_app (goodIn_of _ (by decide +kernel)) ggL_law_L_tired
set_option maxRecDepth 20000 in
theorem ggL_law_X15_tired : GoodIn wsL_law wsX15_tired := goodIn_ca (goodIn_r _ [787, 499, 152, 502, 503, 5, 504, 1240, 1241, 1242, 1243, 1244, 1245, 1246, 1247, 1248, 1249, 1250, 1251, 1252, 1253, 1254, 1255, 1256, 1257, 1258, 1259, 1260, 1261, 1262, 1263, 1264, 1265, 1266, 1267] (by decide +kernel) (by decide +kernel)) (goodIn_sub (fun _ h => List.mem_append_left _ (List.mem_append_left _ (List.mem_append_left _ (List.mem_append_left _ (List.mem_append_left _ (List.mem_append_left _ (List.mem_append_left _ (List.mem_append_right _ h)))))))) (by decide +kernel))
set_option maxRecDepth 20000 in
theorem gL_law_X15_tired : GoodIn wsL_law (wsV RL 135 RX15 yX15_tired wsX15_tired) := goodIn_app (goodIn_of _ (by decide +kernel)) ggL_law_X15_tired
set_option maxRecDepth 20000 in
theorem ggL_law_L_sick : GoodIn wsL_law wsL_sick := goodIn_ca (goodIn_ca (goodIn_r _ [790, 662, 791, 792, 793, 2, 794, 668, 669, 17, 175, 176, 177, 783, 372, 373, 33, 374, 98, 99, 1236, 1237, 1238, 1239, 1268, 1269, 1270, 1271, 1272, 1273, 1274, 1275, 1276, 1277, 1278, 1279, 1280, 1281, 1282, 1283, 1284, 1321, 1322, 1294, 1295, 1296, 1297, 1298, 1299, 1300] (by decide +kernel) (by decide +kernel)) (goodIn_sub (fun _ h => List.mem_append_left _ (List.mem_append_left _ (List.mem_append_left _ (List.mem_append_left _ (List.mem_append_left _ (List.mem_append_left _ (List.mem_append_left _ (List.mem_append_right _ h)))))))) (by decide +kernel))) (goodIn_sub (fun _ h => List.mem_append_left _ (List.mem_append_left _ (List.mem_append_left _ (List.mem_append_right _ h)))) (by decide +kernel))
set_option maxRecDepth 20000 in
theorem gL_law_L_sick : GoodIn wsL_law (va_wsS RL 136 yL_sick wsL_sick) := goodIn_app (goodIn_of _ (by decide +kernel)) ggL_law_L_sick
set_option maxRecDepth 20000 in
theorem ggL_law_X15_sick : GoodIn wsL_law wsX15_sick := goodIn_ca (goodIn_r _ [798, 499, 153, 502, 503, 5, 504, 1240, 1241, 1242, 1243, 1244, 1245, 1246, 1247, 1248, 1249, 1250, 1251, 1252, 1253, 1254, 1255, 1256, 1257, 1258, 1259, 1260, 1261, 1262, 1263, 1264, 1265, 1266, 1267] (by decide +kernel) (by decide +kernel)) (goodIn_sub (fun _ h => List.mem_append_left _ (List.mem_append_left _ (List.mem_append_left _ (List.mem_append_left _ (List.mem_append_left _ (List.mem_append_left _ (List.mem_append_left _ (List.mem_append_right _ h)))))))) (by decide +kernel))
set_option maxRecDepth 20000 in
theorem gL_law_X15_sick : GoodIn wsL_law (wsV RL 138 RX15 yX15_sick wsX15_sick) := goodIn_app (goodIn_of _ (by decide +kernel)) ggL_law_X15_sick
set_option maxRecDepth 20000 in
theorem ggL_law_L_stow : GoodIn wsL_law wsL_stow := goodIn_ca (goodIn_ca (goodIn_ca (goodIn_ca (goodIn_r _ [801, 168, 541, 802, 803, 804, 2, 805, 173, 174, 546, 547, 17, 175, 176, 177, 178, 179, 180, 181, 182, 183, 184, 21, 185, 186, 187, 188, 12, 13, 189, 190, 191, 192, 193, 194, 195, 20, 196, 197, 198, 199, 200, 201, 202, 203, 115, 204, 205, 206, 207, 208, 209, 210, 211, 212, 213, 214, 215, 114, 216, 217, 218, 219, 220, 221, 222, 223, 224, 225, 226, 227, 228, 229, 230, 231, 232, 233, 234, 235, 236, 237, 238, 239, 240, 241, 242, 243, 244, 245, 246, 247, 248, 249, 250, 251, 252, 16, 253, 48, 49, 50, 51, 52, 34, 38, 47, 46, 254, 255, 256, 257, 30, 258, 259, 260, 53, 261, 262, 263, 29, 264, 265, 266, 267, 268, 72, 269, 270, 271, 272, 273, 274, 275, 276, 277, 278, 279, 280, 281, 282, 33, 283, 101, 104, 284, 285, 286, 287, 288, 289, 290, 291, 292, 293, 294, 295, 296, 297, 298, 299, 300, 301, 302, 303, 304, 305, 306, 307, 308, 309, 310, 311, 312, 313, 37, 314, 133, 130, 132, 315, 316, 317, 318, 319, 320, 321, 322, 42, 323, 324, 325, 326, 105, 327, 328, 329, 330, 331, 332, 333, 334, 335, 336, 337, 338, 339, 71, 340, 85, 86, 341, 342, 343, 344, 68, 345, 346, 347, 348, 349, 350, 351, 352, 353, 41, 354, 141, 138, 139, 140, 355, 356, 357, 358, 359, 360, 361, 362, 363, 364, 365, 366, 102, 367, 368, 369, 370, 103, 371, 372, 373, 374, 98, 99, 375, 376, 377, 97, 378, 110, 379, 380, 381, 382, 383, 384, 385, 386, 387, 388, 389, 390, 54, 391, 392, 393, 394, 395, 396, 397, 398, 399, 73, 400, 401, 402, 403, 404, 405, 406, 407, 408, 409, 410, 411, 412, 413, 414, 415, 416, 84, 417, 418, 419, 420, 421, 422, 423, 424, 425, 57, 55, 426, 427, 428, 429, 56, 430, 431, 432, 433, 434, 435, 436, 437, 58, 438, 439, 440, 441, 442, 443, 444, 445, 446, 45, 447, 146, 145, 448, 449, 450, 451, 452, 453, 454, 455, 65, 66, 67, 456, 457, 458, 459, 460, 461, 462, 463, 464, 465, 466, 467, 109, 468, 469, 470, 471, 472, 473, 474, 475, 476, 477, 478, 479, 480, 481, 482, 483, 484, 485, 486, 487, 488, 489, 490, 491, 492, 1236, 1237, 1238, 1239, 1268, 1269, 1270, 1271, 1272, 1273, 1274, 1275, 1276, 1277, 1278, 1279, 1280, 1281, 1282, 1283, 1284, 1301, 1302, 1303, 1323, 1324, 1325, 1326, 1285, 1286, 1287, 1294, 1295, 1296, 1297, 1298, 1299, 1300, 1308, 1309, 1327, 1328, 1329, 1330, 1331, 1332, 1333, 1313, 1314, 1315, 1316, 1317, 1318, 1319, 1320, 1288, 1289, 1290, 1291, 1292, 1293, 1310, 1311, 1312, 1304, 1305, 1306, 1307, 1321, 1322] (by decide +kernel) (by decide +kernel)) (goodIn_sub (fun _ h => List.mem_append_left _ (List.mem_append_left _ (List.mem_append_left _ (List.mem_append_left _ (List.mem_append_left _ (List.mem_append_left _ (List.mem_append_left _ (List.mem_append_right _ h)))))))) (by decide +kernel))) (goodIn_sub (fun _ h => List.mem_append_left _ (List.mem_append_left _ (List.mem_append_left _ (List.mem_append_left _ (List.mem_append_left _ (List.mem_append_left _ (List.mem_append_right _ h))))))) (by decide +kernel))) (goodIn_sub (fun _ h => List.mem_append_left _ (List.mem_append_left _ (List.mem_append_left _ (List.mem_append_left _ (List.mem_append_right _ h))))) (by decide +kernel))) (goodIn_sub (fun _ h => List.mem_append_left _ (List.mem_append_left _ (List.mem_append_left _ (List.mem_append_left _ (List.mem_append_left _ (List.mem_append_right _ h)))))) (by decide +kernel))
set_option maxRecDepth 20000 in
theorem gL_law_L_stow : GoodIn wsL_law (va_wsS RL 139 yL_stow wsL_stow) := goodIn_app (goodIn_of _ (by decide +kernel)) ggL_law_L_stow
set_option maxRecDepth 20000 in
theorem ggL_law_X15_stow : GoodIn wsL_law wsX15_stow := goodIn_r _ [809, 810, 156, 499, 811, 812, 813, 502, 503, 5, 504, 646, 647, 194, 20, 196, 197, 814, 815, 816, 817, 12, 13, 818, 819, 657, 658, 199, 201, 202, 203, 115, 204, 205, 206, 207, 208, 209, 210, 211, 212, 213, 214, 215, 114, 216, 217, 218, 219, 220, 221, 222, 223, 224, 225, 226, 227, 228, 229, 230, 231, 232, 233, 234, 235, 236, 237, 238, 239, 240, 241, 242, 243, 244, 245, 246, 247, 248, 249, 1240, 1241, 1242, 1243, 1244, 1245, 1246, 1247, 1248, 1249, 1250, 1251, 1252, 1253, 1254, 1255, 1256, 1257, 1258, 1259, 1260, 1261, 1262, 1263, 1264, 1265, 1266, 1267, 1346, 1347, 1285, 1286, 1287] (by decide +kernel) (by decide +kernel)
set_option maxRecDepth 20000 in
theorem gL_law_X15_stow : GoodIn wsL_law (wsV RL 142 RX15 yX15_stow wsX15_stow) := goodIn_app (goodIn_of _ (by decide +kernel)) ggL_law_X15_stow
set_option maxRecDepth 20000 in
theorem ggL_law_L_left : GoodIn wsL_law wsL_left := goodIn_ca (goodIn_ca (goodIn_r _ [822, 662, 823, 824, 825, 2, 826, 668, 669, 17, 175, 176, 177, 827, 828, 829, 37, 830, 133, 130, 1236, 1237, 1238, 1239, 1268, 1269, 1270, 1271, 1272, 1273, 1274, 1275, 1276, 1277, 1278, 1279, 1280, 1281, 1282, 1283, 1284, 1301, 1302, 1303] (by decide +kernel) (by decide +kernel)) (goodIn_sub (fun _ h => List.mem_append_left _ (List.mem_append_left _ (List.mem_append_left _ (List.mem_append_left _ (List.mem_append_left _ (List.mem_append_left _ (List.mem_append_left _ (List.mem_append_right _ h)))))))) (by decide +kernel))) (goodIn_sub (fun _ h => List.mem_append_left _ (List.mem_append_left _ (List.mem_append_left _ (List.mem_append_right _ h)))) (by decide +kernel))
set_option maxRecDepth 20000 in
theorem gL_law_L_left : GoodIn wsL_law (va_wsS RL 143 yL_left wsL_left) := goodIn_app (goodIn_of _ (by decide +kernel)) ggL_law_L_left
set_option maxRecDepth 20000 in
theorem ggL_law_X15_left : GoodIn wsL_law wsX15_left := goodIn_r _ [834, 156, 499, 835, 646, 647, 194, 20, 196, 197, 502, 503, 5, 504, 678, 679, 296, 298, 299, 300, 301, 302, 303, 304, 305, 306, 307, 308, 309, 310, 115, 1240, 1241, 1242, 1243, 1244, 1245, 1246, 1247, 1248, 1249, 1250, 1251, 1252, 1253, 1254, 1255, 1256, 1257, 1258, 1259, 1260, 1261, 1262, 1263, 1264, 1265, 1266, 1267, 1346, 1347, 1285, 1286, 1287] (by decide +kernel) (by decide +kernel)
set_option maxRecDepth 20000 in
theorem gL_law_X15_left : GoodIn wsL_law (wsV RL 145 RX15 yX15_left wsX15_left) := goodIn_app (goodIn_of _ (by decide +kernel)) ggL_law_X15_left
set_option maxRecDepth 20000 in
theorem ggL_law_X15_jettison : GoodIn wsL_law wsX15_jettison := goodIn_r _ [849, 156, 499, 835, 850, 851, 852, 20, 853, 197, 646, 647, 194, 196, 854, 855, 856, 857, 115, 299, 300, 301, 302, 303, 304, 305, 306, 858, 859, 860, 861, 202, 203, 862, 247, 248, 249, 1240, 1241, 1242, 1243, 1244, 1245, 1246, 1247, 1248, 1249, 1250, 1251, 1252, 1253, 1254, 1255, 1256, 1257, 1258, 1259, 1260, 1261, 1262, 1263, 1264, 1265, 1266, 1267, 1346, 1347, 1285, 1286, 1287] (by decide +kernel) (by decide +kernel)
set_option maxRecDepth 20000 in
theorem gL_law_X15_jettison : GoodIn wsL_law (wsV RL 149 RX15 yX15_jettison wsX15_jettison) := goodIn_app (goodIn_of _ (by decide +kernel)) ggL_law_X15_jettison
set_option maxRecDepth 20000 in
theorem ggL_law_L_sail : GoodIn wsL_law wsL_sail := goodIn_ca (goodIn_ca (goodIn_ca (goodIn_r _ [865, 168, 866, 867, 868, 2, 869, 173, 174, 17, 175, 176, 177, 178, 179, 180, 181, 182, 183, 184, 21, 185, 186, 187, 188, 12, 13, 189, 190, 191, 192, 193, 194, 195, 20, 196, 197, 198, 199, 200, 201, 202, 203, 115, 204, 205, 206, 207, 208, 209, 210, 211, 212, 213, 214, 215, 114, 216, 217, 218, 219, 220, 221, 222, 223, 224, 225, 226, 227, 228, 229, 230, 231, 232, 233, 234, 235, 236, 237, 238, 239, 240, 241, 242, 243, 244, 245, 246, 247, 248, 249, 250, 251, 252, 16, 253, 48, 49, 50, 51, 52, 34, 38, 47, 46, 254, 255, 256, 257, 30, 258, 259, 260, 53, 261, 262, 263, 29, 264, 265, 266, 267, 268, 72, 269, 270, 271, 272, 273, 274, 275, 276, 277, 278, 279, 280, 281, 282, 33, 283, 101, 104, 284, 285, 286, 287, 288, 289, 290, 291, 292, 293, 294, 295, 296, 297, 298, 299, 300, 301, 302, 303, 304, 305, 306, 307, 308, 309, 310, 311, 312, 313, 37, 314, 133, 130, 132, 315, 316, 317, 318, 319, 320, 321, 322, 42, 323, 324, 325, 326, 105, 327, 328, 329, 330, 331, 332, 333, 334, 335, 336, 337, 338, 339, 71, 340, 85, 86, 341, 342, 343, 344, 68, 345, 346, 347, 348, 349, 350, 351, 352, 353, 41, 354, 141, 138, 139, 140, 355, 356, 357, 358, 359, 360, 361, 362, 363, 364, 365, 366, 102, 367, 368, 369, 370, 103, 371, 372, 373, 374, 98, 99, 375, 376, 377, 97, 378, 110, 379, 380, 381, 382, 383, 384, 385, 386, 387, 388, 389, 390, 54, 391, 392, 393, 394, 395, 396, 397, 398, 399, 73, 400, 401, 402, 403, 404, 405, 406, 407, 408, 409, 410, 411, 412, 413, 414, 415, 416, 84, 417, 418, 419, 420, 421, 422, 423, 424, 425, 57, 55, 426, 427, 428, 429, 56, 430, 431, 432, 433, 434, 435, 436, 437, 58, 438, 439, 440, 441, 442, 443, 444, 445, 446, 45, 447, 146, 145, 448, 449, 450, 451, 452, 453, 454, 455, 65, 66, 67, 456, 457, 458, 459, 460, 461, 462, 463, 464, 465, 466, 467, 109, 468, 469, 470, 471, 472, 473, 474, 475, 476, 477, 478, 479, 480, 481, 482, 483, 484, 485, 486, 487, 488, 489, 490, 491, 492, 1236, 1237, 1238, 1239, 1268, 1269, 1270, 1271, 1272, 1273, 1274, 1275, 1276, 1277, 1278, 1279, 1280, 1281, 1282, 1283, 1284, 1323, 1324, 1325, 1326, 1285, 1286, 1287, 1294, 1295, 1296, 1297, 1298, 1299, 1300, 1308, 1309, 1327, 1328, 1329, 1330, 1331, 1332, 1333, 1313, 1314, 1315, 1316, 1317, 1318, 1319, 1320, 1288, 1289, 1290, 1291, 1292, 1293, 1301, 1302, 1303, 1310, 1311, 1312, 1304, 1305, 1306, 1307, 1321, 1322] (by decide +kernel) (by decide +kernel)) (goodIn_sub (fun _ h => List.mem_append_left _ (List.mem_append_left _ (List.mem_append_left _ (List.mem_append_left _ (List.mem_append_left _ (List.mem_append_left _ (List.mem_append_left _ (List.mem_append_right _ h)))))))) (by decide +kernel))) (goodIn_sub (fun _ h => List.mem_append_left _ (List.mem_append_left _ (List.mem_append_left _ (List.mem_append_left _ (List.mem_append_left _ (List.mem_append_left _ (List.mem_append_right _ h))))))) (by decide +kernel))) (goodIn_sub (fun _ h => List.mem_append_left _ (List.mem_append_left _ (List.mem_append_left _ (List.mem_append_left _ (List.mem_append_left _ (List.mem_append_right _ h)))))) (by decide +kernel))
set_option maxRecDepth 20000 in
theorem gL_law_L_sail : GoodIn wsL_law (va_wsS RL 150 yL_sail wsL_sail) := goodIn_app (goodIn_of _ (by decide +kernel)) ggL_law_L_sail
set_option maxRecDepth 20000 in
theorem ggL_law_X15_sail : GoodIn wsL_law wsX15_sail := goodIn_ca (goodIn_ca (goodIn_r _ [873, 874, 499, 562, 502, 503, 5, 504, 875, 876, 877, 878, 155, 677, 152, 737, 680, 681, 682, 20, 683, 684, 685, 686, 687, 688, 689, 690, 691, 12, 13, 692, 693, 203, 694, 695, 696, 697, 698, 699, 700, 701, 702, 703, 704, 705, 706, 707, 708, 879, 880, 881, 882, 158, 161, 160, 159, 162, 883, 884, 885, 886, 887, 888, 889, 755, 756, 757, 758, 759, 760, 566, 761, 572, 573, 574, 575, 576, 577, 578, 762, 763, 589, 764, 765, 766, 767, 618, 768, 304, 305, 306, 769, 770, 601, 771, 772, 773, 774, 612, 613, 614, 775, 625, 626, 627, 628, 629, 630, 890, 891, 892, 893, 157, 894, 895, 896, 897, 898, 899, 900, 901, 902, 657, 658, 199, 201, 202, 115, 197, 204, 205, 206, 207, 208, 209, 210, 211, 212, 213, 214, 215, 114, 216, 217, 218, 219, 220, 221, 222, 223, 224, 225, 226, 227, 228, 229, 230, 231, 232, 233, 234, 235, 236, 237, 238, 239, 240, 241, 242, 243, 244, 245, 246, 247, 248, 249, 646, 647, 194, 196, 854, 855, 856, 857, 299, 300, 301, 302, 303, 858, 859, 860, 861, 862, 752, 753, 754, 747, 748, 749, 750, 153, 728, 751, 903, 904, 905, 906, 907, 908, 909, 129, 910, 397, 398, 911, 912, 913, 914, 500, 915, 916, 917, 918, 919, 920, 921, 922, 923, 924, 925, 926, 927, 501, 928, 929, 360, 361, 362, 930, 931, 932, 933, 934, 935, 936, 937, 938, 939, 940, 941, 942, 943, 944, 945, 946, 947, 537, 948, 949, 950, 951, 952, 953, 954, 955, 956, 957, 523, 958, 522, 959, 960, 961, 962, 963, 964, 965, 966, 967, 968, 969, 970, 971, 972, 973, 974, 975, 976, 156, 835, 678, 679, 296, 298, 307, 308, 309, 310, 1240, 1241, 1242, 1243, 1244, 1245, 1246, 1247, 1248, 1249, 1250, 1251, 1252, 1253, 1254, 1255, 1256, 1257, 1258, 1259, 1260, 1261, 1262, 1263, 1264, 1265, 1266, 1267, 1334, 1335, 1336, 1337, 1338, 1339, 1342, 1343, 1344, 1345, 1285, 1286, 1287, 1340, 1341, 1348, 1349, 1346, 1347] (by decide +kernel) (by decide +kernel)) (goodIn_sub (fun _ h => List.mem_append_left _ (List.mem_append_left _ (List.mem_append_left _ (List.mem_append_left _ (List.mem_append_left _ (List.mem_append_left _ (List.mem_append_left _ (List.mem_append_right _ h)))))))) (by decide +kernel))) (goodIn_sub (fun _ h => List.mem_append_left _ (List.mem_append_left _ (List.mem_append_left _ (List.mem_append_left _ (List.mem_append_left _ (List.mem_append_right _ h)))))) (by decide +kernel))
set_option maxRecDepth 20000 in
theorem gL_law_X15_sail : GoodIn wsL_law (wsV RL 152 RX15 yX15_sail wsX15_sail) := goodIn_app (goodIn_of _ (by decide +kernel)) ggL_law_X15_sail
set_option maxRecDepth 20000 in
theorem ggL_law_X11_minute : GoodIn wsL_law wsX11_minute := goodIn_r _ [980, 17, 1236, 1237, 1238, 1239, 1268, 1269, 1270, 1271, 1272, 1273, 1274, 1275, 1276, 1277, 1278, 1279, 1280, 1281, 1282, 1283, 1284] (by decide +kernel) (by decide +kernel)
set_option maxRecDepth 20000 in
theorem gL_law_X11_minute : GoodIn wsL_law (wsV RL 153 RX11 yX11_minute wsX11_minute) := goodIn_app (goodIn_of _ (by decide +kernel)) ggL_law_X11_minute
set_option maxRecDepth 20000 in
theorem ggL_law_X15_minute : GoodIn wsL_law wsX15_minute := goodIn_r _ [984, 499, 562, 1240, 1241, 1242, 1243, 1244, 1245, 1246, 1247, 1248, 1249, 1250, 1251, 1252, 1253, 1254, 1255, 1256, 1257, 1258, 1259, 1260, 1261, 1262, 1263, 1264, 1265, 1266, 1267] (by decide +kernel) (by decide +kernel)
set_option maxRecDepth 20000 in
theorem gL_law_X15_minute : GoodIn wsL_law (wsV RL 156 RX15 yX15_minute wsX15_minute) := goodIn_app (goodIn_of _ (by decide +kernel)) ggL_law_X15_minute
set_option maxRecDepth 20000 in
theorem ggL_law_X11_heading : GoodIn wsL_law wsX11_heading := goodIn_r _ [988, 17, 1236, 1237, 1238, 1239, 1268, 1269, 1270, 1271, 1272, 1273, 1274, 1275, 1276, 1277, 1278, 1279, 1280, 1281, 1282, 1283, 1284] (by decide +kernel) (by decide +kernel)
set_option maxRecDepth 20000 in
theorem gL_law_X11_heading : GoodIn wsL_law (wsV RL 157 RX11 yX11_heading wsX11_heading) := goodIn_app (goodIn_of _ (by decide +kernel)) ggL_law_X11_heading
set_option maxRecDepth 20000 in
theorem ggL_law_X15_heading : GoodIn wsL_law wsX15_heading := goodIn_r _ [992, 499, 928, 1240, 1241, 1242, 1243, 1244, 1245, 1246, 1247, 1248, 1249, 1250, 1251, 1252, 1253, 1254, 1255, 1256, 1257, 1258, 1259, 1260, 1261, 1262, 1263, 1264, 1265, 1266, 1267] (by decide +kernel) (by decide +kernel)
set_option maxRecDepth 20000 in
theorem gL_law_X15_heading : GoodIn wsL_law (wsV RL 160 RX15 yX15_heading wsX15_heading) := goodIn_app (goodIn_of _ (by decide +kernel)) ggL_law_X15_heading
set_option maxRecDepth 20000 in
theorem ggL_law_X11_speed : GoodIn wsL_law wsX11_speed := goodIn_r _ [996, 17, 1236, 1237, 1238, 1239, 1268, 1269, 1270, 1271, 1272, 1273, 1274, 1275, 1276, 1277, 1278, 1279, 1280, 1281, 1282, 1283, 1284] (by decide +kernel) (by decide +kernel)
set_option maxRecDepth 20000 in
theorem gL_law_X11_speed : GoodIn wsL_law (wsV RL 161 RX11 yX11_speed wsX11_speed) := goodIn_app (goodIn_of _ (by decide +kernel)) ggL_law_X11_speed
set_option maxRecDepth 20000 in
theorem ggL_law_X15_speed : GoodIn wsL_law wsX15_speed := goodIn_r _ [1000, 499, 946, 1240, 1241, 1242, 1243, 1244, 1245, 1246, 1247, 1248, 1249, 1250, 1251, 1252, 1253, 1254, 1255, 1256, 1257, 1258, 1259, 1260, 1261, 1262, 1263, 1264, 1265, 1266, 1267] (by decide +kernel) (by decide +kernel)
set_option maxRecDepth 20000 in
theorem gL_law_X15_speed : GoodIn wsL_law (wsV RL 164 RX15 yX15_speed wsX15_speed) := goodIn_app (goodIn_of _ (by decide +kernel)) ggL_law_X15_speed
set_option maxRecDepth 20000 in
theorem ggL_law_X11_east : GoodIn wsL_law wsX11_east := goodIn_r _ [1004, 17, 1236, 1237, 1238, 1239, 1268, 1269, 1270, 1271, 1272, 1273, 1274, 1275, 1276, 1277, 1278, 1279, 1280, 1281, 1282, 1283, 1284, 1308, 1309] (by decide +kernel) (by decide +kernel)
set_option maxRecDepth 20000 in
theorem gL_law_X11_east : GoodIn wsL_law (wsV RL 165 RX11 yX11_east wsX11_east) := goodIn_app (goodIn_of _ (by decide +kernel)) ggL_law_X11_east
set_option maxRecDepth 20000 in
theorem ggL_law_X15_east : GoodIn wsL_law wsX15_east := goodIn_r _ [1008, 499, 958, 1240, 1241, 1242, 1243, 1244, 1245, 1246, 1247, 1248, 1249, 1250, 1251, 1252, 1253, 1254, 1255, 1256, 1257, 1258, 1259, 1260, 1261, 1262, 1263, 1264, 1265, 1266, 1267] (by decide +kernel) (by decide +kernel)
set_option maxRecDepth 20000 in
theorem gL_law_X15_east : GoodIn wsL_law (wsV RL 169 RX15 yX15_east wsX15_east) := goodIn_app (goodIn_of _ (by decide +kernel)) ggL_law_X15_east
set_option maxRecDepth 20000 in
theorem ggL_law_X11_north : GoodIn wsL_law wsX11_north := goodIn_r _ [1012, 17, 1236, 1237, 1238, 1239, 1268, 1269, 1270, 1271, 1272, 1273, 1274, 1275, 1276, 1277, 1278, 1279, 1280, 1281, 1282, 1283, 1284, 1308, 1309] (by decide +kernel) (by decide +kernel)
set_option maxRecDepth 20000 in
theorem gL_law_X11_north : GoodIn wsL_law (wsV RL 170 RX11 yX11_north wsX11_north) := goodIn_app (goodIn_of _ (by decide +kernel)) ggL_law_X11_north
set_option maxRecDepth 20000 in
theorem ggL_law_X15_north : GoodIn wsL_law wsX15_north := goodIn_r _ [1016, 499, 957, 1240, 1241, 1242, 1243, 1244, 1245, 1246, 1247, 1248, 1249, 1250, 1251, 1252, 1253, 1254, 1255, 1256, 1257, 1258, 1259, 1260, 1261, 1262, 1263, 1264, 1265, 1266, 1267] (by decide +kernel) (by decide +kernel)
set_option maxRecDepth 20000 in
theorem gL_law_X15_north : GoodIn wsL_law (wsV RL 173 RX15 yX15_north wsX15_north) := goodIn_app (goodIn_of _ (by decide +kernel)) ggL_law_X15_north
set_option maxRecDepth 20000 in
theorem ggL_law_X11_off : GoodIn wsL_law wsX11_off := goodIn_r _ [1020, 17, 1021, 388, 389, 16, 390, 48, 54, 1236, 1237, 1238, 1239, 1268, 1269, 1270, 1271, 1272, 1273, 1274, 1275, 1276, 1277, 1278, 1279, 1280, 1281, 1282, 1283, 1284] (by decide +kernel) (by decide +kernel)
set_option maxRecDepth 20000 in
theorem gL_law_X11_off : GoodIn wsL_law (wsV RL 174 RX11 yX11_off wsX11_off) := goodIn_app (goodIn_of _ (by decide +kernel)) ggL_law_X11_off
set_option maxRecDepth 20000 in
theorem ggL_law_X15_off : GoodIn wsL_law wsX15_off := goodIn_r _ [1025, 499, 937, 938, 939, 5, 940, 924, 925, 926, 927, 501, 928, 929, 360, 361, 362, 919, 920, 921, 922, 923, 244, 218, 245, 1240, 1241, 1242, 1243, 1244, 1245, 1246, 1247, 1248, 1249, 1250, 1251, 1252, 1253, 1254, 1255, 1256, 1257, 1258, 1259, 1260, 1261, 1262, 1263, 1264, 1265, 1266, 1267] (by decide +kernel) (by decide +kernel)
set_option maxRecDepth 20000 in
theorem gL_law_X15_off : GoodIn wsL_law (wsV RL 177 RX15 yX15_off wsX15_off) := goodIn_app (goodIn_of _ (by decide +kernel)) ggL_law_X15_off
set_option maxRecDepth 20000 in
theorem ggL_law_L_force : GoodIn wsL_law wsL_force := goodIn_ca (goodIn_ca (goodIn_r _ [1028, 662, 1029, 1030, 1031, 2, 1032, 668, 669, 17, 1033, 266, 267, 29, 268, 72, 1034, 384, 385, 16, 386, 30, 49, 387, 388, 389, 390, 48, 54, 391, 392, 393, 394, 395, 396, 397, 218, 398, 399, 73, 68, 400, 401, 402, 403, 404, 405, 406, 407, 408, 1236, 1237, 1238, 1239, 1268, 1269, 1270, 1271, 1272, 1273, 1274, 1275, 1276, 1277, 1278, 1279, 1280, 1281, 1282, 1283, 1284, 1313, 1314, 1315, 1316, 1317, 1318, 1319, 1320, 1288, 1289, 1290, 1291, 1292, 1293, 1310, 1311, 1312] (by decide +kernel) (by decide +kernel)) (goodIn_sub (fun _ h => List.mem_append_left _ (List.mem_append_left _ (List.mem_append_left _ (List.mem_append_left _ (List.mem_append_left _ (List.mem_append_left _ (List.mem_append_left _ (List.mem_append_right _ h)))))))) (by decide +kernel))) (goodIn_sub (fun _ h => List.mem_append_left _ (List.mem_append_left _ (List.mem_append_left _ (List.mem_append_right _ h)))) (by decide +kernel))
set_option maxRecDepth 20000 in
theorem gL_law_L_force : GoodIn wsL_law (va_wsS RL 178 yL_force wsL_force) := goodIn_app (goodIn_of _ (by decide +kernel)) ggL_law_L_force
set_option maxRecDepth 20000 in
theorem ggL_law_X15_force : GoodIn wsL_law wsX15_force := goodIn_ca (goodIn_r _ [1038, 1039, 1040, 1041, 5, 1042, 555, 499, 502, 503, 504, 911, 912, 913, 914, 158, 500, 755, 756, 757, 758, 759, 760, 566, 761, 572, 573, 574, 575, 576, 577, 578, 762, 763, 589, 764, 765, 766, 767, 618, 768, 304, 305, 306, 769, 770, 601, 771, 772, 773, 774, 612, 613, 614, 775, 625, 626, 627, 628, 629, 630, 915, 916, 917, 918, 161, 910, 397, 218, 398, 751, 217, 219, 919, 920, 921, 922, 923, 244, 245, 924, 925, 926, 927, 501, 928, 929, 360, 361, 362, 930, 931, 932, 887, 888, 889, 933, 934, 935, 936, 937, 938, 939, 940, 1240, 1241, 1242, 1243, 1244, 1245, 1246, 1247, 1248, 1249, 1250, 1251, 1252, 1253, 1254, 1255, 1256, 1257, 1258, 1259, 1260, 1261, 1262, 1263, 1264, 1265, 1266, 1267, 1340, 1341] (by decide +kernel) (by decide +kernel)) (goodIn_sub (fun _ h => List.mem_append_left _ (List.mem_append_left _ (List.mem_append_left _ (List.mem_append_left _ (List.mem_append_left _ (List.mem_append_left _ (List.mem_append_left _ (List.mem_append_right _ h)))))))) (by decide +kernel))
set_option maxRecDepth 20000 in
theorem gL_law_X15_force : GoodIn wsL_law (wsV RL 180 RX15 yX15_force wsX15_force) := goodIn_app (goodIn_of _ (by decide +kernel)) ggL_law_X15_force
set_option maxRecDepth 20000 in
theorem ggL_law_L_spread : GoodIn wsL_law wsL_spread := goodIn_ca (goodIn_ca (goodIn_r _ [1045, 662, 1046, 1047, 1048, 2, 1049, 668, 669, 17, 1033, 266, 267, 29, 268, 72, 1236, 1237, 1238, 1239, 1268, 1269, 1270, 1271, 1272, 1273, 1274, 1275, 1276, 1277, 1278, 1279, 1280, 1281, 1282, 1283, 1284, 1313, 1314, 1315, 1316, 1317, 1318, 1319, 1320, 1288, 1289, 1290, 1291, 1292, 1293] (by decide +kernel) (by decide +kernel)) (goodIn_sub (fun _ h => List.mem_append_left _ (List.mem_append_left _ (List.mem_append_left _ (List.mem_append_left _ (List.mem_append_left _ (List.mem_append_left _ (List.mem_append_left _ (List.mem_append_right _ h)))))))) (by decide +kernel))) (goodIn_sub (fun _ h => List.mem_append_left _ (List.mem_append_left _ (List.mem_append_left _ (List.mem_append_right _ h)))) (by decide +kernel))
set_option maxRecDepth 20000 in
theorem gL_law_L_spread : GoodIn wsL_law (va_wsS RL 181 yL_spread wsL_spread) := goodIn_app (goodIn_of _ (by decide +kernel)) ggL_law_L_spread
set_option maxRecDepth 20000 in
theorem ggL_law_X15_spread : GoodIn wsL_law wsX15_spread := goodIn_ca (goodIn_r _ [1053, 160, 158, 1039, 1040, 1041, 5, 1042, 555, 499, 502, 503, 504, 1240, 1241, 1242, 1243, 1244, 1245, 1246, 1247, 1248, 1249, 1250, 1251, 1252, 1253, 1254, 1255, 1256, 1257, 1258, 1259, 1260, 1261, 1262, 1263, 1264, 1265, 1266, 1267] (by decide +kernel) (by decide +kernel)) (goodIn_sub (fun _ h => List.mem_append_left _ (List.mem_append_left _ (List.mem_append_left _ (List.mem_append_left _ (List.mem_append_left _ (List.mem_append_left _ (List.mem_append_left _ (List.mem_append_right _ h)))))))) (by decide +kernel))
set_option maxRecDepth 20000 in
theorem gL_law_X15_spread : GoodIn wsL_law (wsV RL 183 RX15 yX15_spread wsX15_spread) := goodIn_app (goodIn_of _ (by decide +kernel)) ggL_law_X15_spread
set_option maxRecDepth 20000 in
theorem ggL_law_L_strength : GoodIn wsL_law wsL_strength := goodIn_ca (goodIn_ca (goodIn_r _ [1056, 662, 1057, 1058, 1059, 2, 1060, 668, 669, 17, 1033, 266, 267, 29, 268, 72, 1236, 1237, 1238, 1239, 1268, 1269, 1270, 1271, 1272, 1273, 1274, 1275, 1276, 1277, 1278, 1279, 1280, 1281, 1282, 1283, 1284, 1313, 1314, 1315, 1316, 1317, 1318, 1319, 1320, 1288, 1289, 1290, 1291, 1292, 1293] (by decide +kernel) (by decide +kernel)) (goodIn_sub (fun _ h => List.mem_append_left _ (List.mem_append_left _ (List.mem_append_left _ (List.mem_append_left _ (List.mem_append_left _ (List.mem_append_left _ (List.mem_append_left _ (List.mem_append_right _ h)))))))) (by decide +kernel))) (goodIn_sub (fun _ h => List.mem_append_left _ (List.mem_append_left _ (List.mem_append_left _ (List.mem_append_right _ h)))) (by decide +kernel))
set_option maxRecDepth 20000 in
theorem gL_law_L_strength : GoodIn wsL_law (va_wsS RL 184 yL_strength wsL_strength) := goodIn_app (goodIn_of _ (by decide +kernel)) ggL_law_L_strength
set_option maxRecDepth 20000 in
theorem ggL_law_X15_strength : GoodIn wsL_law wsX15_strength := goodIn_ca (goodIn_r _ [1064, 159, 1039, 1040, 1041, 5, 1042, 555, 499, 502, 503, 504, 1240, 1241, 1242, 1243, 1244, 1245, 1246, 1247, 1248, 1249, 1250, 1251, 1252, 1253, 1254, 1255, 1256, 1257, 1258, 1259, 1260, 1261, 1262, 1263, 1264, 1265, 1266, 1267] (by decide +kernel) (by decide +kernel)) (goodIn_sub (fun _ h => List.mem_append_left _ (List.mem_append_left _ (List.mem_append_left _ (List.mem_append_left _ (List.mem_append_left _ (List.mem_append_left _ (List.mem_append_left _ (List.mem_append_right _ h)))))))) (by decide +kernel))
set_option maxRecDepth 20000 in
theorem gL_law_X15_strength : GoodIn wsL_law (wsV RL 186 RX15 yX15_strength wsX15_strength) := goodIn_app (goodIn_of _ (by decide +kernel)) ggL_law_X15_strength
set_option maxRecDepth 20000 in
theorem ggL_law_L_braced : GoodIn wsL_law wsL_braced := goodIn_ca (goodIn_ca (goodIn_r _ [1067, 662, 1068, 1069, 1070, 2, 1071, 668, 669, 17, 1072, 342, 343, 29, 344, 68, 1236, 1237, 1238, 1239, 1268, 1269, 1270, 1271, 1272, 1273, 1274, 1275, 1276, 1277, 1278, 1279, 1280, 1281, 1282, 1283, 1284, 1310, 1311, 1312, 1288, 1289, 1290, 1291, 1292, 1293] (by decide +kernel) (by decide +kernel)) (goodIn_sub (fun _ h => List.mem_append_left _ (List.mem_append_left _ (List.mem_append_left _ (List.mem_append_left _ (List.mem_append_left _ (List.mem_append_left _ (List.mem_append_left _ (List.mem_append_right _ h)))))))) (by decide +kernel))) (goodIn_sub (fun _ h => List.mem_append_left _ (List.mem_append_left _ (List.mem_append_left _ (List.mem_append_right _ h)))) (by decide +kernel))
set_option maxRecDepth 20000 in
theorem gL_law_L_braced : GoodIn wsL_law (va_wsS RL 187 yL_braced wsL_braced) := goodIn_app (goodIn_of _ (by decide +kernel)) ggL_law_L_braced
set_option maxRecDepth 20000 in
theorem ggL_law_X15_braced : GoodIn wsL_law wsX15_braced := goodIn_ca (goodIn_r _ [1076, 161, 1077, 1078, 1079, 5, 1080, 556, 499, 502, 503, 504, 1240, 1241, 1242, 1243, 1244, 1245, 1246, 1247, 1248, 1249, 1250, 1251, 1252, 1253, 1254, 1255, 1256, 1257, 1258, 1259, 1260, 1261, 1262, 1263, 1264, 1265, 1266, 1267] (by decide +kernel) (by decide +kernel)) (goodIn_sub (fun _ h => List.mem_append_left _ (List.mem_append_left _ (List.mem_append_left _ (List.mem_append_left _ (List.mem_append_left _ (List.mem_append_left _ (List.mem_append_left _ (List.mem_append_right _ h)))))))) (by decide +kernel))
set_option maxRecDepth 20000 in
theorem gL_law_X15_braced : GoodIn wsL_law (wsV RL 189 RX15 yX15_braced wsX15_braced) := goodIn_app (goodIn_of _ (by decide +kernel)) ggL_law_X15_braced
set_option maxRecDepth 20000 in
theorem ggL_law_L_isSprung : GoodIn wsL_law wsL_isSprung := goodIn_ca (goodIn_ca (goodIn_r _ [1083, 662, 1084, 1085, 1086, 2, 1087, 668, 669, 17, 1072, 342, 343, 29, 344, 68, 1236, 1237, 1238, 1239, 1268, 1269, 1270, 1271, 1272, 1273, 1274, 1275, 1276, 1277, 1278, 1279, 1280, 1281, 1282, 1283, 1284, 1310, 1311, 1312, 1288, 1289, 1290, 1291, 1292, 1293] (by decide +kernel) (by decide +kernel)) (goodIn_sub (fun _ h => List.mem_append_left _ (List.mem_append_left _ (List.mem_append_left _ (List.mem_append_left _ (List.mem_append_left _ (List.mem_append_left _ (List.mem_append_left _ (List.mem_append_right _ h)))))))) (by decide +kernel))) (goodIn_sub (fun _ h => List.mem_append_left _ (List.mem_append_left _ (List.mem_append_left _ (List.mem_append_right _ h)))) (by decide +kernel))
set_option maxRecDepth 20000 in
theorem gL_law_L_isSprung : GoodIn wsL_law (va_wsS RL 190 yL_isSprung wsL_isSprung) := goodIn_app (goodIn_of _ (by decide +kernel)) ggL_law_L_isSprung
set_option maxRecDepth 20000 in
theorem ggL_law_X15_isSprung : GoodIn wsL_law wsX15_isSprung := goodIn_ca (goodIn_r _ [1091, 162, 1077, 1078, 1079, 5, 1080, 556, 499, 502, 503, 504, 1240, 1241, 1242, 1243, 1244, 1245, 1246, 1247, 1248, 1249, 1250, 1251, 1252, 1253, 1254, 1255, 1256, 1257, 1258, 1259, 1260, 1261, 1262, 1263, 1264, 1265, 1266, 1267] (by decide +kernel) (by decide +kernel)) (goodIn_sub (fun _ h => List.mem_append_left _ (List.mem_append_left _ (List.mem_append_left _ (List.mem_append_left _ (List.mem_append_left _ (List.mem_append_left _ (List.mem_append_left _ (List.mem_append_right _ h)))))))) (by decide +kernel))
set_option maxRecDepth 20000 in
theorem gL_law_X15_isSprung : GoodIn wsL_law (wsV RL 192 RX15 yX15_isSprung wsX15_isSprung) := goodIn_app (goodIn_of _ (by decide +kernel)) ggL_law_X15_isSprung
set_option maxRecDepth 20000 in
theorem ggL_law_X11_best : GoodIn wsL_law wsX11_best := goodIn_r _ [1095, 17, 1021, 388, 389, 16, 390, 48, 54, 1096, 401, 29, 402, 396, 397, 218, 398, 1236, 1237, 1238, 1239, 1268, 1269, 1270, 1271, 1272, 1273, 1274, 1275, 1276, 1277, 1278, 1279, 1280, 1281, 1282, 1283, 1284] (by decide +kernel) (by decide +kernel)
set_option maxRecDepth 20000 in
theorem gL_law_X11_best : GoodIn wsL_law (wsV RL 193 RX11 yX11_best wsX11_best) := goodIn_app (goodIn_of _ (by decide +kernel)) ggL_law_X11_best
set_option maxRecDepth 20000 in
theorem ggL_law_X15_best : GoodIn wsL_law wsX15_best := goodIn_r _ [1100, 499, 933, 934, 935, 5, 936, 923, 244, 218, 245, 919, 920, 921, 922, 924, 925, 926, 927, 501, 928, 929, 360, 361, 362, 937, 938, 939, 940, 1240, 1241, 1242, 1243, 1244, 1245, 1246, 1247, 1248, 1249, 1250, 1251, 1252, 1253, 1254, 1255, 1256, 1257, 1258, 1259, 1260, 1261, 1262, 1263, 1264, 1265, 1266, 1267] (by decide +kernel) (by decide +kernel)
set_option maxRecDepth 20000 in
theorem gL_law_X15_best : GoodIn wsL_law (wsV RL 196 RX15 yX15_best wsX15_best) := goodIn_app (goodIn_of _ (by decide +kernel)) ggL_law_X15_best
set_option maxRecDepth 20000 in
theorem ggL_law_X11_noon : GoodIn wsL_law wsX11_noon := goodIn_ca (goodIn_ca (goodIn_r _ [1104, 17, 178, 179, 180, 2, 181, 182, 183, 184, 21, 185, 186, 187, 188, 12, 13, 189, 190, 191, 192, 193, 194, 195, 20, 196, 197, 198, 199, 200, 201, 202, 203, 115, 204, 205, 206, 207, 208, 209, 210, 211, 212, 213, 214, 215, 114, 216, 217, 218, 219, 220, 221, 222, 223, 224, 225, 226, 227, 228, 229, 230, 231, 232, 233, 234, 235, 236, 237, 238, 239, 240, 241, 242, 243, 244, 245, 246, 247, 248, 249, 250, 251, 252, 16, 253, 48, 49, 50, 51, 52, 34, 38, 47, 46, 254, 255, 256, 257, 30, 258, 259, 260, 53, 261, 262, 263, 29, 264, 265, 266, 267, 268, 72, 269, 270, 271, 272, 273, 274, 275, 276, 277, 278, 279, 280, 281, 282, 33, 283, 101, 104, 284, 285, 286, 287, 288, 289, 290, 291, 292, 293, 294, 295, 296, 297, 298, 299, 300, 301, 302, 303, 304, 305, 306, 307, 308, 309, 310, 311, 312, 313, 37, 314, 133, 130, 132, 315, 316, 317, 318, 319, 320, 321, 322, 42, 323, 324, 325, 326, 105, 327, 328, 329, 330, 331, 332, 333, 334, 335, 336, 337, 338, 339, 71, 340, 85, 86, 341, 342, 343, 344, 68, 345, 346, 347, 348, 349, 350, 351, 352, 353, 41, 354, 141, 138, 139, 140, 355, 356, 357, 358, 359, 360, 361, 362, 363, 364, 365, 366, 102, 367, 368, 369, 370, 103, 371, 372, 373, 374, 98, 99, 375, 376, 377, 97, 378, 110, 379, 380, 381, 382, 383, 384, 385, 386, 387, 388, 389, 390, 54, 391, 392, 393, 394, 395, 396, 397, 398, 399, 73, 400, 401, 402, 403, 404, 405, 406, 407, 408, 409, 410, 411, 412, 413, 414, 415, 416, 84, 417, 418, 419, 420, 421, 422, 423, 424, 425, 57, 55, 426, 427, 428, 429, 56, 430, 431, 432, 433, 434, 435, 436, 437, 58, 438, 439, 440, 441, 442, 443, 444, 445, 446, 45, 447, 146, 145, 448, 449, 450, 451, 452, 453, 454, 455, 65, 66, 67, 456, 457, 458, 459, 460, 461, 462, 463, 464, 465, 466, 467, 109, 468, 469, 470, 471, 472, 473, 474, 475, 476, 477, 478, 479, 480, 481, 482, 483, 484, 485, 486, 487, 488, 489, 490, 491, 492, 1236, 1237, 1238, 1239, 1268, 1269, 1270, 1271, 1272, 1273, 1274, 1275, 1276, 1277, 1278, 1279, 1280, 1281, 1282, 1283, 1284, 1308, 1309, 1323, 1324, 1325, 1326, 1285, 1286, 1287, 1294, 1295, 1296, 1297, 1298, 1299, 1300, 1327, 1328, 1329, 1330, 1331, 1332, 1333, 1313, 1314, 1315, 1316, 1317, 1318, 1319, 1320, 1288, 1289, 1290, 1291, 1292, 1293, 1301, 1302, 1303, 1310, 1311, 1312, 1304, 1305, 1306, 1307, 1321, 1322] (by decide +kernel) (by decide +kernel)) (goodIn_sub (fun _ h => List.mem_append_left _ (List.mem_append_left _ (List.mem_append_left _ (List.mem_append_left _ (List.mem_append_left _ (List.mem_append_left _ (List.mem_append_left _ (List.mem_append_right _ h)))))))) (by decide +kernel))) (goodIn_sub (fun _ h => List.mem_append_left _ (List.mem_append_left _ (List.mem_append_left _ (List.mem_append_left _ (List.mem_append_left _ (List.mem_append_right _ h)))))) (by decide +kernel))
set_option maxRecDepth 20000 in
theorem gL_law_X11_noon : GoodIn wsL_law (wsV RL 197 RX11 yX11_noon wsX11_noon) := goodIn_app (goodIn_of _ (by decide +kernel)) ggL_law_X11_noon
set_option maxRecDepth 20000 in
theorem ggL_law_X15_noon : GoodIn wsL_law wsX15_noon := goodIn_r _ [1108, 499, 957, 971, 1240, 1241, 1242, 1243, 1244, 1245, 1246, 1247, 1248, 1249, 1250, 1251, 1252, 1253, 1254, 1255, 1256, 1257, 1258, 1259, 1260, 1261, 1262, 1263, 1264, 1265, 1266, 1267] (by decide +kernel) (by decide +kernel)
set_option maxRecDepth 20000 in
theorem gL_law_X15_noon : GoodIn wsL_law (wsV RL 200 RX15 yX15_noon wsX15_noon) := goodIn_app (goodIn_of _ (by decide +kernel)) ggL_law_X15_noon
set_option maxRecDepth 20000 in
theorem ggL_law_X11_reckonedEast : GoodIn wsL_law wsX11_reckonedEast := goodIn_r _ [1112, 17, 1236, 1237, 1238, 1239, 1268, 1269, 1270, 1271, 1272, 1273, 1274, 1275, 1276, 1277, 1278, 1279, 1280, 1281, 1282, 1283, 1284, 1308, 1309] (by decide +kernel) (by decide +kernel)
set_option maxRecDepth 20000 in
theorem gL_law_X11_reckonedEast : GoodIn wsL_law (wsV RL 201 RX11 yX11_reckonedEast wsX11_reckonedEast) := goodIn_app (goodIn_of _ (by decide +kernel)) ggL_law_X11_reckonedEast
set_option maxRecDepth 20000 in
theorem ggL_law_X15_reckonedEast : GoodIn wsL_law wsX15_reckonedEast := goodIn_r _ [1116, 499, 972, 1240, 1241, 1242, 1243, 1244, 1245, 1246, 1247, 1248, 1249, 1250, 1251, 1252, 1253, 1254, 1255, 1256, 1257, 1258, 1259, 1260, 1261, 1262, 1263, 1264, 1265, 1266, 1267] (by decide +kernel) (by decide +kernel)
set_option maxRecDepth 20000 in
theorem gL_law_X15_reckonedEast : GoodIn wsL_law (wsV RL 204 RX15 yX15_reckonedEast wsX15_reckonedEast) := goodIn_app (goodIn_of _ (by decide +kernel)) ggL_law_X15_reckonedEast
set_option maxRecDepth 20000 in
theorem ggL_law_X11_reckonedNorth : GoodIn wsL_law wsX11_reckonedNorth := goodIn_r _ [1120, 17, 1236, 1237, 1238, 1239, 1268, 1269, 1270, 1271, 1272, 1273, 1274, 1275, 1276, 1277, 1278, 1279, 1280, 1281, 1282, 1283, 1284, 1308, 1309] (by decide +kernel) (by decide +kernel)
set_option maxRecDepth 20000 in
theorem gL_law_X11_reckonedNorth : GoodIn wsL_law (wsV RL 205 RX11 yX11_reckonedNorth wsX11_reckonedNorth) := goodIn_app (goodIn_of _ (by decide +kernel)) ggL_law_X11_reckonedNorth
set_option maxRecDepth 20000 in
theorem ggL_law_X15_reckonedNorth : GoodIn wsL_law wsX15_reckonedNorth := goodIn_r _ [1124, 499, 971, 1240, 1241, 1242, 1243, 1244, 1245, 1246, 1247, 1248, 1249, 1250, 1251, 1252, 1253, 1254, 1255, 1256, 1257, 1258, 1259, 1260, 1261, 1262, 1263, 1264, 1265, 1266, 1267] (by decide +kernel) (by decide +kernel)
set_option maxRecDepth 20000 in
theorem gL_law_X15_reckonedNorth : GoodIn wsL_law (wsV RL 208 RX15 yX15_reckonedNorth wsX15_reckonedNorth) := goodIn_app (goodIn_of _ (by decide +kernel)) ggL_law_X15_reckonedNorth
set_option maxRecDepth 20000 in
theorem ggL_law_X11_lines : GoodIn wsL_law wsX11_lines := goodIn_r _ [1128, 17, 1236, 1237, 1238, 1239, 1268, 1269, 1270, 1271, 1272, 1273, 1274, 1275, 1276, 1277, 1278, 1279, 1280, 1281, 1282, 1283, 1284, 1304, 1305, 1306, 1307] (by decide +kernel) (by decide +kernel)
set_option maxRecDepth 20000 in
theorem gL_law_X11_lines : GoodIn wsL_law (wsV RL 209 RX11 yX11_lines wsX11_lines) := goodIn_app (goodIn_of _ (by decide +kernel)) ggL_law_X11_lines
set_option maxRecDepth 20000 in
theorem ggL_law_X15_lines : GoodIn wsL_law wsX15_lines := goodIn_r _ [1132, 499, 157, 646, 647, 194, 20, 196, 197, 1240, 1241, 1242, 1243, 1244, 1245, 1246, 1247, 1248, 1249, 1250, 1251, 1252, 1253, 1254, 1255, 1256, 1257, 1258, 1259, 1260, 1261, 1262, 1263, 1264, 1265, 1266, 1267, 1285, 1286, 1287] (by decide +kernel) (by decide +kernel)
set_option maxRecDepth 20000 in
theorem gL_law_X15_lines : GoodIn wsL_law (wsV RL 212 RX15 yX15_lines wsX15_lines) := goodIn_app (goodIn_of _ (by decide +kernel)) ggL_law_X15_lines
set_option maxRecDepth 20000 in
theorem ggL_law_L_line : GoodIn wsL_law wsL_line := goodIn_ca (goodIn_ca (goodIn_r _ [1135, 662, 1136, 1137, 1138, 2, 1139, 668, 669, 17, 175, 176, 177, 1140, 1141, 1142, 41, 1143, 138, 355, 356, 357, 358, 140, 359, 360, 361, 362, 1236, 1237, 1238, 1239, 1268, 1269, 1270, 1271, 1272, 1273, 1274, 1275, 1276, 1277, 1278, 1279, 1280, 1281, 1282, 1283, 1284, 1304, 1305, 1306, 1307] (by decide +kernel) (by decide +kernel)) (goodIn_sub (fun _ h => List.mem_append_left _ (List.mem_append_left _ (List.mem_append_left _ (List.mem_append_left _ (List.mem_append_left _ (List.mem_append_left _ (List.mem_append_left _ (List.mem_append_right _ h)))))))) (by decide +kernel))) (goodIn_sub (fun _ h => List.mem_append_left _ (List.mem_append_left _ (List.mem_append_left _ (List.mem_append_right _ h)))) (by decide +kernel))
set_option maxRecDepth 20000 in
theorem gL_law_L_line : GoodIn wsL_law (va_wsS RL 213 yL_line wsL_line) := goodIn_app (goodIn_of _ (by decide +kernel)) ggL_law_L_line
set_option maxRecDepth 20000 in
theorem ggL_law_X15_line : GoodIn wsL_law wsX15_line := goodIn_r _ [1147, 157, 499, 1148, 646, 647, 194, 20, 196, 197, 502, 503, 5, 504, 678, 679, 296, 298, 299, 300, 301, 302, 303, 304, 305, 306, 307, 308, 309, 310, 115, 1240, 1241, 1242, 1243, 1244, 1245, 1246, 1247, 1248, 1249, 1250, 1251, 1252, 1253, 1254, 1255, 1256, 1257, 1258, 1259, 1260, 1261, 1262, 1263, 1264, 1265, 1266, 1267, 1348, 1349, 1285, 1286, 1287] (by decide +kernel) (by decide +kernel)
set_option maxRecDepth 20000 in
theorem gL_law_X15_line : GoodIn wsL_law (wsV RL 215 RX15 yX15_line wsX15_line) := goodIn_app (goodIn_of _ (by decide +kernel)) ggL_law_X15_line
set_option maxRecDepth 20000 in
theorem ggL_law_L_lineMinute : GoodIn wsL_law wsL_lineMinute := goodIn_ca (goodIn_ca (goodIn_r _ [1151, 662, 1152, 1153, 1154, 2, 1155, 668, 669, 17, 175, 176, 177, 1156, 1157, 1158, 41, 1159, 139, 355, 356, 357, 358, 140, 359, 360, 361, 362, 1236, 1237, 1238, 1239, 1268, 1269, 1270, 1271, 1272, 1273, 1274, 1275, 1276, 1277, 1278, 1279, 1280, 1281, 1282, 1283, 1284, 1304, 1305, 1306, 1307] (by decide +kernel) (by decide +kernel)) (goodIn_sub (fun _ h => List.mem_append_left _ (List.mem_append_left _ (List.mem_append_left _ (List.mem_append_left _ (List.mem_append_left _ (List.mem_append_left _ (List.mem_append_left _ (List.mem_append_right _ h)))))))) (by decide +kernel))) (goodIn_sub (fun _ h => List.mem_append_left _ (List.mem_append_left _ (List.mem_append_left _ (List.mem_append_right _ h)))) (by decide +kernel))
set_option maxRecDepth 20000 in
theorem gL_law_L_lineMinute : GoodIn wsL_law (va_wsS RL 216 yL_lineMinute wsL_lineMinute) := goodIn_app (goodIn_of _ (by decide +kernel)) ggL_law_L_lineMinute
set_option maxRecDepth 20000 in
theorem ggL_law_X15_lineMinute : GoodIn wsL_law wsX15_lineMinute := goodIn_r _ [1163, 157, 499, 1148, 646, 647, 194, 20, 196, 197, 502, 503, 5, 504, 678, 679, 296, 298, 299, 300, 301, 302, 303, 304, 305, 306, 307, 308, 309, 310, 115, 1240, 1241, 1242, 1243, 1244, 1245, 1246, 1247, 1248, 1249, 1250, 1251, 1252, 1253, 1254, 1255, 1256, 1257, 1258, 1259, 1260, 1261, 1262, 1263, 1264, 1265, 1266, 1267, 1348, 1349, 1285, 1286, 1287] (by decide +kernel) (by decide +kernel)
set_option maxRecDepth 20000 in
theorem gL_law_X15_lineMinute : GoodIn wsL_law (wsV RL 218 RX15 yX15_lineMinute wsX15_lineMinute) := goodIn_app (goodIn_of _ (by decide +kernel)) ggL_law_X15_lineMinute
set_option maxRecDepth 20000 in
theorem ggL_law_X11_setShare : GoodIn wsL_law wsX11_setShare := goodIn_r _ [1167, 17, 1168, 1169, 1170, 1171, 29, 1172, 72, 1236, 1237, 1238, 1239, 1268, 1269, 1270, 1271, 1272, 1273, 1274, 1275, 1276, 1277, 1278, 1279, 1280, 1281, 1282, 1283, 1284, 1288, 1289, 1290, 1291, 1292, 1293, 1313, 1314, 1315, 1316, 1317, 1318, 1319, 1320] (by decide +kernel) (by decide +kernel)
set_option maxRecDepth 20000 in
theorem gL_law_X11_setShare : GoodIn wsL_law (wsV RL 219 RX11 yX11_setShare wsX11_setShare) := goodIn_app (goodIn_of _ (by decide +kernel)) ggL_law_X11_setShare
set_option maxRecDepth 20000 in
theorem ggL_law_X15_setShare : GoodIn wsL_law wsX15_setShare := goodIn_ca (goodIn_r _ [1176, 499, 158, 1177, 1240, 1241, 1242, 1243, 1244, 1245, 1246, 1247, 1248, 1249, 1250, 1251, 1252, 1253, 1254, 1255, 1256, 1257, 1258, 1259, 1260, 1261, 1262, 1263, 1264, 1265, 1266, 1267] (by decide +kernel) (by decide +kernel)) (goodIn_sub (fun _ h => List.mem_append_left _ (List.mem_append_left _ (List.mem_append_left _ (List.mem_append_left _ (List.mem_append_left _ (List.mem_append_left _ (List.mem_append_left _ (List.mem_append_right _ h)))))))) (by decide +kernel))
set_option maxRecDepth 20000 in
theorem gL_law_X15_setShare : GoodIn wsL_law (wsV RL 223 RX15 yX15_setShare wsX15_setShare) := goodIn_app (goodIn_of _ (by decide +kernel)) ggL_law_X15_setShare
set_option maxRecDepth 20000 in
theorem ggL_law_L_meanStrength : GoodIn wsL_law wsL_meanStrength := goodIn_ca (goodIn_ca (goodIn_r _ [1180, 1181, 1182, 1183, 1184, 2, 1185, 1186, 1187, 17, 1188, 1189, 1190, 29, 1191, 72, 1192, 1193, 1194, 1195, 1236, 1237, 1238, 1239, 1268, 1269, 1270, 1271, 1272, 1273, 1274, 1275, 1276, 1277, 1278, 1279, 1280, 1281, 1282, 1283, 1284, 1288, 1289, 1290, 1291, 1292, 1293, 1313, 1314, 1315, 1316, 1317, 1318, 1319, 1320] (by decide +kernel) (by decide +kernel)) (goodIn_sub (fun _ h => List.mem_append_left _ (List.mem_append_left _ (List.mem_append_left _ (List.mem_append_left _ (List.mem_append_left _ (List.mem_append_left _ (List.mem_append_left _ (List.mem_append_right _ h)))))))) (by decide +kernel))) (goodIn_sub (fun _ h => List.mem_append_right _ h) (by decide +kernel))
set_option maxRecDepth 20000 in
theorem gL_law_L_meanStrength : GoodIn wsL_law (va_wsS RL 224 yL_meanStrength wsL_meanStrength) := goodIn_app (goodIn_of _ (by decide +kernel)) ggL_law_L_meanStrength
set_option maxRecDepth 20000 in
theorem ggL_law_X15_meanStrength : GoodIn wsL_law wsX15_meanStrength := goodIn_ca (goodIn_r _ [1199, 160, 159, 499, 1240, 1241, 1242, 1243, 1244, 1245, 1246, 1247, 1248, 1249, 1250, 1251, 1252, 1253, 1254, 1255, 1256, 1257, 1258, 1259, 1260, 1261, 1262, 1263, 1264, 1265, 1266, 1267] (by decide +kernel) (by decide +kernel)) (goodIn_sub (fun _ h => List.mem_append_left _ (List.mem_append_left _ (List.mem_append_left _ (List.mem_append_left _ (List.mem_append_left _ (List.mem_append_left _ (List.mem_append_left _ (List.mem_append_right _ h)))))))) (by decide +kernel))
set_option maxRecDepth 20000 in
theorem gL_law_X15_meanStrength : GoodIn wsL_law (wsV RL 227 RX15 yX15_meanStrength wsX15_meanStrength) := goodIn_app (goodIn_of _ (by decide +kernel)) ggL_law_X15_meanStrength
set_option maxRecDepth 20000 in
theorem ggL_law_X11_isSame : GoodIn wsL_law wsX11_isSame := goodIn_ca (goodIn_ca (goodIn_r _ [1203, 23, 21, 22, 1204, 17, 193, 194, 195, 20, 196, 197, 1205, 296, 297, 298, 299, 300, 301, 302, 303, 304, 305, 306, 307, 308, 309, 310, 115, 250, 251, 252, 16, 253, 48, 49, 50, 51, 52, 34, 38, 47, 46, 254, 255, 256, 257, 30, 258, 259, 260, 53, 261, 262, 263, 29, 264, 265, 266, 267, 268, 72, 269, 270, 271, 272, 12, 13, 273, 274, 275, 276, 277, 278, 279, 280, 281, 282, 33, 283, 101, 104, 284, 285, 199, 200, 201, 202, 203, 204, 205, 206, 207, 208, 209, 210, 211, 212, 213, 214, 215, 114, 216, 217, 218, 219, 220, 221, 222, 223, 224, 225, 226, 227, 228, 229, 230, 231, 232, 233, 234, 235, 236, 237, 238, 239, 240, 241, 242, 243, 244, 245, 246, 247, 248, 249, 286, 287, 288, 289, 290, 291, 292, 293, 294, 295, 311, 312, 313, 37, 314, 133, 130, 132, 315, 316, 317, 318, 319, 320, 321, 322, 42, 323, 324, 325, 326, 105, 327, 328, 329, 330, 331, 332, 333, 334, 335, 336, 337, 338, 339, 71, 340, 85, 86, 341, 342, 343, 344, 68, 345, 346, 347, 348, 349, 350, 351, 352, 353, 41, 354, 141, 138, 139, 140, 355, 356, 357, 358, 359, 360, 361, 362, 363, 364, 365, 366, 102, 367, 368, 369, 370, 103, 371, 372, 373, 374, 98, 99, 375, 376, 377, 97, 378, 110, 379, 380, 381, 382, 383, 384, 385, 386, 387, 388, 389, 390, 54, 391, 392, 393, 394, 395, 396, 397, 398, 399, 73, 400, 401, 402, 403, 404, 405, 406, 407, 408, 409, 410, 411, 412, 413, 414, 415, 416, 84, 417, 418, 419, 420, 421, 422, 423, 424, 425, 57, 55, 426, 427, 428, 429, 56, 430, 431, 432, 433, 434, 435, 436, 437, 58, 438, 439, 440, 441, 442, 443, 444, 445, 446, 45, 447, 146, 145, 448, 449, 450, 451, 452, 453, 454, 455, 65, 66, 67, 456, 457, 458, 459, 460, 461, 462, 463, 464, 465, 466, 467, 109, 468, 469, 470, 471, 472, 473, 474, 475, 476, 477, 478, 479, 480, 481, 482, 483, 484, 485, 486, 487, 488, 489, 490, 491, 492, 1206, 1207, 1208, 1209, 1210, 1211, 1212, 1213, 1214, 1215, 1216, 1217, 1218, 1219, 1220, 1221, 1222, 1223, 1224, 1225, 1226, 1227, 1228, 1229, 1230, 1141, 1142, 1143, 1231, 1157, 1158, 1159, 1236, 1237, 1238, 1239, 1285, 1286, 1287, 1323, 1324, 1325, 1326, 1268, 1269, 1270, 1271, 1272, 1273, 1274, 1275, 1276, 1277, 1278, 1279, 1280, 1281, 1282, 1283, 1284, 1294, 1295, 1296, 1297, 1298, 1299, 1300, 1308, 1309, 1327, 1328, 1329, 1330, 1331, 1332, 1333, 1313, 1314, 1315, 1316, 1317, 1318, 1319, 1320, 1288, 1289, 1290, 1291, 1292, 1293, 1301, 1302, 1303, 1310, 1311, 1312, 1304, 1305, 1306, 1307, 1321, 1322] (by decide +kernel) (by decide +kernel)) (goodIn_sub (fun _ h => List.mem_append_left _ (List.mem_append_left _ (List.mem_append_left _ (List.mem_append_left _ (List.mem_append_left _ (List.mem_append_left _ (List.mem_append_left _ (List.mem_append_right _ h)))))))) (by decide +kernel))) (goodIn_sub (fun _ h => List.mem_append_left _ (List.mem_append_left _ (List.mem_append_left _ (List.mem_append_left _ (List.mem_append_left _ (List.mem_append_right _ h)))))) (by decide +kernel))
set_option maxRecDepth 20000 in
theorem gL_law_X11_isSame : GoodIn wsL_law (wsV RL 228 RX11 yX11_isSame wsX11_isSame) := goodIn_app (goodIn_of _ (by decide +kernel)) ggL_law_X11_isSame
set_option maxRecDepth 20000 in
theorem ggL_law_X15_isSame : GoodIn wsL_law wsX15_isSame := goodIn_r _ [1235, 499, 1240, 1241, 1242, 1243, 1244, 1245, 1246, 1247, 1248, 1249, 1250, 1251, 1252, 1253, 1254, 1255, 1256, 1257, 1258, 1259, 1260, 1261, 1262, 1263, 1264, 1265, 1266, 1267] (by decide +kernel) (by decide +kernel)
set_option maxRecDepth 20000 in
theorem gL_law_X15_isSame : GoodIn wsL_law (wsV RL 232 RX15 yX15_isSame wsX15_isSame) := goodIn_app (goodIn_of _ (by decide +kernel)) ggL_law_X15_isSame
theorem dL_law_28 : decode cL_law 28 = .ok (.iload 5, 2) := by decide +kernel
theorem dL_law_30 : decode cL_law 30 = .ok (.aload_n 0, 1) := by decide +kernel
theorem dL_law_31 : decode cL_law 31 = .ok (.arraylength, 1) := by decide +kernel
theorem dL_law_32 : decode cL_law 32 = .ok (.iconst 4, 1) := by decide +kernel
theorem dL_law_33 : decode cL_law 33 = .ok (.isub, 1) := by decide +kernel
theorem dL_law_34 : decode cL_law 34 = .ok (.if_icmp .gt 1656, 3) := by decide +kernel
theorem dL_law_1684 : decode cL_law 1684 = .ok (.iinc 5 4, 3) := by decide +kernel
theorem dL_law_1687 : decode cL_law 1687 = .ok (.goto (-1659), 3) := by decide +kernel
theorem dL_law_1690 : decode cL_law 1690 = .ok (.iconst 1, 1) := by decide +kernel
theorem dL_law_1691 : decode cL_law 1691 = .ok (.ireturn, 1) := by decide +kernel
/-! THE CLAIM OUT OF ONE WALK OF THE LAW'S BODY. Your part is whole_start (and what it stands on); all else here is the same for every law, but numbers. -/
def R_law : String := "SquareRigLaw"
def lw_P (b : Addr) (xs : List Int32) (args : Array Value) (s : State) : Prop := args = #[.ref b] ∧ s.IntsAt b xs ∧ xs.length ≤ 4 ∧ (Jvm.Cond.and given_1 narrow_1).before args s = true
/-- what a walk over the start with the record d0 says of its end, said of the start itself -/
theorem lw_closed {s t : State} {o : Outcome} {d0 : Drawn} {L : List Loc} {k n : Nat} (hd0 : s.drawn.sameBut d0 lw_cs) (hv : ∃ v, o = .returned v) (hW : (s.setDrawn d0).WarmedH t.vm) (hs : (s.setDrawn d0).sameButNew ({ t with vm := s.vm } : State) L k n) : State.butDraws s t lw_cs (fun t1 => Framed s o t1 L k n) := by
  have h2 : t.drawn = d0 := congrArg State.drawn hs.1
  refine ⟨⟨hv, hW, State.sameButNew.setDrawn hs s.drawn⟩, ?_, by decide⟩
  rw [h2]
  exact hd0
def lw_Q (_ : Array Value) (s : State) (o : Outcome) (t : State) : Prop := o = .returned (some (.int 1)) ∧ State.butDraws s t lw_cs (fun t1 => Framed s o t1 [] 647047 7160938)
def lw_Z (below : List Frame) (a : Array Value) (s : State) : State → Prop := fun t => ∃ o, t.status = .running ∧ Ended t below o ∧ lw_Q a s o t
/-- the law's own end, with 1 on the stack, nothing written that was there before, its room as the claim has it; d0: the record of draws at this point (at the entry s.drawn: begin with 'refine W.base ?_' and 'have hd0 := Drawn.sameBut.refl s.drawn lw_cs') -/
theorem lw_ret {p : Program} {l : Launch} {e : Env} {s : State} {m : MethodId} {below : List Frame} {meth : Method} {c : Code} {b : Nat} {d0 : Drawn} (hd0 : s.drawn.sameBut d0 lw_cs) (hx : p.tables.exec = Jvm.exec) (hb : c.code = code) (hr : meth.sig.returnType = ret) (hlocks : meth.locks = false) {pc : Nat} {H : Heap} {ls : Array Slot} (hdg : decode code pc = .ok (.ireturn, 1)) : W p l e room_1 (s.setDrawn d0) m #[Value.ref b] below meth c H [] 647047 7160938 (lw_Z below #[Value.ref b] s) (F0 m pc ls [.int 1]) := by
  intro T hT X
  obtain ⟨fs, hret, hrun, hended, hW, hframe⟩ := X.leave (v := some (.int 1)) (hlocks := hlocks) (fun h => by rw [hr] at h; cases h)
  have hmeth' : T.vm.method? m = some meth := X.method'
  refine ⟨T.setFrames fs, ?_, .returned (some (.int 1)), hrun, hended, rfl, lw_closed hd0 ⟨_, rfl⟩ hW hframe⟩
  jvm_step X.here [X.here.top, hx, hb, hdg, hmeth', hr, ret, narrow_b1]
  (try refine ⟨rfl, ?_⟩); (try refine ⟨rfl, ?_⟩)
  first | (intro acts; rw [hret _ acts rfl rfl rfl]) | rw [hret _ _ rfl rfl rfl]
  exact Steps.refl _
/-- what holds at the law's entry: the machine, the code, the tables' words (any of lw_tbl by 'hts w (by decide +kernel)'), the script of L ints xs at the cell b, what the Statement gives of the start (any of its parts by flat_of_before) -/
def lw_At (p : Program) (s : State) (m : MethodId) (meth : Method) (c : Code) (b L : Nat) (xs : Nat → Int32) : Prop :=
  p.tables.exec = Jvm.exec ∧ c.code = code ∧ meth.sig.returnType = ret ∧ c.maxLocals = 10 ∧ s.vm.findClass R_law = some m.cls ∧ (∀ w ∈ lw_tbl, w.before #[Value.ref b] s = true) ∧ va_X b L xs s s.heap ∧ b < s.heap.size ∧ meth.locks = false ∧ (Jvm.Cond.and given_1 narrow_1).before #[Value.ref b] s = true

theorem k_out9 {q : Int32} (h : ¬ ((0 : Int32) ≤ q ∧ q ≤ 8)) : q < 0 ∨ 9 ≤ q := by
  rw [Int32.lt_iff_toInt_lt, Int32.le_iff_toInt_le]
  rw [Int32.le_iff_toInt_le, Int32.le_iff_toInt_le] at h
  have e0 : (0 : Int32).toInt = 0 := by decide
  have e8 : (8 : Int32).toInt = 8 := by decide
  have e9 : (9 : Int32).toInt = 9 := by decide
  rw [e0, e8] at h
  rw [e0, e9]
  omega
theorem k_out3 {q : Int32} (h : ¬ ((0 : Int32) ≤ q ∧ q ≤ 2)) : q < 0 ∨ 3 ≤ q := by
  rw [Int32.lt_iff_toInt_lt, Int32.le_iff_toInt_le]
  rw [Int32.le_iff_toInt_le, Int32.le_iff_toInt_le] at h
  have e0 : (0 : Int32).toInt = 0 := by decide
  have e8 : (2 : Int32).toInt = 2 := by decide
  have e9 : (3 : Int32).toInt = 3 := by decide
  rw [e0, e8] at h
  rw [e0, e9]
  omega
theorem kO_o {k w h : Int32} (h1 : ¬ k = 115) (h2 : ¬ k = 98) (h3 : ¬ k = 109) (h4 : ¬ k = 114) : ¬ kO k w h := by
  rintro (⟨q, -⟩ | ⟨q, -⟩ | ⟨q, -⟩ | ⟨q, -⟩)
  · exact h1 q
  · exact h3 q
  · exact h2 q
  · exact h4 q
theorem wl_x6 : ∀ w ∈ (vx_atS RX11 159 "java/util/NoSuchElementException" ["java/lang/RuntimeException", "java/lang/Exception"]).filter goodWord, vn_keep w = true → w ∈ lw_tbl := by decide +kernel
theorem wl_in : ∀ w ∈ wsL_law, vn_keep w = true → w ∈ lw_tbl := fun w h k => (List.mem_append.mp h).elim (fun h => (List.mem_append.mp h).elim (fun h => (List.mem_append.mp h).elim (fun h => (List.mem_append.mp h).elim (fun h => (List.mem_append.mp h).elim (fun h => (List.mem_append.mp h).elim (fun h => (List.mem_append.mp h).elim (fun h => (List.mem_append.mp h).elim (fun h => wsL_law_in0 w h) (fun h => wsL_law_x0 w h)) (fun h => wsL_law_x1 w h)) (fun h => wsL_law_x2 w h)) (fun h => wsL_law_x3 w h)) (fun h => wsL_law_x4 w h)) (fun h => wsL_law_x5 w h)) (fun h => wl_x6 w h k)) (fun h => wsL_law_x7 w h)
theorem wl_good {ws : List Cond} (h : GoodIn wsL_law ws) (hn : ws.all vn_keep = true) : GoodIn lw_tbl ws := fun w hw => ⟨wl_in w (h w hw).1 (List.all_eq_true.mp hn w hw), (h w hw).2⟩
set_option maxRecDepth 20000 in
theorem hL_L_belay_114 : GoodIn lw_tbl (va_wsS RL 114 yL_belay wsL_belay) := wl_good gL_law_L_belay (by decide +kernel)
set_option maxRecDepth 20000 in
theorem hL_L_braced_187 : GoodIn lw_tbl (va_wsS RL 187 yL_braced wsL_braced) := wl_good gL_law_L_braced (by decide +kernel)
set_option maxRecDepth 20000 in
theorem hL_L_current_103 : GoodIn lw_tbl (va_wsS RL 103 yL_current wsL_current) := wl_good gL_law_L_current (by decide +kernel)
set_option maxRecDepth 20000 in
theorem hL_L_force_178 : GoodIn lw_tbl (va_wsS RL 178 yL_force wsL_force) := wl_good gL_law_L_force (by decide +kernel)
set_option maxRecDepth 20000 in
theorem hL_L_helm_106 : GoodIn lw_tbl (va_wsS RL 106 yL_helm wsL_helm) := wl_good gL_law_L_helm (by decide +kernel)
set_option maxRecDepth 20000 in
theorem hL_L_isSprung_190 : GoodIn lw_tbl (va_wsS RL 190 yL_isSprung wsL_isSprung) := wl_good gL_law_L_isSprung (by decide +kernel)
theorem hL_L_jettison_146 : GoodIn lw_tbl (va_wsS RL 146 yL_jettison wnL_jettison) := goodIn_sub (by decide +kernel) (by decide +kernel)
set_option maxRecDepth 20000 in
theorem hL_L_left_143 : GoodIn lw_tbl (va_wsS RL 143 yL_left wsL_left) := wl_good gL_law_L_left (by decide +kernel)
set_option maxRecDepth 20000 in
theorem hL_L_lineMinute_216 : GoodIn lw_tbl (va_wsS RL 216 yL_lineMinute wsL_lineMinute) := wl_good gL_law_L_lineMinute (by decide +kernel)
set_option maxRecDepth 20000 in
theorem hL_L_line_213 : GoodIn lw_tbl (va_wsS RL 213 yL_line wsL_line) := wl_good gL_law_L_line (by decide +kernel)
set_option maxRecDepth 20000 in
theorem hL_L_meanStrength_224 : GoodIn lw_tbl (va_wsS RL 224 yL_meanStrength wsL_meanStrength) := wl_good gL_law_L_meanStrength (by decide +kernel)
set_option maxRecDepth 20000 in
theorem hL_L_order_110 : GoodIn lw_tbl (va_wsS RL 110 yL_order wsL_order) := wl_good gL_law_L_order (by decide +kernel)
set_option maxRecDepth 20000 in
theorem hL_L_sail_150 : GoodIn lw_tbl (va_wsS RL 150 yL_sail wsL_sail) := wl_good gL_law_L_sail (by decide +kernel)
set_option maxRecDepth 20000 in
theorem hL_L_sick_136 : GoodIn lw_tbl (va_wsS RL 136 yL_sick wsL_sick) := wl_good gL_law_L_sick (by decide +kernel)
set_option maxRecDepth 20000 in
theorem hL_L_spread_181 : GoodIn lw_tbl (va_wsS RL 181 yL_spread wsL_spread) := wl_good gL_law_L_spread (by decide +kernel)
set_option maxRecDepth 20000 in
theorem hL_L_state_117 : GoodIn lw_tbl (va_wsS RL 117 yL_state wsL_state) := wl_good gL_law_L_state (by decide +kernel)
set_option maxRecDepth 20000 in
theorem hL_L_stow_139 : GoodIn lw_tbl (va_wsS RL 139 yL_stow wsL_stow) := wl_good gL_law_L_stow (by decide +kernel)
set_option maxRecDepth 20000 in
theorem hL_L_strength_184 : GoodIn lw_tbl (va_wsS RL 184 yL_strength wsL_strength) := wl_good gL_law_L_strength (by decide +kernel)
set_option maxRecDepth 20000 in
theorem hL_L_tired_133 : GoodIn lw_tbl (va_wsS RL 133 yL_tired wsL_tired) := wl_good gL_law_L_tired (by decide +kernel)
set_option maxRecDepth 20000 in
theorem hL_L_wind_94 : GoodIn lw_tbl (va_wsS RL 94 yL_wind wsL_wind) := wl_good gL_law_L_wind (by decide +kernel)
set_option maxRecDepth 20000 in
theorem hL_X11_best_193 : GoodIn lw_tbl (wsV RL 193 RX11 yX11_best wsX11_best) := wl_good gL_law_X11_best (by decide +kernel)
set_option maxRecDepth 20000 in
theorem hL_X11_callAll_120 : GoodIn lw_tbl (wsV RL 120 RX11 yX11_callAll wsX11_callAll) := wl_good gL_law_X11_callAll (by decide +kernel)
set_option maxRecDepth 20000 in
theorem hL_X11_east_165 : GoodIn lw_tbl (wsV RL 165 RX11 yX11_east wsX11_east) := wl_good gL_law_X11_east (by decide +kernel)
set_option maxRecDepth 20000 in
theorem hL_X11_free_129 : GoodIn lw_tbl (wsV RL 129 RX11 yX11_free wsX11_free) := wl_good gL_law_X11_free (by decide +kernel)
set_option maxRecDepth 20000 in
theorem hL_X11_heading_157 : GoodIn lw_tbl (wsV RL 157 RX11 yX11_heading wsX11_heading) := wl_good gL_law_X11_heading (by decide +kernel)
set_option maxRecDepth 20000 in
theorem hL_X11_isSame_228 : GoodIn lw_tbl (wsV RL 228 RX11 yX11_isSame wsX11_isSame) := wl_good gL_law_X11_isSame (by decide +kernel)
set_option maxRecDepth 20000 in
theorem hL_X11_lines_209 : GoodIn lw_tbl (wsV RL 209 RX11 yX11_lines wsX11_lines) := wl_good gL_law_X11_lines (by decide +kernel)
set_option maxRecDepth 20000 in
theorem hL_X11_minute_153 : GoodIn lw_tbl (wsV RL 153 RX11 yX11_minute wsX11_minute) := wl_good gL_law_X11_minute (by decide +kernel)
set_option maxRecDepth 20000 in
theorem hL_X11_noon_197 : GoodIn lw_tbl (wsV RL 197 RX11 yX11_noon wsX11_noon) := wl_good gL_law_X11_noon (by decide +kernel)
set_option maxRecDepth 20000 in
theorem hL_X11_north_170 : GoodIn lw_tbl (wsV RL 170 RX11 yX11_north wsX11_north) := wl_good gL_law_X11_north (by decide +kernel)
set_option maxRecDepth 20000 in
theorem hL_X11_off_174 : GoodIn lw_tbl (wsV RL 174 RX11 yX11_off wsX11_off) := wl_good gL_law_X11_off (by decide +kernel)
set_option maxRecDepth 20000 in
theorem hL_X11_reckonedEast_201 : GoodIn lw_tbl (wsV RL 201 RX11 yX11_reckonedEast wsX11_reckonedEast) := wl_good gL_law_X11_reckonedEast (by decide +kernel)
set_option maxRecDepth 20000 in
theorem hL_X11_reckonedNorth_205 : GoodIn lw_tbl (wsV RL 205 RX11 yX11_reckonedNorth wsX11_reckonedNorth) := wl_good gL_law_X11_reckonedNorth (by decide +kernel)
set_option maxRecDepth 20000 in
theorem hL_X11_setShare_219 : GoodIn lw_tbl (wsV RL 219 RX11 yX11_setShare wsX11_setShare) := wl_good gL_law_X11_setShare (by decide +kernel)
set_option maxRecDepth 20000 in
theorem hL_X11_speed_161 : GoodIn lw_tbl (wsV RL 161 RX11 yX11_speed wsX11_speed) := wl_good gL_law_X11_speed (by decide +kernel)
set_option maxRecDepth 20000 in
theorem hL_X11_watch_125 : GoodIn lw_tbl (wsV RL 125 RX11 yX11_watch wsX11_watch) := wl_good gL_law_X11_watch (by decide +kernel)
set_option maxRecDepth 20000 in
theorem hL_X15_belay_116 : GoodIn lw_tbl (wsV RL 116 RX15 yX15_belay wsX15_belay) := wl_good gL_law_X15_belay (by decide +kernel)
set_option maxRecDepth 20000 in
theorem hL_X15_best_196 : GoodIn lw_tbl (wsV RL 196 RX15 yX15_best wsX15_best) := wl_good gL_law_X15_best (by decide +kernel)
set_option maxRecDepth 20000 in
theorem hL_X15_braced_189 : GoodIn lw_tbl (wsV RL 189 RX15 yX15_braced wsX15_braced) := wl_good gL_law_X15_braced (by decide +kernel)
set_option maxRecDepth 20000 in
theorem hL_X15_callAll_124 : GoodIn lw_tbl (wsV RL 124 RX15 yX15_callAll wsX15_callAll) := wl_good gL_law_X15_callAll (by decide +kernel)
set_option maxRecDepth 20000 in
theorem hL_X15_current_105 : GoodIn lw_tbl (wsV RL 105 RX15 yX15_current wsX15_current) := wl_good gL_law_X15_current (by decide +kernel)
set_option maxRecDepth 20000 in
theorem hL_X15_east_169 : GoodIn lw_tbl (wsV RL 169 RX15 yX15_east wsX15_east) := wl_good gL_law_X15_east (by decide +kernel)
set_option maxRecDepth 20000 in
theorem hL_X15_force_180 : GoodIn lw_tbl (wsV RL 180 RX15 yX15_force wsX15_force) := wl_good gL_law_X15_force (by decide +kernel)
set_option maxRecDepth 20000 in
theorem hL_X15_free_132 : GoodIn lw_tbl (wsV RL 132 RX15 yX15_free wsX15_free) := wl_good gL_law_X15_free (by decide +kernel)
set_option maxRecDepth 20000 in
theorem hL_X15_heading_160 : GoodIn lw_tbl (wsV RL 160 RX15 yX15_heading wsX15_heading) := wl_good gL_law_X15_heading (by decide +kernel)
set_option maxRecDepth 20000 in
theorem hL_X15_helm_109 : GoodIn lw_tbl (wsV RL 109 RX15 yX15_helm wsX15_helm) := wl_good gL_law_X15_helm (by decide +kernel)
set_option maxRecDepth 20000 in
theorem hL_X15_isSame_232 : GoodIn lw_tbl (wsV RL 232 RX15 yX15_isSame wsX15_isSame) := wl_good gL_law_X15_isSame (by decide +kernel)
set_option maxRecDepth 20000 in
theorem hL_X15_isSprung_192 : GoodIn lw_tbl (wsV RL 192 RX15 yX15_isSprung wsX15_isSprung) := wl_good gL_law_X15_isSprung (by decide +kernel)
set_option maxRecDepth 20000 in
theorem hL_X15_jettison_149 : GoodIn lw_tbl (wsV RL 149 RX15 yX15_jettison wsX15_jettison) := wl_good gL_law_X15_jettison (by decide +kernel)
set_option maxRecDepth 20000 in
theorem hL_X15_left_145 : GoodIn lw_tbl (wsV RL 145 RX15 yX15_left wsX15_left) := wl_good gL_law_X15_left (by decide +kernel)
set_option maxRecDepth 20000 in
theorem hL_X15_lineMinute_218 : GoodIn lw_tbl (wsV RL 218 RX15 yX15_lineMinute wsX15_lineMinute) := wl_good gL_law_X15_lineMinute (by decide +kernel)
set_option maxRecDepth 20000 in
theorem hL_X15_line_215 : GoodIn lw_tbl (wsV RL 215 RX15 yX15_line wsX15_line) := wl_good gL_law_X15_line (by decide +kernel)
set_option maxRecDepth 20000 in
theorem hL_X15_lines_212 : GoodIn lw_tbl (wsV RL 212 RX15 yX15_lines wsX15_lines) := wl_good gL_law_X15_lines (by decide +kernel)
set_option maxRecDepth 20000 in
theorem hL_X15_meanStrength_227 : GoodIn lw_tbl (wsV RL 227 RX15 yX15_meanStrength wsX15_meanStrength) := wl_good gL_law_X15_meanStrength (by decide +kernel)
set_option maxRecDepth 20000 in
theorem hL_X15_minute_156 : GoodIn lw_tbl (wsV RL 156 RX15 yX15_minute wsX15_minute) := wl_good gL_law_X15_minute (by decide +kernel)
set_option maxRecDepth 20000 in
theorem hL_X15_noon_200 : GoodIn lw_tbl (wsV RL 200 RX15 yX15_noon wsX15_noon) := wl_good gL_law_X15_noon (by decide +kernel)
set_option maxRecDepth 20000 in
theorem hL_X15_north_173 : GoodIn lw_tbl (wsV RL 173 RX15 yX15_north wsX15_north) := wl_good gL_law_X15_north (by decide +kernel)
set_option maxRecDepth 20000 in
theorem hL_X15_off_177 : GoodIn lw_tbl (wsV RL 177 RX15 yX15_off wsX15_off) := wl_good gL_law_X15_off (by decide +kernel)
set_option maxRecDepth 20000 in
theorem hL_X15_order_113 : GoodIn lw_tbl (wsV RL 113 RX15 yX15_order wsX15_order) := wl_good gL_law_X15_order (by decide +kernel)
set_option maxRecDepth 20000 in
theorem hL_X15_reckonedEast_204 : GoodIn lw_tbl (wsV RL 204 RX15 yX15_reckonedEast wsX15_reckonedEast) := wl_good gL_law_X15_reckonedEast (by decide +kernel)
set_option maxRecDepth 20000 in
theorem hL_X15_reckonedNorth_208 : GoodIn lw_tbl (wsV RL 208 RX15 yX15_reckonedNorth wsX15_reckonedNorth) := wl_good gL_law_X15_reckonedNorth (by decide +kernel)
set_option maxRecDepth 20000 in
theorem hL_X15_sail_152 : GoodIn lw_tbl (wsV RL 152 RX15 yX15_sail wsX15_sail) := wl_good gL_law_X15_sail (by decide +kernel)
set_option maxRecDepth 20000 in
theorem hL_X15_setShare_223 : GoodIn lw_tbl (wsV RL 223 RX15 yX15_setShare wsX15_setShare) := wl_good gL_law_X15_setShare (by decide +kernel)
set_option maxRecDepth 20000 in
theorem hL_X15_sick_138 : GoodIn lw_tbl (wsV RL 138 RX15 yX15_sick wsX15_sick) := wl_good gL_law_X15_sick (by decide +kernel)
set_option maxRecDepth 20000 in
theorem hL_X15_speed_164 : GoodIn lw_tbl (wsV RL 164 RX15 yX15_speed wsX15_speed) := wl_good gL_law_X15_speed (by decide +kernel)
set_option maxRecDepth 20000 in
theorem hL_X15_spread_183 : GoodIn lw_tbl (wsV RL 183 RX15 yX15_spread wsX15_spread) := wl_good gL_law_X15_spread (by decide +kernel)
set_option maxRecDepth 20000 in
theorem hL_X15_state_119 : GoodIn lw_tbl (wsV RL 119 RX15 yX15_state wsX15_state) := wl_good gL_law_X15_state (by decide +kernel)
set_option maxRecDepth 20000 in
theorem hL_X15_stow_142 : GoodIn lw_tbl (wsV RL 142 RX15 yX15_stow wsX15_stow) := wl_good gL_law_X15_stow (by decide +kernel)
set_option maxRecDepth 20000 in
theorem hL_X15_strength_186 : GoodIn lw_tbl (wsV RL 186 RX15 yX15_strength wsX15_strength) := wl_good gL_law_X15_strength (by decide +kernel)
set_option maxRecDepth 20000 in
theorem hL_X15_thrown_100 : GoodIn lw_tbl (wsV RL 100 RX15 yX15_thrown wsX15_thrown) := wl_good gL_law_X15_thrown (by decide +kernel)
set_option maxRecDepth 20000 in
theorem hL_X15_tired_135 : GoodIn lw_tbl (wsV RL 135 RX15 yX15_tired wsX15_tired) := wl_good gL_law_X15_tired (by decide +kernel)
set_option maxRecDepth 20000 in
theorem hL_X15_watch_128 : GoodIn lw_tbl (wsV RL 128 RX15 yX15_watch wsX15_watch) := wl_good gL_law_X15_watch (by decide +kernel)
set_option maxRecDepth 20000 in
theorem hL_X15_wind_99 : GoodIn lw_tbl (wsV RL 99 RX15 yX15_wind wsX15_wind) := wl_good gL_law_X15_wind (by decide +kernel)
set_option maxHeartbeats 4000000 in
theorem la_tail {p : Program} {l : Launch} {e : Env} {s : State} {m : MethodId} {below : List Frame} {meth : Method} {c : Code} {dC : Nat → ClassId} {dI : Nat → Nat → Nat} {z zK zV : Nat → Nat} {b : Nat} {xs : Nat → Int32} {A : Nat → Prop} (hst : l.stackTraces = false) (C0 : lw_At p s m meth c b 4 xs) (hM : am z zK zV A s s.heap) (hA : ∀ q : Nat, s.heap.size ≤ q → A q) (hAl : ∀ q : Nat, A q → s.heap.size ≤ q) (H : Heap) (locs : List Loc) (hS : va_S A s.heap H locs) (ls : Array Slot) (hl : lv_has ls 10 [(0, .ref b), (5, .int 0)]) {cells slots : Nat} (h1 : cells ≤ 647047) (h2 : slots ≤ 7160938) : W p l e room_1 s m #[Value.ref b] below meth c H locs cells slots (lw_Z below #[Value.ref b] s) (F0 m 1684 ls []) := by
  obtain ⟨hx, hb, hr, hml, hown, hts, hX, hbl, hlocks, hgv⟩ := id C0
  have hbA : ¬ A b := fun h => absurd (hAl b h) (Nat.not_le.mpr hbl)
  refine lv_iinc (v := 4) (lv' := [(5, .int 4), (0, .ref b)]) hx hb dL_law_1684 hl (k := 1) rfl (by decide +kernel) (by decide) rfl (fun ls hl => ?_)
  refine lv_goto (tgt := 28) hx hb dL_law_1687 (by decide) ?_
  refine lv_iload hx hb dL_law_28 (lv_at hl 0 rfl) ?_
  refine lv_aload_n hx hb dL_law_30 rfl (lv_at hl 1 rfl) ?_
  refine va_slen hx hb hX hbl hbA hS dL_law_31 ?_
  refine kc_i (y := 4) rfl ?_
  refine lv_iconst (v := 4) hx hb dL_law_32 (by decide) ?_
  refine lv_isub hx hb dL_law_33 ?_
  refine kc_i (y := 0) (by decide +kernel) ?_
  refine lv_icmp_gt (tgt := 1690) hx hb dL_law_34 (by decide) (fun _ => ?_) (fun c_ => absurd (by decide +kernel) c_)
  refine lv_iconst (v := 1) hx hb dL_law_1690 (by decide) ?_
  refine va_forget (fun q hq => hAl _ (hS.2.2 q hq)) ?_
  refine W.widen (k := 647047) (n := 7160938) h1 h2 ?_
  exact lw_ret (d0 := s.drawn) (Drawn.sameBut.refl s.drawn lw_cs) hx hb hr hlocks dL_law_1691
