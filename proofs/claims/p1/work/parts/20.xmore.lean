theorem dX2_put_0 : decode cX2_put 0 = .ok (.aload_n 0, 1) := by decide +kernel
theorem dX2_put_1 : decode cX2_put 1 = .ok (.getfield 19, 3) := by decide +kernel
theorem dX2_put_4 : decode cX2_put 4 = .ok (.ifCond .lt 42, 3) := by decide +kernel
theorem dX2_put_7 : decode cX2_put 7 = .ok (.aload_n 0, 1) := by decide +kernel
theorem dX2_put_8 : decode cX2_put 8 = .ok (.getfield 19, 3) := by decide +kernel
theorem dX2_put_11 : decode cX2_put 11 = .ok (.bipush 20, 2) := by decide +kernel
theorem dX2_put_13 : decode cX2_put 13 = .ok (.if_icmp .ge 33, 3) := by decide +kernel
theorem dX2_put_16 : decode cX2_put 16 = .ok (.aload_n 0, 1) := by decide +kernel
theorem dX2_put_17 : decode cX2_put 17 = .ok (.getfield 9, 3) := by decide +kernel
theorem dX2_put_20 : decode cX2_put 20 = .ok (.aload_n 0, 1) := by decide +kernel
theorem dX2_put_21 : decode cX2_put 21 = .ok (.getfield 19, 3) := by decide +kernel
theorem dX2_put_24 : decode cX2_put 24 = .ok (.iload_n 2, 1) := by decide +kernel
theorem dX2_put_25 : decode cX2_put 25 = .ok (.iastore, 1) := by decide +kernel
theorem dX2_put_26 : decode cX2_put 26 = .ok (.aload_n 0, 1) := by decide +kernel
theorem dX2_put_27 : decode cX2_put 27 = .ok (.getfield 15, 3) := by decide +kernel
theorem dX2_put_30 : decode cX2_put 30 = .ok (.aload_n 0, 1) := by decide +kernel
theorem dX2_put_31 : decode cX2_put 31 = .ok (.getfield 19, 3) := by decide +kernel
theorem dX2_put_34 : decode cX2_put 34 = .ok (.iload_n 1, 1) := by decide +kernel
theorem dX2_put_35 : decode cX2_put 35 = .ok (.bastore, 1) := by decide +kernel
theorem dX2_put_36 : decode cX2_put 36 = .ok (.aload_n 0, 1) := by decide +kernel
theorem dX2_put_37 : decode cX2_put 37 = .ok (.dup, 1) := by decide +kernel
theorem dX2_put_38 : decode cX2_put 38 = .ok (.getfield 19, 3) := by decide +kernel
theorem dX2_put_41 : decode cX2_put 41 = .ok (.iconst 1, 1) := by decide +kernel
theorem dX2_put_42 : decode cX2_put 42 = .ok (.iadd, 1) := by decide +kernel
theorem dX2_put_43 : decode cX2_put 43 = .ok (.putfield 19, 3) := by decide +kernel
theorem dX2_put_46 : decode cX2_put 46 = .ok (.return_, 1) := by decide +kernel
theorem dX7_countSet_0 : decode cX7_countSet 0 = .ok (.iconst 0, 1) := by decide +kernel
theorem dX7_countSet_1 : decode cX7_countSet 1 = .ok (.istore_n 1, 1) := by decide +kernel
theorem dX7_countSet_2 : decode cX7_countSet 2 = .ok (.aload_n 0, 1) := by decide +kernel
theorem dX7_countSet_3 : decode cX7_countSet 3 = .ok (.getfield 33, 3) := by decide +kernel
theorem dX7_countSet_6 : decode cX7_countSet 6 = .ok (.astore_n 2, 1) := by decide +kernel
theorem dX7_countSet_7 : decode cX7_countSet 7 = .ok (.aload_n 2, 1) := by decide +kernel
theorem dX7_countSet_8 : decode cX7_countSet 8 = .ok (.arraylength, 1) := by decide +kernel
theorem dX7_countSet_9 : decode cX7_countSet 9 = .ok (.istore_n 3, 1) := by decide +kernel
theorem dX7_countSet_10 : decode cX7_countSet 10 = .ok (.iconst 0, 1) := by decide +kernel
theorem dX7_countSet_11 : decode cX7_countSet 11 = .ok (.istore 4, 2) := by decide +kernel
theorem dX7_countSet_13 : decode cX7_countSet 13 = .ok (.iload 4, 2) := by decide +kernel
theorem dX7_countSet_15 : decode cX7_countSet 15 = .ok (.iload_n 3, 1) := by decide +kernel
theorem dX7_countSet_16 : decode cX7_countSet 16 = .ok (.if_icmp .ge 26, 3) := by decide +kernel
theorem dX7_countSet_19 : decode cX7_countSet 19 = .ok (.aload_n 2, 1) := by decide +kernel
theorem dX7_countSet_20 : decode cX7_countSet 20 = .ok (.iload 4, 2) := by decide +kernel
theorem dX7_countSet_22 : decode cX7_countSet 22 = .ok (.aaload, 1) := by decide +kernel
theorem dX7_countSet_23 : decode cX7_countSet 23 = .ok (.astore 5, 2) := by decide +kernel
theorem dX7_countSet_25 : decode cX7_countSet 25 = .ok (.aload 5, 2) := by decide +kernel
theorem dX7_countSet_27 : decode cX7_countSet 27 = .ok (.getfield 88, 3) := by decide +kernel
theorem dX7_countSet_30 : decode cX7_countSet 30 = .ok (.ifCond .eq 6, 3) := by decide +kernel
theorem dX7_countSet_36 : decode cX7_countSet 36 = .ok (.iinc 4 1, 3) := by decide +kernel
theorem dX7_countSet_39 : decode cX7_countSet 39 = .ok (.goto (-26), 3) := by decide +kernel
theorem dX7_countSet_42 : decode cX7_countSet 42 = .ok (.iload_n 1, 1) := by decide +kernel
theorem dX7_countSet_43 : decode cX7_countSet 43 = .ok (.ireturn, 1) := by decide +kernel
theorem dX7_countWholeRopes_0 : decode cX7_countWholeRopes 0 = .ok (.iconst 0, 1) := by decide +kernel
theorem dX7_countWholeRopes_1 : decode cX7_countWholeRopes 1 = .ok (.istore_n 1, 1) := by decide +kernel
theorem dX7_countWholeRopes_2 : decode cX7_countWholeRopes 2 = .ok (.aload_n 0, 1) := by decide +kernel
theorem dX7_countWholeRopes_3 : decode cX7_countWholeRopes 3 = .ok (.getfield 33, 3) := by decide +kernel
theorem dX7_countWholeRopes_6 : decode cX7_countWholeRopes 6 = .ok (.astore_n 2, 1) := by decide +kernel
theorem dX7_countWholeRopes_7 : decode cX7_countWholeRopes 7 = .ok (.aload_n 2, 1) := by decide +kernel
theorem dX7_countWholeRopes_8 : decode cX7_countWholeRopes 8 = .ok (.arraylength, 1) := by decide +kernel
theorem dX7_countWholeRopes_9 : decode cX7_countWholeRopes 9 = .ok (.istore_n 3, 1) := by decide +kernel
theorem dX7_countWholeRopes_10 : decode cX7_countWholeRopes 10 = .ok (.iconst 0, 1) := by decide +kernel
theorem dX7_countWholeRopes_11 : decode cX7_countWholeRopes 11 = .ok (.istore 4, 2) := by decide +kernel
theorem dX7_countWholeRopes_13 : decode cX7_countWholeRopes 13 = .ok (.iload 4, 2) := by decide +kernel
theorem dX7_countWholeRopes_15 : decode cX7_countWholeRopes 15 = .ok (.iload_n 3, 1) := by decide +kernel
theorem dX7_countWholeRopes_16 : decode cX7_countWholeRopes 16 = .ok (.if_icmp .ge 26, 3) := by decide +kernel
theorem dX7_countWholeRopes_19 : decode cX7_countWholeRopes 19 = .ok (.aload_n 2, 1) := by decide +kernel
theorem dX7_countWholeRopes_20 : decode cX7_countWholeRopes 20 = .ok (.iload 4, 2) := by decide +kernel
theorem dX7_countWholeRopes_22 : decode cX7_countWholeRopes 22 = .ok (.aaload, 1) := by decide +kernel
theorem dX7_countWholeRopes_23 : decode cX7_countWholeRopes 23 = .ok (.astore 5, 2) := by decide +kernel
theorem dX7_countWholeRopes_25 : decode cX7_countWholeRopes 25 = .ok (.aload 5, 2) := by decide +kernel
theorem dX7_countWholeRopes_27 : decode cX7_countWholeRopes 27 = .ok (.getfield 145, 3) := by decide +kernel
theorem dX7_countWholeRopes_30 : decode cX7_countWholeRopes 30 = .ok (.ifCond .ne 6, 3) := by decide +kernel
theorem dX7_countWholeRopes_33 : decode cX7_countWholeRopes 33 = .ok (.iinc 1 1, 3) := by decide +kernel
theorem dX7_countWholeRopes_36 : decode cX7_countWholeRopes 36 = .ok (.iinc 4 1, 3) := by decide +kernel
theorem dX7_countWholeRopes_39 : decode cX7_countWholeRopes 39 = .ok (.goto (-26), 3) := by decide +kernel
theorem dX7_countWholeRopes_42 : decode cX7_countWholeRopes 42 = .ok (.iload_n 1, 1) := by decide +kernel
theorem dX7_countWholeRopes_43 : decode cX7_countWholeRopes 43 = .ok (.ireturn, 1) := by decide +kernel
theorem dX7_sumWholeRopes_0 : decode cX7_sumWholeRopes 0 = .ok (.iconst 0, 1) := by decide +kernel
theorem dX7_sumWholeRopes_1 : decode cX7_sumWholeRopes 1 = .ok (.istore_n 1, 1) := by decide +kernel
theorem dX7_sumWholeRopes_2 : decode cX7_sumWholeRopes 2 = .ok (.aload_n 0, 1) := by decide +kernel
theorem dX7_sumWholeRopes_3 : decode cX7_sumWholeRopes 3 = .ok (.getfield 33, 3) := by decide +kernel
theorem dX7_sumWholeRopes_6 : decode cX7_sumWholeRopes 6 = .ok (.astore_n 2, 1) := by decide +kernel
theorem dX7_sumWholeRopes_7 : decode cX7_sumWholeRopes 7 = .ok (.aload_n 2, 1) := by decide +kernel
theorem dX7_sumWholeRopes_8 : decode cX7_sumWholeRopes 8 = .ok (.arraylength, 1) := by decide +kernel
theorem dX7_sumWholeRopes_9 : decode cX7_sumWholeRopes 9 = .ok (.istore_n 3, 1) := by decide +kernel
theorem dX7_sumWholeRopes_10 : decode cX7_sumWholeRopes 10 = .ok (.iconst 0, 1) := by decide +kernel
theorem dX7_sumWholeRopes_11 : decode cX7_sumWholeRopes 11 = .ok (.istore 4, 2) := by decide +kernel
theorem dX7_sumWholeRopes_13 : decode cX7_sumWholeRopes 13 = .ok (.iload 4, 2) := by decide +kernel
theorem dX7_sumWholeRopes_15 : decode cX7_sumWholeRopes 15 = .ok (.iload_n 3, 1) := by decide +kernel
theorem dX7_sumWholeRopes_16 : decode cX7_sumWholeRopes 16 = .ok (.if_icmp .ge 31, 3) := by decide +kernel
theorem dX7_sumWholeRopes_19 : decode cX7_sumWholeRopes 19 = .ok (.aload_n 2, 1) := by decide +kernel
theorem dX7_sumWholeRopes_20 : decode cX7_sumWholeRopes 20 = .ok (.iload 4, 2) := by decide +kernel
theorem dX7_sumWholeRopes_22 : decode cX7_sumWholeRopes 22 = .ok (.aaload, 1) := by decide +kernel
theorem dX7_sumWholeRopes_23 : decode cX7_sumWholeRopes 23 = .ok (.astore 5, 2) := by decide +kernel
theorem dX7_sumWholeRopes_25 : decode cX7_sumWholeRopes 25 = .ok (.aload 5, 2) := by decide +kernel
theorem dX7_sumWholeRopes_27 : decode cX7_sumWholeRopes 27 = .ok (.getfield 145, 3) := by decide +kernel
theorem dX7_sumWholeRopes_30 : decode cX7_sumWholeRopes 30 = .ok (.ifCond .ne 11, 3) := by decide +kernel
theorem dX7_sumWholeRopes_33 : decode cX7_sumWholeRopes 33 = .ok (.iload_n 1, 1) := by decide +kernel
theorem dX7_sumWholeRopes_34 : decode cX7_sumWholeRopes 34 = .ok (.aload 5, 2) := by decide +kernel
theorem dX7_sumWholeRopes_36 : decode cX7_sumWholeRopes 36 = .ok (.getfield 94, 3) := by decide +kernel
theorem dX7_sumWholeRopes_39 : decode cX7_sumWholeRopes 39 = .ok (.iadd, 1) := by decide +kernel
theorem dX7_sumWholeRopes_40 : decode cX7_sumWholeRopes 40 = .ok (.istore_n 1, 1) := by decide +kernel
theorem dX7_sumWholeRopes_41 : decode cX7_sumWholeRopes 41 = .ok (.iinc 4 1, 3) := by decide +kernel
theorem dX7_sumWholeRopes_44 : decode cX7_sumWholeRopes 44 = .ok (.goto (-31), 3) := by decide +kernel
theorem dX7_sumWholeRopes_47 : decode cX7_sumWholeRopes 47 = .ok (.iload_n 1, 1) := by decide +kernel
theorem dX7_sumWholeRopes_48 : decode cX7_sumWholeRopes 48 = .ok (.ireturn, 1) := by decide +kernel
set_option maxRecDepth 20000 in
theorem ggX9_obey_X2_put : GoodIn wsX9_obey wsX2_put := goodIn_ca (goodIn_r _ [139, 140, 141, 142, 406, 407, 408] (by decide +kernel) (by decide +kernel)) (goodIn_sub (fun _ h => List.mem_cons_of_mem _ (List.mem_append_left _ (List.mem_append_right _ h))) (by decide +kernel))
set_option maxRecDepth 20000 in
theorem gX9_obey_X2_put : GoodIn wsX9_obey (wsV RX9 109 RX2 yX2_put wsX2_put) := goodIn_app (goodIn_of _ (by decide +kernel)) ggX9_obey_X2_put
theorem dX9_obey_166 : decode cX9_obey 166 = .ok (.aload_n 0, 1) := by decide +kernel
theorem dX9_obey_167 : decode cX9_obey 167 = .ok (.getfield 28, 3) := by decide +kernel
theorem dX9_obey_170 : decode cX9_obey 170 = .ok (.aload_n 1, 1) := by decide +kernel
theorem dX9_obey_171 : decode cX9_obey 171 = .ok (.getfield 88, 3) := by decide +kernel
theorem dX9_obey_174 : decode cX9_obey 174 = .ok (.iconst 1, 1) := by decide +kernel
theorem dX9_obey_175 : decode cX9_obey 175 = .ok (.if_icmp .ne 7, 3) := by decide +kernel
theorem dX9_obey_178 : decode cX9_obey 178 = .ok (.iconst 1, 1) := by decide +kernel
theorem dX9_obey_179 : decode cX9_obey 179 = .ok (.goto 4, 3) := by decide +kernel
theorem dX9_obey_182 : decode cX9_obey 182 = .ok (.iconst 0, 1) := by decide +kernel
theorem dX9_obey_183 : decode cX9_obey 183 = .ok (.aload_n 1, 1) := by decide +kernel
theorem dX9_obey_184 : decode cX9_obey 184 = .ok (.getfield 91, 3) := by decide +kernel
theorem dX9_obey_187 : decode cX9_obey 187 = .ok (.invokevirtual 109, 3) := by decide +kernel
theorem dX9_obey_190 : decode cX9_obey 190 = .ok (.goto 53, 3) := by decide +kernel
set_option maxRecDepth 20000 in
theorem ggX11_stow_X11_isIn : GoodIn wsX11_stow wsX11_isIn := goodIn_r _ [9] (by decide +kernel) (by decide +kernel)
set_option maxRecDepth 20000 in
theorem gX11_stow_X11_isIn : GoodIn wsX11_stow (va_wsS RX11 30 yX11_isIn wsX11_isIn) := goodIn_app (goodIn_of _ (by decide +kernel)) ggX11_stow_X11_isIn
set_option maxRecDepth 20000 in
theorem ggX11_stow_X11_keep : GoodIn wsX11_stow wsX11_keep := goodIn_r _ [13, 14, 15, 16, 17, 18, 19, 20, 21, 22, 23, 24, 25, 26, 27, 28, 29, 30, 31, 32, 33, 34, 35, 36, 37, 38, 39, 40, 41, 42, 43, 44, 45, 46, 47, 48, 49, 50, 51, 52, 53, 54, 55, 56, 57, 58, 59, 60, 61, 62, 63, 64, 65, 66, 67, 68, 69, 70, 71, 72, 73, 74, 75, 76, 77, 78, 79, 80, 81, 82, 83, 84, 85, 86, 87, 407, 408, 409, 410, 383, 384, 385, 386, 411, 412, 413] (by decide +kernel) (by decide +kernel)
set_option maxRecDepth 20000 in
theorem gX11_stow_X11_keep : GoodIn wsX11_stow (wsV RX11 44 RX11 yX11_keep wsX11_keep) := goodIn_app (goodIn_of _ (by decide +kernel)) ggX11_stow_X11_keep
set_option maxRecDepth 20000 in
theorem ggX11_stow_X9_obey : GoodIn wsX11_stow wsX9_obey := goodIn_ca (goodIn_ca (goodIn_r _ [92, 93, 94, 95, 96, 97, 98, 99, 100, 101, 102, 103, 104, 91, 105, 106, 107, 108, 109, 110, 111, 112, 113, 114, 115, 116, 117, 118, 119, 120, 121, 122, 123, 124, 22, 23, 125, 126, 127, 128, 129, 130, 131, 132, 133, 134, 135, 136, 137, 138, 139, 29, 30, 31, 32, 33, 140, 35, 36, 37, 38, 39, 40, 41, 42, 43, 44, 45, 46, 47, 48, 49, 50, 51, 52, 53, 54, 55, 56, 57, 58, 59, 60, 61, 62, 63, 64, 65, 66, 67, 68, 69, 70, 71, 72, 73, 74, 75, 76, 77, 78, 79, 80, 81, 82, 83, 84, 85, 86, 87, 141, 142, 143, 144, 145, 146, 147, 148, 149, 150, 151, 152, 153, 154, 155, 156, 157, 158, 159, 160, 161, 162, 163, 164, 165, 166, 167, 168, 169, 170, 171, 172, 173, 174, 175, 176, 177, 178, 179, 180, 181, 182, 183, 184, 185, 186, 187, 188, 189, 190, 191, 192, 193, 194, 195, 196, 197, 198, 199, 200, 201, 202, 203, 204, 205, 206, 207, 208, 209, 210, 211, 212, 213, 214, 215, 216, 217, 218, 219, 220, 221, 222, 223, 224, 225, 226, 227, 228, 229, 230, 231, 232, 233, 234, 235, 236, 237, 238, 239, 240, 241, 242, 243, 244, 245, 246, 247, 248, 249, 250, 251, 252, 253, 254, 255, 256, 257, 258, 259, 260, 261, 262, 263, 264, 265, 266, 267, 268, 269, 270, 271, 272, 273, 274, 275, 276, 277, 278, 279, 280, 281, 282, 283, 284, 285, 286, 287, 288, 289, 290, 291, 292, 293, 294, 295, 296, 297, 298, 299, 300, 301, 302, 303, 304, 305, 306, 307, 308, 309, 310, 311, 312, 313, 314, 315, 316, 317, 318, 319, 320, 321, 322, 323, 324, 325, 326, 327, 328, 329, 330, 331, 332, 333, 334, 335, 336, 337, 338, 339, 340, 341, 342, 343, 344, 345, 346, 347, 348, 349, 350, 351, 352, 353, 354, 355, 356, 357, 358, 359, 360, 361, 362, 363, 364, 365, 366, 367, 368, 369, 370, 371, 372, 373, 374, 375, 376, 377, 378, 379, 380, 381, 382, 407, 408, 409, 410, 387, 388, 389, 390, 391, 392, 393, 394, 395, 396, 397, 398, 399, 400, 401, 402, 403, 414, 415, 416, 417, 418, 419, 420, 421, 422, 423, 424, 425, 426, 427, 428, 429, 430, 431, 432, 433, 434, 435, 436, 437, 438, 439, 440, 441, 442, 443, 411, 412, 413, 404, 405, 406, 444, 445, 446, 447, 448, 449, 450, 451, 452] (by decide +kernel) (by decide +kernel)) (goodIn_sub (fun _ h => List.mem_cons_of_mem _ (List.mem_append_left _ (List.mem_append_right _ h))) (by decide +kernel))) (goodIn_sub (fun _ h => List.mem_cons_of_mem _ (List.mem_append_right _ h)) (by decide +kernel))
set_option maxRecDepth 20000 in
theorem gX11_stow_X9_obey : GoodIn wsX11_stow (wsV RX11 48 RX9 yX9_obey wsX9_obey) := goodIn_app (goodIn_of _ (by decide +kernel)) ggX11_stow_X9_obey
theorem dX11_stow_0 : decode cX11_stow 0 = .ok (.iload_n 2, 1) := by decide +kernel
theorem dX11_stow_1 : decode cX11_stow 1 = .ok (.iconst 1, 1) := by decide +kernel
theorem dX11_stow_2 : decode cX11_stow 2 = .ok (.sipush 500, 3) := by decide +kernel
theorem dX11_stow_5 : decode cX11_stow 5 = .ok (.invokestatic 30, 3) := by decide +kernel
theorem dX11_stow_8 : decode cX11_stow 8 = .ok (.ifCond .ne 13, 3) := by decide +kernel
theorem dX11_stow_11 : decode cX11_stow 11 = .ok (.new 34, 3) := by decide +kernel
theorem dX11_stow_14 : decode cX11_stow 14 = .ok (.dup, 1) := by decide +kernel
theorem dX11_stow_15 : decode cX11_stow 15 = .ok (.ldc 136, 2) := by decide +kernel
theorem dX11_stow_17 : decode cX11_stow 17 = .ok (.invokespecial 38, 3) := by decide +kernel
theorem dX11_stow_20 : decode cX11_stow 20 = .ok (.athrow, 1) := by decide +kernel
theorem dX11_stow_21 : decode cX11_stow 21 = .ok (.aload_n 0, 1) := by decide +kernel
theorem dX11_stow_22 : decode cX11_stow 22 = .ok (.getfield 10, 3) := by decide +kernel
theorem dX11_stow_25 : decode cX11_stow 25 = .ok (.getfield 138, 3) := by decide +kernel
theorem dX11_stow_28 : decode cX11_stow 28 = .ok (.getfield 142, 3) := by decide +kernel
theorem dX11_stow_31 : decode cX11_stow 31 = .ok (.bipush 20, 2) := by decide +kernel
theorem dX11_stow_33 : decode cX11_stow 33 = .ok (.if_icmp .lt 13, 3) := by decide +kernel
theorem dX11_stow_46 : decode cX11_stow 46 = .ok (.aload_n 0, 1) := by decide +kernel
theorem dX11_stow_47 : decode cX11_stow 47 = .ok (.getfield 10, 3) := by decide +kernel
theorem dX11_stow_50 : decode cX11_stow 50 = .ok (.aload_n 0, 1) := by decide +kernel
theorem dX11_stow_51 : decode cX11_stow 51 = .ok (.bipush 6, 2) := by decide +kernel
theorem dX11_stow_53 : decode cX11_stow 53 = .ok (.iload_n 1, 1) := by decide +kernel
theorem dX11_stow_54 : decode cX11_stow 54 = .ok (.ifCond .eq 7, 3) := by decide +kernel
theorem dX11_stow_57 : decode cX11_stow 57 = .ok (.iconst 1, 1) := by decide +kernel
theorem dX11_stow_58 : decode cX11_stow 58 = .ok (.goto 4, 3) := by decide +kernel
theorem dX11_stow_61 : decode cX11_stow 61 = .ok (.iconst 0, 1) := by decide +kernel
theorem dX11_stow_62 : decode cX11_stow 62 = .ok (.iload_n 2, 1) := by decide +kernel
theorem dX11_stow_63 : decode cX11_stow 63 = .ok (.iconst 0, 1) := by decide +kernel
theorem dX11_stow_64 : decode cX11_stow 64 = .ok (.invokevirtual 44, 3) := by decide +kernel
theorem dX11_stow_67 : decode cX11_stow 67 = .ok (.invokevirtual 48, 3) := by decide +kernel
theorem dX11_stow_70 : decode cX11_stow 70 = .ok (.aload_n 0, 1) := by decide +kernel
theorem dX11_stow_71 : decode cX11_stow 71 = .ok (.getfield 10, 3) := by decide +kernel
theorem dX11_stow_74 : decode cX11_stow 74 = .ok (.getfield 138, 3) := by decide +kernel
theorem dX11_stow_77 : decode cX11_stow 77 = .ok (.getfield 142, 3) := by decide +kernel
theorem dX11_stow_80 : decode cX11_stow 80 = .ok (.ireturn, 1) := by decide +kernel
set_option maxRecDepth 20000 in
theorem ggX11_sail_X11_isIn : GoodIn wsX11_sail wsX11_isIn := goodIn_r _ [7] (by decide +kernel) (by decide +kernel)
set_option maxRecDepth 20000 in
theorem gX11_sail_X11_isIn : GoodIn wsX11_sail (va_wsS RX11 30 yX11_isIn wsX11_isIn) := goodIn_app (goodIn_of _ (by decide +kernel)) ggX11_sail_X11_isIn
set_option maxRecDepth 20000 in
theorem ggX11_sail_X11_keep : GoodIn wsX11_sail wsX11_keep := goodIn_r _ [11, 12, 13, 14, 15, 16, 17, 18, 19, 20, 21, 22, 23, 24, 25, 26, 27, 28, 29, 30, 31, 32, 33, 34, 35, 36, 37, 38, 39, 40, 41, 42, 43, 44, 45, 46, 47, 48, 49, 50, 51, 52, 53, 54, 55, 56, 57, 58, 59, 60, 61, 62, 63, 64, 65, 66, 67, 68, 69, 70, 71, 72, 73, 74, 75, 76, 77, 78, 79, 80, 81, 82, 83, 84, 85, 402, 403, 404, 405, 381, 382, 383, 384, 406, 407, 408] (by decide +kernel) (by decide +kernel)
set_option maxRecDepth 20000 in
theorem gX11_sail_X11_keep : GoodIn wsX11_sail (wsV RX11 44 RX11 yX11_keep wsX11_keep) := goodIn_app (goodIn_of _ (by decide +kernel)) ggX11_sail_X11_keep
set_option maxRecDepth 20000 in
theorem ggX11_sail_X9_obey : GoodIn wsX11_sail wsX9_obey := goodIn_ca (goodIn_ca (goodIn_r _ [90, 91, 92, 93, 94, 95, 96, 97, 98, 99, 100, 101, 102, 89, 103, 104, 105, 106, 107, 108, 109, 110, 111, 112, 113, 114, 115, 116, 117, 118, 119, 120, 121, 122, 20, 21, 123, 124, 125, 126, 127, 128, 129, 130, 131, 132, 133, 134, 135, 136, 137, 27, 28, 29, 30, 31, 138, 33, 34, 35, 36, 37, 38, 39, 40, 41, 42, 43, 44, 45, 46, 47, 48, 49, 50, 51, 52, 53, 54, 55, 56, 57, 58, 59, 60, 61, 62, 63, 64, 65, 66, 67, 68, 69, 70, 71, 72, 73, 74, 75, 76, 77, 78, 79, 80, 81, 82, 83, 84, 85, 139, 140, 141, 142, 143, 144, 145, 146, 147, 148, 149, 150, 151, 152, 153, 154, 155, 156, 157, 158, 159, 160, 161, 162, 163, 164, 165, 166, 167, 168, 169, 170, 171, 172, 173, 174, 175, 176, 177, 178, 179, 180, 181, 182, 183, 184, 185, 186, 187, 188, 189, 190, 191, 192, 193, 194, 195, 196, 197, 198, 199, 200, 201, 202, 203, 204, 205, 206, 207, 208, 209, 210, 211, 212, 213, 214, 215, 216, 217, 218, 219, 220, 221, 222, 223, 224, 225, 226, 227, 228, 229, 230, 231, 232, 233, 234, 235, 236, 237, 238, 239, 240, 241, 242, 243, 244, 245, 246, 247, 248, 249, 250, 251, 252, 253, 254, 255, 256, 257, 258, 259, 260, 261, 262, 263, 264, 265, 266, 267, 268, 269, 270, 271, 272, 273, 274, 275, 276, 277, 278, 279, 280, 281, 282, 283, 284, 285, 286, 287, 288, 289, 290, 291, 292, 293, 294, 295, 296, 297, 298, 299, 300, 301, 302, 303, 304, 305, 306, 307, 308, 309, 310, 311, 312, 313, 314, 315, 316, 317, 318, 319, 320, 321, 322, 323, 324, 325, 326, 327, 328, 329, 330, 331, 332, 333, 334, 335, 336, 337, 338, 339, 340, 341, 342, 343, 344, 345, 346, 347, 348, 349, 350, 351, 352, 353, 354, 355, 356, 357, 358, 359, 360, 361, 362, 363, 364, 365, 366, 367, 368, 369, 370, 371, 372, 373, 374, 375, 376, 377, 378, 379, 380, 402, 403, 404, 405, 385, 386, 387, 388, 389, 390, 391, 392, 393, 394, 395, 396, 397, 398, 399, 400, 401, 409, 410, 411, 412, 413, 414, 415, 416, 417, 418, 419, 420, 421, 422, 423, 424, 425, 426, 427, 428, 429, 430, 431, 432, 433, 434, 435, 436, 437, 438, 406, 407, 408, 439, 440, 441, 442, 443, 444, 445, 446, 447, 448, 449, 450] (by decide +kernel) (by decide +kernel)) (goodIn_sub (fun _ h => List.mem_cons_of_mem _ (List.mem_append_left _ (List.mem_append_right _ h))) (by decide +kernel))) (goodIn_sub (fun _ h => List.mem_cons_of_mem _ (List.mem_append_right _ h)) (by decide +kernel))
set_option maxRecDepth 20000 in
theorem gX11_sail_X9_obey : GoodIn wsX11_sail (wsV RX11 48 RX9 yX9_obey wsX9_obey) := goodIn_app (goodIn_of _ (by decide +kernel)) ggX11_sail_X9_obey
theorem dX11_sail_0 : decode cX11_sail 0 = .ok (.iload_n 1, 1) := by decide +kernel
theorem dX11_sail_1 : decode cX11_sail 1 = .ok (.iconst 1, 1) := by decide +kernel
theorem dX11_sail_2 : decode cX11_sail 2 = .ok (.sipush 1500, 3) := by decide +kernel
theorem dX11_sail_5 : decode cX11_sail 5 = .ok (.invokestatic 30, 3) := by decide +kernel
theorem dX11_sail_8 : decode cX11_sail 8 = .ok (.ifCond .ne 13, 3) := by decide +kernel
theorem dX11_sail_11 : decode cX11_sail 11 = .ok (.new 34, 3) := by decide +kernel
theorem dX11_sail_14 : decode cX11_sail 14 = .ok (.dup, 1) := by decide +kernel
theorem dX11_sail_15 : decode cX11_sail 15 = .ok (.ldc 160, 2) := by decide +kernel
theorem dX11_sail_17 : decode cX11_sail 17 = .ok (.invokespecial 38, 3) := by decide +kernel
theorem dX11_sail_20 : decode cX11_sail 20 = .ok (.athrow, 1) := by decide +kernel
theorem dX11_sail_21 : decode cX11_sail 21 = .ok (.aload_n 0, 1) := by decide +kernel
theorem dX11_sail_22 : decode cX11_sail 22 = .ok (.getfield 10, 3) := by decide +kernel
theorem dX11_sail_25 : decode cX11_sail 25 = .ok (.aload_n 0, 1) := by decide +kernel
theorem dX11_sail_26 : decode cX11_sail 26 = .ok (.bipush 8, 2) := by decide +kernel
theorem dX11_sail_28 : decode cX11_sail 28 = .ok (.iload_n 1, 1) := by decide +kernel
theorem dX11_sail_29 : decode cX11_sail 29 = .ok (.iconst 0, 1) := by decide +kernel
theorem dX11_sail_30 : decode cX11_sail 30 = .ok (.iconst 0, 1) := by decide +kernel
theorem dX11_sail_31 : decode cX11_sail 31 = .ok (.invokevirtual 44, 3) := by decide +kernel
theorem dX11_sail_34 : decode cX11_sail 34 = .ok (.invokevirtual 48, 3) := by decide +kernel
theorem dX11_sail_37 : decode cX11_sail 37 = .ok (.aload_n 0, 1) := by decide +kernel
theorem dX11_sail_38 : decode cX11_sail 38 = .ok (.getfield 10, 3) := by decide +kernel
theorem dX11_sail_41 : decode cX11_sail 41 = .ok (.getfield 162, 3) := by decide +kernel
theorem dX11_sail_44 : decode cX11_sail 44 = .ok (.ireturn, 1) := by decide +kernel
set_option maxRecDepth 20000 in
theorem ggX11_setShare_X7_countSet : GoodIn wsX11_setShare wsX7_countSet := goodIn_r _ [7, 8, 30, 31, 32, 33, 34, 35, 36, 37, 38, 39, 40, 41, 42, 43] (by decide +kernel) (by decide +kernel)
set_option maxRecDepth 20000 in
theorem gX11_setShare_X7_countSet : GoodIn wsX11_setShare (wsV RX11 254 RX7 yX7_countSet wsX7_countSet) := goodIn_app (goodIn_of _ (by decide +kernel)) ggX11_setShare_X7_countSet
theorem dX11_setShare_0 : decode cX11_setShare 0 = .ok (.aload_n 0, 1) := by decide +kernel
theorem dX11_setShare_1 : decode cX11_setShare 1 = .ok (.getfield 10, 3) := by decide +kernel
theorem dX11_setShare_4 : decode cX11_setShare 4 = .ok (.getfield 187, 3) := by decide +kernel
theorem dX11_setShare_7 : decode cX11_setShare 7 = .ok (.invokevirtual 254, 3) := by decide +kernel
theorem dX11_setShare_10 : decode cX11_setShare 10 = .ok (.i2f, 1) := by decide +kernel
theorem dX11_setShare_11 : decode cX11_setShare 11 = .ok (.ldc_w 257, 3) := by decide +kernel
theorem dX11_setShare_14 : decode cX11_setShare 14 = .ok (.fdiv, 1) := by decide +kernel
theorem dX11_setShare_15 : decode cX11_setShare 15 = .ok (.freturn, 1) := by decide +kernel
set_option maxRecDepth 20000 in
theorem ggX11_meanStrength_X7_countWholeRopes : GoodIn wsX11_meanStrength wsX7_countWholeRopes := goodIn_r _ [8, 9, 35, 36, 37, 38, 39, 40, 41, 42, 43, 44, 45, 46, 47, 48] (by decide +kernel) (by decide +kernel)
set_option maxRecDepth 20000 in
theorem gX11_meanStrength_X7_countWholeRopes : GoodIn wsX11_meanStrength (wsV RX11 258 RX7 yX7_countWholeRopes wsX7_countWholeRopes) := goodIn_app (goodIn_of _ (by decide +kernel)) ggX11_meanStrength_X7_countWholeRopes
set_option maxRecDepth 20000 in
theorem ggX11_meanStrength_X7_sumWholeRopes : GoodIn wsX11_meanStrength wsX7_sumWholeRopes := goodIn_r _ [13, 9, 35, 36, 37, 38, 39, 40, 41, 42, 43, 44, 45, 46, 47, 48] (by decide +kernel) (by decide +kernel)
set_option maxRecDepth 20000 in
theorem gX11_meanStrength_X7_sumWholeRopes : GoodIn wsX11_meanStrength (wsV RX11 266 RX7 yX7_sumWholeRopes wsX7_sumWholeRopes) := goodIn_app (goodIn_of _ (by decide +kernel)) ggX11_meanStrength_X7_sumWholeRopes
theorem dX11_meanStrength_0 : decode cX11_meanStrength 0 = .ok (.aload_n 0, 1) := by decide +kernel
theorem dX11_meanStrength_1 : decode cX11_meanStrength 1 = .ok (.getfield 10, 3) := by decide +kernel
theorem dX11_meanStrength_4 : decode cX11_meanStrength 4 = .ok (.getfield 187, 3) := by decide +kernel
theorem dX11_meanStrength_7 : decode cX11_meanStrength 7 = .ok (.invokevirtual 258, 3) := by decide +kernel
theorem dX11_meanStrength_10 : decode cX11_meanStrength 10 = .ok (.istore_n 1, 1) := by decide +kernel
theorem dX11_meanStrength_11 : decode cX11_meanStrength 11 = .ok (.iload_n 1, 1) := by decide +kernel
theorem dX11_meanStrength_12 : decode cX11_meanStrength 12 = .ok (.ifCond .ne 14, 3) := by decide +kernel
theorem dX11_meanStrength_26 : decode cX11_meanStrength 26 = .ok (.aload_n 0, 1) := by decide +kernel
theorem dX11_meanStrength_27 : decode cX11_meanStrength 27 = .ok (.getfield 10, 3) := by decide +kernel
theorem dX11_meanStrength_30 : decode cX11_meanStrength 30 = .ok (.getfield 187, 3) := by decide +kernel
theorem dX11_meanStrength_33 : decode cX11_meanStrength 33 = .ok (.invokevirtual 266, 3) := by decide +kernel
theorem dX11_meanStrength_36 : decode cX11_meanStrength 36 = .ok (.i2d, 1) := by decide +kernel
theorem dX11_meanStrength_37 : decode cX11_meanStrength 37 = .ok (.iload_n 1, 1) := by decide +kernel
theorem dX11_meanStrength_38 : decode cX11_meanStrength 38 = .ok (.i2d, 1) := by decide +kernel
theorem dX11_meanStrength_39 : decode cX11_meanStrength 39 = .ok (.ddiv, 1) := by decide +kernel
theorem dX11_meanStrength_40 : decode cX11_meanStrength 40 = .ok (.dreturn, 1) := by decide +kernel
set_option maxRecDepth 20000 in
theorem ggX11_canBeGiven_X11_isIn : GoodIn wsX11_canBeGiven wsX11_isIn := goodIn_r _ [4] (by decide +kernel) (by decide +kernel)
set_option maxRecDepth 20000 in
theorem gX11_canBeGiven_X11_isIn : GoodIn wsX11_canBeGiven (va_wsS RX11 30 yX11_isIn wsX11_isIn) := goodIn_app (goodIn_of _ (by decide +kernel)) ggX11_canBeGiven_X11_isIn
theorem dX11_canBeGiven_0 : decode cX11_canBeGiven 0 = .ok (.iload_n 0, 1) := by decide +kernel
theorem dX11_canBeGiven_1 : decode cX11_canBeGiven 1 = .ok (.bipush 115, 2) := by decide +kernel
theorem dX11_canBeGiven_3 : decode cX11_canBeGiven 3 = .ok (.if_icmp .ne 28, 3) := by decide +kernel
theorem dX11_canBeGiven_6 : decode cX11_canBeGiven 6 = .ok (.iload_n 1, 1) := by decide +kernel
theorem dX11_canBeGiven_7 : decode cX11_canBeGiven 7 = .ok (.iconst 0, 1) := by decide +kernel
theorem dX11_canBeGiven_8 : decode cX11_canBeGiven 8 = .ok (.bipush 8, 2) := by decide +kernel
theorem dX11_canBeGiven_10 : decode cX11_canBeGiven 10 = .ok (.invokestatic 30, 3) := by decide +kernel
theorem dX11_canBeGiven_13 : decode cX11_canBeGiven 13 = .ok (.ifCond .eq 16, 3) := by decide +kernel
theorem dX11_canBeGiven_16 : decode cX11_canBeGiven 16 = .ok (.iload_n 2, 1) := by decide +kernel
theorem dX11_canBeGiven_17 : decode cX11_canBeGiven 17 = .ok (.iconst 0, 1) := by decide +kernel
theorem dX11_canBeGiven_18 : decode cX11_canBeGiven 18 = .ok (.iconst 2, 1) := by decide +kernel
theorem dX11_canBeGiven_19 : decode cX11_canBeGiven 19 = .ok (.invokestatic 30, 3) := by decide +kernel
theorem dX11_canBeGiven_22 : decode cX11_canBeGiven 22 = .ok (.ifCond .eq 7, 3) := by decide +kernel
theorem dX11_canBeGiven_25 : decode cX11_canBeGiven 25 = .ok (.iconst 1, 1) := by decide +kernel
theorem dX11_canBeGiven_26 : decode cX11_canBeGiven 26 = .ok (.goto 4, 3) := by decide +kernel
theorem dX11_canBeGiven_29 : decode cX11_canBeGiven 29 = .ok (.iconst 0, 1) := by decide +kernel
theorem dX11_canBeGiven_30 : decode cX11_canBeGiven 30 = .ok (.ireturn, 1) := by decide +kernel
theorem dX11_canBeGiven_31 : decode cX11_canBeGiven 31 = .ok (.iload_n 0, 1) := by decide +kernel
theorem dX11_canBeGiven_32 : decode cX11_canBeGiven 32 = .ok (.bipush 109, 2) := by decide +kernel
theorem dX11_canBeGiven_34 : decode cX11_canBeGiven 34 = .ok (.if_icmp .ne 23, 3) := by decide +kernel
theorem dX11_canBeGiven_37 : decode cX11_canBeGiven 37 = .ok (.iload_n 1, 1) := by decide +kernel
theorem dX11_canBeGiven_38 : decode cX11_canBeGiven 38 = .ok (.iconst 0, 1) := by decide +kernel
theorem dX11_canBeGiven_39 : decode cX11_canBeGiven 39 = .ok (.bipush 8, 2) := by decide +kernel
theorem dX11_canBeGiven_41 : decode cX11_canBeGiven 41 = .ok (.invokestatic 30, 3) := by decide +kernel
theorem dX11_canBeGiven_44 : decode cX11_canBeGiven 44 = .ok (.ifCond .eq 11, 3) := by decide +kernel
theorem dX11_canBeGiven_47 : decode cX11_canBeGiven 47 = .ok (.iload_n 2, 1) := by decide +kernel
theorem dX11_canBeGiven_48 : decode cX11_canBeGiven 48 = .ok (.ifCond .ne 7, 3) := by decide +kernel
theorem dX11_canBeGiven_51 : decode cX11_canBeGiven 51 = .ok (.iconst 1, 1) := by decide +kernel
theorem dX11_canBeGiven_52 : decode cX11_canBeGiven 52 = .ok (.goto 4, 3) := by decide +kernel
theorem dX11_canBeGiven_55 : decode cX11_canBeGiven 55 = .ok (.iconst 0, 1) := by decide +kernel
theorem dX11_canBeGiven_56 : decode cX11_canBeGiven 56 = .ok (.ireturn, 1) := by decide +kernel
theorem dX11_canBeGiven_57 : decode cX11_canBeGiven 57 = .ok (.iload_n 0, 1) := by decide +kernel
theorem dX11_canBeGiven_58 : decode cX11_canBeGiven 58 = .ok (.bipush 98, 2) := by decide +kernel
theorem dX11_canBeGiven_60 : decode cX11_canBeGiven 60 = .ok (.if_icmp .ne 28, 3) := by decide +kernel
theorem dX11_canBeGiven_63 : decode cX11_canBeGiven 63 = .ok (.iload_n 1, 1) := by decide +kernel
theorem dX11_canBeGiven_64 : decode cX11_canBeGiven 64 = .ok (.iconst 0, 1) := by decide +kernel
theorem dX11_canBeGiven_65 : decode cX11_canBeGiven 65 = .ok (.iconst 2, 1) := by decide +kernel
theorem dX11_canBeGiven_66 : decode cX11_canBeGiven 66 = .ok (.invokestatic 30, 3) := by decide +kernel
theorem dX11_canBeGiven_69 : decode cX11_canBeGiven 69 = .ok (.ifCond .eq 17, 3) := by decide +kernel
theorem dX11_canBeGiven_72 : decode cX11_canBeGiven 72 = .ok (.iload_n 2, 1) := by decide +kernel
theorem dX11_canBeGiven_73 : decode cX11_canBeGiven 73 = .ok (.bipush (-4), 2) := by decide +kernel
theorem dX11_canBeGiven_75 : decode cX11_canBeGiven 75 = .ok (.iconst 4, 1) := by decide +kernel
theorem dX11_canBeGiven_76 : decode cX11_canBeGiven 76 = .ok (.invokestatic 30, 3) := by decide +kernel
theorem dX11_canBeGiven_79 : decode cX11_canBeGiven 79 = .ok (.ifCond .eq 7, 3) := by decide +kernel
theorem dX11_canBeGiven_82 : decode cX11_canBeGiven 82 = .ok (.iconst 1, 1) := by decide +kernel
theorem dX11_canBeGiven_83 : decode cX11_canBeGiven 83 = .ok (.goto 4, 3) := by decide +kernel
theorem dX11_canBeGiven_86 : decode cX11_canBeGiven 86 = .ok (.iconst 0, 1) := by decide +kernel
theorem dX11_canBeGiven_87 : decode cX11_canBeGiven 87 = .ok (.ireturn, 1) := by decide +kernel
theorem dX11_canBeGiven_88 : decode cX11_canBeGiven 88 = .ok (.iload_n 0, 1) := by decide +kernel
theorem dX11_canBeGiven_89 : decode cX11_canBeGiven 89 = .ok (.bipush 114, 2) := by decide +kernel
theorem dX11_canBeGiven_91 : decode cX11_canBeGiven 91 = .ok (.if_icmp .ne 20, 3) := by decide +kernel
theorem dX11_canBeGiven_94 : decode cX11_canBeGiven 94 = .ok (.iload_n 1, 1) := by decide +kernel
theorem dX11_canBeGiven_95 : decode cX11_canBeGiven 95 = .ok (.iconst 0, 1) := by decide +kernel
theorem dX11_canBeGiven_96 : decode cX11_canBeGiven 96 = .ok (.iconst 2, 1) := by decide +kernel
theorem dX11_canBeGiven_97 : decode cX11_canBeGiven 97 = .ok (.invokestatic 30, 3) := by decide +kernel
theorem dX11_canBeGiven_100 : decode cX11_canBeGiven 100 = .ok (.ifCond .eq 11, 3) := by decide +kernel
theorem dX11_canBeGiven_103 : decode cX11_canBeGiven 103 = .ok (.iload_n 2, 1) := by decide +kernel
theorem dX11_canBeGiven_104 : decode cX11_canBeGiven 104 = .ok (.ifCond .ne 7, 3) := by decide +kernel
theorem dX11_canBeGiven_107 : decode cX11_canBeGiven 107 = .ok (.iconst 1, 1) := by decide +kernel
theorem dX11_canBeGiven_108 : decode cX11_canBeGiven 108 = .ok (.goto 4, 3) := by decide +kernel
theorem dX11_canBeGiven_111 : decode cX11_canBeGiven 111 = .ok (.iconst 0, 1) := by decide +kernel
theorem dX11_canBeGiven_112 : decode cX11_canBeGiven 112 = .ok (.ireturn, 1) := by decide +kernel
abbrev wd_k_x_sail (z : Nat → Nat) (sh : Nat) (rg : Nat) (mf : Nat) (mm : Nat) (mz : Nat) (ma : Nat) (sa : Nat) (s0 : Nat) (s1 : Nat) (s2 : Nat) (s3 : Nat) (s4 : Nat) (s5 : Nat) (s6 : Nat) (s7 : Nat) (s8 : Nat) (dk : Nat) (w0 : Nat) (w1 : Nat) (ol : Nat) (hd : Nat) (hu : Nat) (hy : Nat) (lg : Nat) (ll : Nat) (lm : Nat) (pl : Nat) (pr : Nat) (cM : ClassId) (cS : ClassId) (cU : ClassId) (cW : ClassId) (x : Nat) (tl : Nat) (tw : Nat) (N : Nat) : va_W := [(x, .inr (15, [.ref sh, .ref tl, .ref tw, .int 0])), (tl, .inr (3, [.int 0, .ref (z 0), .int 0])), (sh, .inr (13, [.ref rg, .ref dk, .ref hd, .ref lg, .ref pl, .ref pr, .int 0, .int 0, .int 0, .int 0, .int 0, .int 0, .int 0, .int 0, .int 0, .int 0, .int 0])), (rg, .inr (11, [.ref mf, .ref mm, .ref mz, .ref ma, .ref sa, .int 0])), (mf, .inr (8, [.int 0, .int 0, .int 0])), (mm, .inr (8, [.int 0, .int 0, .int 0])), (mz, .inr (8, [.int 0, .int 0, .int 0])), (ma, .inl (cM, 3, .inr (.inr (.inr (.inr (va_up (va_up (va_up (fun _ => none) 0 (some mf)) 1 (some mm)) 2 (some mz))))))), (sa, .inl (cS, 9, .inr (.inr (.inr (.inr (va_up (va_up (va_up (va_up (va_up (va_up (va_up (va_up (va_up (fun _ => none) 0 (some s0)) 1 (some s1)) 2 (some s2)) 3 (some s3)) 4 (some s4)) 5 (some s5)) 6 (some s6)) 7 (some s7)) 8 (some s8))))))), (s0, .inr (12, [.int 8, .int 6, .ref mf, .int 1, .int 0, .int 900, .int 0, .int 0])), (s1, .inr (12, [.int 7, .int 5, .ref mf, .int 1, .int 0, .int 900, .int 0, .int 0])), (s2, .inr (12, [.int 3, .int 3, .ref mf, .int 1, .int 0, .int 900, .int 0, .int 0])), (s3, .inr (12, [.int 10, .int 8, .ref mm, .int 1, .int 0, .int 900, .int 0, .int 0])), (s4, .inr (12, [.int 9, .int 6, .ref mm, .int 1, .int 0, .int 900, .int 0, .int 0])), (s5, .inr (12, [.int 4, .int 3, .ref mm, .int 1, .int 0, .int 900, .int 0, .int 0])), (s6, .inr (12, [.int 5, .int 4, .ref mz, .int 1, .int 0, .int 900, .int 0, .int 0])), (s7, .inr (12, [.int 4, .int 3, .ref mf, .int 0, .int 0, .int 900, .int 0, .int 0])), (s8, .inr (12, [.int 6, .int 4, .ref mz, .int 0, .int 0, .int 900, .int 0, .int 0])), (dk, .inr (4, [.ref w0, .ref w1, .ref ol, .int 0, .int 0, .int 0, .int 0])), (w0, .inr (14, [.int 0, .int 0])), (w1, .inr (14, [.int 0, .int 0])), (ol, .inr (3, [.int 0, .ref (z 0), .int 0])), (hd, .inr (6, [.ref hu, .ref hy, .int 0])), (hu, .inl (cU, 20, .inl (fun _ => 0))), (hy, .inl (cW, 20, .inl (fun _ => 0))), (lg, .inr (7, [.ref ll, .ref lm, .int 0, .int 0])), (pl, .inr (10, [.long 0, .long 0])), (pr, .inr (10, [.long 0, .long 0]))]
set_option maxHeartbeats 4000000 in
set_option maxRecDepth 100000 in
theorem k_x_sail (l : Launch) (dC : Nat → ClassId) (dI : Nat → Nat → Nat) (z zK zV : Nat → Nat) (sh : Nat) (rg : Nat) (mf : Nat) (mm : Nat) (mz : Nat) (ma : Nat) (sa : Nat) (s0 : Nat) (s1 : Nat) (s2 : Nat) (s3 : Nat) (s4 : Nat) (s5 : Nat) (s6 : Nat) (s7 : Nat) (s8 : Nat) (dk : Nat) (w0 : Nat) (w1 : Nat) (ol : Nat) (hd : Nat) (hu : Nat) (hy : Nat) (lg : Nat) (ll : Nat) (lm : Nat) (pl : Nat) (pr : Nat) (cM : ClassId) (cS : ClassId) (cU : ClassId) (cW : ClassId) (x : Nat) (tl : Nat) (tw : Nat) (N : Nat) (sz : Nat) (hN : N ≤ 1500) (hN1 : 1 ≤ N) : Met l yX11_sail wsX11_sail ({ frames := 6, cells := 2, slots := 14, locals := 129 }) (kP dC dI z zK zV [.ref x, .int (nI N)] sz (wd_k_x_sail z sh rg mf mm mz ma sa s0 s1 s2 s3 s4 s5 s6 s7 s8 dk w0 w1 ol hd hu hy lg ll lm pl pr cM cS cU cW x tl tw N) [(cM, .object RX4), (cS, .object RX8), (cU, .int), (cW, .boolean)]) (va_Qi (fun (r : Int32) (_ : Unit) => (nI N) = r) (fun _ t => kB (dC, dI) (va_A (wd_k_x_sail z sh rg mf mm mz ma sa s0 s1 s2 s3 s4 s5 s6 s7 s8 dk w0 w1 ol hd hu hy lg ll lm pl pr cM cS cU cW x tl tw N) sz) [] [] t) (va_A (wd_k_x_sail z sh rg mf mm mz ma sa s0 s1 s2 s3 s4 s5 s6 s7 s8 dk w0 w1 ol hd hu hy lg ll lm pl pr cM cS cU cW x tl tw N) sz)) 2 14 (va_A (wd_k_x_sail z sh rg mf mm mz ma sa s0 s1 s2 s3 s4 s5 s6 s7 s8 dk w0 w1 ol hd hu hy lg ll lm pl pr cM cS cU cW x tl tw N) sz) := by
  refine Met.ofW (cc := cX11_sail) (maxL := 2) (ret := (some .int)) (by decide) rfl ?_
  intro p e s m args below meth c s₁ B hml hv
  obtain ⟨rfl, hsz, hP, hK, hD0, hM⟩ := hv
  have hx := B.exec
  have hb := B.bytes
  have hr := B.returns
  have hts := atoms_spec (ws := wsX11_sail) B.pre
  have hown : s.vm.findClass RX11 = some m.cls := findClass_of_methodNamed B.named
  have hlocks := B.notSynchronized
  have hiX11 : ∀ w ∈ u_ws RX11 TX11 4, w ∈ wsX11_sail := by decide +kernel
  have hiX9 : ∀ w ∈ u_ws RX9 TX9 17, w ∈ wsX11_sail := by decide +kernel
  subst hsz
  have hD := hD0.self (sz := s.heap.size)
  generalize hAe : va_A (wd_k_x_sail z sh rg mf mm mz ma sa s0 s1 s2 s3 s4 s5 s6 s7 s8 dk w0 w1 ol hd hu hy lg ll lm pl pr cM cS cU cW x tl tw N) s.heap.size = A at hD hM ⊢
  have hA : ∀ q : Nat, s.heap.size ≤ q → A q := fun q h => by rw [← hAe]; exact Or.inr h
  have hS : va_S A s.heap s.heap [] := va_S.rf
  have hP : va_P (dC, dI) vwCl [(x, .inr (15, [.ref sh, .ref tl, .ref tw, .int 0])), (tl, .inr (3, [.int 0, .ref (z 0), .int 0])), (sh, .inr (13, [.ref rg, .ref dk, .ref hd, .ref lg, .ref pl, .ref pr, .int 0, .int 0, .int 0, .int 0, .int 0, .int 0, .int 0, .int 0, .int 0, .int 0, .int 0])), (rg, .inr (11, [.ref mf, .ref mm, .ref mz, .ref ma, .ref sa, .int 0])), (mf, .inr (8, [.int 0, .int 0, .int 0])), (mm, .inr (8, [.int 0, .int 0, .int 0])), (mz, .inr (8, [.int 0, .int 0, .int 0])), (ma, .inl (cM, 3, .inr (.inr (.inr (.inr (va_up (va_up (va_up (fun _ => none) 0 (some mf)) 1 (some mm)) 2 (some mz))))))), (sa, .inl (cS, 9, .inr (.inr (.inr (.inr (va_up (va_up (va_up (va_up (va_up (va_up (va_up (va_up (va_up (fun _ => none) 0 (some s0)) 1 (some s1)) 2 (some s2)) 3 (some s3)) 4 (some s4)) 5 (some s5)) 6 (some s6)) 7 (some s7)) 8 (some s8))))))), (s0, .inr (12, [.int 8, .int 6, .ref mf, .int 1, .int 0, .int 900, .int 0, .int 0])), (s1, .inr (12, [.int 7, .int 5, .ref mf, .int 1, .int 0, .int 900, .int 0, .int 0])), (s2, .inr (12, [.int 3, .int 3, .ref mf, .int 1, .int 0, .int 900, .int 0, .int 0])), (s3, .inr (12, [.int 10, .int 8, .ref mm, .int 1, .int 0, .int 900, .int 0, .int 0])), (s4, .inr (12, [.int 9, .int 6, .ref mm, .int 1, .int 0, .int 900, .int 0, .int 0])), (s5, .inr (12, [.int 4, .int 3, .ref mm, .int 1, .int 0, .int 900, .int 0, .int 0])), (s6, .inr (12, [.int 5, .int 4, .ref mz, .int 1, .int 0, .int 900, .int 0, .int 0])), (s7, .inr (12, [.int 4, .int 3, .ref mf, .int 0, .int 0, .int 900, .int 0, .int 0])), (s8, .inr (12, [.int 6, .int 4, .ref mz, .int 0, .int 0, .int 900, .int 0, .int 0])), (dk, .inr (4, [.ref w0, .ref w1, .ref ol, .int 0, .int 0, .int 0, .int 0])), (w0, .inr (14, [.int 0, .int 0])), (w1, .inr (14, [.int 0, .int 0])), (ol, .inr (3, [.int 0, .ref (z 0), .int 0])), (hd, .inr (6, [.ref hu, .ref hy, .int 0])), (hu, .inl (cU, 20, .inl (fun _ => 0))), (hy, .inl (cW, 20, .inl (fun _ => 0))), (lg, .inr (7, [.ref ll, .ref lm, .int 0, .int 0])), (pl, .inr (10, [.long 0, .long 0])), (pr, .inr (10, [.long 0, .long 0]))] s.heap := hP
  have hD : va_D A [(x, .inr (15, [.ref sh, .ref tl, .ref tw, .int 0])), (tl, .inr (3, [.int 0, .ref (z 0), .int 0])), (sh, .inr (13, [.ref rg, .ref dk, .ref hd, .ref lg, .ref pl, .ref pr, .int 0, .int 0, .int 0, .int 0, .int 0, .int 0, .int 0, .int 0, .int 0, .int 0, .int 0])), (rg, .inr (11, [.ref mf, .ref mm, .ref mz, .ref ma, .ref sa, .int 0])), (mf, .inr (8, [.int 0, .int 0, .int 0])), (mm, .inr (8, [.int 0, .int 0, .int 0])), (mz, .inr (8, [.int 0, .int 0, .int 0])), (ma, .inl (cM, 3, .inr (.inr (.inr (.inr (va_up (va_up (va_up (fun _ => none) 0 (some mf)) 1 (some mm)) 2 (some mz))))))), (sa, .inl (cS, 9, .inr (.inr (.inr (.inr (va_up (va_up (va_up (va_up (va_up (va_up (va_up (va_up (va_up (fun _ => none) 0 (some s0)) 1 (some s1)) 2 (some s2)) 3 (some s3)) 4 (some s4)) 5 (some s5)) 6 (some s6)) 7 (some s7)) 8 (some s8))))))), (s0, .inr (12, [.int 8, .int 6, .ref mf, .int 1, .int 0, .int 900, .int 0, .int 0])), (s1, .inr (12, [.int 7, .int 5, .ref mf, .int 1, .int 0, .int 900, .int 0, .int 0])), (s2, .inr (12, [.int 3, .int 3, .ref mf, .int 1, .int 0, .int 900, .int 0, .int 0])), (s3, .inr (12, [.int 10, .int 8, .ref mm, .int 1, .int 0, .int 900, .int 0, .int 0])), (s4, .inr (12, [.int 9, .int 6, .ref mm, .int 1, .int 0, .int 900, .int 0, .int 0])), (s5, .inr (12, [.int 4, .int 3, .ref mm, .int 1, .int 0, .int 900, .int 0, .int 0])), (s6, .inr (12, [.int 5, .int 4, .ref mz, .int 1, .int 0, .int 900, .int 0, .int 0])), (s7, .inr (12, [.int 4, .int 3, .ref mf, .int 0, .int 0, .int 900, .int 0, .int 0])), (s8, .inr (12, [.int 6, .int 4, .ref mz, .int 0, .int 0, .int 900, .int 0, .int 0])), (dk, .inr (4, [.ref w0, .ref w1, .ref ol, .int 0, .int 0, .int 0, .int 0])), (w0, .inr (14, [.int 0, .int 0])), (w1, .inr (14, [.int 0, .int 0])), (ol, .inr (3, [.int 0, .ref (z 0), .int 0])), (hd, .inr (6, [.ref hu, .ref hy, .int 0])), (hu, .inl (cU, 20, .inl (fun _ => 0))), (hy, .inl (cW, 20, .inl (fun _ => 0))), (lg, .inr (7, [.ref ll, .ref lm, .int 0, .int 0])), (pl, .inr (10, [.long 0, .long 0])), (pr, .inr (10, [.long 0, .long 0]))] := hD
  have hl := lv_entry ([.ref x, .int (nI N)]) (n := 2) (Nat.le_of_ble_eq_true rfl)
  rw [lg_entry_eq]
  generalize (lg_sl ([.ref x, .int (nI N)]) ++ List.replicate (2 - (lg_sl ([.ref x, .int (nI N)])).length) Slot.unset).toArray = ls at hl ⊢
  have hl : lv_has ls 2 [(0, .ref x), (1, .int (nI N))] := hl
  refine lv_iload_n hx hb dX11_sail_0 rfl (lv_at hl 1 rfl) ?_
  refine lv_iconst (v := 1) hx hb dX11_sail_1 (by decide) ?_
  refine lv_sipush (v := 1500) hx hb dX11_sail_2 (by decide) ?_
  have hPc := hP.sub (ws' := []) [] rfl
  have hDc := hD.sub (ws' := []) [] (by decide) rfl
  have hKc := hK.sub (tys' := []) [] rfl
  have hFc := va_free (wc := []) hD hS hA [] rfl
  refine va_calli (va_runS (As := [.int (nI N), .int 1, .int 1500]) (rest := []) ⟨hx, hb, hml, hown, hts⟩ (k_isIn l dC dI z zK zV (nI N) 1 1500 s.heap.size) (va_cwS 3 hts gX11_sail_X11_isIn rfl rfl rfl (by decide +kernel) ⟨Nat.le_of_ble_eq_true rfl, Nat.le_of_ble_eq_true rfl⟩) ⟨kP_blind, kP_go hPc hKc hDc hFc hM hS⟩ rfl rfl hl.1 rfl (lv_room (Nat.le_of_ble_eq_true rfl)) dX11_sail_5 ⟨Nat.le_of_ble_eq_true rfl, Nat.le_of_ble_eq_true rfl⟩) hS (fun q _ h => hFc q h) hFc (fun r1 u t H1 locs ht hvm hw hB hz1 hk1 hS => ?_)
  obtain ⟨hP, hD, hK⟩ := kJ (wr := [(x, .inr (15, [.ref sh, .ref tl, .ref tw, .int 0])), (tl, .inr (3, [.int 0, .ref (z 0), .int 0])), (sh, .inr (13, [.ref rg, .ref dk, .ref hd, .ref lg, .ref pl, .ref pr, .int 0, .int 0, .int 0, .int 0, .int 0, .int 0, .int 0, .int 0, .int 0, .int 0, .int 0])), (rg, .inr (11, [.ref mf, .ref mm, .ref mz, .ref ma, .ref sa, .int 0])), (mf, .inr (8, [.int 0, .int 0, .int 0])), (mm, .inr (8, [.int 0, .int 0, .int 0])), (mz, .inr (8, [.int 0, .int 0, .int 0])), (ma, .inl (cM, 3, .inr (.inr (.inr (.inr (va_up (va_up (va_up (fun _ => none) 0 (some mf)) 1 (some mm)) 2 (some mz))))))), (sa, .inl (cS, 9, .inr (.inr (.inr (.inr (va_up (va_up (va_up (va_up (va_up (va_up (va_up (va_up (va_up (fun _ => none) 0 (some s0)) 1 (some s1)) 2 (some s2)) 3 (some s3)) 4 (some s4)) 5 (some s5)) 6 (some s6)) 7 (some s7)) 8 (some s8))))))), (s0, .inr (12, [.int 8, .int 6, .ref mf, .int 1, .int 0, .int 900, .int 0, .int 0])), (s1, .inr (12, [.int 7, .int 5, .ref mf, .int 1, .int 0, .int 900, .int 0, .int 0])), (s2, .inr (12, [.int 3, .int 3, .ref mf, .int 1, .int 0, .int 900, .int 0, .int 0])), (s3, .inr (12, [.int 10, .int 8, .ref mm, .int 1, .int 0, .int 900, .int 0, .int 0])), (s4, .inr (12, [.int 9, .int 6, .ref mm, .int 1, .int 0, .int 900, .int 0, .int 0])), (s5, .inr (12, [.int 4, .int 3, .ref mm, .int 1, .int 0, .int 900, .int 0, .int 0])), (s6, .inr (12, [.int 5, .int 4, .ref mz, .int 1, .int 0, .int 900, .int 0, .int 0])), (s7, .inr (12, [.int 4, .int 3, .ref mf, .int 0, .int 0, .int 900, .int 0, .int 0])), (s8, .inr (12, [.int 6, .int 4, .ref mz, .int 0, .int 0, .int 900, .int 0, .int 0])), (dk, .inr (4, [.ref w0, .ref w1, .ref ol, .int 0, .int 0, .int 0, .int 0])), (w0, .inr (14, [.int 0, .int 0])), (w1, .inr (14, [.int 0, .int 0])), (ol, .inr (3, [.int 0, .ref (z 0), .int 0])), (hd, .inr (6, [.ref hu, .ref hy, .int 0])), (hu, .inl (cU, 20, .inl (fun _ => 0))), (hy, .inl (cW, 20, .inl (fun _ => 0))), (lg, .inr (7, [.ref ll, .ref lm, .int 0, .int 0])), (pl, .inr (10, [.long 0, .long 0])), (pr, .inr (10, [.long 0, .long 0]))]) (w1 := []) (t1 := []) hP hD hK [] [0, 1, 2, 3, 4, 5, 6, 7, 8, 9, 10, 11, 12, 13, 14, 15, 16, 17, 18, 19, 20, 21, 22, 23, 24, 25, 26, 27] rfl rfl (by decide) (by decide) hk1 hFc ht hvm hB
  generalize H1 = H at hP hS ⊢
  have hP : va_P (dC, dI) vwCl [(x, .inr (15, [.ref sh, .ref tl, .ref tw, .int 0])), (tl, .inr (3, [.int 0, .ref (z 0), .int 0])), (sh, .inr (13, [.ref rg, .ref dk, .ref hd, .ref lg, .ref pl, .ref pr, .int 0, .int 0, .int 0, .int 0, .int 0, .int 0, .int 0, .int 0, .int 0, .int 0, .int 0])), (rg, .inr (11, [.ref mf, .ref mm, .ref mz, .ref ma, .ref sa, .int 0])), (mf, .inr (8, [.int 0, .int 0, .int 0])), (mm, .inr (8, [.int 0, .int 0, .int 0])), (mz, .inr (8, [.int 0, .int 0, .int 0])), (ma, .inl (cM, 3, .inr (.inr (.inr (.inr (va_up (va_up (va_up (fun _ => none) 0 (some mf)) 1 (some mm)) 2 (some mz))))))), (sa, .inl (cS, 9, .inr (.inr (.inr (.inr (va_up (va_up (va_up (va_up (va_up (va_up (va_up (va_up (va_up (fun _ => none) 0 (some s0)) 1 (some s1)) 2 (some s2)) 3 (some s3)) 4 (some s4)) 5 (some s5)) 6 (some s6)) 7 (some s7)) 8 (some s8))))))), (s0, .inr (12, [.int 8, .int 6, .ref mf, .int 1, .int 0, .int 900, .int 0, .int 0])), (s1, .inr (12, [.int 7, .int 5, .ref mf, .int 1, .int 0, .int 900, .int 0, .int 0])), (s2, .inr (12, [.int 3, .int 3, .ref mf, .int 1, .int 0, .int 900, .int 0, .int 0])), (s3, .inr (12, [.int 10, .int 8, .ref mm, .int 1, .int 0, .int 900, .int 0, .int 0])), (s4, .inr (12, [.int 9, .int 6, .ref mm, .int 1, .int 0, .int 900, .int 0, .int 0])), (s5, .inr (12, [.int 4, .int 3, .ref mm, .int 1, .int 0, .int 900, .int 0, .int 0])), (s6, .inr (12, [.int 5, .int 4, .ref mz, .int 1, .int 0, .int 900, .int 0, .int 0])), (s7, .inr (12, [.int 4, .int 3, .ref mf, .int 0, .int 0, .int 900, .int 0, .int 0])), (s8, .inr (12, [.int 6, .int 4, .ref mz, .int 0, .int 0, .int 900, .int 0, .int 0])), (dk, .inr (4, [.ref w0, .ref w1, .ref ol, .int 0, .int 0, .int 0, .int 0])), (w0, .inr (14, [.int 0, .int 0])), (w1, .inr (14, [.int 0, .int 0])), (ol, .inr (3, [.int 0, .ref (z 0), .int 0])), (hd, .inr (6, [.ref hu, .ref hy, .int 0])), (hu, .inl (cU, 20, .inl (fun _ => 0))), (hy, .inl (cW, 20, .inl (fun _ => 0))), (lg, .inr (7, [.ref ll, .ref lm, .int 0, .int 0])), (pl, .inr (10, [.long 0, .long 0])), (pr, .inr (10, [.long 0, .long 0]))] H := hP
  have hD : va_D A [(x, .inr (15, [.ref sh, .ref tl, .ref tw, .int 0])), (tl, .inr (3, [.int 0, .ref (z 0), .int 0])), (sh, .inr (13, [.ref rg, .ref dk, .ref hd, .ref lg, .ref pl, .ref pr, .int 0, .int 0, .int 0, .int 0, .int 0, .int 0, .int 0, .int 0, .int 0, .int 0, .int 0])), (rg, .inr (11, [.ref mf, .ref mm, .ref mz, .ref ma, .ref sa, .int 0])), (mf, .inr (8, [.int 0, .int 0, .int 0])), (mm, .inr (8, [.int 0, .int 0, .int 0])), (mz, .inr (8, [.int 0, .int 0, .int 0])), (ma, .inl (cM, 3, .inr (.inr (.inr (.inr (va_up (va_up (va_up (fun _ => none) 0 (some mf)) 1 (some mm)) 2 (some mz))))))), (sa, .inl (cS, 9, .inr (.inr (.inr (.inr (va_up (va_up (va_up (va_up (va_up (va_up (va_up (va_up (va_up (fun _ => none) 0 (some s0)) 1 (some s1)) 2 (some s2)) 3 (some s3)) 4 (some s4)) 5 (some s5)) 6 (some s6)) 7 (some s7)) 8 (some s8))))))), (s0, .inr (12, [.int 8, .int 6, .ref mf, .int 1, .int 0, .int 900, .int 0, .int 0])), (s1, .inr (12, [.int 7, .int 5, .ref mf, .int 1, .int 0, .int 900, .int 0, .int 0])), (s2, .inr (12, [.int 3, .int 3, .ref mf, .int 1, .int 0, .int 900, .int 0, .int 0])), (s3, .inr (12, [.int 10, .int 8, .ref mm, .int 1, .int 0, .int 900, .int 0, .int 0])), (s4, .inr (12, [.int 9, .int 6, .ref mm, .int 1, .int 0, .int 900, .int 0, .int 0])), (s5, .inr (12, [.int 4, .int 3, .ref mm, .int 1, .int 0, .int 900, .int 0, .int 0])), (s6, .inr (12, [.int 5, .int 4, .ref mz, .int 1, .int 0, .int 900, .int 0, .int 0])), (s7, .inr (12, [.int 4, .int 3, .ref mf, .int 0, .int 0, .int 900, .int 0, .int 0])), (s8, .inr (12, [.int 6, .int 4, .ref mz, .int 0, .int 0, .int 900, .int 0, .int 0])), (dk, .inr (4, [.ref w0, .ref w1, .ref ol, .int 0, .int 0, .int 0, .int 0])), (w0, .inr (14, [.int 0, .int 0])), (w1, .inr (14, [.int 0, .int 0])), (ol, .inr (3, [.int 0, .ref (z 0), .int 0])), (hd, .inr (6, [.ref hu, .ref hy, .int 0])), (hu, .inl (cU, 20, .inl (fun _ => 0))), (hy, .inl (cW, 20, .inl (fun _ => 0))), (lg, .inr (7, [.ref ll, .ref lm, .int 0, .int 0])), (pl, .inr (10, [.long 0, .long 0])), (pr, .inr (10, [.long 0, .long 0]))] := hD
  have hK : va_K (dC, dI) vwCl [(cM, .object RX4), (cS, .object RX8), (cU, .int), (cW, .boolean)] s := hK
  obtain rfl : (if 1 ≤ (nI N) ∧ (nI N) ≤ 1500 then (1 : Int32) else 0) = r1 := hw
  refine lv_if_ne (tgt := 21) hx hb dX11_sail_8 (by decide) (fun _ => ?_) (fun c_ => absurd c_ (k_in1 hN1 hN))
  refine lv_aload_n hx hb dX11_sail_21 rfl (lv_at hl 0 rfl) ?_
  refine va_get (D := (dC, dI)) (ci := 15) (v := .ref sh) (C := RX11) (T := TX11) (N := 4) hx hb hts hiX11 hown hK hP 0 rfl rfl 0 (by decide) (hts (.fieldLink RX11 10 "SquareRig" "ship" "LSquareRig$Ship;") (by decide +kernel)) (fun _ h9 => h9) rfl dX11_sail_22 ?_
  refine lv_aload_n hx hb dX11_sail_25 rfl (lv_at hl 0 rfl) ?_
  refine lv_bipush (v := 8) hx hb dX11_sail_26 (by decide) ?_
  refine lv_iload_n hx hb dX11_sail_28 rfl (lv_at hl 1 rfl) ?_
  refine lv_iconst (v := 0) hx hb dX11_sail_29 (by decide) ?_
  refine lv_iconst (v := 0) hx hb dX11_sail_30 (by decide) ?_
  have hPc := hP.sub (ws' := [(x, .inr (15, [.ref sh, .ref tl, .ref tw, .int 0])), (tl, .inr (3, [.int 0, .ref (z 0), .int 0]))]) [0, 1] rfl
  have hDc := hD.sub (ws' := [(x, .inr (15, [.ref sh, .ref tl, .ref tw, .int 0])), (tl, .inr (3, [.int 0, .ref (z 0), .int 0]))]) [0, 1] (by decide) rfl
  have hKc := hK.sub (tys' := []) [] rfl
  have hFc := va_free (wc := [(x, .inr (15, [.ref sh, .ref tl, .ref tw, .int 0])), (tl, .inr (3, [.int 0, .ref (z 0), .int 0]))]) hD hS hA [0, 1] rfl
  refine va_callr (va_runV (As := [.int 8, .int (nI N), .int 0, .int 0]) (rest := [.ref sh]) ⟨hx, hb, hml, hown, hts⟩ (k_keep l dC dI z zK zV sh x tl tw 8 (nI N) 0 0 H.size) (cwV 4 hts gX11_sail_X11_keep rfl rfl rfl (by decide +kernel) ⟨Nat.le_of_ble_eq_true rfl, Nat.le_of_ble_eq_true rfl⟩) ⟨kP_blind, va_recv hKc hPc (ci := 15) (q0 := 0) rfl rfl, kP_go hPc hKc hDc hFc hM hS⟩ rfl rfl hl.1 rfl (lv_room (Nat.le_of_ble_eq_true rfl)) dX11_sail_31 ⟨Nat.le_of_ble_eq_true rfl, Nat.le_of_ble_eq_true rfl⟩) hS (fun q _ h => hFc q h) hFc (fun u ra2 t H1 locs ht hvm hw hB hz1 hk1 hS => ?_)
  obtain ⟨q3, q4, cA5, rfl, hB⟩ := hB
  obtain ⟨hP, hD, hK⟩ := kJ (wr := [(sh, .inr (13, [.ref rg, .ref dk, .ref hd, .ref lg, .ref pl, .ref pr, .int 0, .int 0, .int 0, .int 0, .int 0, .int 0, .int 0, .int 0, .int 0, .int 0, .int 0])), (rg, .inr (11, [.ref mf, .ref mm, .ref mz, .ref ma, .ref sa, .int 0])), (mf, .inr (8, [.int 0, .int 0, .int 0])), (mm, .inr (8, [.int 0, .int 0, .int 0])), (mz, .inr (8, [.int 0, .int 0, .int 0])), (ma, .inl (cM, 3, .inr (.inr (.inr (.inr (va_up (va_up (va_up (fun _ => none) 0 (some mf)) 1 (some mm)) 2 (some mz))))))), (sa, .inl (cS, 9, .inr (.inr (.inr (.inr (va_up (va_up (va_up (va_up (va_up (va_up (va_up (va_up (va_up (fun _ => none) 0 (some s0)) 1 (some s1)) 2 (some s2)) 3 (some s3)) 4 (some s4)) 5 (some s5)) 6 (some s6)) 7 (some s7)) 8 (some s8))))))), (s0, .inr (12, [.int 8, .int 6, .ref mf, .int 1, .int 0, .int 900, .int 0, .int 0])), (s1, .inr (12, [.int 7, .int 5, .ref mf, .int 1, .int 0, .int 900, .int 0, .int 0])), (s2, .inr (12, [.int 3, .int 3, .ref mf, .int 1, .int 0, .int 900, .int 0, .int 0])), (s3, .inr (12, [.int 10, .int 8, .ref mm, .int 1, .int 0, .int 900, .int 0, .int 0])), (s4, .inr (12, [.int 9, .int 6, .ref mm, .int 1, .int 0, .int 900, .int 0, .int 0])), (s5, .inr (12, [.int 4, .int 3, .ref mm, .int 1, .int 0, .int 900, .int 0, .int 0])), (s6, .inr (12, [.int 5, .int 4, .ref mz, .int 1, .int 0, .int 900, .int 0, .int 0])), (s7, .inr (12, [.int 4, .int 3, .ref mf, .int 0, .int 0, .int 900, .int 0, .int 0])), (s8, .inr (12, [.int 6, .int 4, .ref mz, .int 0, .int 0, .int 900, .int 0, .int 0])), (dk, .inr (4, [.ref w0, .ref w1, .ref ol, .int 0, .int 0, .int 0, .int 0])), (w0, .inr (14, [.int 0, .int 0])), (w1, .inr (14, [.int 0, .int 0])), (ol, .inr (3, [.int 0, .ref (z 0), .int 0])), (hd, .inr (6, [.ref hu, .ref hy, .int 0])), (hu, .inl (cU, 20, .inl (fun _ => 0))), (hy, .inl (cW, 20, .inl (fun _ => 0))), (lg, .inr (7, [.ref ll, .ref lm, .int 0, .int 0])), (pl, .inr (10, [.long 0, .long 0])), (pr, .inr (10, [.long 0, .long 0]))]) (w1 := [(x, .inr (15, [.ref sh, .ref tl, .ref tw, .int 0])), (q3, .inr (5, [.int 8, .int (nI N), .int 0, .int 0])), (tl, .inr (3, [.int (0 + 1), .ref q4, .int 1])), (q4, .inl (cA5, 10, .inr (.inr (.inr (.inr (va_up (fun _ => none) 0 (some q3)))))))]) (t1 := [(cA5, .object "java/lang/Object")]) hP hD hK [0, 1] [2, 3, 4, 5, 6, 7, 8, 9, 10, 11, 12, 13, 14, 15, 16, 17, 18, 19, 20, 21, 22, 23, 24, 25, 26, 27] rfl rfl (by decide) (by decide) hk1 hFc ht hvm hB
  generalize H1 = H at hP hS ⊢
  have hP : va_P (dC, dI) vwCl [(sh, .inr (13, [.ref rg, .ref dk, .ref hd, .ref lg, .ref pl, .ref pr, .int 0, .int 0, .int 0, .int 0, .int 0, .int 0, .int 0, .int 0, .int 0, .int 0, .int 0])), (rg, .inr (11, [.ref mf, .ref mm, .ref mz, .ref ma, .ref sa, .int 0])), (mf, .inr (8, [.int 0, .int 0, .int 0])), (mm, .inr (8, [.int 0, .int 0, .int 0])), (mz, .inr (8, [.int 0, .int 0, .int 0])), (ma, .inl (cM, 3, .inr (.inr (.inr (.inr (va_up (va_up (va_up (fun _ => none) 0 (some mf)) 1 (some mm)) 2 (some mz))))))), (sa, .inl (cS, 9, .inr (.inr (.inr (.inr (va_up (va_up (va_up (va_up (va_up (va_up (va_up (va_up (va_up (fun _ => none) 0 (some s0)) 1 (some s1)) 2 (some s2)) 3 (some s3)) 4 (some s4)) 5 (some s5)) 6 (some s6)) 7 (some s7)) 8 (some s8))))))), (s0, .inr (12, [.int 8, .int 6, .ref mf, .int 1, .int 0, .int 900, .int 0, .int 0])), (s1, .inr (12, [.int 7, .int 5, .ref mf, .int 1, .int 0, .int 900, .int 0, .int 0])), (s2, .inr (12, [.int 3, .int 3, .ref mf, .int 1, .int 0, .int 900, .int 0, .int 0])), (s3, .inr (12, [.int 10, .int 8, .ref mm, .int 1, .int 0, .int 900, .int 0, .int 0])), (s4, .inr (12, [.int 9, .int 6, .ref mm, .int 1, .int 0, .int 900, .int 0, .int 0])), (s5, .inr (12, [.int 4, .int 3, .ref mm, .int 1, .int 0, .int 900, .int 0, .int 0])), (s6, .inr (12, [.int 5, .int 4, .ref mz, .int 1, .int 0, .int 900, .int 0, .int 0])), (s7, .inr (12, [.int 4, .int 3, .ref mf, .int 0, .int 0, .int 900, .int 0, .int 0])), (s8, .inr (12, [.int 6, .int 4, .ref mz, .int 0, .int 0, .int 900, .int 0, .int 0])), (dk, .inr (4, [.ref w0, .ref w1, .ref ol, .int 0, .int 0, .int 0, .int 0])), (w0, .inr (14, [.int 0, .int 0])), (w1, .inr (14, [.int 0, .int 0])), (ol, .inr (3, [.int 0, .ref (z 0), .int 0])), (hd, .inr (6, [.ref hu, .ref hy, .int 0])), (hu, .inl (cU, 20, .inl (fun _ => 0))), (hy, .inl (cW, 20, .inl (fun _ => 0))), (lg, .inr (7, [.ref ll, .ref lm, .int 0, .int 0])), (pl, .inr (10, [.long 0, .long 0])), (pr, .inr (10, [.long 0, .long 0])), (x, .inr (15, [.ref sh, .ref tl, .ref tw, .int 0])), (q3, .inr (5, [.int 8, .int (nI N), .int 0, .int 0])), (tl, .inr (3, [.int (0 + 1), .ref q4, .int 1])), (q4, .inl (cA5, 10, .inr (.inr (.inr (.inr (va_up (fun _ => none) 0 (some q3)))))))] H := hP
  have hD : va_D A [(sh, .inr (13, [.ref rg, .ref dk, .ref hd, .ref lg, .ref pl, .ref pr, .int 0, .int 0, .int 0, .int 0, .int 0, .int 0, .int 0, .int 0, .int 0, .int 0, .int 0])), (rg, .inr (11, [.ref mf, .ref mm, .ref mz, .ref ma, .ref sa, .int 0])), (mf, .inr (8, [.int 0, .int 0, .int 0])), (mm, .inr (8, [.int 0, .int 0, .int 0])), (mz, .inr (8, [.int 0, .int 0, .int 0])), (ma, .inl (cM, 3, .inr (.inr (.inr (.inr (va_up (va_up (va_up (fun _ => none) 0 (some mf)) 1 (some mm)) 2 (some mz))))))), (sa, .inl (cS, 9, .inr (.inr (.inr (.inr (va_up (va_up (va_up (va_up (va_up (va_up (va_up (va_up (va_up (fun _ => none) 0 (some s0)) 1 (some s1)) 2 (some s2)) 3 (some s3)) 4 (some s4)) 5 (some s5)) 6 (some s6)) 7 (some s7)) 8 (some s8))))))), (s0, .inr (12, [.int 8, .int 6, .ref mf, .int 1, .int 0, .int 900, .int 0, .int 0])), (s1, .inr (12, [.int 7, .int 5, .ref mf, .int 1, .int 0, .int 900, .int 0, .int 0])), (s2, .inr (12, [.int 3, .int 3, .ref mf, .int 1, .int 0, .int 900, .int 0, .int 0])), (s3, .inr (12, [.int 10, .int 8, .ref mm, .int 1, .int 0, .int 900, .int 0, .int 0])), (s4, .inr (12, [.int 9, .int 6, .ref mm, .int 1, .int 0, .int 900, .int 0, .int 0])), (s5, .inr (12, [.int 4, .int 3, .ref mm, .int 1, .int 0, .int 900, .int 0, .int 0])), (s6, .inr (12, [.int 5, .int 4, .ref mz, .int 1, .int 0, .int 900, .int 0, .int 0])), (s7, .inr (12, [.int 4, .int 3, .ref mf, .int 0, .int 0, .int 900, .int 0, .int 0])), (s8, .inr (12, [.int 6, .int 4, .ref mz, .int 0, .int 0, .int 900, .int 0, .int 0])), (dk, .inr (4, [.ref w0, .ref w1, .ref ol, .int 0, .int 0, .int 0, .int 0])), (w0, .inr (14, [.int 0, .int 0])), (w1, .inr (14, [.int 0, .int 0])), (ol, .inr (3, [.int 0, .ref (z 0), .int 0])), (hd, .inr (6, [.ref hu, .ref hy, .int 0])), (hu, .inl (cU, 20, .inl (fun _ => 0))), (hy, .inl (cW, 20, .inl (fun _ => 0))), (lg, .inr (7, [.ref ll, .ref lm, .int 0, .int 0])), (pl, .inr (10, [.long 0, .long 0])), (pr, .inr (10, [.long 0, .long 0])), (x, .inr (15, [.ref sh, .ref tl, .ref tw, .int 0])), (q3, .inr (5, [.int 8, .int (nI N), .int 0, .int 0])), (tl, .inr (3, [.int (0 + 1), .ref q4, .int 1])), (q4, .inl (cA5, 10, .inr (.inr (.inr (.inr (va_up (fun _ => none) 0 (some q3)))))))] := hD
  have hK : va_K (dC, dI) vwCl [(cM, .object RX4), (cS, .object RX8), (cU, .int), (cW, .boolean), (cA5, .object "java/lang/Object")] s := hK
  have hPc := hP.sub (ws' := [(sh, .inr (13, [.ref rg, .ref dk, .ref hd, .ref lg, .ref pl, .ref pr, .int 0, .int 0, .int 0, .int 0, .int 0, .int 0, .int 0, .int 0, .int 0, .int 0, .int 0])), (rg, .inr (11, [.ref mf, .ref mm, .ref mz, .ref ma, .ref sa, .int 0])), (mf, .inr (8, [.int 0, .int 0, .int 0])), (mm, .inr (8, [.int 0, .int 0, .int 0])), (mz, .inr (8, [.int 0, .int 0, .int 0])), (ma, .inl (cM, 3, .inr (.inr (.inr (.inr (va_up (va_up (va_up (fun _ => none) 0 (some mf)) 1 (some mm)) 2 (some mz))))))), (sa, .inl (cS, 9, .inr (.inr (.inr (.inr (va_up (va_up (va_up (va_up (va_up (va_up (va_up (va_up (va_up (fun _ => none) 0 (some s0)) 1 (some s1)) 2 (some s2)) 3 (some s3)) 4 (some s4)) 5 (some s5)) 6 (some s6)) 7 (some s7)) 8 (some s8))))))), (s0, .inr (12, [.int 8, .int 6, .ref mf, .int 1, .int 0, .int 900, .int 0, .int 0])), (s1, .inr (12, [.int 7, .int 5, .ref mf, .int 1, .int 0, .int 900, .int 0, .int 0])), (s2, .inr (12, [.int 3, .int 3, .ref mf, .int 1, .int 0, .int 900, .int 0, .int 0])), (s3, .inr (12, [.int 10, .int 8, .ref mm, .int 1, .int 0, .int 900, .int 0, .int 0])), (s4, .inr (12, [.int 9, .int 6, .ref mm, .int 1, .int 0, .int 900, .int 0, .int 0])), (s5, .inr (12, [.int 4, .int 3, .ref mm, .int 1, .int 0, .int 900, .int 0, .int 0])), (s6, .inr (12, [.int 5, .int 4, .ref mz, .int 1, .int 0, .int 900, .int 0, .int 0])), (s7, .inr (12, [.int 4, .int 3, .ref mf, .int 0, .int 0, .int 900, .int 0, .int 0])), (s8, .inr (12, [.int 6, .int 4, .ref mz, .int 0, .int 0, .int 900, .int 0, .int 0])), (dk, .inr (4, [.ref w0, .ref w1, .ref ol, .int 0, .int 0, .int 0, .int 0])), (w0, .inr (14, [.int 0, .int 0])), (w1, .inr (14, [.int 0, .int 0])), (ol, .inr (3, [.int 0, .ref (z 0), .int 0])), (hd, .inr (6, [.ref hu, .ref hy, .int 0])), (hu, .inl (cU, 20, .inl (fun _ => 0))), (hy, .inl (cW, 20, .inl (fun _ => 0))), (lg, .inr (7, [.ref ll, .ref lm, .int 0, .int 0])), (pl, .inr (10, [.long 0, .long 0])), (pr, .inr (10, [.long 0, .long 0])), (q3, .inr (5, [.int 8, .int (nI N), .int 0, .int 0]))]) [0, 1, 2, 3, 4, 5, 6, 7, 8, 9, 10, 11, 12, 13, 14, 15, 16, 17, 18, 19, 20, 21, 22, 23, 24, 25, 27] rfl
  have hDc := hD.sub (ws' := [(sh, .inr (13, [.ref rg, .ref dk, .ref hd, .ref lg, .ref pl, .ref pr, .int 0, .int 0, .int 0, .int 0, .int 0, .int 0, .int 0, .int 0, .int 0, .int 0, .int 0])), (rg, .inr (11, [.ref mf, .ref mm, .ref mz, .ref ma, .ref sa, .int 0])), (mf, .inr (8, [.int 0, .int 0, .int 0])), (mm, .inr (8, [.int 0, .int 0, .int 0])), (mz, .inr (8, [.int 0, .int 0, .int 0])), (ma, .inl (cM, 3, .inr (.inr (.inr (.inr (va_up (va_up (va_up (fun _ => none) 0 (some mf)) 1 (some mm)) 2 (some mz))))))), (sa, .inl (cS, 9, .inr (.inr (.inr (.inr (va_up (va_up (va_up (va_up (va_up (va_up (va_up (va_up (va_up (fun _ => none) 0 (some s0)) 1 (some s1)) 2 (some s2)) 3 (some s3)) 4 (some s4)) 5 (some s5)) 6 (some s6)) 7 (some s7)) 8 (some s8))))))), (s0, .inr (12, [.int 8, .int 6, .ref mf, .int 1, .int 0, .int 900, .int 0, .int 0])), (s1, .inr (12, [.int 7, .int 5, .ref mf, .int 1, .int 0, .int 900, .int 0, .int 0])), (s2, .inr (12, [.int 3, .int 3, .ref mf, .int 1, .int 0, .int 900, .int 0, .int 0])), (s3, .inr (12, [.int 10, .int 8, .ref mm, .int 1, .int 0, .int 900, .int 0, .int 0])), (s4, .inr (12, [.int 9, .int 6, .ref mm, .int 1, .int 0, .int 900, .int 0, .int 0])), (s5, .inr (12, [.int 4, .int 3, .ref mm, .int 1, .int 0, .int 900, .int 0, .int 0])), (s6, .inr (12, [.int 5, .int 4, .ref mz, .int 1, .int 0, .int 900, .int 0, .int 0])), (s7, .inr (12, [.int 4, .int 3, .ref mf, .int 0, .int 0, .int 900, .int 0, .int 0])), (s8, .inr (12, [.int 6, .int 4, .ref mz, .int 0, .int 0, .int 900, .int 0, .int 0])), (dk, .inr (4, [.ref w0, .ref w1, .ref ol, .int 0, .int 0, .int 0, .int 0])), (w0, .inr (14, [.int 0, .int 0])), (w1, .inr (14, [.int 0, .int 0])), (ol, .inr (3, [.int 0, .ref (z 0), .int 0])), (hd, .inr (6, [.ref hu, .ref hy, .int 0])), (hu, .inl (cU, 20, .inl (fun _ => 0))), (hy, .inl (cW, 20, .inl (fun _ => 0))), (lg, .inr (7, [.ref ll, .ref lm, .int 0, .int 0])), (pl, .inr (10, [.long 0, .long 0])), (pr, .inr (10, [.long 0, .long 0])), (q3, .inr (5, [.int 8, .int (nI N), .int 0, .int 0]))]) [0, 1, 2, 3, 4, 5, 6, 7, 8, 9, 10, 11, 12, 13, 14, 15, 16, 17, 18, 19, 20, 21, 22, 23, 24, 25, 27] (by decide) rfl
  have hKc := hK.sub (tys' := [(cM, .object RX4), (cS, .object RX8), (cU, .int), (cW, .boolean)]) [0, 1, 2, 3] rfl
  have hFc := va_free (wc := [(sh, .inr (13, [.ref rg, .ref dk, .ref hd, .ref lg, .ref pl, .ref pr, .int 0, .int 0, .int 0, .int 0, .int 0, .int 0, .int 0, .int 0, .int 0, .int 0, .int 0])), (rg, .inr (11, [.ref mf, .ref mm, .ref mz, .ref ma, .ref sa, .int 0])), (mf, .inr (8, [.int 0, .int 0, .int 0])), (mm, .inr (8, [.int 0, .int 0, .int 0])), (mz, .inr (8, [.int 0, .int 0, .int 0])), (ma, .inl (cM, 3, .inr (.inr (.inr (.inr (va_up (va_up (va_up (fun _ => none) 0 (some mf)) 1 (some mm)) 2 (some mz))))))), (sa, .inl (cS, 9, .inr (.inr (.inr (.inr (va_up (va_up (va_up (va_up (va_up (va_up (va_up (va_up (va_up (fun _ => none) 0 (some s0)) 1 (some s1)) 2 (some s2)) 3 (some s3)) 4 (some s4)) 5 (some s5)) 6 (some s6)) 7 (some s7)) 8 (some s8))))))), (s0, .inr (12, [.int 8, .int 6, .ref mf, .int 1, .int 0, .int 900, .int 0, .int 0])), (s1, .inr (12, [.int 7, .int 5, .ref mf, .int 1, .int 0, .int 900, .int 0, .int 0])), (s2, .inr (12, [.int 3, .int 3, .ref mf, .int 1, .int 0, .int 900, .int 0, .int 0])), (s3, .inr (12, [.int 10, .int 8, .ref mm, .int 1, .int 0, .int 900, .int 0, .int 0])), (s4, .inr (12, [.int 9, .int 6, .ref mm, .int 1, .int 0, .int 900, .int 0, .int 0])), (s5, .inr (12, [.int 4, .int 3, .ref mm, .int 1, .int 0, .int 900, .int 0, .int 0])), (s6, .inr (12, [.int 5, .int 4, .ref mz, .int 1, .int 0, .int 900, .int 0, .int 0])), (s7, .inr (12, [.int 4, .int 3, .ref mf, .int 0, .int 0, .int 900, .int 0, .int 0])), (s8, .inr (12, [.int 6, .int 4, .ref mz, .int 0, .int 0, .int 900, .int 0, .int 0])), (dk, .inr (4, [.ref w0, .ref w1, .ref ol, .int 0, .int 0, .int 0, .int 0])), (w0, .inr (14, [.int 0, .int 0])), (w1, .inr (14, [.int 0, .int 0])), (ol, .inr (3, [.int 0, .ref (z 0), .int 0])), (hd, .inr (6, [.ref hu, .ref hy, .int 0])), (hu, .inl (cU, 20, .inl (fun _ => 0))), (hy, .inl (cW, 20, .inl (fun _ => 0))), (lg, .inr (7, [.ref ll, .ref lm, .int 0, .int 0])), (pl, .inr (10, [.long 0, .long 0])), (pr, .inr (10, [.long 0, .long 0])), (q3, .inr (5, [.int 8, .int (nI N), .int 0, .int 0]))]) hD hS hA [0, 1, 2, 3, 4, 5, 6, 7, 8, 9, 10, 11, 12, 13, 14, 15, 16, 17, 18, 19, 20, 21, 22, 23, 24, 25, 27] rfl
  refine va_callv (va_runV (As := [.ref q3]) (rest := []) ⟨hx, hb, hml, hown, hts⟩ (k_obey_sail l dC dI z zK zV sh rg mf mm mz ma sa s0 s1 s2 s3 s4 s5 s6 s7 s8 dk w0 w1 ol hd hu hy lg ll lm pl pr cM cS cU cW q3 N H.size (hN)) (cwV 1 hts gX11_sail_X9_obey rfl rfl rfl (by decide +kernel) ⟨Nat.le_of_ble_eq_true rfl, Nat.le_of_ble_eq_true rfl⟩) ⟨kP_blind, va_recv hKc hPc (ci := 13) (q0 := 0) rfl rfl, kP_go hPc hKc hDc hFc hM hS⟩ rfl rfl hl.1 rfl (lv_room (Nat.le_of_ble_eq_true rfl)) dX11_sail_34 ⟨Nat.le_of_ble_eq_true rfl, Nat.le_of_ble_eq_true rfl⟩) hS (fun q _ h => hFc q h) hFc (fun u t H1 locs ht hvm hw hB hz1 hk1 hS => ?_)
  obtain ⟨u6, hB⟩ := hB
  obtain ⟨hP, hD, hK⟩ := kJ (wr := [(x, .inr (15, [.ref sh, .ref tl, .ref tw, .int 0])), (tl, .inr (3, [.int (0 + 1), .ref q4, .int 1])), (q4, .inl (cA5, 10, .inr (.inr (.inr (.inr (va_up (fun _ => none) 0 (some q3)))))))]) (w1 := [(sh, .inr (13, [.ref rg, .ref dk, .ref hd, .ref lg, .ref pl, .ref pr, .int 0, .int 0, .int 0, .int 0, .int 0, .int (nI N), .int 0, .int 0, .int 0, .int u6, .int 0]))]) (t1 := []) hP hD hK [0, 1, 2, 3, 4, 5, 6, 7, 8, 9, 10, 11, 12, 13, 14, 15, 16, 17, 18, 19, 20, 21, 22, 23, 24, 25, 27] [26, 28, 29] rfl rfl (by decide) (by decide) hk1 hFc ht hvm hB
  generalize H1 = H at hP hS ⊢
  have hP : va_P (dC, dI) vwCl [(x, .inr (15, [.ref sh, .ref tl, .ref tw, .int 0])), (tl, .inr (3, [.int (0 + 1), .ref q4, .int 1])), (q4, .inl (cA5, 10, .inr (.inr (.inr (.inr (va_up (fun _ => none) 0 (some q3))))))), (sh, .inr (13, [.ref rg, .ref dk, .ref hd, .ref lg, .ref pl, .ref pr, .int 0, .int 0, .int 0, .int 0, .int 0, .int (nI N), .int 0, .int 0, .int 0, .int u6, .int 0]))] H := hP
  have hD : va_D A [(x, .inr (15, [.ref sh, .ref tl, .ref tw, .int 0])), (tl, .inr (3, [.int (0 + 1), .ref q4, .int 1])), (q4, .inl (cA5, 10, .inr (.inr (.inr (.inr (va_up (fun _ => none) 0 (some q3))))))), (sh, .inr (13, [.ref rg, .ref dk, .ref hd, .ref lg, .ref pl, .ref pr, .int 0, .int 0, .int 0, .int 0, .int 0, .int (nI N), .int 0, .int 0, .int 0, .int u6, .int 0]))] := hD
  have hK : va_K (dC, dI) vwCl [(cM, .object RX4), (cS, .object RX8), (cU, .int), (cW, .boolean), (cA5, .object "java/lang/Object")] s := hK
  clear hw
  refine lv_aload_n hx hb dX11_sail_37 rfl (lv_at hl 0 rfl) ?_
  refine va_get (D := (dC, dI)) (ci := 15) (v := .ref sh) (C := RX11) (T := TX11) (N := 4) hx hb hts hiX11 hown hK hP 0 rfl rfl 0 (by decide) (hts (.fieldLink RX11 10 "SquareRig" "ship" "LSquareRig$Ship;") (by decide +kernel)) (fun _ h9 => h9) rfl dX11_sail_38 ?_
  refine va_getN (D := (dC, dI)) (ci := 13) (v := .int (nI N)) (C := RX9) (T := TX9) (N := 17) hx hb hts hiX9 hown hK hP 3 rfl rfl 11 (by decide) (va_Nw.use rfl (hM.1 _ (List.mem_of_getElem? (i := 46) rfl))) (fun _ h9 => h9) rfl dX11_sail_41 ?_
  refine W.widen (k := 2) (n := 14) (Nat.le_of_ble_eq_true rfl) (Nat.le_of_ble_eq_true rfl) ?_
  exact W.iret (v := (nI N)) hx hb hr (fun t ht hW => ⟨⟨(nI N), (), rfl, rfl, kB_end (w9 := []) (t9 := []) hP hK hD [] [] rfl (by decide) rfl rfl t ht hW⟩, hS.F ht⟩) hS.2.2 dX11_sail_44
abbrev wd_k_x_sail_bad (z : Nat → Nat) (sh : Nat) (rg : Nat) (dk : Nat) (hd : Nat) (lg : Nat) (pl : Nat) (pr : Nat) (x : Nat) (tl : Nat) (tw : Nat) (p0 : Int32) : va_W := [(x, .inr (15, [.ref sh, .ref tl, .ref tw, .int 0])), (sh, .inr (13, [.ref rg, .ref dk, .ref hd, .ref lg, .ref pl, .ref pr, .int 0, .int 0, .int 0, .int 0, .int 0, .int 0, .int 0, .int 0, .int 0, .int 0, .int 0]))]
set_option maxHeartbeats 4000000 in
set_option maxRecDepth 100000 in
theorem k_x_sail_bad (l : Launch) (dC : Nat → ClassId) (dI : Nat → Nat → Nat) (z zK zV : Nat → Nat) (sh : Nat) (rg : Nat) (dk : Nat) (hd : Nat) (lg : Nat) (pl : Nat) (pr : Nat) (x : Nat) (tl : Nat) (tw : Nat) (p0 : Int32) (sz : Nat) (hst : l.stackTraces = false) (hb0 : ¬ ((1 : Int32) ≤ p0 ∧ p0 ≤ 1500)) : vx_Met l yX11_sail wsX11_sail ({ frames := 6, cells := 1, slots := 6, locals := 82 }) (kP dC dI z zK zV [.ref x, .int p0] sz (wd_k_x_sail_bad z sh rg dk hd lg pl pr x tl tw p0) []) (va_Qi (fun (r : Int32) (_ : Unit) => False) (fun _ t => kB (dC, dI) (va_A (wd_k_x_sail_bad z sh rg dk hd lg pl pr x tl tw p0) sz) [] [] t) (va_A (wd_k_x_sail_bad z sh rg dk hd lg pl pr x tl tw p0) sz)) (vx_X (fun _ : Unit => True) (fun E _ _ => "java/lang/IllegalArgumentException" = E) (va_A (wd_k_x_sail_bad z sh rg dk hd lg pl pr x tl tw p0) sz)) 1 6 (va_A (wd_k_x_sail_bad z sh rg dk hd lg pl pr x tl tw p0) sz) := by
  refine vx_ofW (cc := cX11_sail) (maxL := 2) (ret := (some .int)) (by decide) rfl ?_
  intro p e s m args below meth c s₁ B hml hnt hv
  obtain ⟨rfl, hsz, hP, hK, hD0, hM⟩ := hv
  have hx := B.exec
  have hb := B.bytes
  have hr := B.returns
  have hts := atoms_spec (ws := wsX11_sail) B.pre
  have hown : s.vm.findClass RX11 = some m.cls := findClass_of_methodNamed B.named
  have hlocks := B.notSynchronized
  subst hsz
  have hD := hD0.self (sz := s.heap.size)
  generalize hAe : va_A (wd_k_x_sail_bad z sh rg dk hd lg pl pr x tl tw p0) s.heap.size = A at hD hM ⊢
  have hA : ∀ q : Nat, s.heap.size ≤ q → A q := fun q h => by rw [← hAe]; exact Or.inr h
  have hS : va_S A s.heap s.heap [] := va_S.rf
  have hP : va_P (dC, dI) vwCl [(x, .inr (15, [.ref sh, .ref tl, .ref tw, .int 0])), (sh, .inr (13, [.ref rg, .ref dk, .ref hd, .ref lg, .ref pl, .ref pr, .int 0, .int 0, .int 0, .int 0, .int 0, .int 0, .int 0, .int 0, .int 0, .int 0, .int 0]))] s.heap := hP
  have hD : va_D A [(x, .inr (15, [.ref sh, .ref tl, .ref tw, .int 0])), (sh, .inr (13, [.ref rg, .ref dk, .ref hd, .ref lg, .ref pl, .ref pr, .int 0, .int 0, .int 0, .int 0, .int 0, .int 0, .int 0, .int 0, .int 0, .int 0, .int 0]))] := hD
  have hl := lv_entry ([.ref x, .int p0]) (n := 2) (Nat.le_of_ble_eq_true rfl)
  rw [lg_entry_eq]
  generalize (lg_sl ([.ref x, .int p0]) ++ List.replicate (2 - (lg_sl ([.ref x, .int p0])).length) Slot.unset).toArray = ls at hl ⊢
  have hl : lv_has ls 2 [(0, .ref x), (1, .int p0)] := hl
  refine lv_iload_n hx hb dX11_sail_0 rfl (lv_at hl 1 rfl) ?_
  refine lv_iconst (v := 1) hx hb dX11_sail_1 (by decide) ?_
  refine lv_sipush (v := 1500) hx hb dX11_sail_2 (by decide) ?_
  have hPc := hP.sub (ws' := []) [] rfl
  have hDc := hD.sub (ws' := []) [] (by decide) rfl
  have hKc := hK.sub (tys' := []) [] rfl
  have hFc := va_free (wc := []) hD hS hA [] rfl
  refine va_calli (va_runS (As := [.int p0, .int 1, .int 1500]) (rest := []) ⟨hx, hb, hml, hown, hts⟩ (k_isIn l dC dI z zK zV p0 1 1500 s.heap.size) (va_cwS 3 hts gX11_sail_X11_isIn rfl rfl rfl (by decide +kernel) ⟨Nat.le_of_ble_eq_true rfl, Nat.le_of_ble_eq_true rfl⟩) ⟨kP_blind, kP_go hPc hKc hDc hFc hM hS⟩ rfl rfl hl.1 rfl (lv_room (Nat.le_of_ble_eq_true rfl)) dX11_sail_5 ⟨Nat.le_of_ble_eq_true rfl, Nat.le_of_ble_eq_true rfl⟩) hS (fun q _ h => hFc q h) hFc (fun r1 u t H1 locs ht hvm hw hB hz1 hk1 hS => ?_)
  obtain ⟨hP, hD, hK⟩ := kJ (wr := [(x, .inr (15, [.ref sh, .ref tl, .ref tw, .int 0])), (sh, .inr (13, [.ref rg, .ref dk, .ref hd, .ref lg, .ref pl, .ref pr, .int 0, .int 0, .int 0, .int 0, .int 0, .int 0, .int 0, .int 0, .int 0, .int 0, .int 0]))]) (w1 := []) (t1 := []) hP hD hK [] [0, 1] rfl rfl (by decide) (by decide) hk1 hFc ht hvm hB
  generalize H1 = H at hP hS ⊢
  have hP : va_P (dC, dI) vwCl [(x, .inr (15, [.ref sh, .ref tl, .ref tw, .int 0])), (sh, .inr (13, [.ref rg, .ref dk, .ref hd, .ref lg, .ref pl, .ref pr, .int 0, .int 0, .int 0, .int 0, .int 0, .int 0, .int 0, .int 0, .int 0, .int 0, .int 0]))] H := hP
  have hD : va_D A [(x, .inr (15, [.ref sh, .ref tl, .ref tw, .int 0])), (sh, .inr (13, [.ref rg, .ref dk, .ref hd, .ref lg, .ref pl, .ref pr, .int 0, .int 0, .int 0, .int 0, .int 0, .int 0, .int 0, .int 0, .int 0, .int 0, .int 0]))] := hD
  have hK : va_K (dC, dI) vwCl [] s := hK
  obtain rfl : (if 1 ≤ p0 ∧ p0 ≤ 1500 then (1 : Int32) else 0) = r1 := hw
  refine lv_if_ne (tgt := 21) hx hb dX11_sail_8 (by decide) (fun c_ => absurd (if_neg hb0) c_) (fun _ => ?_)
  obtain ⟨sa, hsa⟩ := hM.2.1 _ (List.mem_of_getElem? (i := 12) rfl)
  exact vx_throwS (own := RX11) (cls := "java/lang/IllegalArgumentException") (text := "no such number of minutes") (names := ["java/lang/RuntimeException", "java/lang/Exception"]) (ik := 34) (is := 160) (ic := 38) (mc := 1) (ms := 6) (sa := sa) hx hb hst hown (by decide) (by decide) (hts (.classLink RX11 34 "java/lang/IllegalArgumentException") (by decide +kernel)) (hts (.initialized "java/lang/IllegalArgumentException") (by decide +kernel)) hsa (vx_hat (fun w h9 => hts w (List.mem_cons_of_mem _ (List.mem_append_left _ (List.mem_append_left _ (List.mem_append_right _ h9))))) (by decide +kernel) (fun w hw => va_Nw.use (List.all_eq_true.mp am_Bt w hw) (hM.2.2.2.2.2.2.2.2.2.1 w hw))) (by decide +kernel) hM.2.2.2.2.2.2.2.1.1 hM.2.2.2.2.2.2.2.1.2 hS (hl.1.trans hml.symm) dX11_sail_11 dX11_sail_14 dX11_sail_15 dX11_sail_17 dX11_sail_20 (fun x hx => (hnt x hx).elim) (Nat.le_of_ble_eq_true rfl) (Nat.le_of_ble_eq_true rfl) (Nat.le_of_ble_eq_true rfl) (Nat.le_of_ble_eq_true rfl) hlocks (fun t hvm hz hq => ⟨(), trivial, rfl, Nat.le_trans hS.1 hz, fun q h1 h2 => (hq q (Nat.lt_of_lt_of_le h1 hS.1)).trans (hS.2.1 q h1 h2)⟩) hS.2.2 (Nat.le_of_ble_eq_true rfl) (Nat.le_of_ble_eq_true rfl)
abbrev wd_k_canBeGiven (z : Nat → Nat) (p0 : Int32) (p1 : Int32) (p2 : Int32) : va_W := []
set_option maxHeartbeats 4000000 in
set_option maxRecDepth 100000 in
theorem k_canBeGiven (l : Launch) (dC : Nat → ClassId) (dI : Nat → Nat → Nat) (z zK zV : Nat → Nat) (p0 : Int32) (p1 : Int32) (p2 : Int32) (sz : Nat)  : Met l yX11_canBeGiven wsX11_canBeGiven ({ frames := 1, cells := 0, slots := 0, locals := 22 }) (kP dC dI z zK zV [.int p0, .int p1, .int p2] sz (wd_k_canBeGiven z p0 p1 p2) []) (va_Qi (fun (r : Int32) (_ : Unit) => (r = 1 ∧ kO p0 p1 p2) ∨ (r = 0 ∧ ¬ kO p0 p1 p2)) (fun _ t => kB (dC, dI) (va_A (wd_k_canBeGiven z p0 p1 p2) sz) [] [] t) (va_A (wd_k_canBeGiven z p0 p1 p2) sz)) 0 0 (va_A (wd_k_canBeGiven z p0 p1 p2) sz) := by
  refine Met.ofW (cc := cX11_canBeGiven) (maxL := 3) (ret := (some .boolean)) (by decide) rfl ?_
  intro p e s m args below meth c s₁ B hml hv
  obtain ⟨rfl, hsz, hP, hK, hD0, hM⟩ := hv
  have hx := B.exec
  have hb := B.bytes
  have hr := B.returns
  have hts := atoms_spec (ws := wsX11_canBeGiven) B.pre
  have hown : s.vm.findClass RX11 = some m.cls := findClass_of_methodNamed B.named
  have hlocks := B.notSynchronized
  subst hsz
  have hD := hD0.self (sz := s.heap.size)
  generalize hAe : va_A (wd_k_canBeGiven z p0 p1 p2) s.heap.size = A at hD hM ⊢
  have hA : ∀ q : Nat, s.heap.size ≤ q → A q := fun q h => by rw [← hAe]; exact Or.inr h
  have hS : va_S A s.heap s.heap [] := va_S.rf
  have hP : va_P (dC, dI) vwCl [] s.heap := hP
  have hD : va_D A [] := hD
  have hl := lv_entry ([.int p0, .int p1, .int p2]) (n := 3) (Nat.le_of_ble_eq_true rfl)
  rw [lg_entry_eq]
  generalize (lg_sl ([.int p0, .int p1, .int p2]) ++ List.replicate (3 - (lg_sl ([.int p0, .int p1, .int p2])).length) Slot.unset).toArray = ls at hl ⊢
  have hl : lv_has ls 3 [(0, .int p0), (1, .int p1), (2, .int p2)] := hl
  refine lv_iload_n hx hb dX11_canBeGiven_0 rfl (lv_at hl 0 rfl) ?_
  refine lv_bipush (v := 115) hx hb dX11_canBeGiven_1 (by decide) ?_
  refine lv_icmp_ne (tgt := 31) hx hb dX11_canBeGiven_3 (by decide) (fun c1 => ?_) (fun c1 => ?_)
  · skip
    refine lv_iload_n hx hb dX11_canBeGiven_31 rfl (lv_at hl 0 rfl) ?_
    refine lv_bipush (v := 109) hx hb dX11_canBeGiven_32 (by decide) ?_
    refine lv_icmp_ne (tgt := 57) hx hb dX11_canBeGiven_34 (by decide) (fun c2 => ?_) (fun c2 => ?_)
    · skip
      refine lv_iload_n hx hb dX11_canBeGiven_57 rfl (lv_at hl 0 rfl) ?_
      refine lv_bipush (v := 98) hx hb dX11_canBeGiven_58 (by decide) ?_
      refine lv_icmp_ne (tgt := 88) hx hb dX11_canBeGiven_60 (by decide) (fun c3 => ?_) (fun c3 => ?_)
      · skip
        refine lv_iload_n hx hb dX11_canBeGiven_88 rfl (lv_at hl 0 rfl) ?_
        refine lv_bipush (v := 114) hx hb dX11_canBeGiven_89 (by decide) ?_
        refine lv_icmp_ne (tgt := 111) hx hb dX11_canBeGiven_91 (by decide) (fun c4 => ?_) (fun c4 => ?_)
        · skip
          refine lv_iconst (v := 0) hx hb dX11_canBeGiven_111 (by decide) ?_
          exact W.zret (v := 0) hx hb hr (by decide +kernel) (fun t ht hW => ⟨⟨0, (), rfl, (Or.inr ⟨rfl, by rintro (⟨a1, a2, a3⟩ | ⟨a1, a2, a3⟩ | ⟨a1, a2, a3⟩ | ⟨a1, a2, a3⟩) <;> first | exact absurd a1 c1 | exact absurd a2 (k_iff c1) | exact absurd a3 (k_iff c1) | exact absurd a3 c1 | exact absurd (Eq.trans (Eq.symm c1) a1) (by decide) | exact absurd a1 c2 | exact absurd a2 (k_iff c2) | exact absurd a3 (k_iff c2) | exact absurd a3 c2 | exact absurd (Eq.trans (Eq.symm c2) a1) (by decide) | exact absurd a1 c3 | exact absurd a2 (k_iff c3) | exact absurd a3 (k_iff c3) | exact absurd a3 c3 | exact absurd (Eq.trans (Eq.symm c3) a1) (by decide) | exact absurd a1 c4 | exact absurd a2 (k_iff c4) | exact absurd a3 (k_iff c4) | exact absurd a3 c4 | exact absurd (Eq.trans (Eq.symm c4) a1) (by decide)⟩), kB_end (w9 := []) (t9 := []) hP hK hD [] [] rfl (by decide) rfl rfl t ht hW⟩, hS.F ht⟩) hS.2.2 dX11_canBeGiven_112
        · skip
          refine lv_iload_n hx hb dX11_canBeGiven_94 rfl (lv_at hl 1 rfl) ?_
          refine lv_iconst (v := 0) hx hb dX11_canBeGiven_95 (by decide) ?_
          refine lv_iconst (v := 2) hx hb dX11_canBeGiven_96 (by decide) ?_
          have hPc := hP.sub (ws' := []) [] rfl
          have hDc := hD.sub (ws' := []) [] (by decide) rfl
          have hKc := hK.sub (tys' := []) [] rfl
          have hFc := va_free (wc := []) hD hS hA [] rfl
          refine va_calli (va_runS (As := [.int p1, .int 0, .int 2]) (rest := []) ⟨hx, hb, hml, hown, hts⟩ (k_isIn l dC dI z zK zV p1 0 2 s.heap.size) (va_cwS 3 hts gX11_canBeGiven_X11_isIn rfl rfl rfl (by decide +kernel) ⟨Nat.le_of_ble_eq_true rfl, Nat.le_of_ble_eq_true rfl⟩) ⟨kP_blind, kP_go hPc hKc hDc hFc hM hS⟩ rfl rfl hl.1 rfl (lv_room (Nat.le_of_ble_eq_true rfl)) dX11_canBeGiven_97 ⟨Nat.le_of_ble_eq_true rfl, Nat.le_of_ble_eq_true rfl⟩) hS (fun q _ h => hFc q h) hFc (fun r5 u t H1 locs ht hvm hw hB hz1 hk1 hS => ?_)
          obtain ⟨hP, hD, hK⟩ := kJ (wr := []) (w1 := []) (t1 := []) hP hD hK [] [] rfl rfl (by decide) (by decide) hk1 hFc ht hvm hB
          generalize H1 = H at hP hS ⊢
          have hP : va_P (dC, dI) vwCl [] H := hP
          have hD : va_D A [] := hD
          have hK : va_K (dC, dI) vwCl [] s := hK
          obtain rfl : (if 0 ≤ p1 ∧ p1 ≤ 2 then (1 : Int32) else 0) = r5 := hw
          refine lv_if_eq (tgt := 111) hx hb dX11_canBeGiven_100 (by decide) (fun c6 => ?_) (fun c6 => ?_)
          · skip
            refine lv_iconst (v := 0) hx hb dX11_canBeGiven_111 (by decide) ?_
            exact W.zret (v := 0) hx hb hr (by decide +kernel) (fun t ht hW => ⟨⟨0, (), rfl, (Or.inr ⟨rfl, by rintro (⟨a1, a2, a3⟩ | ⟨a1, a2, a3⟩ | ⟨a1, a2, a3⟩ | ⟨a1, a2, a3⟩) <;> first | exact absurd a1 c1 | exact absurd a2 (k_iff c1) | exact absurd a3 (k_iff c1) | exact absurd a3 c1 | exact absurd (Eq.trans (Eq.symm c1) a1) (by decide) | exact absurd a1 c2 | exact absurd a2 (k_iff c2) | exact absurd a3 (k_iff c2) | exact absurd a3 c2 | exact absurd (Eq.trans (Eq.symm c2) a1) (by decide) | exact absurd a1 c3 | exact absurd a2 (k_iff c3) | exact absurd a3 (k_iff c3) | exact absurd a3 c3 | exact absurd (Eq.trans (Eq.symm c3) a1) (by decide) | exact absurd a1 c4 | exact absurd a2 (k_iff c4) | exact absurd a3 (k_iff c4) | exact absurd a3 c4 | exact absurd (Eq.trans (Eq.symm c4) a1) (by decide) | exact absurd a1 c6 | exact absurd a2 (k_iff c6) | exact absurd a3 (k_iff c6) | exact absurd a3 c6 | exact absurd (Eq.trans (Eq.symm c6) a1) (by decide)⟩), kB_end (w9 := []) (t9 := []) hP hK hD [] [] rfl (by decide) rfl rfl t ht hW⟩, hS.F ht⟩) hS.2.2 dX11_canBeGiven_112
          · skip
            refine lv_iload_n hx hb dX11_canBeGiven_103 rfl (lv_at hl 2 rfl) ?_
            refine lv_if_ne (tgt := 111) hx hb dX11_canBeGiven_104 (by decide) (fun c7 => ?_) (fun c7 => ?_)
            · skip
              refine lv_iconst (v := 0) hx hb dX11_canBeGiven_111 (by decide) ?_
              exact W.zret (v := 0) hx hb hr (by decide +kernel) (fun t ht hW => ⟨⟨0, (), rfl, (Or.inr ⟨rfl, by rintro (⟨a1, a2, a3⟩ | ⟨a1, a2, a3⟩ | ⟨a1, a2, a3⟩ | ⟨a1, a2, a3⟩) <;> first | exact absurd a1 c1 | exact absurd a2 (k_iff c1) | exact absurd a3 (k_iff c1) | exact absurd a3 c1 | exact absurd (Eq.trans (Eq.symm c1) a1) (by decide) | exact absurd a1 c2 | exact absurd a2 (k_iff c2) | exact absurd a3 (k_iff c2) | exact absurd a3 c2 | exact absurd (Eq.trans (Eq.symm c2) a1) (by decide) | exact absurd a1 c3 | exact absurd a2 (k_iff c3) | exact absurd a3 (k_iff c3) | exact absurd a3 c3 | exact absurd (Eq.trans (Eq.symm c3) a1) (by decide) | exact absurd a1 c4 | exact absurd a2 (k_iff c4) | exact absurd a3 (k_iff c4) | exact absurd a3 c4 | exact absurd (Eq.trans (Eq.symm c4) a1) (by decide) | exact absurd a1 c6 | exact absurd a2 (k_iff c6) | exact absurd a3 (k_iff c6) | exact absurd a3 c6 | exact absurd (Eq.trans (Eq.symm c6) a1) (by decide) | exact absurd a1 c7 | exact absurd a2 (k_iff c7) | exact absurd a3 (k_iff c7) | exact absurd a3 c7 | exact absurd (Eq.trans (Eq.symm c7) a1) (by decide)⟩), kB_end (w9 := []) (t9 := []) hP hK hD [] [] rfl (by decide) rfl rfl t ht hW⟩, hS.F ht⟩) hS.2.2 dX11_canBeGiven_112
            · skip
              refine lv_iconst (v := 1) hx hb dX11_canBeGiven_107 (by decide) ?_
              refine lv_goto (tgt := 112) hx hb dX11_canBeGiven_108 (by decide) ?_
              exact W.zret (v := 1) hx hb hr (by decide +kernel) (fun t ht hW => ⟨⟨1, (), rfl, (Or.inl ⟨rfl, by simp_all [kO, k_ifx]⟩), kB_end (w9 := []) (t9 := []) hP hK hD [] [] rfl (by decide) rfl rfl t ht hW⟩, hS.F ht⟩) hS.2.2 dX11_canBeGiven_112
      · skip
        refine lv_iload_n hx hb dX11_canBeGiven_63 rfl (lv_at hl 1 rfl) ?_
        refine lv_iconst (v := 0) hx hb dX11_canBeGiven_64 (by decide) ?_
        refine lv_iconst (v := 2) hx hb dX11_canBeGiven_65 (by decide) ?_
        have hPc := hP.sub (ws' := []) [] rfl
        have hDc := hD.sub (ws' := []) [] (by decide) rfl
        have hKc := hK.sub (tys' := []) [] rfl
        have hFc := va_free (wc := []) hD hS hA [] rfl
        refine va_calli (va_runS (As := [.int p1, .int 0, .int 2]) (rest := []) ⟨hx, hb, hml, hown, hts⟩ (k_isIn l dC dI z zK zV p1 0 2 s.heap.size) (va_cwS 3 hts gX11_canBeGiven_X11_isIn rfl rfl rfl (by decide +kernel) ⟨Nat.le_of_ble_eq_true rfl, Nat.le_of_ble_eq_true rfl⟩) ⟨kP_blind, kP_go hPc hKc hDc hFc hM hS⟩ rfl rfl hl.1 rfl (lv_room (Nat.le_of_ble_eq_true rfl)) dX11_canBeGiven_66 ⟨Nat.le_of_ble_eq_true rfl, Nat.le_of_ble_eq_true rfl⟩) hS (fun q _ h => hFc q h) hFc (fun r8 u t H1 locs ht hvm hw hB hz1 hk1 hS => ?_)
        obtain ⟨hP, hD, hK⟩ := kJ (wr := []) (w1 := []) (t1 := []) hP hD hK [] [] rfl rfl (by decide) (by decide) hk1 hFc ht hvm hB
        generalize H1 = H at hP hS ⊢
        have hP : va_P (dC, dI) vwCl [] H := hP
        have hD : va_D A [] := hD
        have hK : va_K (dC, dI) vwCl [] s := hK
        obtain rfl : (if 0 ≤ p1 ∧ p1 ≤ 2 then (1 : Int32) else 0) = r8 := hw
        refine lv_if_eq (tgt := 86) hx hb dX11_canBeGiven_69 (by decide) (fun c9 => ?_) (fun c9 => ?_)
        · skip
          refine lv_iconst (v := 0) hx hb dX11_canBeGiven_86 (by decide) ?_
          exact W.zret (v := 0) hx hb hr (by decide +kernel) (fun t ht hW => ⟨⟨0, (), rfl, (Or.inr ⟨rfl, by rintro (⟨a1, a2, a3⟩ | ⟨a1, a2, a3⟩ | ⟨a1, a2, a3⟩ | ⟨a1, a2, a3⟩) <;> first | exact absurd a1 c1 | exact absurd a2 (k_iff c1) | exact absurd a3 (k_iff c1) | exact absurd a3 c1 | exact absurd (Eq.trans (Eq.symm c1) a1) (by decide) | exact absurd a1 c2 | exact absurd a2 (k_iff c2) | exact absurd a3 (k_iff c2) | exact absurd a3 c2 | exact absurd (Eq.trans (Eq.symm c2) a1) (by decide) | exact absurd a1 c3 | exact absurd a2 (k_iff c3) | exact absurd a3 (k_iff c3) | exact absurd a3 c3 | exact absurd (Eq.trans (Eq.symm c3) a1) (by decide) | exact absurd a1 c9 | exact absurd a2 (k_iff c9) | exact absurd a3 (k_iff c9) | exact absurd a3 c9 | exact absurd (Eq.trans (Eq.symm c9) a1) (by decide)⟩), kB_end (w9 := []) (t9 := []) hP hK hD [] [] rfl (by decide) rfl rfl t ht hW⟩, hS.F ht⟩) hS.2.2 dX11_canBeGiven_87
        · skip
          refine lv_iload_n hx hb dX11_canBeGiven_72 rfl (lv_at hl 2 rfl) ?_
          refine lv_bipush (v := (-4)) hx hb dX11_canBeGiven_73 (by decide) ?_
          refine lv_iconst (v := 4) hx hb dX11_canBeGiven_75 (by decide) ?_
          have hPc := hP.sub (ws' := []) [] rfl
          have hDc := hD.sub (ws' := []) [] (by decide) rfl
          have hKc := hK.sub (tys' := []) [] rfl
          have hFc := va_free (wc := []) hD hS hA [] rfl
          refine va_calli (va_runS (As := [.int p2, .int (-4), .int 4]) (rest := []) ⟨hx, hb, hml, hown, hts⟩ (k_isIn l dC dI z zK zV p2 (-4) 4 H.size) (va_cwS 3 hts gX11_canBeGiven_X11_isIn rfl rfl rfl (by decide +kernel) ⟨Nat.le_of_ble_eq_true rfl, Nat.le_of_ble_eq_true rfl⟩) ⟨kP_blind, kP_go hPc hKc hDc hFc hM hS⟩ rfl rfl hl.1 rfl (lv_room (Nat.le_of_ble_eq_true rfl)) dX11_canBeGiven_76 ⟨Nat.le_of_ble_eq_true rfl, Nat.le_of_ble_eq_true rfl⟩) hS (fun q _ h => hFc q h) hFc (fun r10 u t H1 locs ht hvm hw hB hz1 hk1 hS => ?_)
          obtain ⟨hP, hD, hK⟩ := kJ (wr := []) (w1 := []) (t1 := []) hP hD hK [] [] rfl rfl (by decide) (by decide) hk1 hFc ht hvm hB
          generalize H1 = H at hP hS ⊢
          have hP : va_P (dC, dI) vwCl [] H := hP
          have hD : va_D A [] := hD
          have hK : va_K (dC, dI) vwCl [] s := hK
          obtain rfl : (if (-4) ≤ p2 ∧ p2 ≤ 4 then (1 : Int32) else 0) = r10 := hw
          refine lv_if_eq (tgt := 86) hx hb dX11_canBeGiven_79 (by decide) (fun c11 => ?_) (fun c11 => ?_)
          · skip
            refine lv_iconst (v := 0) hx hb dX11_canBeGiven_86 (by decide) ?_
            exact W.zret (v := 0) hx hb hr (by decide +kernel) (fun t ht hW => ⟨⟨0, (), rfl, (Or.inr ⟨rfl, by rintro (⟨a1, a2, a3⟩ | ⟨a1, a2, a3⟩ | ⟨a1, a2, a3⟩ | ⟨a1, a2, a3⟩) <;> first | exact absurd a1 c1 | exact absurd a2 (k_iff c1) | exact absurd a3 (k_iff c1) | exact absurd a3 c1 | exact absurd (Eq.trans (Eq.symm c1) a1) (by decide) | exact absurd a1 c2 | exact absurd a2 (k_iff c2) | exact absurd a3 (k_iff c2) | exact absurd a3 c2 | exact absurd (Eq.trans (Eq.symm c2) a1) (by decide) | exact absurd a1 c3 | exact absurd a2 (k_iff c3) | exact absurd a3 (k_iff c3) | exact absurd a3 c3 | exact absurd (Eq.trans (Eq.symm c3) a1) (by decide) | exact absurd a1 c9 | exact absurd a2 (k_iff c9) | exact absurd a3 (k_iff c9) | exact absurd a3 c9 | exact absurd (Eq.trans (Eq.symm c9) a1) (by decide) | exact absurd a1 c11 | exact absurd a2 (k_iff c11) | exact absurd a3 (k_iff c11) | exact absurd a3 c11 | exact absurd (Eq.trans (Eq.symm c11) a1) (by decide)⟩), kB_end (w9 := []) (t9 := []) hP hK hD [] [] rfl (by decide) rfl rfl t ht hW⟩, hS.F ht⟩) hS.2.2 dX11_canBeGiven_87
          · skip
            refine lv_iconst (v := 1) hx hb dX11_canBeGiven_82 (by decide) ?_
            refine lv_goto (tgt := 87) hx hb dX11_canBeGiven_83 (by decide) ?_
            exact W.zret (v := 1) hx hb hr (by decide +kernel) (fun t ht hW => ⟨⟨1, (), rfl, (Or.inl ⟨rfl, by simp_all [kO, k_ifx]⟩), kB_end (w9 := []) (t9 := []) hP hK hD [] [] rfl (by decide) rfl rfl t ht hW⟩, hS.F ht⟩) hS.2.2 dX11_canBeGiven_87
    · skip
      refine lv_iload_n hx hb dX11_canBeGiven_37 rfl (lv_at hl 1 rfl) ?_
      refine lv_iconst (v := 0) hx hb dX11_canBeGiven_38 (by decide) ?_
      refine lv_bipush (v := 8) hx hb dX11_canBeGiven_39 (by decide) ?_
      have hPc := hP.sub (ws' := []) [] rfl
      have hDc := hD.sub (ws' := []) [] (by decide) rfl
      have hKc := hK.sub (tys' := []) [] rfl
      have hFc := va_free (wc := []) hD hS hA [] rfl
      refine va_calli (va_runS (As := [.int p1, .int 0, .int 8]) (rest := []) ⟨hx, hb, hml, hown, hts⟩ (k_isIn l dC dI z zK zV p1 0 8 s.heap.size) (va_cwS 3 hts gX11_canBeGiven_X11_isIn rfl rfl rfl (by decide +kernel) ⟨Nat.le_of_ble_eq_true rfl, Nat.le_of_ble_eq_true rfl⟩) ⟨kP_blind, kP_go hPc hKc hDc hFc hM hS⟩ rfl rfl hl.1 rfl (lv_room (Nat.le_of_ble_eq_true rfl)) dX11_canBeGiven_41 ⟨Nat.le_of_ble_eq_true rfl, Nat.le_of_ble_eq_true rfl⟩) hS (fun q _ h => hFc q h) hFc (fun r12 u t H1 locs ht hvm hw hB hz1 hk1 hS => ?_)
      obtain ⟨hP, hD, hK⟩ := kJ (wr := []) (w1 := []) (t1 := []) hP hD hK [] [] rfl rfl (by decide) (by decide) hk1 hFc ht hvm hB
      generalize H1 = H at hP hS ⊢
      have hP : va_P (dC, dI) vwCl [] H := hP
      have hD : va_D A [] := hD
      have hK : va_K (dC, dI) vwCl [] s := hK
      obtain rfl : (if 0 ≤ p1 ∧ p1 ≤ 8 then (1 : Int32) else 0) = r12 := hw
      refine lv_if_eq (tgt := 55) hx hb dX11_canBeGiven_44 (by decide) (fun c13 => ?_) (fun c13 => ?_)
      · skip
        refine lv_iconst (v := 0) hx hb dX11_canBeGiven_55 (by decide) ?_
        exact W.zret (v := 0) hx hb hr (by decide +kernel) (fun t ht hW => ⟨⟨0, (), rfl, (Or.inr ⟨rfl, by rintro (⟨a1, a2, a3⟩ | ⟨a1, a2, a3⟩ | ⟨a1, a2, a3⟩ | ⟨a1, a2, a3⟩) <;> first | exact absurd a1 c1 | exact absurd a2 (k_iff c1) | exact absurd a3 (k_iff c1) | exact absurd a3 c1 | exact absurd (Eq.trans (Eq.symm c1) a1) (by decide) | exact absurd a1 c2 | exact absurd a2 (k_iff c2) | exact absurd a3 (k_iff c2) | exact absurd a3 c2 | exact absurd (Eq.trans (Eq.symm c2) a1) (by decide) | exact absurd a1 c13 | exact absurd a2 (k_iff c13) | exact absurd a3 (k_iff c13) | exact absurd a3 c13 | exact absurd (Eq.trans (Eq.symm c13) a1) (by decide)⟩), kB_end (w9 := []) (t9 := []) hP hK hD [] [] rfl (by decide) rfl rfl t ht hW⟩, hS.F ht⟩) hS.2.2 dX11_canBeGiven_56
      · skip
        refine lv_iload_n hx hb dX11_canBeGiven_47 rfl (lv_at hl 2 rfl) ?_
        refine lv_if_ne (tgt := 55) hx hb dX11_canBeGiven_48 (by decide) (fun c14 => ?_) (fun c14 => ?_)
        · skip
          refine lv_iconst (v := 0) hx hb dX11_canBeGiven_55 (by decide) ?_
          exact W.zret (v := 0) hx hb hr (by decide +kernel) (fun t ht hW => ⟨⟨0, (), rfl, (Or.inr ⟨rfl, by rintro (⟨a1, a2, a3⟩ | ⟨a1, a2, a3⟩ | ⟨a1, a2, a3⟩ | ⟨a1, a2, a3⟩) <;> first | exact absurd a1 c1 | exact absurd a2 (k_iff c1) | exact absurd a3 (k_iff c1) | exact absurd a3 c1 | exact absurd (Eq.trans (Eq.symm c1) a1) (by decide) | exact absurd a1 c2 | exact absurd a2 (k_iff c2) | exact absurd a3 (k_iff c2) | exact absurd a3 c2 | exact absurd (Eq.trans (Eq.symm c2) a1) (by decide) | exact absurd a1 c13 | exact absurd a2 (k_iff c13) | exact absurd a3 (k_iff c13) | exact absurd a3 c13 | exact absurd (Eq.trans (Eq.symm c13) a1) (by decide) | exact absurd a1 c14 | exact absurd a2 (k_iff c14) | exact absurd a3 (k_iff c14) | exact absurd a3 c14 | exact absurd (Eq.trans (Eq.symm c14) a1) (by decide)⟩), kB_end (w9 := []) (t9 := []) hP hK hD [] [] rfl (by decide) rfl rfl t ht hW⟩, hS.F ht⟩) hS.2.2 dX11_canBeGiven_56
        · skip
          refine lv_iconst (v := 1) hx hb dX11_canBeGiven_51 (by decide) ?_
          refine lv_goto (tgt := 56) hx hb dX11_canBeGiven_52 (by decide) ?_
          exact W.zret (v := 1) hx hb hr (by decide +kernel) (fun t ht hW => ⟨⟨1, (), rfl, (Or.inl ⟨rfl, by simp_all [kO, k_ifx]⟩), kB_end (w9 := []) (t9 := []) hP hK hD [] [] rfl (by decide) rfl rfl t ht hW⟩, hS.F ht⟩) hS.2.2 dX11_canBeGiven_56
  · skip
    refine lv_iload_n hx hb dX11_canBeGiven_6 rfl (lv_at hl 1 rfl) ?_
    refine lv_iconst (v := 0) hx hb dX11_canBeGiven_7 (by decide) ?_
    refine lv_bipush (v := 8) hx hb dX11_canBeGiven_8 (by decide) ?_
    have hPc := hP.sub (ws' := []) [] rfl
    have hDc := hD.sub (ws' := []) [] (by decide) rfl
    have hKc := hK.sub (tys' := []) [] rfl
    have hFc := va_free (wc := []) hD hS hA [] rfl
    refine va_calli (va_runS (As := [.int p1, .int 0, .int 8]) (rest := []) ⟨hx, hb, hml, hown, hts⟩ (k_isIn l dC dI z zK zV p1 0 8 s.heap.size) (va_cwS 3 hts gX11_canBeGiven_X11_isIn rfl rfl rfl (by decide +kernel) ⟨Nat.le_of_ble_eq_true rfl, Nat.le_of_ble_eq_true rfl⟩) ⟨kP_blind, kP_go hPc hKc hDc hFc hM hS⟩ rfl rfl hl.1 rfl (lv_room (Nat.le_of_ble_eq_true rfl)) dX11_canBeGiven_10 ⟨Nat.le_of_ble_eq_true rfl, Nat.le_of_ble_eq_true rfl⟩) hS (fun q _ h => hFc q h) hFc (fun r15 u t H1 locs ht hvm hw hB hz1 hk1 hS => ?_)
    obtain ⟨hP, hD, hK⟩ := kJ (wr := []) (w1 := []) (t1 := []) hP hD hK [] [] rfl rfl (by decide) (by decide) hk1 hFc ht hvm hB
    generalize H1 = H at hP hS ⊢
    have hP : va_P (dC, dI) vwCl [] H := hP
    have hD : va_D A [] := hD
    have hK : va_K (dC, dI) vwCl [] s := hK
    obtain rfl : (if 0 ≤ p1 ∧ p1 ≤ 8 then (1 : Int32) else 0) = r15 := hw
    refine lv_if_eq (tgt := 29) hx hb dX11_canBeGiven_13 (by decide) (fun c16 => ?_) (fun c16 => ?_)
    · skip
      refine lv_iconst (v := 0) hx hb dX11_canBeGiven_29 (by decide) ?_
      exact W.zret (v := 0) hx hb hr (by decide +kernel) (fun t ht hW => ⟨⟨0, (), rfl, (Or.inr ⟨rfl, by rintro (⟨a1, a2, a3⟩ | ⟨a1, a2, a3⟩ | ⟨a1, a2, a3⟩ | ⟨a1, a2, a3⟩) <;> first | exact absurd a1 c1 | exact absurd a2 (k_iff c1) | exact absurd a3 (k_iff c1) | exact absurd a3 c1 | exact absurd (Eq.trans (Eq.symm c1) a1) (by decide) | exact absurd a1 c16 | exact absurd a2 (k_iff c16) | exact absurd a3 (k_iff c16) | exact absurd a3 c16 | exact absurd (Eq.trans (Eq.symm c16) a1) (by decide)⟩), kB_end (w9 := []) (t9 := []) hP hK hD [] [] rfl (by decide) rfl rfl t ht hW⟩, hS.F ht⟩) hS.2.2 dX11_canBeGiven_30
    · skip
      refine lv_iload_n hx hb dX11_canBeGiven_16 rfl (lv_at hl 2 rfl) ?_
      refine lv_iconst (v := 0) hx hb dX11_canBeGiven_17 (by decide) ?_
      refine lv_iconst (v := 2) hx hb dX11_canBeGiven_18 (by decide) ?_
      have hPc := hP.sub (ws' := []) [] rfl
      have hDc := hD.sub (ws' := []) [] (by decide) rfl
      have hKc := hK.sub (tys' := []) [] rfl
      have hFc := va_free (wc := []) hD hS hA [] rfl
      refine va_calli (va_runS (As := [.int p2, .int 0, .int 2]) (rest := []) ⟨hx, hb, hml, hown, hts⟩ (k_isIn l dC dI z zK zV p2 0 2 H.size) (va_cwS 3 hts gX11_canBeGiven_X11_isIn rfl rfl rfl (by decide +kernel) ⟨Nat.le_of_ble_eq_true rfl, Nat.le_of_ble_eq_true rfl⟩) ⟨kP_blind, kP_go hPc hKc hDc hFc hM hS⟩ rfl rfl hl.1 rfl (lv_room (Nat.le_of_ble_eq_true rfl)) dX11_canBeGiven_19 ⟨Nat.le_of_ble_eq_true rfl, Nat.le_of_ble_eq_true rfl⟩) hS (fun q _ h => hFc q h) hFc (fun r17 u t H1 locs ht hvm hw hB hz1 hk1 hS => ?_)
      obtain ⟨hP, hD, hK⟩ := kJ (wr := []) (w1 := []) (t1 := []) hP hD hK [] [] rfl rfl (by decide) (by decide) hk1 hFc ht hvm hB
      generalize H1 = H at hP hS ⊢
      have hP : va_P (dC, dI) vwCl [] H := hP
      have hD : va_D A [] := hD
      have hK : va_K (dC, dI) vwCl [] s := hK
      obtain rfl : (if 0 ≤ p2 ∧ p2 ≤ 2 then (1 : Int32) else 0) = r17 := hw
      refine lv_if_eq (tgt := 29) hx hb dX11_canBeGiven_22 (by decide) (fun c18 => ?_) (fun c18 => ?_)
      · skip
        refine lv_iconst (v := 0) hx hb dX11_canBeGiven_29 (by decide) ?_
        exact W.zret (v := 0) hx hb hr (by decide +kernel) (fun t ht hW => ⟨⟨0, (), rfl, (Or.inr ⟨rfl, by rintro (⟨a1, a2, a3⟩ | ⟨a1, a2, a3⟩ | ⟨a1, a2, a3⟩ | ⟨a1, a2, a3⟩) <;> first | exact absurd a1 c1 | exact absurd a2 (k_iff c1) | exact absurd a3 (k_iff c1) | exact absurd a3 c1 | exact absurd (Eq.trans (Eq.symm c1) a1) (by decide) | exact absurd a1 c16 | exact absurd a2 (k_iff c16) | exact absurd a3 (k_iff c16) | exact absurd a3 c16 | exact absurd (Eq.trans (Eq.symm c16) a1) (by decide) | exact absurd a1 c18 | exact absurd a2 (k_iff c18) | exact absurd a3 (k_iff c18) | exact absurd a3 c18 | exact absurd (Eq.trans (Eq.symm c18) a1) (by decide)⟩), kB_end (w9 := []) (t9 := []) hP hK hD [] [] rfl (by decide) rfl rfl t ht hW⟩, hS.F ht⟩) hS.2.2 dX11_canBeGiven_30
      · skip
        refine lv_iconst (v := 1) hx hb dX11_canBeGiven_25 (by decide) ?_
        refine lv_goto (tgt := 30) hx hb dX11_canBeGiven_26 (by decide) ?_
        exact W.zret (v := 1) hx hb hr (by decide +kernel) (fun t ht hW => ⟨⟨1, (), rfl, (Or.inl ⟨rfl, by simp_all [kO, k_ifx]⟩), kB_end (w9 := []) (t9 := []) hP hK hD [] [] rfl (by decide) rfl rfl t ht hW⟩, hS.F ht⟩) hS.2.2 dX11_canBeGiven_30
abbrev wd_k_countSet (z : Nat → Nat) (rg : Nat) (mf : Nat) (mm : Nat) (mz : Nat) (ma : Nat) (sa : Nat) (s0 : Nat) (s1 : Nat) (s2 : Nat) (s3 : Nat) (s4 : Nat) (s5 : Nat) (s6 : Nat) (s7 : Nat) (s8 : Nat) (cS : ClassId) : va_W := [(rg, .inr (11, [.ref mf, .ref mm, .ref mz, .ref ma, .ref sa, .int 0])), (sa, .inl (cS, 9, .inr (.inr (.inr (.inr (va_up (va_up (va_up (va_up (va_up (va_up (va_up (va_up (va_up (fun _ => none) 0 (some s0)) 1 (some s1)) 2 (some s2)) 3 (some s3)) 4 (some s4)) 5 (some s5)) 6 (some s6)) 7 (some s7)) 8 (some s8))))))), (s0, .inr (12, [.int 8, .int 6, .ref mf, .int 1, .int 0, .int 900, .int 0, .int 0])), (s1, .inr (12, [.int 7, .int 5, .ref mf, .int 1, .int 0, .int 900, .int 0, .int 0])), (s2, .inr (12, [.int 3, .int 3, .ref mf, .int 1, .int 0, .int 900, .int 0, .int 0])), (s3, .inr (12, [.int 10, .int 8, .ref mm, .int 1, .int 0, .int 900, .int 0, .int 0])), (s4, .inr (12, [.int 9, .int 6, .ref mm, .int 1, .int 0, .int 900, .int 0, .int 0])), (s5, .inr (12, [.int 4, .int 3, .ref mm, .int 1, .int 0, .int 900, .int 0, .int 0])), (s6, .inr (12, [.int 5, .int 4, .ref mz, .int 1, .int 0, .int 900, .int 0, .int 0])), (s7, .inr (12, [.int 4, .int 3, .ref mf, .int 0, .int 0, .int 900, .int 0, .int 0])), (s8, .inr (12, [.int 6, .int 4, .ref mz, .int 0, .int 0, .int 900, .int 0, .int 0]))]
set_option maxHeartbeats 4000000 in
set_option maxRecDepth 100000 in
theorem k_countSet (l : Launch) (dC : Nat → ClassId) (dI : Nat → Nat → Nat) (z zK zV : Nat → Nat) (rg : Nat) (mf : Nat) (mm : Nat) (mz : Nat) (ma : Nat) (sa : Nat) (s0 : Nat) (s1 : Nat) (s2 : Nat) (s3 : Nat) (s4 : Nat) (s5 : Nat) (s6 : Nat) (s7 : Nat) (s8 : Nat) (cS : ClassId) (sz : Nat)  : Met l yX7_countSet wsX7_countSet ({ frames := 0, cells := 0, slots := 0, locals := 0 }) (kP dC dI z zK zV [.ref rg] sz (wd_k_countSet z rg mf mm mz ma sa s0 s1 s2 s3 s4 s5 s6 s7 s8 cS) [(cS, .object RX8)]) (va_Qi (fun (r : Int32) (_ : Unit) => 0 = r) (fun _ t => kB (dC, dI) (va_A (wd_k_countSet z rg mf mm mz ma sa s0 s1 s2 s3 s4 s5 s6 s7 s8 cS) sz) [(rg, .inr (11, [.ref mf, .ref mm, .ref mz, .ref ma, .ref sa, .int 0])), (sa, .inl (cS, 9, .inr (.inr (.inr (.inr (va_up (va_up (va_up (va_up (va_up (va_up (va_up (va_up (va_up (fun _ => none) 0 (some s0)) 1 (some s1)) 2 (some s2)) 3 (some s3)) 4 (some s4)) 5 (some s5)) 6 (some s6)) 7 (some s7)) 8 (some s8))))))), (s0, .inr (12, [.int 8, .int 6, .ref mf, .int 1, .int 0, .int 900, .int 0, .int 0])), (s1, .inr (12, [.int 7, .int 5, .ref mf, .int 1, .int 0, .int 900, .int 0, .int 0])), (s2, .inr (12, [.int 3, .int 3, .ref mf, .int 1, .int 0, .int 900, .int 0, .int 0])), (s3, .inr (12, [.int 10, .int 8, .ref mm, .int 1, .int 0, .int 900, .int 0, .int 0])), (s4, .inr (12, [.int 9, .int 6, .ref mm, .int 1, .int 0, .int 900, .int 0, .int 0])), (s5, .inr (12, [.int 4, .int 3, .ref mm, .int 1, .int 0, .int 900, .int 0, .int 0])), (s6, .inr (12, [.int 5, .int 4, .ref mz, .int 1, .int 0, .int 900, .int 0, .int 0])), (s7, .inr (12, [.int 4, .int 3, .ref mf, .int 0, .int 0, .int 900, .int 0, .int 0])), (s8, .inr (12, [.int 6, .int 4, .ref mz, .int 0, .int 0, .int 900, .int 0, .int 0]))] [] t) (va_A (wd_k_countSet z rg mf mm mz ma sa s0 s1 s2 s3 s4 s5 s6 s7 s8 cS) sz)) 0 0 (va_A (wd_k_countSet z rg mf mm mz ma sa s0 s1 s2 s3 s4 s5 s6 s7 s8 cS) sz) := by
  refine Met.ofW (cc := cX7_countSet) (maxL := 6) (ret := (some .int)) (by decide) rfl ?_
  intro p e s m args below meth c s₁ B hml hv
  obtain ⟨rfl, hsz, hP, hK, hD0, hM⟩ := hv
  have hx := B.exec
  have hb := B.bytes
  have hr := B.returns
  have hts := atoms_spec (ws := wsX7_countSet) B.pre
  have hown : s.vm.findClass RX7 = some m.cls := findClass_of_methodNamed B.named
  have hlocks := B.notSynchronized
  have hiX7 : ∀ w ∈ u_ws RX7 TX7 6, w ∈ wsX7_countSet := by decide +kernel
  have hiX8 : ∀ w ∈ u_ws RX8 TX8 8, w ∈ wsX7_countSet := by decide +kernel
  subst hsz
  have hD := hD0.self (sz := s.heap.size)
  generalize hAe : va_A (wd_k_countSet z rg mf mm mz ma sa s0 s1 s2 s3 s4 s5 s6 s7 s8 cS) s.heap.size = A at hD hM ⊢
  have hA : ∀ q : Nat, s.heap.size ≤ q → A q := fun q h => by rw [← hAe]; exact Or.inr h
  have hS : va_S A s.heap s.heap [] := va_S.rf
  have hP : va_P (dC, dI) vwCl [(rg, .inr (11, [.ref mf, .ref mm, .ref mz, .ref ma, .ref sa, .int 0])), (sa, .inl (cS, 9, .inr (.inr (.inr (.inr (va_up (va_up (va_up (va_up (va_up (va_up (va_up (va_up (va_up (fun _ => none) 0 (some s0)) 1 (some s1)) 2 (some s2)) 3 (some s3)) 4 (some s4)) 5 (some s5)) 6 (some s6)) 7 (some s7)) 8 (some s8))))))), (s0, .inr (12, [.int 8, .int 6, .ref mf, .int 1, .int 0, .int 900, .int 0, .int 0])), (s1, .inr (12, [.int 7, .int 5, .ref mf, .int 1, .int 0, .int 900, .int 0, .int 0])), (s2, .inr (12, [.int 3, .int 3, .ref mf, .int 1, .int 0, .int 900, .int 0, .int 0])), (s3, .inr (12, [.int 10, .int 8, .ref mm, .int 1, .int 0, .int 900, .int 0, .int 0])), (s4, .inr (12, [.int 9, .int 6, .ref mm, .int 1, .int 0, .int 900, .int 0, .int 0])), (s5, .inr (12, [.int 4, .int 3, .ref mm, .int 1, .int 0, .int 900, .int 0, .int 0])), (s6, .inr (12, [.int 5, .int 4, .ref mz, .int 1, .int 0, .int 900, .int 0, .int 0])), (s7, .inr (12, [.int 4, .int 3, .ref mf, .int 0, .int 0, .int 900, .int 0, .int 0])), (s8, .inr (12, [.int 6, .int 4, .ref mz, .int 0, .int 0, .int 900, .int 0, .int 0]))] s.heap := hP
  have hD : va_D A [(rg, .inr (11, [.ref mf, .ref mm, .ref mz, .ref ma, .ref sa, .int 0])), (sa, .inl (cS, 9, .inr (.inr (.inr (.inr (va_up (va_up (va_up (va_up (va_up (va_up (va_up (va_up (va_up (fun _ => none) 0 (some s0)) 1 (some s1)) 2 (some s2)) 3 (some s3)) 4 (some s4)) 5 (some s5)) 6 (some s6)) 7 (some s7)) 8 (some s8))))))), (s0, .inr (12, [.int 8, .int 6, .ref mf, .int 1, .int 0, .int 900, .int 0, .int 0])), (s1, .inr (12, [.int 7, .int 5, .ref mf, .int 1, .int 0, .int 900, .int 0, .int 0])), (s2, .inr (12, [.int 3, .int 3, .ref mf, .int 1, .int 0, .int 900, .int 0, .int 0])), (s3, .inr (12, [.int 10, .int 8, .ref mm, .int 1, .int 0, .int 900, .int 0, .int 0])), (s4, .inr (12, [.int 9, .int 6, .ref mm, .int 1, .int 0, .int 900, .int 0, .int 0])), (s5, .inr (12, [.int 4, .int 3, .ref mm, .int 1, .int 0, .int 900, .int 0, .int 0])), (s6, .inr (12, [.int 5, .int 4, .ref mz, .int 1, .int 0, .int 900, .int 0, .int 0])), (s7, .inr (12, [.int 4, .int 3, .ref mf, .int 0, .int 0, .int 900, .int 0, .int 0])), (s8, .inr (12, [.int 6, .int 4, .ref mz, .int 0, .int 0, .int 900, .int 0, .int 0]))] := hD
  have hl := lv_entry ([.ref rg]) (n := 6) (Nat.le_of_ble_eq_true rfl)
  rw [lg_entry_eq]
  generalize (lg_sl ([.ref rg]) ++ List.replicate (6 - (lg_sl ([.ref rg])).length) Slot.unset).toArray = ls at hl ⊢
  have hl : lv_has ls 6 [(0, .ref rg)] := hl
  refine lv_iconst (v := 0) hx hb dX7_countSet_0 (by decide) ?_
  refine lv_istore_n (lv' := [(1, .int 0), (0, .ref rg)]) hx hb dX7_countSet_1 rfl hl (by decide) rfl (fun ls hl => ?_)
  refine lv_aload_n hx hb dX7_countSet_2 rfl (lv_at hl 1 rfl) ?_
  refine va_get (D := (dC, dI)) (ci := 11) (v := .ref sa) (C := RX7) (T := TX7) (N := 6) hx hb hts hiX7 hown hK hP 0 rfl rfl 4 (by decide) (hts (.fieldLink RX7 33 "SquareRig$Rig" "sails" "[LSquareRig$Sail;") (by decide +kernel)) (fun _ h9 => h9) rfl dX7_countSet_3 ?_
  refine lv_astore_n (lv' := [(2, .ref sa), (1, .int 0), (0, .ref rg)]) hx hb dX7_countSet_6 rfl hl (by decide) rfl (fun ls hl => ?_)
  refine lv_aload_n hx hb dX7_countSet_7 rfl (lv_at hl 0 rfl) ?_
  refine va_alen (v := 9) hx hb hK hP 1 0 rfl rfl rfl dX7_countSet_8 ?_
  refine lv_istore_n (lv' := [(3, .int 9), (2, .ref sa), (1, .int 0), (0, .ref rg)]) hx hb dX7_countSet_9 rfl hl (by decide) rfl (fun ls hl => ?_)
  refine lv_iconst (v := 0) hx hb dX7_countSet_10 (by decide) ?_
  refine lv_istore (lv' := [(4, .int 0), (3, .int 9), (2, .ref sa), (1, .int 0), (0, .ref rg)]) hx hb dX7_countSet_11 hl (by decide) rfl (fun ls hl => ?_)
  refine lv_iload hx hb dX7_countSet_13 (lv_at hl 0 rfl) ?_
  refine lv_iload_n hx hb dX7_countSet_15 rfl (lv_at hl 1 rfl) ?_
  refine lv_icmp_ge (tgt := 42) hx hb dX7_countSet_16 (by decide) (fun c_ => absurd c_ (by decide +kernel)) (fun _ => ?_)
  refine lv_aload_n hx hb dX7_countSet_19 rfl (lv_at hl 2 rfl) ?_
  refine lv_iload hx hb dX7_countSet_20 (lv_at hl 0 rfl) ?_
  refine va_aldq hx hb hK hP 1 0 rfl rfl (pk_in 0 9 (by decide) rfl) dX7_countSet_22 ?_
  refine kc_v (y := .ref s0) rfl ?_
  refine lv_astore (lv' := [(5, .ref s0), (4, .int 0), (3, .int 9), (2, .ref sa), (1, .int 0), (0, .ref rg)]) hx hb dX7_countSet_23 hl (by decide) rfl (fun ls hl => ?_)
  refine lv_aload hx hb dX7_countSet_25 (lv_at hl 0 rfl) ?_
  refine va_getN (D := (dC, dI)) (ci := 12) (v := .int 0) (C := RX8) (T := TX8) (N := 8) hx hb hts hiX8 hown hK hP 2 rfl rfl 4 (by decide) (va_Nw.use rfl (hM.1 _ (List.mem_of_getElem? (i := 10) rfl))) (fun _ h9 => h9) rfl dX7_countSet_27 ?_
  refine lv_if_eq (tgt := 36) hx hb dX7_countSet_30 (by decide) (fun _ => ?_) (fun c_ => absurd (by decide +kernel) c_)
  refine lv_iinc (v := 1) (lv' := [(4, .int 1), (5, .ref s0), (3, .int 9), (2, .ref sa), (1, .int 0), (0, .ref rg)]) hx hb dX7_countSet_36 hl (k := 1) rfl (by decide +kernel) (by decide) rfl (fun ls hl => ?_)
  refine lv_goto (tgt := 13) hx hb dX7_countSet_39 (by decide) ?_
  refine lv_iload hx hb dX7_countSet_13 (lv_at hl 0 rfl) ?_
  refine lv_iload_n hx hb dX7_countSet_15 rfl (lv_at hl 2 rfl) ?_
  refine lv_icmp_ge (tgt := 42) hx hb dX7_countSet_16 (by decide) (fun c_ => absurd c_ (by decide +kernel)) (fun _ => ?_)
  refine lv_aload_n hx hb dX7_countSet_19 rfl (lv_at hl 3 rfl) ?_
  refine lv_iload hx hb dX7_countSet_20 (lv_at hl 0 rfl) ?_
  refine va_aldq hx hb hK hP 1 0 rfl rfl (pk_in 1 9 (by decide) rfl) dX7_countSet_22 ?_
  refine kc_v (y := .ref s1) rfl ?_
  refine lv_astore (lv' := [(5, .ref s1), (4, .int 1), (3, .int 9), (2, .ref sa), (1, .int 0), (0, .ref rg)]) hx hb dX7_countSet_23 hl (by decide) rfl (fun ls hl => ?_)
  refine lv_aload hx hb dX7_countSet_25 (lv_at hl 0 rfl) ?_
  refine va_getN (D := (dC, dI)) (ci := 12) (v := .int 0) (C := RX8) (T := TX8) (N := 8) hx hb hts hiX8 hown hK hP 3 rfl rfl 4 (by decide) (va_Nw.use rfl (hM.1 _ (List.mem_of_getElem? (i := 10) rfl))) (fun _ h9 => h9) rfl dX7_countSet_27 ?_
  refine lv_if_eq (tgt := 36) hx hb dX7_countSet_30 (by decide) (fun _ => ?_) (fun c_ => absurd (by decide +kernel) c_)
  refine lv_iinc (v := 2) (lv' := [(4, .int 2), (5, .ref s1), (3, .int 9), (2, .ref sa), (1, .int 0), (0, .ref rg)]) hx hb dX7_countSet_36 hl (k := 1) rfl (by decide +kernel) (by decide) rfl (fun ls hl => ?_)
  refine lv_goto (tgt := 13) hx hb dX7_countSet_39 (by decide) ?_
  refine lv_iload hx hb dX7_countSet_13 (lv_at hl 0 rfl) ?_
  refine lv_iload_n hx hb dX7_countSet_15 rfl (lv_at hl 2 rfl) ?_
  refine lv_icmp_ge (tgt := 42) hx hb dX7_countSet_16 (by decide) (fun c_ => absurd c_ (by decide +kernel)) (fun _ => ?_)
  refine lv_aload_n hx hb dX7_countSet_19 rfl (lv_at hl 3 rfl) ?_
  refine lv_iload hx hb dX7_countSet_20 (lv_at hl 0 rfl) ?_
  refine va_aldq hx hb hK hP 1 0 rfl rfl (pk_in 2 9 (by decide) rfl) dX7_countSet_22 ?_
  refine kc_v (y := .ref s2) rfl ?_
  refine lv_astore (lv' := [(5, .ref s2), (4, .int 2), (3, .int 9), (2, .ref sa), (1, .int 0), (0, .ref rg)]) hx hb dX7_countSet_23 hl (by decide) rfl (fun ls hl => ?_)
  refine lv_aload hx hb dX7_countSet_25 (lv_at hl 0 rfl) ?_
  refine va_getN (D := (dC, dI)) (ci := 12) (v := .int 0) (C := RX8) (T := TX8) (N := 8) hx hb hts hiX8 hown hK hP 4 rfl rfl 4 (by decide) (va_Nw.use rfl (hM.1 _ (List.mem_of_getElem? (i := 10) rfl))) (fun _ h9 => h9) rfl dX7_countSet_27 ?_
  refine lv_if_eq (tgt := 36) hx hb dX7_countSet_30 (by decide) (fun _ => ?_) (fun c_ => absurd (by decide +kernel) c_)
  refine lv_iinc (v := 3) (lv' := [(4, .int 3), (5, .ref s2), (3, .int 9), (2, .ref sa), (1, .int 0), (0, .ref rg)]) hx hb dX7_countSet_36 hl (k := 1) rfl (by decide +kernel) (by decide) rfl (fun ls hl => ?_)
  refine lv_goto (tgt := 13) hx hb dX7_countSet_39 (by decide) ?_
  refine lv_iload hx hb dX7_countSet_13 (lv_at hl 0 rfl) ?_
  refine lv_iload_n hx hb dX7_countSet_15 rfl (lv_at hl 2 rfl) ?_
  refine lv_icmp_ge (tgt := 42) hx hb dX7_countSet_16 (by decide) (fun c_ => absurd c_ (by decide +kernel)) (fun _ => ?_)
  refine lv_aload_n hx hb dX7_countSet_19 rfl (lv_at hl 3 rfl) ?_
  refine lv_iload hx hb dX7_countSet_20 (lv_at hl 0 rfl) ?_
  refine va_aldq hx hb hK hP 1 0 rfl rfl (pk_in 3 9 (by decide) rfl) dX7_countSet_22 ?_
  refine kc_v (y := .ref s3) rfl ?_
  refine lv_astore (lv' := [(5, .ref s3), (4, .int 3), (3, .int 9), (2, .ref sa), (1, .int 0), (0, .ref rg)]) hx hb dX7_countSet_23 hl (by decide) rfl (fun ls hl => ?_)
  refine lv_aload hx hb dX7_countSet_25 (lv_at hl 0 rfl) ?_
  refine va_getN (D := (dC, dI)) (ci := 12) (v := .int 0) (C := RX8) (T := TX8) (N := 8) hx hb hts hiX8 hown hK hP 5 rfl rfl 4 (by decide) (va_Nw.use rfl (hM.1 _ (List.mem_of_getElem? (i := 10) rfl))) (fun _ h9 => h9) rfl dX7_countSet_27 ?_
  refine lv_if_eq (tgt := 36) hx hb dX7_countSet_30 (by decide) (fun _ => ?_) (fun c_ => absurd (by decide +kernel) c_)
  refine lv_iinc (v := 4) (lv' := [(4, .int 4), (5, .ref s3), (3, .int 9), (2, .ref sa), (1, .int 0), (0, .ref rg)]) hx hb dX7_countSet_36 hl (k := 1) rfl (by decide +kernel) (by decide) rfl (fun ls hl => ?_)
  refine lv_goto (tgt := 13) hx hb dX7_countSet_39 (by decide) ?_
  refine lv_iload hx hb dX7_countSet_13 (lv_at hl 0 rfl) ?_
  refine lv_iload_n hx hb dX7_countSet_15 rfl (lv_at hl 2 rfl) ?_
  refine lv_icmp_ge (tgt := 42) hx hb dX7_countSet_16 (by decide) (fun c_ => absurd c_ (by decide +kernel)) (fun _ => ?_)
  refine lv_aload_n hx hb dX7_countSet_19 rfl (lv_at hl 3 rfl) ?_
  refine lv_iload hx hb dX7_countSet_20 (lv_at hl 0 rfl) ?_
  refine va_aldq hx hb hK hP 1 0 rfl rfl (pk_in 4 9 (by decide) rfl) dX7_countSet_22 ?_
  refine kc_v (y := .ref s4) rfl ?_
  refine lv_astore (lv' := [(5, .ref s4), (4, .int 4), (3, .int 9), (2, .ref sa), (1, .int 0), (0, .ref rg)]) hx hb dX7_countSet_23 hl (by decide) rfl (fun ls hl => ?_)
  refine lv_aload hx hb dX7_countSet_25 (lv_at hl 0 rfl) ?_
  refine va_getN (D := (dC, dI)) (ci := 12) (v := .int 0) (C := RX8) (T := TX8) (N := 8) hx hb hts hiX8 hown hK hP 6 rfl rfl 4 (by decide) (va_Nw.use rfl (hM.1 _ (List.mem_of_getElem? (i := 10) rfl))) (fun _ h9 => h9) rfl dX7_countSet_27 ?_
  refine lv_if_eq (tgt := 36) hx hb dX7_countSet_30 (by decide) (fun _ => ?_) (fun c_ => absurd (by decide +kernel) c_)
  refine lv_iinc (v := 5) (lv' := [(4, .int 5), (5, .ref s4), (3, .int 9), (2, .ref sa), (1, .int 0), (0, .ref rg)]) hx hb dX7_countSet_36 hl (k := 1) rfl (by decide +kernel) (by decide) rfl (fun ls hl => ?_)
  refine lv_goto (tgt := 13) hx hb dX7_countSet_39 (by decide) ?_
  refine lv_iload hx hb dX7_countSet_13 (lv_at hl 0 rfl) ?_
  refine lv_iload_n hx hb dX7_countSet_15 rfl (lv_at hl 2 rfl) ?_
  refine lv_icmp_ge (tgt := 42) hx hb dX7_countSet_16 (by decide) (fun c_ => absurd c_ (by decide +kernel)) (fun _ => ?_)
  refine lv_aload_n hx hb dX7_countSet_19 rfl (lv_at hl 3 rfl) ?_
  refine lv_iload hx hb dX7_countSet_20 (lv_at hl 0 rfl) ?_
  refine va_aldq hx hb hK hP 1 0 rfl rfl (pk_in 5 9 (by decide) rfl) dX7_countSet_22 ?_
  refine kc_v (y := .ref s5) rfl ?_
  refine lv_astore (lv' := [(5, .ref s5), (4, .int 5), (3, .int 9), (2, .ref sa), (1, .int 0), (0, .ref rg)]) hx hb dX7_countSet_23 hl (by decide) rfl (fun ls hl => ?_)
  refine lv_aload hx hb dX7_countSet_25 (lv_at hl 0 rfl) ?_
  refine va_getN (D := (dC, dI)) (ci := 12) (v := .int 0) (C := RX8) (T := TX8) (N := 8) hx hb hts hiX8 hown hK hP 7 rfl rfl 4 (by decide) (va_Nw.use rfl (hM.1 _ (List.mem_of_getElem? (i := 10) rfl))) (fun _ h9 => h9) rfl dX7_countSet_27 ?_
  refine lv_if_eq (tgt := 36) hx hb dX7_countSet_30 (by decide) (fun _ => ?_) (fun c_ => absurd (by decide +kernel) c_)
  refine lv_iinc (v := 6) (lv' := [(4, .int 6), (5, .ref s5), (3, .int 9), (2, .ref sa), (1, .int 0), (0, .ref rg)]) hx hb dX7_countSet_36 hl (k := 1) rfl (by decide +kernel) (by decide) rfl (fun ls hl => ?_)
  refine lv_goto (tgt := 13) hx hb dX7_countSet_39 (by decide) ?_
  refine lv_iload hx hb dX7_countSet_13 (lv_at hl 0 rfl) ?_
  refine lv_iload_n hx hb dX7_countSet_15 rfl (lv_at hl 2 rfl) ?_
  refine lv_icmp_ge (tgt := 42) hx hb dX7_countSet_16 (by decide) (fun c_ => absurd c_ (by decide +kernel)) (fun _ => ?_)
  refine lv_aload_n hx hb dX7_countSet_19 rfl (lv_at hl 3 rfl) ?_
  refine lv_iload hx hb dX7_countSet_20 (lv_at hl 0 rfl) ?_
  refine va_aldq hx hb hK hP 1 0 rfl rfl (pk_in 6 9 (by decide) rfl) dX7_countSet_22 ?_
  refine kc_v (y := .ref s6) rfl ?_
  refine lv_astore (lv' := [(5, .ref s6), (4, .int 6), (3, .int 9), (2, .ref sa), (1, .int 0), (0, .ref rg)]) hx hb dX7_countSet_23 hl (by decide) rfl (fun ls hl => ?_)
  refine lv_aload hx hb dX7_countSet_25 (lv_at hl 0 rfl) ?_
  refine va_getN (D := (dC, dI)) (ci := 12) (v := .int 0) (C := RX8) (T := TX8) (N := 8) hx hb hts hiX8 hown hK hP 8 rfl rfl 4 (by decide) (va_Nw.use rfl (hM.1 _ (List.mem_of_getElem? (i := 10) rfl))) (fun _ h9 => h9) rfl dX7_countSet_27 ?_
  refine lv_if_eq (tgt := 36) hx hb dX7_countSet_30 (by decide) (fun _ => ?_) (fun c_ => absurd (by decide +kernel) c_)
  refine lv_iinc (v := 7) (lv' := [(4, .int 7), (5, .ref s6), (3, .int 9), (2, .ref sa), (1, .int 0), (0, .ref rg)]) hx hb dX7_countSet_36 hl (k := 1) rfl (by decide +kernel) (by decide) rfl (fun ls hl => ?_)
  refine lv_goto (tgt := 13) hx hb dX7_countSet_39 (by decide) ?_
  refine lv_iload hx hb dX7_countSet_13 (lv_at hl 0 rfl) ?_
  refine lv_iload_n hx hb dX7_countSet_15 rfl (lv_at hl 2 rfl) ?_
  refine lv_icmp_ge (tgt := 42) hx hb dX7_countSet_16 (by decide) (fun c_ => absurd c_ (by decide +kernel)) (fun _ => ?_)
  refine lv_aload_n hx hb dX7_countSet_19 rfl (lv_at hl 3 rfl) ?_
  refine lv_iload hx hb dX7_countSet_20 (lv_at hl 0 rfl) ?_
  refine va_aldq hx hb hK hP 1 0 rfl rfl (pk_in 7 9 (by decide) rfl) dX7_countSet_22 ?_
  refine kc_v (y := .ref s7) rfl ?_
  refine lv_astore (lv' := [(5, .ref s7), (4, .int 7), (3, .int 9), (2, .ref sa), (1, .int 0), (0, .ref rg)]) hx hb dX7_countSet_23 hl (by decide) rfl (fun ls hl => ?_)
  refine lv_aload hx hb dX7_countSet_25 (lv_at hl 0 rfl) ?_
  refine va_getN (D := (dC, dI)) (ci := 12) (v := .int 0) (C := RX8) (T := TX8) (N := 8) hx hb hts hiX8 hown hK hP 9 rfl rfl 4 (by decide) (va_Nw.use rfl (hM.1 _ (List.mem_of_getElem? (i := 10) rfl))) (fun _ h9 => h9) rfl dX7_countSet_27 ?_
  refine lv_if_eq (tgt := 36) hx hb dX7_countSet_30 (by decide) (fun _ => ?_) (fun c_ => absurd (by decide +kernel) c_)
  refine lv_iinc (v := 8) (lv' := [(4, .int 8), (5, .ref s7), (3, .int 9), (2, .ref sa), (1, .int 0), (0, .ref rg)]) hx hb dX7_countSet_36 hl (k := 1) rfl (by decide +kernel) (by decide) rfl (fun ls hl => ?_)
  refine lv_goto (tgt := 13) hx hb dX7_countSet_39 (by decide) ?_
  refine lv_iload hx hb dX7_countSet_13 (lv_at hl 0 rfl) ?_
  refine lv_iload_n hx hb dX7_countSet_15 rfl (lv_at hl 2 rfl) ?_
  refine lv_icmp_ge (tgt := 42) hx hb dX7_countSet_16 (by decide) (fun c_ => absurd c_ (by decide +kernel)) (fun _ => ?_)
  refine lv_aload_n hx hb dX7_countSet_19 rfl (lv_at hl 3 rfl) ?_
  refine lv_iload hx hb dX7_countSet_20 (lv_at hl 0 rfl) ?_
  refine va_aldq hx hb hK hP 1 0 rfl rfl (pk_in 8 9 (by decide) rfl) dX7_countSet_22 ?_
  refine kc_v (y := .ref s8) rfl ?_
  refine lv_astore (lv' := [(5, .ref s8), (4, .int 8), (3, .int 9), (2, .ref sa), (1, .int 0), (0, .ref rg)]) hx hb dX7_countSet_23 hl (by decide) rfl (fun ls hl => ?_)
  refine lv_aload hx hb dX7_countSet_25 (lv_at hl 0 rfl) ?_
  refine va_getN (D := (dC, dI)) (ci := 12) (v := .int 0) (C := RX8) (T := TX8) (N := 8) hx hb hts hiX8 hown hK hP 10 rfl rfl 4 (by decide) (va_Nw.use rfl (hM.1 _ (List.mem_of_getElem? (i := 10) rfl))) (fun _ h9 => h9) rfl dX7_countSet_27 ?_
  refine lv_if_eq (tgt := 36) hx hb dX7_countSet_30 (by decide) (fun _ => ?_) (fun c_ => absurd (by decide +kernel) c_)
  refine lv_iinc (v := 9) (lv' := [(4, .int 9), (5, .ref s8), (3, .int 9), (2, .ref sa), (1, .int 0), (0, .ref rg)]) hx hb dX7_countSet_36 hl (k := 1) rfl (by decide +kernel) (by decide) rfl (fun ls hl => ?_)
  refine lv_goto (tgt := 13) hx hb dX7_countSet_39 (by decide) ?_
  refine lv_iload hx hb dX7_countSet_13 (lv_at hl 0 rfl) ?_
  refine lv_iload_n hx hb dX7_countSet_15 rfl (lv_at hl 2 rfl) ?_
  refine lv_icmp_ge (tgt := 42) hx hb dX7_countSet_16 (by decide) (fun _ => ?_) (fun c_ => absurd (by decide +kernel) c_)
  refine lv_iload_n hx hb dX7_countSet_42 rfl (lv_at hl 4 rfl) ?_
  exact W.iret (v := 0) hx hb hr (fun t ht hW => ⟨⟨0, (), rfl, rfl, kB_end (w9 := [(rg, .inr (11, [.ref mf, .ref mm, .ref mz, .ref ma, .ref sa, .int 0])), (sa, .inl (cS, 9, .inr (.inr (.inr (.inr (va_up (va_up (va_up (va_up (va_up (va_up (va_up (va_up (va_up (fun _ => none) 0 (some s0)) 1 (some s1)) 2 (some s2)) 3 (some s3)) 4 (some s4)) 5 (some s5)) 6 (some s6)) 7 (some s7)) 8 (some s8))))))), (s0, .inr (12, [.int 8, .int 6, .ref mf, .int 1, .int 0, .int 900, .int 0, .int 0])), (s1, .inr (12, [.int 7, .int 5, .ref mf, .int 1, .int 0, .int 900, .int 0, .int 0])), (s2, .inr (12, [.int 3, .int 3, .ref mf, .int 1, .int 0, .int 900, .int 0, .int 0])), (s3, .inr (12, [.int 10, .int 8, .ref mm, .int 1, .int 0, .int 900, .int 0, .int 0])), (s4, .inr (12, [.int 9, .int 6, .ref mm, .int 1, .int 0, .int 900, .int 0, .int 0])), (s5, .inr (12, [.int 4, .int 3, .ref mm, .int 1, .int 0, .int 900, .int 0, .int 0])), (s6, .inr (12, [.int 5, .int 4, .ref mz, .int 1, .int 0, .int 900, .int 0, .int 0])), (s7, .inr (12, [.int 4, .int 3, .ref mf, .int 0, .int 0, .int 900, .int 0, .int 0])), (s8, .inr (12, [.int 6, .int 4, .ref mz, .int 0, .int 0, .int 900, .int 0, .int 0]))]) (t9 := []) hP hK hD [0, 1, 2, 3, 4, 5, 6, 7, 8, 9, 10] [] rfl (by decide) rfl rfl t ht hW⟩, hS.F ht⟩) hS.2.2 dX7_countSet_43
abbrev wd_k_countWholeRopes (z : Nat → Nat) (rg : Nat) (mf : Nat) (mm : Nat) (mz : Nat) (ma : Nat) (sa : Nat) (s0 : Nat) (s1 : Nat) (s2 : Nat) (s3 : Nat) (s4 : Nat) (s5 : Nat) (s6 : Nat) (s7 : Nat) (s8 : Nat) (cS : ClassId) : va_W := [(rg, .inr (11, [.ref mf, .ref mm, .ref mz, .ref ma, .ref sa, .int 0])), (sa, .inl (cS, 9, .inr (.inr (.inr (.inr (va_up (va_up (va_up (va_up (va_up (va_up (va_up (va_up (va_up (fun _ => none) 0 (some s0)) 1 (some s1)) 2 (some s2)) 3 (some s3)) 4 (some s4)) 5 (some s5)) 6 (some s6)) 7 (some s7)) 8 (some s8))))))), (s0, .inr (12, [.int 8, .int 6, .ref mf, .int 1, .int 0, .int 900, .int 0, .int 0])), (s1, .inr (12, [.int 7, .int 5, .ref mf, .int 1, .int 0, .int 900, .int 0, .int 0])), (s2, .inr (12, [.int 3, .int 3, .ref mf, .int 1, .int 0, .int 900, .int 0, .int 0])), (s3, .inr (12, [.int 10, .int 8, .ref mm, .int 1, .int 0, .int 900, .int 0, .int 0])), (s4, .inr (12, [.int 9, .int 6, .ref mm, .int 1, .int 0, .int 900, .int 0, .int 0])), (s5, .inr (12, [.int 4, .int 3, .ref mm, .int 1, .int 0, .int 900, .int 0, .int 0])), (s6, .inr (12, [.int 5, .int 4, .ref mz, .int 1, .int 0, .int 900, .int 0, .int 0])), (s7, .inr (12, [.int 4, .int 3, .ref mf, .int 0, .int 0, .int 900, .int 0, .int 0])), (s8, .inr (12, [.int 6, .int 4, .ref mz, .int 0, .int 0, .int 900, .int 0, .int 0]))]
set_option maxHeartbeats 4000000 in
set_option maxRecDepth 100000 in
theorem k_countWholeRopes (l : Launch) (dC : Nat → ClassId) (dI : Nat → Nat → Nat) (z zK zV : Nat → Nat) (rg : Nat) (mf : Nat) (mm : Nat) (mz : Nat) (ma : Nat) (sa : Nat) (s0 : Nat) (s1 : Nat) (s2 : Nat) (s3 : Nat) (s4 : Nat) (s5 : Nat) (s6 : Nat) (s7 : Nat) (s8 : Nat) (cS : ClassId) (sz : Nat)  : Met l yX7_countWholeRopes wsX7_countWholeRopes ({ frames := 0, cells := 0, slots := 0, locals := 0 }) (kP dC dI z zK zV [.ref rg] sz (wd_k_countWholeRopes z rg mf mm mz ma sa s0 s1 s2 s3 s4 s5 s6 s7 s8 cS) [(cS, .object RX8)]) (va_Qi (fun (r : Int32) (_ : Unit) => 9 = r) (fun _ t => kB (dC, dI) (va_A (wd_k_countWholeRopes z rg mf mm mz ma sa s0 s1 s2 s3 s4 s5 s6 s7 s8 cS) sz) [(rg, .inr (11, [.ref mf, .ref mm, .ref mz, .ref ma, .ref sa, .int 0])), (sa, .inl (cS, 9, .inr (.inr (.inr (.inr (va_up (va_up (va_up (va_up (va_up (va_up (va_up (va_up (va_up (fun _ => none) 0 (some s0)) 1 (some s1)) 2 (some s2)) 3 (some s3)) 4 (some s4)) 5 (some s5)) 6 (some s6)) 7 (some s7)) 8 (some s8))))))), (s0, .inr (12, [.int 8, .int 6, .ref mf, .int 1, .int 0, .int 900, .int 0, .int 0])), (s1, .inr (12, [.int 7, .int 5, .ref mf, .int 1, .int 0, .int 900, .int 0, .int 0])), (s2, .inr (12, [.int 3, .int 3, .ref mf, .int 1, .int 0, .int 900, .int 0, .int 0])), (s3, .inr (12, [.int 10, .int 8, .ref mm, .int 1, .int 0, .int 900, .int 0, .int 0])), (s4, .inr (12, [.int 9, .int 6, .ref mm, .int 1, .int 0, .int 900, .int 0, .int 0])), (s5, .inr (12, [.int 4, .int 3, .ref mm, .int 1, .int 0, .int 900, .int 0, .int 0])), (s6, .inr (12, [.int 5, .int 4, .ref mz, .int 1, .int 0, .int 900, .int 0, .int 0])), (s7, .inr (12, [.int 4, .int 3, .ref mf, .int 0, .int 0, .int 900, .int 0, .int 0])), (s8, .inr (12, [.int 6, .int 4, .ref mz, .int 0, .int 0, .int 900, .int 0, .int 0]))] [] t) (va_A (wd_k_countWholeRopes z rg mf mm mz ma sa s0 s1 s2 s3 s4 s5 s6 s7 s8 cS) sz)) 0 0 (va_A (wd_k_countWholeRopes z rg mf mm mz ma sa s0 s1 s2 s3 s4 s5 s6 s7 s8 cS) sz) := by
  refine Met.ofW (cc := cX7_countWholeRopes) (maxL := 6) (ret := (some .int)) (by decide) rfl ?_
  intro p e s m args below meth c s₁ B hml hv
  obtain ⟨rfl, hsz, hP, hK, hD0, hM⟩ := hv
  have hx := B.exec
  have hb := B.bytes
  have hr := B.returns
  have hts := atoms_spec (ws := wsX7_countWholeRopes) B.pre
  have hown : s.vm.findClass RX7 = some m.cls := findClass_of_methodNamed B.named
  have hlocks := B.notSynchronized
  have hiX7 : ∀ w ∈ u_ws RX7 TX7 6, w ∈ wsX7_countWholeRopes := by decide +kernel
  have hiX8 : ∀ w ∈ u_ws RX8 TX8 8, w ∈ wsX7_countWholeRopes := by decide +kernel
  subst hsz
  have hD := hD0.self (sz := s.heap.size)
  generalize hAe : va_A (wd_k_countWholeRopes z rg mf mm mz ma sa s0 s1 s2 s3 s4 s5 s6 s7 s8 cS) s.heap.size = A at hD hM ⊢
  have hA : ∀ q : Nat, s.heap.size ≤ q → A q := fun q h => by rw [← hAe]; exact Or.inr h
  have hS : va_S A s.heap s.heap [] := va_S.rf
  have hP : va_P (dC, dI) vwCl [(rg, .inr (11, [.ref mf, .ref mm, .ref mz, .ref ma, .ref sa, .int 0])), (sa, .inl (cS, 9, .inr (.inr (.inr (.inr (va_up (va_up (va_up (va_up (va_up (va_up (va_up (va_up (va_up (fun _ => none) 0 (some s0)) 1 (some s1)) 2 (some s2)) 3 (some s3)) 4 (some s4)) 5 (some s5)) 6 (some s6)) 7 (some s7)) 8 (some s8))))))), (s0, .inr (12, [.int 8, .int 6, .ref mf, .int 1, .int 0, .int 900, .int 0, .int 0])), (s1, .inr (12, [.int 7, .int 5, .ref mf, .int 1, .int 0, .int 900, .int 0, .int 0])), (s2, .inr (12, [.int 3, .int 3, .ref mf, .int 1, .int 0, .int 900, .int 0, .int 0])), (s3, .inr (12, [.int 10, .int 8, .ref mm, .int 1, .int 0, .int 900, .int 0, .int 0])), (s4, .inr (12, [.int 9, .int 6, .ref mm, .int 1, .int 0, .int 900, .int 0, .int 0])), (s5, .inr (12, [.int 4, .int 3, .ref mm, .int 1, .int 0, .int 900, .int 0, .int 0])), (s6, .inr (12, [.int 5, .int 4, .ref mz, .int 1, .int 0, .int 900, .int 0, .int 0])), (s7, .inr (12, [.int 4, .int 3, .ref mf, .int 0, .int 0, .int 900, .int 0, .int 0])), (s8, .inr (12, [.int 6, .int 4, .ref mz, .int 0, .int 0, .int 900, .int 0, .int 0]))] s.heap := hP
  have hD : va_D A [(rg, .inr (11, [.ref mf, .ref mm, .ref mz, .ref ma, .ref sa, .int 0])), (sa, .inl (cS, 9, .inr (.inr (.inr (.inr (va_up (va_up (va_up (va_up (va_up (va_up (va_up (va_up (va_up (fun _ => none) 0 (some s0)) 1 (some s1)) 2 (some s2)) 3 (some s3)) 4 (some s4)) 5 (some s5)) 6 (some s6)) 7 (some s7)) 8 (some s8))))))), (s0, .inr (12, [.int 8, .int 6, .ref mf, .int 1, .int 0, .int 900, .int 0, .int 0])), (s1, .inr (12, [.int 7, .int 5, .ref mf, .int 1, .int 0, .int 900, .int 0, .int 0])), (s2, .inr (12, [.int 3, .int 3, .ref mf, .int 1, .int 0, .int 900, .int 0, .int 0])), (s3, .inr (12, [.int 10, .int 8, .ref mm, .int 1, .int 0, .int 900, .int 0, .int 0])), (s4, .inr (12, [.int 9, .int 6, .ref mm, .int 1, .int 0, .int 900, .int 0, .int 0])), (s5, .inr (12, [.int 4, .int 3, .ref mm, .int 1, .int 0, .int 900, .int 0, .int 0])), (s6, .inr (12, [.int 5, .int 4, .ref mz, .int 1, .int 0, .int 900, .int 0, .int 0])), (s7, .inr (12, [.int 4, .int 3, .ref mf, .int 0, .int 0, .int 900, .int 0, .int 0])), (s8, .inr (12, [.int 6, .int 4, .ref mz, .int 0, .int 0, .int 900, .int 0, .int 0]))] := hD
  have hl := lv_entry ([.ref rg]) (n := 6) (Nat.le_of_ble_eq_true rfl)
  rw [lg_entry_eq]
  generalize (lg_sl ([.ref rg]) ++ List.replicate (6 - (lg_sl ([.ref rg])).length) Slot.unset).toArray = ls at hl ⊢
  have hl : lv_has ls 6 [(0, .ref rg)] := hl
  refine lv_iconst (v := 0) hx hb dX7_countWholeRopes_0 (by decide) ?_
  refine lv_istore_n (lv' := [(1, .int 0), (0, .ref rg)]) hx hb dX7_countWholeRopes_1 rfl hl (by decide) rfl (fun ls hl => ?_)
  refine lv_aload_n hx hb dX7_countWholeRopes_2 rfl (lv_at hl 1 rfl) ?_
  refine va_get (D := (dC, dI)) (ci := 11) (v := .ref sa) (C := RX7) (T := TX7) (N := 6) hx hb hts hiX7 hown hK hP 0 rfl rfl 4 (by decide) (hts (.fieldLink RX7 33 "SquareRig$Rig" "sails" "[LSquareRig$Sail;") (by decide +kernel)) (fun _ h9 => h9) rfl dX7_countWholeRopes_3 ?_
  refine lv_astore_n (lv' := [(2, .ref sa), (1, .int 0), (0, .ref rg)]) hx hb dX7_countWholeRopes_6 rfl hl (by decide) rfl (fun ls hl => ?_)
  refine lv_aload_n hx hb dX7_countWholeRopes_7 rfl (lv_at hl 0 rfl) ?_
  refine va_alen (v := 9) hx hb hK hP 1 0 rfl rfl rfl dX7_countWholeRopes_8 ?_
  refine lv_istore_n (lv' := [(3, .int 9), (2, .ref sa), (1, .int 0), (0, .ref rg)]) hx hb dX7_countWholeRopes_9 rfl hl (by decide) rfl (fun ls hl => ?_)
  refine lv_iconst (v := 0) hx hb dX7_countWholeRopes_10 (by decide) ?_
  refine lv_istore (lv' := [(4, .int 0), (3, .int 9), (2, .ref sa), (1, .int 0), (0, .ref rg)]) hx hb dX7_countWholeRopes_11 hl (by decide) rfl (fun ls hl => ?_)
  refine lv_iload hx hb dX7_countWholeRopes_13 (lv_at hl 0 rfl) ?_
  refine lv_iload_n hx hb dX7_countWholeRopes_15 rfl (lv_at hl 1 rfl) ?_
  refine lv_icmp_ge (tgt := 42) hx hb dX7_countWholeRopes_16 (by decide) (fun c_ => absurd c_ (by decide +kernel)) (fun _ => ?_)
  refine lv_aload_n hx hb dX7_countWholeRopes_19 rfl (lv_at hl 2 rfl) ?_
  refine lv_iload hx hb dX7_countWholeRopes_20 (lv_at hl 0 rfl) ?_
  refine va_aldq hx hb hK hP 1 0 rfl rfl (pk_in 0 9 (by decide) rfl) dX7_countWholeRopes_22 ?_
  refine kc_v (y := .ref s0) rfl ?_
  refine lv_astore (lv' := [(5, .ref s0), (4, .int 0), (3, .int 9), (2, .ref sa), (1, .int 0), (0, .ref rg)]) hx hb dX7_countWholeRopes_23 hl (by decide) rfl (fun ls hl => ?_)
  refine lv_aload hx hb dX7_countWholeRopes_25 (lv_at hl 0 rfl) ?_
  refine va_getN (D := (dC, dI)) (ci := 12) (v := .int 0) (C := RX8) (T := TX8) (N := 8) hx hb hts hiX8 hown hK hP 2 rfl rfl 6 (by decide) (va_Nw.use rfl (hM.1 _ (List.mem_of_getElem? (i := 14) rfl))) (fun _ h9 => h9) rfl dX7_countWholeRopes_27 ?_
  refine lv_if_ne (tgt := 36) hx hb dX7_countWholeRopes_30 (by decide) (fun c_ => absurd (by decide +kernel) c_) (fun _ => ?_)
  refine lv_iinc (v := 1) (lv' := [(1, .int 1), (5, .ref s0), (4, .int 0), (3, .int 9), (2, .ref sa), (0, .ref rg)]) hx hb dX7_countWholeRopes_33 hl (k := 4) rfl (by decide +kernel) (by decide) rfl (fun ls hl => ?_)
  refine lv_iinc (v := 1) (lv' := [(4, .int 1), (1, .int 1), (5, .ref s0), (3, .int 9), (2, .ref sa), (0, .ref rg)]) hx hb dX7_countWholeRopes_36 hl (k := 2) rfl (by decide +kernel) (by decide) rfl (fun ls hl => ?_)
  refine lv_goto (tgt := 13) hx hb dX7_countWholeRopes_39 (by decide) ?_
  refine lv_iload hx hb dX7_countWholeRopes_13 (lv_at hl 0 rfl) ?_
  refine lv_iload_n hx hb dX7_countWholeRopes_15 rfl (lv_at hl 3 rfl) ?_
  refine lv_icmp_ge (tgt := 42) hx hb dX7_countWholeRopes_16 (by decide) (fun c_ => absurd c_ (by decide +kernel)) (fun _ => ?_)
  refine lv_aload_n hx hb dX7_countWholeRopes_19 rfl (lv_at hl 4 rfl) ?_
  refine lv_iload hx hb dX7_countWholeRopes_20 (lv_at hl 0 rfl) ?_
  refine va_aldq hx hb hK hP 1 0 rfl rfl (pk_in 1 9 (by decide) rfl) dX7_countWholeRopes_22 ?_
  refine kc_v (y := .ref s1) rfl ?_
  refine lv_astore (lv' := [(5, .ref s1), (4, .int 1), (1, .int 1), (3, .int 9), (2, .ref sa), (0, .ref rg)]) hx hb dX7_countWholeRopes_23 hl (by decide) rfl (fun ls hl => ?_)
  refine lv_aload hx hb dX7_countWholeRopes_25 (lv_at hl 0 rfl) ?_
  refine va_getN (D := (dC, dI)) (ci := 12) (v := .int 0) (C := RX8) (T := TX8) (N := 8) hx hb hts hiX8 hown hK hP 3 rfl rfl 6 (by decide) (va_Nw.use rfl (hM.1 _ (List.mem_of_getElem? (i := 14) rfl))) (fun _ h9 => h9) rfl dX7_countWholeRopes_27 ?_
  refine lv_if_ne (tgt := 36) hx hb dX7_countWholeRopes_30 (by decide) (fun c_ => absurd (by decide +kernel) c_) (fun _ => ?_)
  refine lv_iinc (v := 2) (lv' := [(1, .int 2), (5, .ref s1), (4, .int 1), (3, .int 9), (2, .ref sa), (0, .ref rg)]) hx hb dX7_countWholeRopes_33 hl (k := 2) rfl (by decide +kernel) (by decide) rfl (fun ls hl => ?_)
  refine lv_iinc (v := 2) (lv' := [(4, .int 2), (1, .int 2), (5, .ref s1), (3, .int 9), (2, .ref sa), (0, .ref rg)]) hx hb dX7_countWholeRopes_36 hl (k := 2) rfl (by decide +kernel) (by decide) rfl (fun ls hl => ?_)
  refine lv_goto (tgt := 13) hx hb dX7_countWholeRopes_39 (by decide) ?_
  refine lv_iload hx hb dX7_countWholeRopes_13 (lv_at hl 0 rfl) ?_
  refine lv_iload_n hx hb dX7_countWholeRopes_15 rfl (lv_at hl 3 rfl) ?_
  refine lv_icmp_ge (tgt := 42) hx hb dX7_countWholeRopes_16 (by decide) (fun c_ => absurd c_ (by decide +kernel)) (fun _ => ?_)
  refine lv_aload_n hx hb dX7_countWholeRopes_19 rfl (lv_at hl 4 rfl) ?_
  refine lv_iload hx hb dX7_countWholeRopes_20 (lv_at hl 0 rfl) ?_
  refine va_aldq hx hb hK hP 1 0 rfl rfl (pk_in 2 9 (by decide) rfl) dX7_countWholeRopes_22 ?_
  refine kc_v (y := .ref s2) rfl ?_
  refine lv_astore (lv' := [(5, .ref s2), (4, .int 2), (1, .int 2), (3, .int 9), (2, .ref sa), (0, .ref rg)]) hx hb dX7_countWholeRopes_23 hl (by decide) rfl (fun ls hl => ?_)
  refine lv_aload hx hb dX7_countWholeRopes_25 (lv_at hl 0 rfl) ?_
  refine va_getN (D := (dC, dI)) (ci := 12) (v := .int 0) (C := RX8) (T := TX8) (N := 8) hx hb hts hiX8 hown hK hP 4 rfl rfl 6 (by decide) (va_Nw.use rfl (hM.1 _ (List.mem_of_getElem? (i := 14) rfl))) (fun _ h9 => h9) rfl dX7_countWholeRopes_27 ?_
  refine lv_if_ne (tgt := 36) hx hb dX7_countWholeRopes_30 (by decide) (fun c_ => absurd (by decide +kernel) c_) (fun _ => ?_)
  refine lv_iinc (v := 3) (lv' := [(1, .int 3), (5, .ref s2), (4, .int 2), (3, .int 9), (2, .ref sa), (0, .ref rg)]) hx hb dX7_countWholeRopes_33 hl (k := 2) rfl (by decide +kernel) (by decide) rfl (fun ls hl => ?_)
  refine lv_iinc (v := 3) (lv' := [(4, .int 3), (1, .int 3), (5, .ref s2), (3, .int 9), (2, .ref sa), (0, .ref rg)]) hx hb dX7_countWholeRopes_36 hl (k := 2) rfl (by decide +kernel) (by decide) rfl (fun ls hl => ?_)
  refine lv_goto (tgt := 13) hx hb dX7_countWholeRopes_39 (by decide) ?_
  refine lv_iload hx hb dX7_countWholeRopes_13 (lv_at hl 0 rfl) ?_
  refine lv_iload_n hx hb dX7_countWholeRopes_15 rfl (lv_at hl 3 rfl) ?_
  refine lv_icmp_ge (tgt := 42) hx hb dX7_countWholeRopes_16 (by decide) (fun c_ => absurd c_ (by decide +kernel)) (fun _ => ?_)
  refine lv_aload_n hx hb dX7_countWholeRopes_19 rfl (lv_at hl 4 rfl) ?_
  refine lv_iload hx hb dX7_countWholeRopes_20 (lv_at hl 0 rfl) ?_
  refine va_aldq hx hb hK hP 1 0 rfl rfl (pk_in 3 9 (by decide) rfl) dX7_countWholeRopes_22 ?_
  refine kc_v (y := .ref s3) rfl ?_
  refine lv_astore (lv' := [(5, .ref s3), (4, .int 3), (1, .int 3), (3, .int 9), (2, .ref sa), (0, .ref rg)]) hx hb dX7_countWholeRopes_23 hl (by decide) rfl (fun ls hl => ?_)
  refine lv_aload hx hb dX7_countWholeRopes_25 (lv_at hl 0 rfl) ?_
  refine va_getN (D := (dC, dI)) (ci := 12) (v := .int 0) (C := RX8) (T := TX8) (N := 8) hx hb hts hiX8 hown hK hP 5 rfl rfl 6 (by decide) (va_Nw.use rfl (hM.1 _ (List.mem_of_getElem? (i := 14) rfl))) (fun _ h9 => h9) rfl dX7_countWholeRopes_27 ?_
  refine lv_if_ne (tgt := 36) hx hb dX7_countWholeRopes_30 (by decide) (fun c_ => absurd (by decide +kernel) c_) (fun _ => ?_)
  refine lv_iinc (v := 4) (lv' := [(1, .int 4), (5, .ref s3), (4, .int 3), (3, .int 9), (2, .ref sa), (0, .ref rg)]) hx hb dX7_countWholeRopes_33 hl (k := 2) rfl (by decide +kernel) (by decide) rfl (fun ls hl => ?_)
  refine lv_iinc (v := 4) (lv' := [(4, .int 4), (1, .int 4), (5, .ref s3), (3, .int 9), (2, .ref sa), (0, .ref rg)]) hx hb dX7_countWholeRopes_36 hl (k := 2) rfl (by decide +kernel) (by decide) rfl (fun ls hl => ?_)
  refine lv_goto (tgt := 13) hx hb dX7_countWholeRopes_39 (by decide) ?_
  refine lv_iload hx hb dX7_countWholeRopes_13 (lv_at hl 0 rfl) ?_
  refine lv_iload_n hx hb dX7_countWholeRopes_15 rfl (lv_at hl 3 rfl) ?_
  refine lv_icmp_ge (tgt := 42) hx hb dX7_countWholeRopes_16 (by decide) (fun c_ => absurd c_ (by decide +kernel)) (fun _ => ?_)
  refine lv_aload_n hx hb dX7_countWholeRopes_19 rfl (lv_at hl 4 rfl) ?_
  refine lv_iload hx hb dX7_countWholeRopes_20 (lv_at hl 0 rfl) ?_
  refine va_aldq hx hb hK hP 1 0 rfl rfl (pk_in 4 9 (by decide) rfl) dX7_countWholeRopes_22 ?_
  refine kc_v (y := .ref s4) rfl ?_
  refine lv_astore (lv' := [(5, .ref s4), (4, .int 4), (1, .int 4), (3, .int 9), (2, .ref sa), (0, .ref rg)]) hx hb dX7_countWholeRopes_23 hl (by decide) rfl (fun ls hl => ?_)
  refine lv_aload hx hb dX7_countWholeRopes_25 (lv_at hl 0 rfl) ?_
  refine va_getN (D := (dC, dI)) (ci := 12) (v := .int 0) (C := RX8) (T := TX8) (N := 8) hx hb hts hiX8 hown hK hP 6 rfl rfl 6 (by decide) (va_Nw.use rfl (hM.1 _ (List.mem_of_getElem? (i := 14) rfl))) (fun _ h9 => h9) rfl dX7_countWholeRopes_27 ?_
  refine lv_if_ne (tgt := 36) hx hb dX7_countWholeRopes_30 (by decide) (fun c_ => absurd (by decide +kernel) c_) (fun _ => ?_)
  refine lv_iinc (v := 5) (lv' := [(1, .int 5), (5, .ref s4), (4, .int 4), (3, .int 9), (2, .ref sa), (0, .ref rg)]) hx hb dX7_countWholeRopes_33 hl (k := 2) rfl (by decide +kernel) (by decide) rfl (fun ls hl => ?_)
  refine lv_iinc (v := 5) (lv' := [(4, .int 5), (1, .int 5), (5, .ref s4), (3, .int 9), (2, .ref sa), (0, .ref rg)]) hx hb dX7_countWholeRopes_36 hl (k := 2) rfl (by decide +kernel) (by decide) rfl (fun ls hl => ?_)
  refine lv_goto (tgt := 13) hx hb dX7_countWholeRopes_39 (by decide) ?_
  refine lv_iload hx hb dX7_countWholeRopes_13 (lv_at hl 0 rfl) ?_
  refine lv_iload_n hx hb dX7_countWholeRopes_15 rfl (lv_at hl 3 rfl) ?_
  refine lv_icmp_ge (tgt := 42) hx hb dX7_countWholeRopes_16 (by decide) (fun c_ => absurd c_ (by decide +kernel)) (fun _ => ?_)
  refine lv_aload_n hx hb dX7_countWholeRopes_19 rfl (lv_at hl 4 rfl) ?_
  refine lv_iload hx hb dX7_countWholeRopes_20 (lv_at hl 0 rfl) ?_
  refine va_aldq hx hb hK hP 1 0 rfl rfl (pk_in 5 9 (by decide) rfl) dX7_countWholeRopes_22 ?_
  refine kc_v (y := .ref s5) rfl ?_
  refine lv_astore (lv' := [(5, .ref s5), (4, .int 5), (1, .int 5), (3, .int 9), (2, .ref sa), (0, .ref rg)]) hx hb dX7_countWholeRopes_23 hl (by decide) rfl (fun ls hl => ?_)
  refine lv_aload hx hb dX7_countWholeRopes_25 (lv_at hl 0 rfl) ?_
  refine va_getN (D := (dC, dI)) (ci := 12) (v := .int 0) (C := RX8) (T := TX8) (N := 8) hx hb hts hiX8 hown hK hP 7 rfl rfl 6 (by decide) (va_Nw.use rfl (hM.1 _ (List.mem_of_getElem? (i := 14) rfl))) (fun _ h9 => h9) rfl dX7_countWholeRopes_27 ?_
  refine lv_if_ne (tgt := 36) hx hb dX7_countWholeRopes_30 (by decide) (fun c_ => absurd (by decide +kernel) c_) (fun _ => ?_)
  refine lv_iinc (v := 6) (lv' := [(1, .int 6), (5, .ref s5), (4, .int 5), (3, .int 9), (2, .ref sa), (0, .ref rg)]) hx hb dX7_countWholeRopes_33 hl (k := 2) rfl (by decide +kernel) (by decide) rfl (fun ls hl => ?_)
  refine lv_iinc (v := 6) (lv' := [(4, .int 6), (1, .int 6), (5, .ref s5), (3, .int 9), (2, .ref sa), (0, .ref rg)]) hx hb dX7_countWholeRopes_36 hl (k := 2) rfl (by decide +kernel) (by decide) rfl (fun ls hl => ?_)
  refine lv_goto (tgt := 13) hx hb dX7_countWholeRopes_39 (by decide) ?_
  refine lv_iload hx hb dX7_countWholeRopes_13 (lv_at hl 0 rfl) ?_
  refine lv_iload_n hx hb dX7_countWholeRopes_15 rfl (lv_at hl 3 rfl) ?_
  refine lv_icmp_ge (tgt := 42) hx hb dX7_countWholeRopes_16 (by decide) (fun c_ => absurd c_ (by decide +kernel)) (fun _ => ?_)
  refine lv_aload_n hx hb dX7_countWholeRopes_19 rfl (lv_at hl 4 rfl) ?_
  refine lv_iload hx hb dX7_countWholeRopes_20 (lv_at hl 0 rfl) ?_
  refine va_aldq hx hb hK hP 1 0 rfl rfl (pk_in 6 9 (by decide) rfl) dX7_countWholeRopes_22 ?_
  refine kc_v (y := .ref s6) rfl ?_
  refine lv_astore (lv' := [(5, .ref s6), (4, .int 6), (1, .int 6), (3, .int 9), (2, .ref sa), (0, .ref rg)]) hx hb dX7_countWholeRopes_23 hl (by decide) rfl (fun ls hl => ?_)
  refine lv_aload hx hb dX7_countWholeRopes_25 (lv_at hl 0 rfl) ?_
  refine va_getN (D := (dC, dI)) (ci := 12) (v := .int 0) (C := RX8) (T := TX8) (N := 8) hx hb hts hiX8 hown hK hP 8 rfl rfl 6 (by decide) (va_Nw.use rfl (hM.1 _ (List.mem_of_getElem? (i := 14) rfl))) (fun _ h9 => h9) rfl dX7_countWholeRopes_27 ?_
  refine lv_if_ne (tgt := 36) hx hb dX7_countWholeRopes_30 (by decide) (fun c_ => absurd (by decide +kernel) c_) (fun _ => ?_)
  refine lv_iinc (v := 7) (lv' := [(1, .int 7), (5, .ref s6), (4, .int 6), (3, .int 9), (2, .ref sa), (0, .ref rg)]) hx hb dX7_countWholeRopes_33 hl (k := 2) rfl (by decide +kernel) (by decide) rfl (fun ls hl => ?_)
  refine lv_iinc (v := 7) (lv' := [(4, .int 7), (1, .int 7), (5, .ref s6), (3, .int 9), (2, .ref sa), (0, .ref rg)]) hx hb dX7_countWholeRopes_36 hl (k := 2) rfl (by decide +kernel) (by decide) rfl (fun ls hl => ?_)
  refine lv_goto (tgt := 13) hx hb dX7_countWholeRopes_39 (by decide) ?_
  refine lv_iload hx hb dX7_countWholeRopes_13 (lv_at hl 0 rfl) ?_
  refine lv_iload_n hx hb dX7_countWholeRopes_15 rfl (lv_at hl 3 rfl) ?_
  refine lv_icmp_ge (tgt := 42) hx hb dX7_countWholeRopes_16 (by decide) (fun c_ => absurd c_ (by decide +kernel)) (fun _ => ?_)
  refine lv_aload_n hx hb dX7_countWholeRopes_19 rfl (lv_at hl 4 rfl) ?_
  refine lv_iload hx hb dX7_countWholeRopes_20 (lv_at hl 0 rfl) ?_
  refine va_aldq hx hb hK hP 1 0 rfl rfl (pk_in 7 9 (by decide) rfl) dX7_countWholeRopes_22 ?_
  refine kc_v (y := .ref s7) rfl ?_
  refine lv_astore (lv' := [(5, .ref s7), (4, .int 7), (1, .int 7), (3, .int 9), (2, .ref sa), (0, .ref rg)]) hx hb dX7_countWholeRopes_23 hl (by decide) rfl (fun ls hl => ?_)
  refine lv_aload hx hb dX7_countWholeRopes_25 (lv_at hl 0 rfl) ?_
  refine va_getN (D := (dC, dI)) (ci := 12) (v := .int 0) (C := RX8) (T := TX8) (N := 8) hx hb hts hiX8 hown hK hP 9 rfl rfl 6 (by decide) (va_Nw.use rfl (hM.1 _ (List.mem_of_getElem? (i := 14) rfl))) (fun _ h9 => h9) rfl dX7_countWholeRopes_27 ?_
  refine lv_if_ne (tgt := 36) hx hb dX7_countWholeRopes_30 (by decide) (fun c_ => absurd (by decide +kernel) c_) (fun _ => ?_)
  refine lv_iinc (v := 8) (lv' := [(1, .int 8), (5, .ref s7), (4, .int 7), (3, .int 9), (2, .ref sa), (0, .ref rg)]) hx hb dX7_countWholeRopes_33 hl (k := 2) rfl (by decide +kernel) (by decide) rfl (fun ls hl => ?_)
  refine lv_iinc (v := 8) (lv' := [(4, .int 8), (1, .int 8), (5, .ref s7), (3, .int 9), (2, .ref sa), (0, .ref rg)]) hx hb dX7_countWholeRopes_36 hl (k := 2) rfl (by decide +kernel) (by decide) rfl (fun ls hl => ?_)
  refine lv_goto (tgt := 13) hx hb dX7_countWholeRopes_39 (by decide) ?_
  refine lv_iload hx hb dX7_countWholeRopes_13 (lv_at hl 0 rfl) ?_
  refine lv_iload_n hx hb dX7_countWholeRopes_15 rfl (lv_at hl 3 rfl) ?_
  refine lv_icmp_ge (tgt := 42) hx hb dX7_countWholeRopes_16 (by decide) (fun c_ => absurd c_ (by decide +kernel)) (fun _ => ?_)
  refine lv_aload_n hx hb dX7_countWholeRopes_19 rfl (lv_at hl 4 rfl) ?_
  refine lv_iload hx hb dX7_countWholeRopes_20 (lv_at hl 0 rfl) ?_
  refine va_aldq hx hb hK hP 1 0 rfl rfl (pk_in 8 9 (by decide) rfl) dX7_countWholeRopes_22 ?_
  refine kc_v (y := .ref s8) rfl ?_
  refine lv_astore (lv' := [(5, .ref s8), (4, .int 8), (1, .int 8), (3, .int 9), (2, .ref sa), (0, .ref rg)]) hx hb dX7_countWholeRopes_23 hl (by decide) rfl (fun ls hl => ?_)
  refine lv_aload hx hb dX7_countWholeRopes_25 (lv_at hl 0 rfl) ?_
  refine va_getN (D := (dC, dI)) (ci := 12) (v := .int 0) (C := RX8) (T := TX8) (N := 8) hx hb hts hiX8 hown hK hP 10 rfl rfl 6 (by decide) (va_Nw.use rfl (hM.1 _ (List.mem_of_getElem? (i := 14) rfl))) (fun _ h9 => h9) rfl dX7_countWholeRopes_27 ?_
  refine lv_if_ne (tgt := 36) hx hb dX7_countWholeRopes_30 (by decide) (fun c_ => absurd (by decide +kernel) c_) (fun _ => ?_)
  refine lv_iinc (v := 9) (lv' := [(1, .int 9), (5, .ref s8), (4, .int 8), (3, .int 9), (2, .ref sa), (0, .ref rg)]) hx hb dX7_countWholeRopes_33 hl (k := 2) rfl (by decide +kernel) (by decide) rfl (fun ls hl => ?_)
  refine lv_iinc (v := 9) (lv' := [(4, .int 9), (1, .int 9), (5, .ref s8), (3, .int 9), (2, .ref sa), (0, .ref rg)]) hx hb dX7_countWholeRopes_36 hl (k := 2) rfl (by decide +kernel) (by decide) rfl (fun ls hl => ?_)
  refine lv_goto (tgt := 13) hx hb dX7_countWholeRopes_39 (by decide) ?_
  refine lv_iload hx hb dX7_countWholeRopes_13 (lv_at hl 0 rfl) ?_
  refine lv_iload_n hx hb dX7_countWholeRopes_15 rfl (lv_at hl 3 rfl) ?_
  refine lv_icmp_ge (tgt := 42) hx hb dX7_countWholeRopes_16 (by decide) (fun _ => ?_) (fun c_ => absurd (by decide +kernel) c_)
  refine lv_iload_n hx hb dX7_countWholeRopes_42 rfl (lv_at hl 1 rfl) ?_
  exact W.iret (v := 9) hx hb hr (fun t ht hW => ⟨⟨9, (), rfl, rfl, kB_end (w9 := [(rg, .inr (11, [.ref mf, .ref mm, .ref mz, .ref ma, .ref sa, .int 0])), (sa, .inl (cS, 9, .inr (.inr (.inr (.inr (va_up (va_up (va_up (va_up (va_up (va_up (va_up (va_up (va_up (fun _ => none) 0 (some s0)) 1 (some s1)) 2 (some s2)) 3 (some s3)) 4 (some s4)) 5 (some s5)) 6 (some s6)) 7 (some s7)) 8 (some s8))))))), (s0, .inr (12, [.int 8, .int 6, .ref mf, .int 1, .int 0, .int 900, .int 0, .int 0])), (s1, .inr (12, [.int 7, .int 5, .ref mf, .int 1, .int 0, .int 900, .int 0, .int 0])), (s2, .inr (12, [.int 3, .int 3, .ref mf, .int 1, .int 0, .int 900, .int 0, .int 0])), (s3, .inr (12, [.int 10, .int 8, .ref mm, .int 1, .int 0, .int 900, .int 0, .int 0])), (s4, .inr (12, [.int 9, .int 6, .ref mm, .int 1, .int 0, .int 900, .int 0, .int 0])), (s5, .inr (12, [.int 4, .int 3, .ref mm, .int 1, .int 0, .int 900, .int 0, .int 0])), (s6, .inr (12, [.int 5, .int 4, .ref mz, .int 1, .int 0, .int 900, .int 0, .int 0])), (s7, .inr (12, [.int 4, .int 3, .ref mf, .int 0, .int 0, .int 900, .int 0, .int 0])), (s8, .inr (12, [.int 6, .int 4, .ref mz, .int 0, .int 0, .int 900, .int 0, .int 0]))]) (t9 := []) hP hK hD [0, 1, 2, 3, 4, 5, 6, 7, 8, 9, 10] [] rfl (by decide) rfl rfl t ht hW⟩, hS.F ht⟩) hS.2.2 dX7_countWholeRopes_43
abbrev wd_k_sumWholeRopes (z : Nat → Nat) (rg : Nat) (mf : Nat) (mm : Nat) (mz : Nat) (ma : Nat) (sa : Nat) (s0 : Nat) (s1 : Nat) (s2 : Nat) (s3 : Nat) (s4 : Nat) (s5 : Nat) (s6 : Nat) (s7 : Nat) (s8 : Nat) (cS : ClassId) : va_W := [(rg, .inr (11, [.ref mf, .ref mm, .ref mz, .ref ma, .ref sa, .int 0])), (sa, .inl (cS, 9, .inr (.inr (.inr (.inr (va_up (va_up (va_up (va_up (va_up (va_up (va_up (va_up (va_up (fun _ => none) 0 (some s0)) 1 (some s1)) 2 (some s2)) 3 (some s3)) 4 (some s4)) 5 (some s5)) 6 (some s6)) 7 (some s7)) 8 (some s8))))))), (s0, .inr (12, [.int 8, .int 6, .ref mf, .int 1, .int 0, .int 900, .int 0, .int 0])), (s1, .inr (12, [.int 7, .int 5, .ref mf, .int 1, .int 0, .int 900, .int 0, .int 0])), (s2, .inr (12, [.int 3, .int 3, .ref mf, .int 1, .int 0, .int 900, .int 0, .int 0])), (s3, .inr (12, [.int 10, .int 8, .ref mm, .int 1, .int 0, .int 900, .int 0, .int 0])), (s4, .inr (12, [.int 9, .int 6, .ref mm, .int 1, .int 0, .int 900, .int 0, .int 0])), (s5, .inr (12, [.int 4, .int 3, .ref mm, .int 1, .int 0, .int 900, .int 0, .int 0])), (s6, .inr (12, [.int 5, .int 4, .ref mz, .int 1, .int 0, .int 900, .int 0, .int 0])), (s7, .inr (12, [.int 4, .int 3, .ref mf, .int 0, .int 0, .int 900, .int 0, .int 0])), (s8, .inr (12, [.int 6, .int 4, .ref mz, .int 0, .int 0, .int 900, .int 0, .int 0]))]
set_option maxHeartbeats 4000000 in
set_option maxRecDepth 100000 in
theorem k_sumWholeRopes (l : Launch) (dC : Nat → ClassId) (dI : Nat → Nat → Nat) (z zK zV : Nat → Nat) (rg : Nat) (mf : Nat) (mm : Nat) (mz : Nat) (ma : Nat) (sa : Nat) (s0 : Nat) (s1 : Nat) (s2 : Nat) (s3 : Nat) (s4 : Nat) (s5 : Nat) (s6 : Nat) (s7 : Nat) (s8 : Nat) (cS : ClassId) (sz : Nat)  : Met l yX7_sumWholeRopes wsX7_sumWholeRopes ({ frames := 0, cells := 0, slots := 0, locals := 0 }) (kP dC dI z zK zV [.ref rg] sz (wd_k_sumWholeRopes z rg mf mm mz ma sa s0 s1 s2 s3 s4 s5 s6 s7 s8 cS) [(cS, .object RX8)]) (va_Qi (fun (r : Int32) (_ : Unit) => 8100 = r) (fun _ t => kB (dC, dI) (va_A (wd_k_sumWholeRopes z rg mf mm mz ma sa s0 s1 s2 s3 s4 s5 s6 s7 s8 cS) sz) [(rg, .inr (11, [.ref mf, .ref mm, .ref mz, .ref ma, .ref sa, .int 0])), (sa, .inl (cS, 9, .inr (.inr (.inr (.inr (va_up (va_up (va_up (va_up (va_up (va_up (va_up (va_up (va_up (fun _ => none) 0 (some s0)) 1 (some s1)) 2 (some s2)) 3 (some s3)) 4 (some s4)) 5 (some s5)) 6 (some s6)) 7 (some s7)) 8 (some s8))))))), (s0, .inr (12, [.int 8, .int 6, .ref mf, .int 1, .int 0, .int 900, .int 0, .int 0])), (s1, .inr (12, [.int 7, .int 5, .ref mf, .int 1, .int 0, .int 900, .int 0, .int 0])), (s2, .inr (12, [.int 3, .int 3, .ref mf, .int 1, .int 0, .int 900, .int 0, .int 0])), (s3, .inr (12, [.int 10, .int 8, .ref mm, .int 1, .int 0, .int 900, .int 0, .int 0])), (s4, .inr (12, [.int 9, .int 6, .ref mm, .int 1, .int 0, .int 900, .int 0, .int 0])), (s5, .inr (12, [.int 4, .int 3, .ref mm, .int 1, .int 0, .int 900, .int 0, .int 0])), (s6, .inr (12, [.int 5, .int 4, .ref mz, .int 1, .int 0, .int 900, .int 0, .int 0])), (s7, .inr (12, [.int 4, .int 3, .ref mf, .int 0, .int 0, .int 900, .int 0, .int 0])), (s8, .inr (12, [.int 6, .int 4, .ref mz, .int 0, .int 0, .int 900, .int 0, .int 0]))] [] t) (va_A (wd_k_sumWholeRopes z rg mf mm mz ma sa s0 s1 s2 s3 s4 s5 s6 s7 s8 cS) sz)) 0 0 (va_A (wd_k_sumWholeRopes z rg mf mm mz ma sa s0 s1 s2 s3 s4 s5 s6 s7 s8 cS) sz) := by
  refine Met.ofW (cc := cX7_sumWholeRopes) (maxL := 6) (ret := (some .int)) (by decide) rfl ?_
  intro p e s m args below meth c s₁ B hml hv
  obtain ⟨rfl, hsz, hP, hK, hD0, hM⟩ := hv
  have hx := B.exec
  have hb := B.bytes
  have hr := B.returns
  have hts := atoms_spec (ws := wsX7_sumWholeRopes) B.pre
  have hown : s.vm.findClass RX7 = some m.cls := findClass_of_methodNamed B.named
  have hlocks := B.notSynchronized
  have hiX7 : ∀ w ∈ u_ws RX7 TX7 6, w ∈ wsX7_sumWholeRopes := by decide +kernel
  have hiX8 : ∀ w ∈ u_ws RX8 TX8 8, w ∈ wsX7_sumWholeRopes := by decide +kernel
  subst hsz
  have hD := hD0.self (sz := s.heap.size)
  generalize hAe : va_A (wd_k_sumWholeRopes z rg mf mm mz ma sa s0 s1 s2 s3 s4 s5 s6 s7 s8 cS) s.heap.size = A at hD hM ⊢
  have hA : ∀ q : Nat, s.heap.size ≤ q → A q := fun q h => by rw [← hAe]; exact Or.inr h
  have hS : va_S A s.heap s.heap [] := va_S.rf
  have hP : va_P (dC, dI) vwCl [(rg, .inr (11, [.ref mf, .ref mm, .ref mz, .ref ma, .ref sa, .int 0])), (sa, .inl (cS, 9, .inr (.inr (.inr (.inr (va_up (va_up (va_up (va_up (va_up (va_up (va_up (va_up (va_up (fun _ => none) 0 (some s0)) 1 (some s1)) 2 (some s2)) 3 (some s3)) 4 (some s4)) 5 (some s5)) 6 (some s6)) 7 (some s7)) 8 (some s8))))))), (s0, .inr (12, [.int 8, .int 6, .ref mf, .int 1, .int 0, .int 900, .int 0, .int 0])), (s1, .inr (12, [.int 7, .int 5, .ref mf, .int 1, .int 0, .int 900, .int 0, .int 0])), (s2, .inr (12, [.int 3, .int 3, .ref mf, .int 1, .int 0, .int 900, .int 0, .int 0])), (s3, .inr (12, [.int 10, .int 8, .ref mm, .int 1, .int 0, .int 900, .int 0, .int 0])), (s4, .inr (12, [.int 9, .int 6, .ref mm, .int 1, .int 0, .int 900, .int 0, .int 0])), (s5, .inr (12, [.int 4, .int 3, .ref mm, .int 1, .int 0, .int 900, .int 0, .int 0])), (s6, .inr (12, [.int 5, .int 4, .ref mz, .int 1, .int 0, .int 900, .int 0, .int 0])), (s7, .inr (12, [.int 4, .int 3, .ref mf, .int 0, .int 0, .int 900, .int 0, .int 0])), (s8, .inr (12, [.int 6, .int 4, .ref mz, .int 0, .int 0, .int 900, .int 0, .int 0]))] s.heap := hP
  have hD : va_D A [(rg, .inr (11, [.ref mf, .ref mm, .ref mz, .ref ma, .ref sa, .int 0])), (sa, .inl (cS, 9, .inr (.inr (.inr (.inr (va_up (va_up (va_up (va_up (va_up (va_up (va_up (va_up (va_up (fun _ => none) 0 (some s0)) 1 (some s1)) 2 (some s2)) 3 (some s3)) 4 (some s4)) 5 (some s5)) 6 (some s6)) 7 (some s7)) 8 (some s8))))))), (s0, .inr (12, [.int 8, .int 6, .ref mf, .int 1, .int 0, .int 900, .int 0, .int 0])), (s1, .inr (12, [.int 7, .int 5, .ref mf, .int 1, .int 0, .int 900, .int 0, .int 0])), (s2, .inr (12, [.int 3, .int 3, .ref mf, .int 1, .int 0, .int 900, .int 0, .int 0])), (s3, .inr (12, [.int 10, .int 8, .ref mm, .int 1, .int 0, .int 900, .int 0, .int 0])), (s4, .inr (12, [.int 9, .int 6, .ref mm, .int 1, .int 0, .int 900, .int 0, .int 0])), (s5, .inr (12, [.int 4, .int 3, .ref mm, .int 1, .int 0, .int 900, .int 0, .int 0])), (s6, .inr (12, [.int 5, .int 4, .ref mz, .int 1, .int 0, .int 900, .int 0, .int 0])), (s7, .inr (12, [.int 4, .int 3, .ref mf, .int 0, .int 0, .int 900, .int 0, .int 0])), (s8, .inr (12, [.int 6, .int 4, .ref mz, .int 0, .int 0, .int 900, .int 0, .int 0]))] := hD
  have hl := lv_entry ([.ref rg]) (n := 6) (Nat.le_of_ble_eq_true rfl)
  rw [lg_entry_eq]
  generalize (lg_sl ([.ref rg]) ++ List.replicate (6 - (lg_sl ([.ref rg])).length) Slot.unset).toArray = ls at hl ⊢
  have hl : lv_has ls 6 [(0, .ref rg)] := hl
  refine lv_iconst (v := 0) hx hb dX7_sumWholeRopes_0 (by decide) ?_
  refine lv_istore_n (lv' := [(1, .int 0), (0, .ref rg)]) hx hb dX7_sumWholeRopes_1 rfl hl (by decide) rfl (fun ls hl => ?_)
  refine lv_aload_n hx hb dX7_sumWholeRopes_2 rfl (lv_at hl 1 rfl) ?_
  refine va_get (D := (dC, dI)) (ci := 11) (v := .ref sa) (C := RX7) (T := TX7) (N := 6) hx hb hts hiX7 hown hK hP 0 rfl rfl 4 (by decide) (hts (.fieldLink RX7 33 "SquareRig$Rig" "sails" "[LSquareRig$Sail;") (by decide +kernel)) (fun _ h9 => h9) rfl dX7_sumWholeRopes_3 ?_
  refine lv_astore_n (lv' := [(2, .ref sa), (1, .int 0), (0, .ref rg)]) hx hb dX7_sumWholeRopes_6 rfl hl (by decide) rfl (fun ls hl => ?_)
  refine lv_aload_n hx hb dX7_sumWholeRopes_7 rfl (lv_at hl 0 rfl) ?_
  refine va_alen (v := 9) hx hb hK hP 1 0 rfl rfl rfl dX7_sumWholeRopes_8 ?_
  refine lv_istore_n (lv' := [(3, .int 9), (2, .ref sa), (1, .int 0), (0, .ref rg)]) hx hb dX7_sumWholeRopes_9 rfl hl (by decide) rfl (fun ls hl => ?_)
  refine lv_iconst (v := 0) hx hb dX7_sumWholeRopes_10 (by decide) ?_
  refine lv_istore (lv' := [(4, .int 0), (3, .int 9), (2, .ref sa), (1, .int 0), (0, .ref rg)]) hx hb dX7_sumWholeRopes_11 hl (by decide) rfl (fun ls hl => ?_)
  refine lv_iload hx hb dX7_sumWholeRopes_13 (lv_at hl 0 rfl) ?_
  refine lv_iload_n hx hb dX7_sumWholeRopes_15 rfl (lv_at hl 1 rfl) ?_
  refine lv_icmp_ge (tgt := 47) hx hb dX7_sumWholeRopes_16 (by decide) (fun c_ => absurd c_ (by decide +kernel)) (fun _ => ?_)
  refine lv_aload_n hx hb dX7_sumWholeRopes_19 rfl (lv_at hl 2 rfl) ?_
  refine lv_iload hx hb dX7_sumWholeRopes_20 (lv_at hl 0 rfl) ?_
  refine va_aldq hx hb hK hP 1 0 rfl rfl (pk_in 0 9 (by decide) rfl) dX7_sumWholeRopes_22 ?_
  refine kc_v (y := .ref s0) rfl ?_
  refine lv_astore (lv' := [(5, .ref s0), (4, .int 0), (3, .int 9), (2, .ref sa), (1, .int 0), (0, .ref rg)]) hx hb dX7_sumWholeRopes_23 hl (by decide) rfl (fun ls hl => ?_)
  refine lv_aload hx hb dX7_sumWholeRopes_25 (lv_at hl 0 rfl) ?_
  refine va_getN (D := (dC, dI)) (ci := 12) (v := .int 0) (C := RX8) (T := TX8) (N := 8) hx hb hts hiX8 hown hK hP 2 rfl rfl 6 (by decide) (va_Nw.use rfl (hM.1 _ (List.mem_of_getElem? (i := 14) rfl))) (fun _ h9 => h9) rfl dX7_sumWholeRopes_27 ?_
  refine lv_if_ne (tgt := 41) hx hb dX7_sumWholeRopes_30 (by decide) (fun c_ => absurd (by decide +kernel) c_) (fun _ => ?_)
  refine lv_iload_n hx hb dX7_sumWholeRopes_33 rfl (lv_at hl 4 rfl) ?_
  refine lv_aload hx hb dX7_sumWholeRopes_34 (lv_at hl 0 rfl) ?_
  refine va_getN (D := (dC, dI)) (ci := 12) (v := .int 900) (C := RX8) (T := TX8) (N := 8) hx hb hts hiX8 hown hK hP 2 rfl rfl 5 (by decide) (va_Nw.use rfl (hM.1 _ (List.mem_of_getElem? (i := 12) rfl))) (fun _ h9 => h9) rfl dX7_sumWholeRopes_36 ?_
  refine lv_iadd hx hb dX7_sumWholeRopes_39 ?_
  refine kc_i (y := 900) (by decide +kernel) ?_
  refine lv_istore_n (lv' := [(1, .int 900), (5, .ref s0), (4, .int 0), (3, .int 9), (2, .ref sa), (0, .ref rg)]) hx hb dX7_sumWholeRopes_40 rfl hl (by decide) rfl (fun ls hl => ?_)
  refine lv_iinc (v := 1) (lv' := [(4, .int 1), (1, .int 900), (5, .ref s0), (3, .int 9), (2, .ref sa), (0, .ref rg)]) hx hb dX7_sumWholeRopes_41 hl (k := 2) rfl (by decide +kernel) (by decide) rfl (fun ls hl => ?_)
  refine lv_goto (tgt := 13) hx hb dX7_sumWholeRopes_44 (by decide) ?_
  refine lv_iload hx hb dX7_sumWholeRopes_13 (lv_at hl 0 rfl) ?_
  refine lv_iload_n hx hb dX7_sumWholeRopes_15 rfl (lv_at hl 3 rfl) ?_
  refine lv_icmp_ge (tgt := 47) hx hb dX7_sumWholeRopes_16 (by decide) (fun c_ => absurd c_ (by decide +kernel)) (fun _ => ?_)
  refine lv_aload_n hx hb dX7_sumWholeRopes_19 rfl (lv_at hl 4 rfl) ?_
  refine lv_iload hx hb dX7_sumWholeRopes_20 (lv_at hl 0 rfl) ?_
  refine va_aldq hx hb hK hP 1 0 rfl rfl (pk_in 1 9 (by decide) rfl) dX7_sumWholeRopes_22 ?_
  refine kc_v (y := .ref s1) rfl ?_
  refine lv_astore (lv' := [(5, .ref s1), (4, .int 1), (1, .int 900), (3, .int 9), (2, .ref sa), (0, .ref rg)]) hx hb dX7_sumWholeRopes_23 hl (by decide) rfl (fun ls hl => ?_)
  refine lv_aload hx hb dX7_sumWholeRopes_25 (lv_at hl 0 rfl) ?_
  refine va_getN (D := (dC, dI)) (ci := 12) (v := .int 0) (C := RX8) (T := TX8) (N := 8) hx hb hts hiX8 hown hK hP 3 rfl rfl 6 (by decide) (va_Nw.use rfl (hM.1 _ (List.mem_of_getElem? (i := 14) rfl))) (fun _ h9 => h9) rfl dX7_sumWholeRopes_27 ?_
  refine lv_if_ne (tgt := 41) hx hb dX7_sumWholeRopes_30 (by decide) (fun c_ => absurd (by decide +kernel) c_) (fun _ => ?_)
  refine lv_iload_n hx hb dX7_sumWholeRopes_33 rfl (lv_at hl 2 rfl) ?_
  refine lv_aload hx hb dX7_sumWholeRopes_34 (lv_at hl 0 rfl) ?_
  refine va_getN (D := (dC, dI)) (ci := 12) (v := .int 900) (C := RX8) (T := TX8) (N := 8) hx hb hts hiX8 hown hK hP 3 rfl rfl 5 (by decide) (va_Nw.use rfl (hM.1 _ (List.mem_of_getElem? (i := 12) rfl))) (fun _ h9 => h9) rfl dX7_sumWholeRopes_36 ?_
  refine lv_iadd hx hb dX7_sumWholeRopes_39 ?_
  refine kc_i (y := 1800) (by decide +kernel) ?_
  refine lv_istore_n (lv' := [(1, .int 1800), (5, .ref s1), (4, .int 1), (3, .int 9), (2, .ref sa), (0, .ref rg)]) hx hb dX7_sumWholeRopes_40 rfl hl (by decide) rfl (fun ls hl => ?_)
  refine lv_iinc (v := 2) (lv' := [(4, .int 2), (1, .int 1800), (5, .ref s1), (3, .int 9), (2, .ref sa), (0, .ref rg)]) hx hb dX7_sumWholeRopes_41 hl (k := 2) rfl (by decide +kernel) (by decide) rfl (fun ls hl => ?_)
  refine lv_goto (tgt := 13) hx hb dX7_sumWholeRopes_44 (by decide) ?_
  refine lv_iload hx hb dX7_sumWholeRopes_13 (lv_at hl 0 rfl) ?_
  refine lv_iload_n hx hb dX7_sumWholeRopes_15 rfl (lv_at hl 3 rfl) ?_
  refine lv_icmp_ge (tgt := 47) hx hb dX7_sumWholeRopes_16 (by decide) (fun c_ => absurd c_ (by decide +kernel)) (fun _ => ?_)
  refine lv_aload_n hx hb dX7_sumWholeRopes_19 rfl (lv_at hl 4 rfl) ?_
  refine lv_iload hx hb dX7_sumWholeRopes_20 (lv_at hl 0 rfl) ?_
  refine va_aldq hx hb hK hP 1 0 rfl rfl (pk_in 2 9 (by decide) rfl) dX7_sumWholeRopes_22 ?_
  refine kc_v (y := .ref s2) rfl ?_
  refine lv_astore (lv' := [(5, .ref s2), (4, .int 2), (1, .int 1800), (3, .int 9), (2, .ref sa), (0, .ref rg)]) hx hb dX7_sumWholeRopes_23 hl (by decide) rfl (fun ls hl => ?_)
  refine lv_aload hx hb dX7_sumWholeRopes_25 (lv_at hl 0 rfl) ?_
  refine va_getN (D := (dC, dI)) (ci := 12) (v := .int 0) (C := RX8) (T := TX8) (N := 8) hx hb hts hiX8 hown hK hP 4 rfl rfl 6 (by decide) (va_Nw.use rfl (hM.1 _ (List.mem_of_getElem? (i := 14) rfl))) (fun _ h9 => h9) rfl dX7_sumWholeRopes_27 ?_
  refine lv_if_ne (tgt := 41) hx hb dX7_sumWholeRopes_30 (by decide) (fun c_ => absurd (by decide +kernel) c_) (fun _ => ?_)
  refine lv_iload_n hx hb dX7_sumWholeRopes_33 rfl (lv_at hl 2 rfl) ?_
  refine lv_aload hx hb dX7_sumWholeRopes_34 (lv_at hl 0 rfl) ?_
  refine va_getN (D := (dC, dI)) (ci := 12) (v := .int 900) (C := RX8) (T := TX8) (N := 8) hx hb hts hiX8 hown hK hP 4 rfl rfl 5 (by decide) (va_Nw.use rfl (hM.1 _ (List.mem_of_getElem? (i := 12) rfl))) (fun _ h9 => h9) rfl dX7_sumWholeRopes_36 ?_
  refine lv_iadd hx hb dX7_sumWholeRopes_39 ?_
  refine kc_i (y := 2700) (by decide +kernel) ?_
  refine lv_istore_n (lv' := [(1, .int 2700), (5, .ref s2), (4, .int 2), (3, .int 9), (2, .ref sa), (0, .ref rg)]) hx hb dX7_sumWholeRopes_40 rfl hl (by decide) rfl (fun ls hl => ?_)
  refine lv_iinc (v := 3) (lv' := [(4, .int 3), (1, .int 2700), (5, .ref s2), (3, .int 9), (2, .ref sa), (0, .ref rg)]) hx hb dX7_sumWholeRopes_41 hl (k := 2) rfl (by decide +kernel) (by decide) rfl (fun ls hl => ?_)
  refine lv_goto (tgt := 13) hx hb dX7_sumWholeRopes_44 (by decide) ?_
  refine lv_iload hx hb dX7_sumWholeRopes_13 (lv_at hl 0 rfl) ?_
  refine lv_iload_n hx hb dX7_sumWholeRopes_15 rfl (lv_at hl 3 rfl) ?_
  refine lv_icmp_ge (tgt := 47) hx hb dX7_sumWholeRopes_16 (by decide) (fun c_ => absurd c_ (by decide +kernel)) (fun _ => ?_)
  refine lv_aload_n hx hb dX7_sumWholeRopes_19 rfl (lv_at hl 4 rfl) ?_
  refine lv_iload hx hb dX7_sumWholeRopes_20 (lv_at hl 0 rfl) ?_
  refine va_aldq hx hb hK hP 1 0 rfl rfl (pk_in 3 9 (by decide) rfl) dX7_sumWholeRopes_22 ?_
  refine kc_v (y := .ref s3) rfl ?_
  refine lv_astore (lv' := [(5, .ref s3), (4, .int 3), (1, .int 2700), (3, .int 9), (2, .ref sa), (0, .ref rg)]) hx hb dX7_sumWholeRopes_23 hl (by decide) rfl (fun ls hl => ?_)
  refine lv_aload hx hb dX7_sumWholeRopes_25 (lv_at hl 0 rfl) ?_
  refine va_getN (D := (dC, dI)) (ci := 12) (v := .int 0) (C := RX8) (T := TX8) (N := 8) hx hb hts hiX8 hown hK hP 5 rfl rfl 6 (by decide) (va_Nw.use rfl (hM.1 _ (List.mem_of_getElem? (i := 14) rfl))) (fun _ h9 => h9) rfl dX7_sumWholeRopes_27 ?_
  refine lv_if_ne (tgt := 41) hx hb dX7_sumWholeRopes_30 (by decide) (fun c_ => absurd (by decide +kernel) c_) (fun _ => ?_)
  refine lv_iload_n hx hb dX7_sumWholeRopes_33 rfl (lv_at hl 2 rfl) ?_
  refine lv_aload hx hb dX7_sumWholeRopes_34 (lv_at hl 0 rfl) ?_
  refine va_getN (D := (dC, dI)) (ci := 12) (v := .int 900) (C := RX8) (T := TX8) (N := 8) hx hb hts hiX8 hown hK hP 5 rfl rfl 5 (by decide) (va_Nw.use rfl (hM.1 _ (List.mem_of_getElem? (i := 12) rfl))) (fun _ h9 => h9) rfl dX7_sumWholeRopes_36 ?_
  refine lv_iadd hx hb dX7_sumWholeRopes_39 ?_
  refine kc_i (y := 3600) (by decide +kernel) ?_
  refine lv_istore_n (lv' := [(1, .int 3600), (5, .ref s3), (4, .int 3), (3, .int 9), (2, .ref sa), (0, .ref rg)]) hx hb dX7_sumWholeRopes_40 rfl hl (by decide) rfl (fun ls hl => ?_)
  refine lv_iinc (v := 4) (lv' := [(4, .int 4), (1, .int 3600), (5, .ref s3), (3, .int 9), (2, .ref sa), (0, .ref rg)]) hx hb dX7_sumWholeRopes_41 hl (k := 2) rfl (by decide +kernel) (by decide) rfl (fun ls hl => ?_)
  refine lv_goto (tgt := 13) hx hb dX7_sumWholeRopes_44 (by decide) ?_
  refine lv_iload hx hb dX7_sumWholeRopes_13 (lv_at hl 0 rfl) ?_
  refine lv_iload_n hx hb dX7_sumWholeRopes_15 rfl (lv_at hl 3 rfl) ?_
  refine lv_icmp_ge (tgt := 47) hx hb dX7_sumWholeRopes_16 (by decide) (fun c_ => absurd c_ (by decide +kernel)) (fun _ => ?_)
  refine lv_aload_n hx hb dX7_sumWholeRopes_19 rfl (lv_at hl 4 rfl) ?_
  refine lv_iload hx hb dX7_sumWholeRopes_20 (lv_at hl 0 rfl) ?_
  refine va_aldq hx hb hK hP 1 0 rfl rfl (pk_in 4 9 (by decide) rfl) dX7_sumWholeRopes_22 ?_
  refine kc_v (y := .ref s4) rfl ?_
  refine lv_astore (lv' := [(5, .ref s4), (4, .int 4), (1, .int 3600), (3, .int 9), (2, .ref sa), (0, .ref rg)]) hx hb dX7_sumWholeRopes_23 hl (by decide) rfl (fun ls hl => ?_)
  refine lv_aload hx hb dX7_sumWholeRopes_25 (lv_at hl 0 rfl) ?_
  refine va_getN (D := (dC, dI)) (ci := 12) (v := .int 0) (C := RX8) (T := TX8) (N := 8) hx hb hts hiX8 hown hK hP 6 rfl rfl 6 (by decide) (va_Nw.use rfl (hM.1 _ (List.mem_of_getElem? (i := 14) rfl))) (fun _ h9 => h9) rfl dX7_sumWholeRopes_27 ?_
  refine lv_if_ne (tgt := 41) hx hb dX7_sumWholeRopes_30 (by decide) (fun c_ => absurd (by decide +kernel) c_) (fun _ => ?_)
  refine lv_iload_n hx hb dX7_sumWholeRopes_33 rfl (lv_at hl 2 rfl) ?_
  refine lv_aload hx hb dX7_sumWholeRopes_34 (lv_at hl 0 rfl) ?_
  refine va_getN (D := (dC, dI)) (ci := 12) (v := .int 900) (C := RX8) (T := TX8) (N := 8) hx hb hts hiX8 hown hK hP 6 rfl rfl 5 (by decide) (va_Nw.use rfl (hM.1 _ (List.mem_of_getElem? (i := 12) rfl))) (fun _ h9 => h9) rfl dX7_sumWholeRopes_36 ?_
  refine lv_iadd hx hb dX7_sumWholeRopes_39 ?_
  refine kc_i (y := 4500) (by decide +kernel) ?_
  refine lv_istore_n (lv' := [(1, .int 4500), (5, .ref s4), (4, .int 4), (3, .int 9), (2, .ref sa), (0, .ref rg)]) hx hb dX7_sumWholeRopes_40 rfl hl (by decide) rfl (fun ls hl => ?_)
  refine lv_iinc (v := 5) (lv' := [(4, .int 5), (1, .int 4500), (5, .ref s4), (3, .int 9), (2, .ref sa), (0, .ref rg)]) hx hb dX7_sumWholeRopes_41 hl (k := 2) rfl (by decide +kernel) (by decide) rfl (fun ls hl => ?_)
  refine lv_goto (tgt := 13) hx hb dX7_sumWholeRopes_44 (by decide) ?_
  refine lv_iload hx hb dX7_sumWholeRopes_13 (lv_at hl 0 rfl) ?_
  refine lv_iload_n hx hb dX7_sumWholeRopes_15 rfl (lv_at hl 3 rfl) ?_
  refine lv_icmp_ge (tgt := 47) hx hb dX7_sumWholeRopes_16 (by decide) (fun c_ => absurd c_ (by decide +kernel)) (fun _ => ?_)
  refine lv_aload_n hx hb dX7_sumWholeRopes_19 rfl (lv_at hl 4 rfl) ?_
  refine lv_iload hx hb dX7_sumWholeRopes_20 (lv_at hl 0 rfl) ?_
  refine va_aldq hx hb hK hP 1 0 rfl rfl (pk_in 5 9 (by decide) rfl) dX7_sumWholeRopes_22 ?_
  refine kc_v (y := .ref s5) rfl ?_
  refine lv_astore (lv' := [(5, .ref s5), (4, .int 5), (1, .int 4500), (3, .int 9), (2, .ref sa), (0, .ref rg)]) hx hb dX7_sumWholeRopes_23 hl (by decide) rfl (fun ls hl => ?_)
  refine lv_aload hx hb dX7_sumWholeRopes_25 (lv_at hl 0 rfl) ?_
  refine va_getN (D := (dC, dI)) (ci := 12) (v := .int 0) (C := RX8) (T := TX8) (N := 8) hx hb hts hiX8 hown hK hP 7 rfl rfl 6 (by decide) (va_Nw.use rfl (hM.1 _ (List.mem_of_getElem? (i := 14) rfl))) (fun _ h9 => h9) rfl dX7_sumWholeRopes_27 ?_
  refine lv_if_ne (tgt := 41) hx hb dX7_sumWholeRopes_30 (by decide) (fun c_ => absurd (by decide +kernel) c_) (fun _ => ?_)
  refine lv_iload_n hx hb dX7_sumWholeRopes_33 rfl (lv_at hl 2 rfl) ?_
  refine lv_aload hx hb dX7_sumWholeRopes_34 (lv_at hl 0 rfl) ?_
  refine va_getN (D := (dC, dI)) (ci := 12) (v := .int 900) (C := RX8) (T := TX8) (N := 8) hx hb hts hiX8 hown hK hP 7 rfl rfl 5 (by decide) (va_Nw.use rfl (hM.1 _ (List.mem_of_getElem? (i := 12) rfl))) (fun _ h9 => h9) rfl dX7_sumWholeRopes_36 ?_
  refine lv_iadd hx hb dX7_sumWholeRopes_39 ?_
  refine kc_i (y := 5400) (by decide +kernel) ?_
  refine lv_istore_n (lv' := [(1, .int 5400), (5, .ref s5), (4, .int 5), (3, .int 9), (2, .ref sa), (0, .ref rg)]) hx hb dX7_sumWholeRopes_40 rfl hl (by decide) rfl (fun ls hl => ?_)
  refine lv_iinc (v := 6) (lv' := [(4, .int 6), (1, .int 5400), (5, .ref s5), (3, .int 9), (2, .ref sa), (0, .ref rg)]) hx hb dX7_sumWholeRopes_41 hl (k := 2) rfl (by decide +kernel) (by decide) rfl (fun ls hl => ?_)
  refine lv_goto (tgt := 13) hx hb dX7_sumWholeRopes_44 (by decide) ?_
  refine lv_iload hx hb dX7_sumWholeRopes_13 (lv_at hl 0 rfl) ?_
  refine lv_iload_n hx hb dX7_sumWholeRopes_15 rfl (lv_at hl 3 rfl) ?_
  refine lv_icmp_ge (tgt := 47) hx hb dX7_sumWholeRopes_16 (by decide) (fun c_ => absurd c_ (by decide +kernel)) (fun _ => ?_)
  refine lv_aload_n hx hb dX7_sumWholeRopes_19 rfl (lv_at hl 4 rfl) ?_
  refine lv_iload hx hb dX7_sumWholeRopes_20 (lv_at hl 0 rfl) ?_
  refine va_aldq hx hb hK hP 1 0 rfl rfl (pk_in 6 9 (by decide) rfl) dX7_sumWholeRopes_22 ?_
  refine kc_v (y := .ref s6) rfl ?_
  refine lv_astore (lv' := [(5, .ref s6), (4, .int 6), (1, .int 5400), (3, .int 9), (2, .ref sa), (0, .ref rg)]) hx hb dX7_sumWholeRopes_23 hl (by decide) rfl (fun ls hl => ?_)
  refine lv_aload hx hb dX7_sumWholeRopes_25 (lv_at hl 0 rfl) ?_
  refine va_getN (D := (dC, dI)) (ci := 12) (v := .int 0) (C := RX8) (T := TX8) (N := 8) hx hb hts hiX8 hown hK hP 8 rfl rfl 6 (by decide) (va_Nw.use rfl (hM.1 _ (List.mem_of_getElem? (i := 14) rfl))) (fun _ h9 => h9) rfl dX7_sumWholeRopes_27 ?_
  refine lv_if_ne (tgt := 41) hx hb dX7_sumWholeRopes_30 (by decide) (fun c_ => absurd (by decide +kernel) c_) (fun _ => ?_)
  refine lv_iload_n hx hb dX7_sumWholeRopes_33 rfl (lv_at hl 2 rfl) ?_
  refine lv_aload hx hb dX7_sumWholeRopes_34 (lv_at hl 0 rfl) ?_
  refine va_getN (D := (dC, dI)) (ci := 12) (v := .int 900) (C := RX8) (T := TX8) (N := 8) hx hb hts hiX8 hown hK hP 8 rfl rfl 5 (by decide) (va_Nw.use rfl (hM.1 _ (List.mem_of_getElem? (i := 12) rfl))) (fun _ h9 => h9) rfl dX7_sumWholeRopes_36 ?_
  refine lv_iadd hx hb dX7_sumWholeRopes_39 ?_
  refine kc_i (y := 6300) (by decide +kernel) ?_
  refine lv_istore_n (lv' := [(1, .int 6300), (5, .ref s6), (4, .int 6), (3, .int 9), (2, .ref sa), (0, .ref rg)]) hx hb dX7_sumWholeRopes_40 rfl hl (by decide) rfl (fun ls hl => ?_)
  refine lv_iinc (v := 7) (lv' := [(4, .int 7), (1, .int 6300), (5, .ref s6), (3, .int 9), (2, .ref sa), (0, .ref rg)]) hx hb dX7_sumWholeRopes_41 hl (k := 2) rfl (by decide +kernel) (by decide) rfl (fun ls hl => ?_)
  refine lv_goto (tgt := 13) hx hb dX7_sumWholeRopes_44 (by decide) ?_
  refine lv_iload hx hb dX7_sumWholeRopes_13 (lv_at hl 0 rfl) ?_
  refine lv_iload_n hx hb dX7_sumWholeRopes_15 rfl (lv_at hl 3 rfl) ?_
  refine lv_icmp_ge (tgt := 47) hx hb dX7_sumWholeRopes_16 (by decide) (fun c_ => absurd c_ (by decide +kernel)) (fun _ => ?_)
  refine lv_aload_n hx hb dX7_sumWholeRopes_19 rfl (lv_at hl 4 rfl) ?_
  refine lv_iload hx hb dX7_sumWholeRopes_20 (lv_at hl 0 rfl) ?_
  refine va_aldq hx hb hK hP 1 0 rfl rfl (pk_in 7 9 (by decide) rfl) dX7_sumWholeRopes_22 ?_
  refine kc_v (y := .ref s7) rfl ?_
  refine lv_astore (lv' := [(5, .ref s7), (4, .int 7), (1, .int 6300), (3, .int 9), (2, .ref sa), (0, .ref rg)]) hx hb dX7_sumWholeRopes_23 hl (by decide) rfl (fun ls hl => ?_)
  refine lv_aload hx hb dX7_sumWholeRopes_25 (lv_at hl 0 rfl) ?_
  refine va_getN (D := (dC, dI)) (ci := 12) (v := .int 0) (C := RX8) (T := TX8) (N := 8) hx hb hts hiX8 hown hK hP 9 rfl rfl 6 (by decide) (va_Nw.use rfl (hM.1 _ (List.mem_of_getElem? (i := 14) rfl))) (fun _ h9 => h9) rfl dX7_sumWholeRopes_27 ?_
  refine lv_if_ne (tgt := 41) hx hb dX7_sumWholeRopes_30 (by decide) (fun c_ => absurd (by decide +kernel) c_) (fun _ => ?_)
  refine lv_iload_n hx hb dX7_sumWholeRopes_33 rfl (lv_at hl 2 rfl) ?_
  refine lv_aload hx hb dX7_sumWholeRopes_34 (lv_at hl 0 rfl) ?_
  refine va_getN (D := (dC, dI)) (ci := 12) (v := .int 900) (C := RX8) (T := TX8) (N := 8) hx hb hts hiX8 hown hK hP 9 rfl rfl 5 (by decide) (va_Nw.use rfl (hM.1 _ (List.mem_of_getElem? (i := 12) rfl))) (fun _ h9 => h9) rfl dX7_sumWholeRopes_36 ?_
  refine lv_iadd hx hb dX7_sumWholeRopes_39 ?_
  refine kc_i (y := 7200) (by decide +kernel) ?_
  refine lv_istore_n (lv' := [(1, .int 7200), (5, .ref s7), (4, .int 7), (3, .int 9), (2, .ref sa), (0, .ref rg)]) hx hb dX7_sumWholeRopes_40 rfl hl (by decide) rfl (fun ls hl => ?_)
  refine lv_iinc (v := 8) (lv' := [(4, .int 8), (1, .int 7200), (5, .ref s7), (3, .int 9), (2, .ref sa), (0, .ref rg)]) hx hb dX7_sumWholeRopes_41 hl (k := 2) rfl (by decide +kernel) (by decide) rfl (fun ls hl => ?_)
  refine lv_goto (tgt := 13) hx hb dX7_sumWholeRopes_44 (by decide) ?_
  refine lv_iload hx hb dX7_sumWholeRopes_13 (lv_at hl 0 rfl) ?_
  refine lv_iload_n hx hb dX7_sumWholeRopes_15 rfl (lv_at hl 3 rfl) ?_
  refine lv_icmp_ge (tgt := 47) hx hb dX7_sumWholeRopes_16 (by decide) (fun c_ => absurd c_ (by decide +kernel)) (fun _ => ?_)
  refine lv_aload_n hx hb dX7_sumWholeRopes_19 rfl (lv_at hl 4 rfl) ?_
  refine lv_iload hx hb dX7_sumWholeRopes_20 (lv_at hl 0 rfl) ?_
  refine va_aldq hx hb hK hP 1 0 rfl rfl (pk_in 8 9 (by decide) rfl) dX7_sumWholeRopes_22 ?_
  refine kc_v (y := .ref s8) rfl ?_
  refine lv_astore (lv' := [(5, .ref s8), (4, .int 8), (1, .int 7200), (3, .int 9), (2, .ref sa), (0, .ref rg)]) hx hb dX7_sumWholeRopes_23 hl (by decide) rfl (fun ls hl => ?_)
  refine lv_aload hx hb dX7_sumWholeRopes_25 (lv_at hl 0 rfl) ?_
  refine va_getN (D := (dC, dI)) (ci := 12) (v := .int 0) (C := RX8) (T := TX8) (N := 8) hx hb hts hiX8 hown hK hP 10 rfl rfl 6 (by decide) (va_Nw.use rfl (hM.1 _ (List.mem_of_getElem? (i := 14) rfl))) (fun _ h9 => h9) rfl dX7_sumWholeRopes_27 ?_
  refine lv_if_ne (tgt := 41) hx hb dX7_sumWholeRopes_30 (by decide) (fun c_ => absurd (by decide +kernel) c_) (fun _ => ?_)
  refine lv_iload_n hx hb dX7_sumWholeRopes_33 rfl (lv_at hl 2 rfl) ?_
  refine lv_aload hx hb dX7_sumWholeRopes_34 (lv_at hl 0 rfl) ?_
  refine va_getN (D := (dC, dI)) (ci := 12) (v := .int 900) (C := RX8) (T := TX8) (N := 8) hx hb hts hiX8 hown hK hP 10 rfl rfl 5 (by decide) (va_Nw.use rfl (hM.1 _ (List.mem_of_getElem? (i := 12) rfl))) (fun _ h9 => h9) rfl dX7_sumWholeRopes_36 ?_
  refine lv_iadd hx hb dX7_sumWholeRopes_39 ?_
  refine kc_i (y := 8100) (by decide +kernel) ?_
  refine lv_istore_n (lv' := [(1, .int 8100), (5, .ref s8), (4, .int 8), (3, .int 9), (2, .ref sa), (0, .ref rg)]) hx hb dX7_sumWholeRopes_40 rfl hl (by decide) rfl (fun ls hl => ?_)
  refine lv_iinc (v := 9) (lv' := [(4, .int 9), (1, .int 8100), (5, .ref s8), (3, .int 9), (2, .ref sa), (0, .ref rg)]) hx hb dX7_sumWholeRopes_41 hl (k := 2) rfl (by decide +kernel) (by decide) rfl (fun ls hl => ?_)
  refine lv_goto (tgt := 13) hx hb dX7_sumWholeRopes_44 (by decide) ?_
  refine lv_iload hx hb dX7_sumWholeRopes_13 (lv_at hl 0 rfl) ?_
  refine lv_iload_n hx hb dX7_sumWholeRopes_15 rfl (lv_at hl 3 rfl) ?_
  refine lv_icmp_ge (tgt := 47) hx hb dX7_sumWholeRopes_16 (by decide) (fun _ => ?_) (fun c_ => absurd (by decide +kernel) c_)
  refine lv_iload_n hx hb dX7_sumWholeRopes_47 rfl (lv_at hl 1 rfl) ?_
  exact W.iret (v := 8100) hx hb hr (fun t ht hW => ⟨⟨8100, (), rfl, rfl, kB_end (w9 := [(rg, .inr (11, [.ref mf, .ref mm, .ref mz, .ref ma, .ref sa, .int 0])), (sa, .inl (cS, 9, .inr (.inr (.inr (.inr (va_up (va_up (va_up (va_up (va_up (va_up (va_up (va_up (va_up (fun _ => none) 0 (some s0)) 1 (some s1)) 2 (some s2)) 3 (some s3)) 4 (some s4)) 5 (some s5)) 6 (some s6)) 7 (some s7)) 8 (some s8))))))), (s0, .inr (12, [.int 8, .int 6, .ref mf, .int 1, .int 0, .int 900, .int 0, .int 0])), (s1, .inr (12, [.int 7, .int 5, .ref mf, .int 1, .int 0, .int 900, .int 0, .int 0])), (s2, .inr (12, [.int 3, .int 3, .ref mf, .int 1, .int 0, .int 900, .int 0, .int 0])), (s3, .inr (12, [.int 10, .int 8, .ref mm, .int 1, .int 0, .int 900, .int 0, .int 0])), (s4, .inr (12, [.int 9, .int 6, .ref mm, .int 1, .int 0, .int 900, .int 0, .int 0])), (s5, .inr (12, [.int 4, .int 3, .ref mm, .int 1, .int 0, .int 900, .int 0, .int 0])), (s6, .inr (12, [.int 5, .int 4, .ref mz, .int 1, .int 0, .int 900, .int 0, .int 0])), (s7, .inr (12, [.int 4, .int 3, .ref mf, .int 0, .int 0, .int 900, .int 0, .int 0])), (s8, .inr (12, [.int 6, .int 4, .ref mz, .int 0, .int 0, .int 900, .int 0, .int 0]))]) (t9 := []) hP hK hD [0, 1, 2, 3, 4, 5, 6, 7, 8, 9, 10] [] rfl (by decide) rfl rfl t ht hW⟩, hS.F ht⟩) hS.2.2 dX7_sumWholeRopes_48
abbrev wd_k_x_setShare (z : Nat → Nat) (sh : Nat) (rg : Nat) (mf : Nat) (mm : Nat) (mz : Nat) (ma : Nat) (sa : Nat) (s0 : Nat) (s1 : Nat) (s2 : Nat) (s3 : Nat) (s4 : Nat) (s5 : Nat) (s6 : Nat) (s7 : Nat) (s8 : Nat) (dk : Nat) (hd : Nat) (lg : Nat) (pl : Nat) (pr : Nat) (cS : ClassId) (x : Nat) (tl : Nat) (tw : Nat) : va_W := [(x, .inr (15, [.ref sh, .ref tl, .ref tw, .int 0])), (sh, .inr (13, [.ref rg, .ref dk, .ref hd, .ref lg, .ref pl, .ref pr, .int 0, .int 0, .int 0, .int 0, .int 0, .int 0, .int 0, .int 0, .int 0, .int 0, .int 0])), (rg, .inr (11, [.ref mf, .ref mm, .ref mz, .ref ma, .ref sa, .int 0])), (sa, .inl (cS, 9, .inr (.inr (.inr (.inr (va_up (va_up (va_up (va_up (va_up (va_up (va_up (va_up (va_up (fun _ => none) 0 (some s0)) 1 (some s1)) 2 (some s2)) 3 (some s3)) 4 (some s4)) 5 (some s5)) 6 (some s6)) 7 (some s7)) 8 (some s8))))))), (s0, .inr (12, [.int 8, .int 6, .ref mf, .int 1, .int 0, .int 900, .int 0, .int 0])), (s1, .inr (12, [.int 7, .int 5, .ref mf, .int 1, .int 0, .int 900, .int 0, .int 0])), (s2, .inr (12, [.int 3, .int 3, .ref mf, .int 1, .int 0, .int 900, .int 0, .int 0])), (s3, .inr (12, [.int 10, .int 8, .ref mm, .int 1, .int 0, .int 900, .int 0, .int 0])), (s4, .inr (12, [.int 9, .int 6, .ref mm, .int 1, .int 0, .int 900, .int 0, .int 0])), (s5, .inr (12, [.int 4, .int 3, .ref mm, .int 1, .int 0, .int 900, .int 0, .int 0])), (s6, .inr (12, [.int 5, .int 4, .ref mz, .int 1, .int 0, .int 900, .int 0, .int 0])), (s7, .inr (12, [.int 4, .int 3, .ref mf, .int 0, .int 0, .int 900, .int 0, .int 0])), (s8, .inr (12, [.int 6, .int 4, .ref mz, .int 0, .int 0, .int 900, .int 0, .int 0]))]
set_option maxHeartbeats 4000000 in
set_option maxRecDepth 100000 in
theorem k_x_setShare (l : Launch) (dC : Nat → ClassId) (dI : Nat → Nat → Nat) (z zK zV : Nat → Nat) (sh : Nat) (rg : Nat) (mf : Nat) (mm : Nat) (mz : Nat) (ma : Nat) (sa : Nat) (s0 : Nat) (s1 : Nat) (s2 : Nat) (s3 : Nat) (s4 : Nat) (s5 : Nat) (s6 : Nat) (s7 : Nat) (s8 : Nat) (dk : Nat) (hd : Nat) (lg : Nat) (pl : Nat) (pr : Nat) (cS : ClassId) (x : Nat) (tl : Nat) (tw : Nat) (sz : Nat)  : Met l yX11_setShare wsX11_setShare ({ frames := 1, cells := 0, slots := 0, locals := 25 }) (kP dC dI z zK zV [.ref x] sz (wd_k_x_setShare z sh rg mf mm mz ma sa s0 s1 s2 s3 s4 s5 s6 s7 s8 dk hd lg pl pr cS x tl tw) [(cS, .object RX8)]) (va_Qf (fun (r : UInt32) (_ : Unit) => 0 = r) (fun _ t => kB (dC, dI) (va_A (wd_k_x_setShare z sh rg mf mm mz ma sa s0 s1 s2 s3 s4 s5 s6 s7 s8 dk hd lg pl pr cS x tl tw) sz) [] [] t) (va_A (wd_k_x_setShare z sh rg mf mm mz ma sa s0 s1 s2 s3 s4 s5 s6 s7 s8 dk hd lg pl pr cS x tl tw) sz)) 0 0 (va_A (wd_k_x_setShare z sh rg mf mm mz ma sa s0 s1 s2 s3 s4 s5 s6 s7 s8 dk hd lg pl pr cS x tl tw) sz) := by
  refine Met.ofW (cc := cX11_setShare) (maxL := 1) (ret := (some .float)) (by decide) rfl ?_
  intro p e s m args below meth c s₁ B hml hv
  obtain ⟨rfl, hsz, hP, hK, hD0, hM⟩ := hv
  have hx := B.exec
  have hb := B.bytes
  have hr := B.returns
  have hts := atoms_spec (ws := wsX11_setShare) B.pre
  have hown : s.vm.findClass RX11 = some m.cls := findClass_of_methodNamed B.named
  have hlocks := B.notSynchronized
  have hiX11 : ∀ w ∈ u_ws RX11 TX11 4, w ∈ wsX11_setShare := by decide +kernel
  have hiX9 : ∀ w ∈ u_ws RX9 TX9 17, w ∈ wsX11_setShare := by decide +kernel
  subst hsz
  have hD := hD0.self (sz := s.heap.size)
  generalize hAe : va_A (wd_k_x_setShare z sh rg mf mm mz ma sa s0 s1 s2 s3 s4 s5 s6 s7 s8 dk hd lg pl pr cS x tl tw) s.heap.size = A at hD hM ⊢
  have hA : ∀ q : Nat, s.heap.size ≤ q → A q := fun q h => by rw [← hAe]; exact Or.inr h
  have hS : va_S A s.heap s.heap [] := va_S.rf
  have hP : va_P (dC, dI) vwCl [(x, .inr (15, [.ref sh, .ref tl, .ref tw, .int 0])), (sh, .inr (13, [.ref rg, .ref dk, .ref hd, .ref lg, .ref pl, .ref pr, .int 0, .int 0, .int 0, .int 0, .int 0, .int 0, .int 0, .int 0, .int 0, .int 0, .int 0])), (rg, .inr (11, [.ref mf, .ref mm, .ref mz, .ref ma, .ref sa, .int 0])), (sa, .inl (cS, 9, .inr (.inr (.inr (.inr (va_up (va_up (va_up (va_up (va_up (va_up (va_up (va_up (va_up (fun _ => none) 0 (some s0)) 1 (some s1)) 2 (some s2)) 3 (some s3)) 4 (some s4)) 5 (some s5)) 6 (some s6)) 7 (some s7)) 8 (some s8))))))), (s0, .inr (12, [.int 8, .int 6, .ref mf, .int 1, .int 0, .int 900, .int 0, .int 0])), (s1, .inr (12, [.int 7, .int 5, .ref mf, .int 1, .int 0, .int 900, .int 0, .int 0])), (s2, .inr (12, [.int 3, .int 3, .ref mf, .int 1, .int 0, .int 900, .int 0, .int 0])), (s3, .inr (12, [.int 10, .int 8, .ref mm, .int 1, .int 0, .int 900, .int 0, .int 0])), (s4, .inr (12, [.int 9, .int 6, .ref mm, .int 1, .int 0, .int 900, .int 0, .int 0])), (s5, .inr (12, [.int 4, .int 3, .ref mm, .int 1, .int 0, .int 900, .int 0, .int 0])), (s6, .inr (12, [.int 5, .int 4, .ref mz, .int 1, .int 0, .int 900, .int 0, .int 0])), (s7, .inr (12, [.int 4, .int 3, .ref mf, .int 0, .int 0, .int 900, .int 0, .int 0])), (s8, .inr (12, [.int 6, .int 4, .ref mz, .int 0, .int 0, .int 900, .int 0, .int 0]))] s.heap := hP
  have hD : va_D A [(x, .inr (15, [.ref sh, .ref tl, .ref tw, .int 0])), (sh, .inr (13, [.ref rg, .ref dk, .ref hd, .ref lg, .ref pl, .ref pr, .int 0, .int 0, .int 0, .int 0, .int 0, .int 0, .int 0, .int 0, .int 0, .int 0, .int 0])), (rg, .inr (11, [.ref mf, .ref mm, .ref mz, .ref ma, .ref sa, .int 0])), (sa, .inl (cS, 9, .inr (.inr (.inr (.inr (va_up (va_up (va_up (va_up (va_up (va_up (va_up (va_up (va_up (fun _ => none) 0 (some s0)) 1 (some s1)) 2 (some s2)) 3 (some s3)) 4 (some s4)) 5 (some s5)) 6 (some s6)) 7 (some s7)) 8 (some s8))))))), (s0, .inr (12, [.int 8, .int 6, .ref mf, .int 1, .int 0, .int 900, .int 0, .int 0])), (s1, .inr (12, [.int 7, .int 5, .ref mf, .int 1, .int 0, .int 900, .int 0, .int 0])), (s2, .inr (12, [.int 3, .int 3, .ref mf, .int 1, .int 0, .int 900, .int 0, .int 0])), (s3, .inr (12, [.int 10, .int 8, .ref mm, .int 1, .int 0, .int 900, .int 0, .int 0])), (s4, .inr (12, [.int 9, .int 6, .ref mm, .int 1, .int 0, .int 900, .int 0, .int 0])), (s5, .inr (12, [.int 4, .int 3, .ref mm, .int 1, .int 0, .int 900, .int 0, .int 0])), (s6, .inr (12, [.int 5, .int 4, .ref mz, .int 1, .int 0, .int 900, .int 0, .int 0])), (s7, .inr (12, [.int 4, .int 3, .ref mf, .int 0, .int 0, .int 900, .int 0, .int 0])), (s8, .inr (12, [.int 6, .int 4, .ref mz, .int 0, .int 0, .int 900, .int 0, .int 0]))] := hD
  have hl := lv_entry ([.ref x]) (n := 1) (Nat.le_of_ble_eq_true rfl)
  rw [lg_entry_eq]
  generalize (lg_sl ([.ref x]) ++ List.replicate (1 - (lg_sl ([.ref x])).length) Slot.unset).toArray = ls at hl ⊢
  have hl : lv_has ls 1 [(0, .ref x)] := hl
  refine lv_aload_n hx hb dX11_setShare_0 rfl (lv_at hl 0 rfl) ?_
  refine va_get (D := (dC, dI)) (ci := 15) (v := .ref sh) (C := RX11) (T := TX11) (N := 4) hx hb hts hiX11 hown hK hP 0 rfl rfl 0 (by decide) (hts (.fieldLink RX11 10 "SquareRig" "ship" "LSquareRig$Ship;") (by decide +kernel)) (fun _ h9 => h9) rfl dX11_setShare_1 ?_
  refine va_getN (D := (dC, dI)) (ci := 13) (v := .ref rg) (C := RX9) (T := TX9) (N := 17) hx hb hts hiX9 hown hK hP 1 rfl rfl 0 (by decide) (va_Nw.use rfl (hM.1 _ (List.mem_of_getElem? (i := 36) rfl))) (fun _ h9 => h9) rfl dX11_setShare_4 ?_
  have hPc := hP.sub (ws' := [(rg, .inr (11, [.ref mf, .ref mm, .ref mz, .ref ma, .ref sa, .int 0])), (sa, .inl (cS, 9, .inr (.inr (.inr (.inr (va_up (va_up (va_up (va_up (va_up (va_up (va_up (va_up (va_up (fun _ => none) 0 (some s0)) 1 (some s1)) 2 (some s2)) 3 (some s3)) 4 (some s4)) 5 (some s5)) 6 (some s6)) 7 (some s7)) 8 (some s8))))))), (s0, .inr (12, [.int 8, .int 6, .ref mf, .int 1, .int 0, .int 900, .int 0, .int 0])), (s1, .inr (12, [.int 7, .int 5, .ref mf, .int 1, .int 0, .int 900, .int 0, .int 0])), (s2, .inr (12, [.int 3, .int 3, .ref mf, .int 1, .int 0, .int 900, .int 0, .int 0])), (s3, .inr (12, [.int 10, .int 8, .ref mm, .int 1, .int 0, .int 900, .int 0, .int 0])), (s4, .inr (12, [.int 9, .int 6, .ref mm, .int 1, .int 0, .int 900, .int 0, .int 0])), (s5, .inr (12, [.int 4, .int 3, .ref mm, .int 1, .int 0, .int 900, .int 0, .int 0])), (s6, .inr (12, [.int 5, .int 4, .ref mz, .int 1, .int 0, .int 900, .int 0, .int 0])), (s7, .inr (12, [.int 4, .int 3, .ref mf, .int 0, .int 0, .int 900, .int 0, .int 0])), (s8, .inr (12, [.int 6, .int 4, .ref mz, .int 0, .int 0, .int 900, .int 0, .int 0]))]) [2, 3, 4, 5, 6, 7, 8, 9, 10, 11, 12] rfl
  have hDc := hD.sub (ws' := [(rg, .inr (11, [.ref mf, .ref mm, .ref mz, .ref ma, .ref sa, .int 0])), (sa, .inl (cS, 9, .inr (.inr (.inr (.inr (va_up (va_up (va_up (va_up (va_up (va_up (va_up (va_up (va_up (fun _ => none) 0 (some s0)) 1 (some s1)) 2 (some s2)) 3 (some s3)) 4 (some s4)) 5 (some s5)) 6 (some s6)) 7 (some s7)) 8 (some s8))))))), (s0, .inr (12, [.int 8, .int 6, .ref mf, .int 1, .int 0, .int 900, .int 0, .int 0])), (s1, .inr (12, [.int 7, .int 5, .ref mf, .int 1, .int 0, .int 900, .int 0, .int 0])), (s2, .inr (12, [.int 3, .int 3, .ref mf, .int 1, .int 0, .int 900, .int 0, .int 0])), (s3, .inr (12, [.int 10, .int 8, .ref mm, .int 1, .int 0, .int 900, .int 0, .int 0])), (s4, .inr (12, [.int 9, .int 6, .ref mm, .int 1, .int 0, .int 900, .int 0, .int 0])), (s5, .inr (12, [.int 4, .int 3, .ref mm, .int 1, .int 0, .int 900, .int 0, .int 0])), (s6, .inr (12, [.int 5, .int 4, .ref mz, .int 1, .int 0, .int 900, .int 0, .int 0])), (s7, .inr (12, [.int 4, .int 3, .ref mf, .int 0, .int 0, .int 900, .int 0, .int 0])), (s8, .inr (12, [.int 6, .int 4, .ref mz, .int 0, .int 0, .int 900, .int 0, .int 0]))]) [2, 3, 4, 5, 6, 7, 8, 9, 10, 11, 12] (by decide) rfl
  have hKc := hK.sub (tys' := [(cS, .object RX8)]) [0] rfl
  have hFc := va_free (wc := [(rg, .inr (11, [.ref mf, .ref mm, .ref mz, .ref ma, .ref sa, .int 0])), (sa, .inl (cS, 9, .inr (.inr (.inr (.inr (va_up (va_up (va_up (va_up (va_up (va_up (va_up (va_up (va_up (fun _ => none) 0 (some s0)) 1 (some s1)) 2 (some s2)) 3 (some s3)) 4 (some s4)) 5 (some s5)) 6 (some s6)) 7 (some s7)) 8 (some s8))))))), (s0, .inr (12, [.int 8, .int 6, .ref mf, .int 1, .int 0, .int 900, .int 0, .int 0])), (s1, .inr (12, [.int 7, .int 5, .ref mf, .int 1, .int 0, .int 900, .int 0, .int 0])), (s2, .inr (12, [.int 3, .int 3, .ref mf, .int 1, .int 0, .int 900, .int 0, .int 0])), (s3, .inr (12, [.int 10, .int 8, .ref mm, .int 1, .int 0, .int 900, .int 0, .int 0])), (s4, .inr (12, [.int 9, .int 6, .ref mm, .int 1, .int 0, .int 900, .int 0, .int 0])), (s5, .inr (12, [.int 4, .int 3, .ref mm, .int 1, .int 0, .int 900, .int 0, .int 0])), (s6, .inr (12, [.int 5, .int 4, .ref mz, .int 1, .int 0, .int 900, .int 0, .int 0])), (s7, .inr (12, [.int 4, .int 3, .ref mf, .int 0, .int 0, .int 900, .int 0, .int 0])), (s8, .inr (12, [.int 6, .int 4, .ref mz, .int 0, .int 0, .int 900, .int 0, .int 0]))]) hD hS hA [2, 3, 4, 5, 6, 7, 8, 9, 10, 11, 12] rfl
  refine va_calli (va_runV (As := []) (rest := []) ⟨hx, hb, hml, hown, hts⟩ (k_countSet l dC dI z zK zV rg mf mm mz ma sa s0 s1 s2 s3 s4 s5 s6 s7 s8 cS s.heap.size) (cwV 0 hts gX11_setShare_X7_countSet rfl rfl rfl (by decide +kernel) ⟨Nat.le_of_ble_eq_true rfl, Nat.le_of_ble_eq_true rfl⟩) ⟨kP_blind, va_recv hKc hPc (ci := 11) (q0 := 0) rfl rfl, kP_go hPc hKc hDc hFc hM hS⟩ rfl rfl hl.1 rfl (lv_room (Nat.le_of_ble_eq_true rfl)) dX11_setShare_7 ⟨Nat.le_of_ble_eq_true rfl, Nat.le_of_ble_eq_true rfl⟩) hS (fun q _ h => hFc q h) hFc (fun r1 u t H1 locs ht hvm hw hB hz1 hk1 hS => ?_)
  obtain ⟨hP, hD, hK⟩ := kJ (wr := [(x, .inr (15, [.ref sh, .ref tl, .ref tw, .int 0])), (sh, .inr (13, [.ref rg, .ref dk, .ref hd, .ref lg, .ref pl, .ref pr, .int 0, .int 0, .int 0, .int 0, .int 0, .int 0, .int 0, .int 0, .int 0, .int 0, .int 0]))]) (w1 := [(rg, .inr (11, [.ref mf, .ref mm, .ref mz, .ref ma, .ref sa, .int 0])), (sa, .inl (cS, 9, .inr (.inr (.inr (.inr (va_up (va_up (va_up (va_up (va_up (va_up (va_up (va_up (va_up (fun _ => none) 0 (some s0)) 1 (some s1)) 2 (some s2)) 3 (some s3)) 4 (some s4)) 5 (some s5)) 6 (some s6)) 7 (some s7)) 8 (some s8))))))), (s0, .inr (12, [.int 8, .int 6, .ref mf, .int 1, .int 0, .int 900, .int 0, .int 0])), (s1, .inr (12, [.int 7, .int 5, .ref mf, .int 1, .int 0, .int 900, .int 0, .int 0])), (s2, .inr (12, [.int 3, .int 3, .ref mf, .int 1, .int 0, .int 900, .int 0, .int 0])), (s3, .inr (12, [.int 10, .int 8, .ref mm, .int 1, .int 0, .int 900, .int 0, .int 0])), (s4, .inr (12, [.int 9, .int 6, .ref mm, .int 1, .int 0, .int 900, .int 0, .int 0])), (s5, .inr (12, [.int 4, .int 3, .ref mm, .int 1, .int 0, .int 900, .int 0, .int 0])), (s6, .inr (12, [.int 5, .int 4, .ref mz, .int 1, .int 0, .int 900, .int 0, .int 0])), (s7, .inr (12, [.int 4, .int 3, .ref mf, .int 0, .int 0, .int 900, .int 0, .int 0])), (s8, .inr (12, [.int 6, .int 4, .ref mz, .int 0, .int 0, .int 900, .int 0, .int 0]))]) (t1 := []) hP hD hK [2, 3, 4, 5, 6, 7, 8, 9, 10, 11, 12] [0, 1] rfl rfl (by decide) (by decide) hk1 hFc ht hvm hB
  generalize H1 = H at hP hS ⊢
  have hP : va_P (dC, dI) vwCl [(x, .inr (15, [.ref sh, .ref tl, .ref tw, .int 0])), (sh, .inr (13, [.ref rg, .ref dk, .ref hd, .ref lg, .ref pl, .ref pr, .int 0, .int 0, .int 0, .int 0, .int 0, .int 0, .int 0, .int 0, .int 0, .int 0, .int 0])), (rg, .inr (11, [.ref mf, .ref mm, .ref mz, .ref ma, .ref sa, .int 0])), (sa, .inl (cS, 9, .inr (.inr (.inr (.inr (va_up (va_up (va_up (va_up (va_up (va_up (va_up (va_up (va_up (fun _ => none) 0 (some s0)) 1 (some s1)) 2 (some s2)) 3 (some s3)) 4 (some s4)) 5 (some s5)) 6 (some s6)) 7 (some s7)) 8 (some s8))))))), (s0, .inr (12, [.int 8, .int 6, .ref mf, .int 1, .int 0, .int 900, .int 0, .int 0])), (s1, .inr (12, [.int 7, .int 5, .ref mf, .int 1, .int 0, .int 900, .int 0, .int 0])), (s2, .inr (12, [.int 3, .int 3, .ref mf, .int 1, .int 0, .int 900, .int 0, .int 0])), (s3, .inr (12, [.int 10, .int 8, .ref mm, .int 1, .int 0, .int 900, .int 0, .int 0])), (s4, .inr (12, [.int 9, .int 6, .ref mm, .int 1, .int 0, .int 900, .int 0, .int 0])), (s5, .inr (12, [.int 4, .int 3, .ref mm, .int 1, .int 0, .int 900, .int 0, .int 0])), (s6, .inr (12, [.int 5, .int 4, .ref mz, .int 1, .int 0, .int 900, .int 0, .int 0])), (s7, .inr (12, [.int 4, .int 3, .ref mf, .int 0, .int 0, .int 900, .int 0, .int 0])), (s8, .inr (12, [.int 6, .int 4, .ref mz, .int 0, .int 0, .int 900, .int 0, .int 0]))] H := hP
  have hD : va_D A [(x, .inr (15, [.ref sh, .ref tl, .ref tw, .int 0])), (sh, .inr (13, [.ref rg, .ref dk, .ref hd, .ref lg, .ref pl, .ref pr, .int 0, .int 0, .int 0, .int 0, .int 0, .int 0, .int 0, .int 0, .int 0, .int 0, .int 0])), (rg, .inr (11, [.ref mf, .ref mm, .ref mz, .ref ma, .ref sa, .int 0])), (sa, .inl (cS, 9, .inr (.inr (.inr (.inr (va_up (va_up (va_up (va_up (va_up (va_up (va_up (va_up (va_up (fun _ => none) 0 (some s0)) 1 (some s1)) 2 (some s2)) 3 (some s3)) 4 (some s4)) 5 (some s5)) 6 (some s6)) 7 (some s7)) 8 (some s8))))))), (s0, .inr (12, [.int 8, .int 6, .ref mf, .int 1, .int 0, .int 900, .int 0, .int 0])), (s1, .inr (12, [.int 7, .int 5, .ref mf, .int 1, .int 0, .int 900, .int 0, .int 0])), (s2, .inr (12, [.int 3, .int 3, .ref mf, .int 1, .int 0, .int 900, .int 0, .int 0])), (s3, .inr (12, [.int 10, .int 8, .ref mm, .int 1, .int 0, .int 900, .int 0, .int 0])), (s4, .inr (12, [.int 9, .int 6, .ref mm, .int 1, .int 0, .int 900, .int 0, .int 0])), (s5, .inr (12, [.int 4, .int 3, .ref mm, .int 1, .int 0, .int 900, .int 0, .int 0])), (s6, .inr (12, [.int 5, .int 4, .ref mz, .int 1, .int 0, .int 900, .int 0, .int 0])), (s7, .inr (12, [.int 4, .int 3, .ref mf, .int 0, .int 0, .int 900, .int 0, .int 0])), (s8, .inr (12, [.int 6, .int 4, .ref mz, .int 0, .int 0, .int 900, .int 0, .int 0]))] := hD
  have hK : va_K (dC, dI) vwCl [(cS, .object RX8)] s := hK
  obtain rfl : 0 = r1 := hw
  refine lv_i2f hx hb dX11_setShare_10 ?_
  refine kc_v (y := .float 0) (by decide +kernel) ?_
  refine k_ldcwf (v := 1091567616) hx hb hown (hts (.constantFloat RX11 257 1091567616) (by decide +kernel)) dX11_setShare_11 ?_
  refine lv_fdiv hx hb dX11_setShare_14 (by unfold vf_n32; decide +kernel) ?_
  refine kc_v (y := .float 0) (by decide +kernel) ?_
  exact W.fret (v := 0) hx hb hr (fun t ht hW => ⟨⟨0, (), rfl, rfl, kB_end (w9 := []) (t9 := []) hP hK hD [] [] rfl (by decide) rfl rfl t ht hW⟩, hS.F ht⟩) hS.2.2 dX11_setShare_15
abbrev wd_k_x_meanStrength (z : Nat → Nat) (sh : Nat) (rg : Nat) (mf : Nat) (mm : Nat) (mz : Nat) (ma : Nat) (sa : Nat) (s0 : Nat) (s1 : Nat) (s2 : Nat) (s3 : Nat) (s4 : Nat) (s5 : Nat) (s6 : Nat) (s7 : Nat) (s8 : Nat) (dk : Nat) (hd : Nat) (lg : Nat) (pl : Nat) (pr : Nat) (cS : ClassId) (x : Nat) (tl : Nat) (tw : Nat) : va_W := [(x, .inr (15, [.ref sh, .ref tl, .ref tw, .int 0])), (sh, .inr (13, [.ref rg, .ref dk, .ref hd, .ref lg, .ref pl, .ref pr, .int 0, .int 0, .int 0, .int 0, .int 0, .int 0, .int 0, .int 0, .int 0, .int 0, .int 0])), (rg, .inr (11, [.ref mf, .ref mm, .ref mz, .ref ma, .ref sa, .int 0])), (sa, .inl (cS, 9, .inr (.inr (.inr (.inr (va_up (va_up (va_up (va_up (va_up (va_up (va_up (va_up (va_up (fun _ => none) 0 (some s0)) 1 (some s1)) 2 (some s2)) 3 (some s3)) 4 (some s4)) 5 (some s5)) 6 (some s6)) 7 (some s7)) 8 (some s8))))))), (s0, .inr (12, [.int 8, .int 6, .ref mf, .int 1, .int 0, .int 900, .int 0, .int 0])), (s1, .inr (12, [.int 7, .int 5, .ref mf, .int 1, .int 0, .int 900, .int 0, .int 0])), (s2, .inr (12, [.int 3, .int 3, .ref mf, .int 1, .int 0, .int 900, .int 0, .int 0])), (s3, .inr (12, [.int 10, .int 8, .ref mm, .int 1, .int 0, .int 900, .int 0, .int 0])), (s4, .inr (12, [.int 9, .int 6, .ref mm, .int 1, .int 0, .int 900, .int 0, .int 0])), (s5, .inr (12, [.int 4, .int 3, .ref mm, .int 1, .int 0, .int 900, .int 0, .int 0])), (s6, .inr (12, [.int 5, .int 4, .ref mz, .int 1, .int 0, .int 900, .int 0, .int 0])), (s7, .inr (12, [.int 4, .int 3, .ref mf, .int 0, .int 0, .int 900, .int 0, .int 0])), (s8, .inr (12, [.int 6, .int 4, .ref mz, .int 0, .int 0, .int 900, .int 0, .int 0]))]
set_option maxHeartbeats 4000000 in
set_option maxRecDepth 100000 in
theorem k_x_meanStrength (l : Launch) (dC : Nat → ClassId) (dI : Nat → Nat → Nat) (z zK zV : Nat → Nat) (sh : Nat) (rg : Nat) (mf : Nat) (mm : Nat) (mz : Nat) (ma : Nat) (sa : Nat) (s0 : Nat) (s1 : Nat) (s2 : Nat) (s3 : Nat) (s4 : Nat) (s5 : Nat) (s6 : Nat) (s7 : Nat) (s8 : Nat) (dk : Nat) (hd : Nat) (lg : Nat) (pl : Nat) (pr : Nat) (cS : ClassId) (x : Nat) (tl : Nat) (tw : Nat) (sz : Nat)  : Met l yX11_meanStrength wsX11_meanStrength ({ frames := 1, cells := 0, slots := 0, locals := 25 }) (kP dC dI z zK zV [.ref x] sz (wd_k_x_meanStrength z sh rg mf mm mz ma sa s0 s1 s2 s3 s4 s5 s6 s7 s8 dk hd lg pl pr cS x tl tw) [(cS, .object RX8)]) (va_Qd (fun (r : UInt64) (_ : Unit) => 4651127699538968576 = r) (fun _ t => kB (dC, dI) (va_A (wd_k_x_meanStrength z sh rg mf mm mz ma sa s0 s1 s2 s3 s4 s5 s6 s7 s8 dk hd lg pl pr cS x tl tw) sz) [] [] t) (va_A (wd_k_x_meanStrength z sh rg mf mm mz ma sa s0 s1 s2 s3 s4 s5 s6 s7 s8 dk hd lg pl pr cS x tl tw) sz)) 0 0 (va_A (wd_k_x_meanStrength z sh rg mf mm mz ma sa s0 s1 s2 s3 s4 s5 s6 s7 s8 dk hd lg pl pr cS x tl tw) sz) := by
  refine Met.ofW (cc := cX11_meanStrength) (maxL := 2) (ret := (some .double)) (by decide) rfl ?_
  intro p e s m args below meth c s₁ B hml hv
  obtain ⟨rfl, hsz, hP, hK, hD0, hM⟩ := hv
  have hx := B.exec
  have hb := B.bytes
  have hr := B.returns
  have hts := atoms_spec (ws := wsX11_meanStrength) B.pre
  have hown : s.vm.findClass RX11 = some m.cls := findClass_of_methodNamed B.named
  have hlocks := B.notSynchronized
  have hiX11 : ∀ w ∈ u_ws RX11 TX11 4, w ∈ wsX11_meanStrength := by decide +kernel
  have hiX9 : ∀ w ∈ u_ws RX9 TX9 17, w ∈ wsX11_meanStrength := by decide +kernel
  subst hsz
  have hD := hD0.self (sz := s.heap.size)
  generalize hAe : va_A (wd_k_x_meanStrength z sh rg mf mm mz ma sa s0 s1 s2 s3 s4 s5 s6 s7 s8 dk hd lg pl pr cS x tl tw) s.heap.size = A at hD hM ⊢
  have hA : ∀ q : Nat, s.heap.size ≤ q → A q := fun q h => by rw [← hAe]; exact Or.inr h
  have hS : va_S A s.heap s.heap [] := va_S.rf
  have hP : va_P (dC, dI) vwCl [(x, .inr (15, [.ref sh, .ref tl, .ref tw, .int 0])), (sh, .inr (13, [.ref rg, .ref dk, .ref hd, .ref lg, .ref pl, .ref pr, .int 0, .int 0, .int 0, .int 0, .int 0, .int 0, .int 0, .int 0, .int 0, .int 0, .int 0])), (rg, .inr (11, [.ref mf, .ref mm, .ref mz, .ref ma, .ref sa, .int 0])), (sa, .inl (cS, 9, .inr (.inr (.inr (.inr (va_up (va_up (va_up (va_up (va_up (va_up (va_up (va_up (va_up (fun _ => none) 0 (some s0)) 1 (some s1)) 2 (some s2)) 3 (some s3)) 4 (some s4)) 5 (some s5)) 6 (some s6)) 7 (some s7)) 8 (some s8))))))), (s0, .inr (12, [.int 8, .int 6, .ref mf, .int 1, .int 0, .int 900, .int 0, .int 0])), (s1, .inr (12, [.int 7, .int 5, .ref mf, .int 1, .int 0, .int 900, .int 0, .int 0])), (s2, .inr (12, [.int 3, .int 3, .ref mf, .int 1, .int 0, .int 900, .int 0, .int 0])), (s3, .inr (12, [.int 10, .int 8, .ref mm, .int 1, .int 0, .int 900, .int 0, .int 0])), (s4, .inr (12, [.int 9, .int 6, .ref mm, .int 1, .int 0, .int 900, .int 0, .int 0])), (s5, .inr (12, [.int 4, .int 3, .ref mm, .int 1, .int 0, .int 900, .int 0, .int 0])), (s6, .inr (12, [.int 5, .int 4, .ref mz, .int 1, .int 0, .int 900, .int 0, .int 0])), (s7, .inr (12, [.int 4, .int 3, .ref mf, .int 0, .int 0, .int 900, .int 0, .int 0])), (s8, .inr (12, [.int 6, .int 4, .ref mz, .int 0, .int 0, .int 900, .int 0, .int 0]))] s.heap := hP
  have hD : va_D A [(x, .inr (15, [.ref sh, .ref tl, .ref tw, .int 0])), (sh, .inr (13, [.ref rg, .ref dk, .ref hd, .ref lg, .ref pl, .ref pr, .int 0, .int 0, .int 0, .int 0, .int 0, .int 0, .int 0, .int 0, .int 0, .int 0, .int 0])), (rg, .inr (11, [.ref mf, .ref mm, .ref mz, .ref ma, .ref sa, .int 0])), (sa, .inl (cS, 9, .inr (.inr (.inr (.inr (va_up (va_up (va_up (va_up (va_up (va_up (va_up (va_up (va_up (fun _ => none) 0 (some s0)) 1 (some s1)) 2 (some s2)) 3 (some s3)) 4 (some s4)) 5 (some s5)) 6 (some s6)) 7 (some s7)) 8 (some s8))))))), (s0, .inr (12, [.int 8, .int 6, .ref mf, .int 1, .int 0, .int 900, .int 0, .int 0])), (s1, .inr (12, [.int 7, .int 5, .ref mf, .int 1, .int 0, .int 900, .int 0, .int 0])), (s2, .inr (12, [.int 3, .int 3, .ref mf, .int 1, .int 0, .int 900, .int 0, .int 0])), (s3, .inr (12, [.int 10, .int 8, .ref mm, .int 1, .int 0, .int 900, .int 0, .int 0])), (s4, .inr (12, [.int 9, .int 6, .ref mm, .int 1, .int 0, .int 900, .int 0, .int 0])), (s5, .inr (12, [.int 4, .int 3, .ref mm, .int 1, .int 0, .int 900, .int 0, .int 0])), (s6, .inr (12, [.int 5, .int 4, .ref mz, .int 1, .int 0, .int 900, .int 0, .int 0])), (s7, .inr (12, [.int 4, .int 3, .ref mf, .int 0, .int 0, .int 900, .int 0, .int 0])), (s8, .inr (12, [.int 6, .int 4, .ref mz, .int 0, .int 0, .int 900, .int 0, .int 0]))] := hD
  have hl := lv_entry ([.ref x]) (n := 2) (Nat.le_of_ble_eq_true rfl)
  rw [lg_entry_eq]
  generalize (lg_sl ([.ref x]) ++ List.replicate (2 - (lg_sl ([.ref x])).length) Slot.unset).toArray = ls at hl ⊢
  have hl : lv_has ls 2 [(0, .ref x)] := hl
  refine lv_aload_n hx hb dX11_meanStrength_0 rfl (lv_at hl 0 rfl) ?_
  refine va_get (D := (dC, dI)) (ci := 15) (v := .ref sh) (C := RX11) (T := TX11) (N := 4) hx hb hts hiX11 hown hK hP 0 rfl rfl 0 (by decide) (hts (.fieldLink RX11 10 "SquareRig" "ship" "LSquareRig$Ship;") (by decide +kernel)) (fun _ h9 => h9) rfl dX11_meanStrength_1 ?_
  refine va_getN (D := (dC, dI)) (ci := 13) (v := .ref rg) (C := RX9) (T := TX9) (N := 17) hx hb hts hiX9 hown hK hP 1 rfl rfl 0 (by decide) (va_Nw.use rfl (hM.1 _ (List.mem_of_getElem? (i := 36) rfl))) (fun _ h9 => h9) rfl dX11_meanStrength_4 ?_
  have hPc := hP.sub (ws' := [(rg, .inr (11, [.ref mf, .ref mm, .ref mz, .ref ma, .ref sa, .int 0])), (sa, .inl (cS, 9, .inr (.inr (.inr (.inr (va_up (va_up (va_up (va_up (va_up (va_up (va_up (va_up (va_up (fun _ => none) 0 (some s0)) 1 (some s1)) 2 (some s2)) 3 (some s3)) 4 (some s4)) 5 (some s5)) 6 (some s6)) 7 (some s7)) 8 (some s8))))))), (s0, .inr (12, [.int 8, .int 6, .ref mf, .int 1, .int 0, .int 900, .int 0, .int 0])), (s1, .inr (12, [.int 7, .int 5, .ref mf, .int 1, .int 0, .int 900, .int 0, .int 0])), (s2, .inr (12, [.int 3, .int 3, .ref mf, .int 1, .int 0, .int 900, .int 0, .int 0])), (s3, .inr (12, [.int 10, .int 8, .ref mm, .int 1, .int 0, .int 900, .int 0, .int 0])), (s4, .inr (12, [.int 9, .int 6, .ref mm, .int 1, .int 0, .int 900, .int 0, .int 0])), (s5, .inr (12, [.int 4, .int 3, .ref mm, .int 1, .int 0, .int 900, .int 0, .int 0])), (s6, .inr (12, [.int 5, .int 4, .ref mz, .int 1, .int 0, .int 900, .int 0, .int 0])), (s7, .inr (12, [.int 4, .int 3, .ref mf, .int 0, .int 0, .int 900, .int 0, .int 0])), (s8, .inr (12, [.int 6, .int 4, .ref mz, .int 0, .int 0, .int 900, .int 0, .int 0]))]) [2, 3, 4, 5, 6, 7, 8, 9, 10, 11, 12] rfl
  have hDc := hD.sub (ws' := [(rg, .inr (11, [.ref mf, .ref mm, .ref mz, .ref ma, .ref sa, .int 0])), (sa, .inl (cS, 9, .inr (.inr (.inr (.inr (va_up (va_up (va_up (va_up (va_up (va_up (va_up (va_up (va_up (fun _ => none) 0 (some s0)) 1 (some s1)) 2 (some s2)) 3 (some s3)) 4 (some s4)) 5 (some s5)) 6 (some s6)) 7 (some s7)) 8 (some s8))))))), (s0, .inr (12, [.int 8, .int 6, .ref mf, .int 1, .int 0, .int 900, .int 0, .int 0])), (s1, .inr (12, [.int 7, .int 5, .ref mf, .int 1, .int 0, .int 900, .int 0, .int 0])), (s2, .inr (12, [.int 3, .int 3, .ref mf, .int 1, .int 0, .int 900, .int 0, .int 0])), (s3, .inr (12, [.int 10, .int 8, .ref mm, .int 1, .int 0, .int 900, .int 0, .int 0])), (s4, .inr (12, [.int 9, .int 6, .ref mm, .int 1, .int 0, .int 900, .int 0, .int 0])), (s5, .inr (12, [.int 4, .int 3, .ref mm, .int 1, .int 0, .int 900, .int 0, .int 0])), (s6, .inr (12, [.int 5, .int 4, .ref mz, .int 1, .int 0, .int 900, .int 0, .int 0])), (s7, .inr (12, [.int 4, .int 3, .ref mf, .int 0, .int 0, .int 900, .int 0, .int 0])), (s8, .inr (12, [.int 6, .int 4, .ref mz, .int 0, .int 0, .int 900, .int 0, .int 0]))]) [2, 3, 4, 5, 6, 7, 8, 9, 10, 11, 12] (by decide) rfl
  have hKc := hK.sub (tys' := [(cS, .object RX8)]) [0] rfl
  have hFc := va_free (wc := [(rg, .inr (11, [.ref mf, .ref mm, .ref mz, .ref ma, .ref sa, .int 0])), (sa, .inl (cS, 9, .inr (.inr (.inr (.inr (va_up (va_up (va_up (va_up (va_up (va_up (va_up (va_up (va_up (fun _ => none) 0 (some s0)) 1 (some s1)) 2 (some s2)) 3 (some s3)) 4 (some s4)) 5 (some s5)) 6 (some s6)) 7 (some s7)) 8 (some s8))))))), (s0, .inr (12, [.int 8, .int 6, .ref mf, .int 1, .int 0, .int 900, .int 0, .int 0])), (s1, .inr (12, [.int 7, .int 5, .ref mf, .int 1, .int 0, .int 900, .int 0, .int 0])), (s2, .inr (12, [.int 3, .int 3, .ref mf, .int 1, .int 0, .int 900, .int 0, .int 0])), (s3, .inr (12, [.int 10, .int 8, .ref mm, .int 1, .int 0, .int 900, .int 0, .int 0])), (s4, .inr (12, [.int 9, .int 6, .ref mm, .int 1, .int 0, .int 900, .int 0, .int 0])), (s5, .inr (12, [.int 4, .int 3, .ref mm, .int 1, .int 0, .int 900, .int 0, .int 0])), (s6, .inr (12, [.int 5, .int 4, .ref mz, .int 1, .int 0, .int 900, .int 0, .int 0])), (s7, .inr (12, [.int 4, .int 3, .ref mf, .int 0, .int 0, .int 900, .int 0, .int 0])), (s8, .inr (12, [.int 6, .int 4, .ref mz, .int 0, .int 0, .int 900, .int 0, .int 0]))]) hD hS hA [2, 3, 4, 5, 6, 7, 8, 9, 10, 11, 12] rfl
  refine va_calli (va_runV (As := []) (rest := []) ⟨hx, hb, hml, hown, hts⟩ (k_countWholeRopes l dC dI z zK zV rg mf mm mz ma sa s0 s1 s2 s3 s4 s5 s6 s7 s8 cS s.heap.size) (cwV 0 hts gX11_meanStrength_X7_countWholeRopes rfl rfl rfl (by decide +kernel) ⟨Nat.le_of_ble_eq_true rfl, Nat.le_of_ble_eq_true rfl⟩) ⟨kP_blind, va_recv hKc hPc (ci := 11) (q0 := 0) rfl rfl, kP_go hPc hKc hDc hFc hM hS⟩ rfl rfl hl.1 rfl (lv_room (Nat.le_of_ble_eq_true rfl)) dX11_meanStrength_7 ⟨Nat.le_of_ble_eq_true rfl, Nat.le_of_ble_eq_true rfl⟩) hS (fun q _ h => hFc q h) hFc (fun r1 u t H1 locs ht hvm hw hB hz1 hk1 hS => ?_)
  obtain ⟨hP, hD, hK⟩ := kJ (wr := [(x, .inr (15, [.ref sh, .ref tl, .ref tw, .int 0])), (sh, .inr (13, [.ref rg, .ref dk, .ref hd, .ref lg, .ref pl, .ref pr, .int 0, .int 0, .int 0, .int 0, .int 0, .int 0, .int 0, .int 0, .int 0, .int 0, .int 0]))]) (w1 := [(rg, .inr (11, [.ref mf, .ref mm, .ref mz, .ref ma, .ref sa, .int 0])), (sa, .inl (cS, 9, .inr (.inr (.inr (.inr (va_up (va_up (va_up (va_up (va_up (va_up (va_up (va_up (va_up (fun _ => none) 0 (some s0)) 1 (some s1)) 2 (some s2)) 3 (some s3)) 4 (some s4)) 5 (some s5)) 6 (some s6)) 7 (some s7)) 8 (some s8))))))), (s0, .inr (12, [.int 8, .int 6, .ref mf, .int 1, .int 0, .int 900, .int 0, .int 0])), (s1, .inr (12, [.int 7, .int 5, .ref mf, .int 1, .int 0, .int 900, .int 0, .int 0])), (s2, .inr (12, [.int 3, .int 3, .ref mf, .int 1, .int 0, .int 900, .int 0, .int 0])), (s3, .inr (12, [.int 10, .int 8, .ref mm, .int 1, .int 0, .int 900, .int 0, .int 0])), (s4, .inr (12, [.int 9, .int 6, .ref mm, .int 1, .int 0, .int 900, .int 0, .int 0])), (s5, .inr (12, [.int 4, .int 3, .ref mm, .int 1, .int 0, .int 900, .int 0, .int 0])), (s6, .inr (12, [.int 5, .int 4, .ref mz, .int 1, .int 0, .int 900, .int 0, .int 0])), (s7, .inr (12, [.int 4, .int 3, .ref mf, .int 0, .int 0, .int 900, .int 0, .int 0])), (s8, .inr (12, [.int 6, .int 4, .ref mz, .int 0, .int 0, .int 900, .int 0, .int 0]))]) (t1 := []) hP hD hK [2, 3, 4, 5, 6, 7, 8, 9, 10, 11, 12] [0, 1] rfl rfl (by decide) (by decide) hk1 hFc ht hvm hB
  generalize H1 = H at hP hS ⊢
  have hP : va_P (dC, dI) vwCl [(x, .inr (15, [.ref sh, .ref tl, .ref tw, .int 0])), (sh, .inr (13, [.ref rg, .ref dk, .ref hd, .ref lg, .ref pl, .ref pr, .int 0, .int 0, .int 0, .int 0, .int 0, .int 0, .int 0, .int 0, .int 0, .int 0, .int 0])), (rg, .inr (11, [.ref mf, .ref mm, .ref mz, .ref ma, .ref sa, .int 0])), (sa, .inl (cS, 9, .inr (.inr (.inr (.inr (va_up (va_up (va_up (va_up (va_up (va_up (va_up (va_up (va_up (fun _ => none) 0 (some s0)) 1 (some s1)) 2 (some s2)) 3 (some s3)) 4 (some s4)) 5 (some s5)) 6 (some s6)) 7 (some s7)) 8 (some s8))))))), (s0, .inr (12, [.int 8, .int 6, .ref mf, .int 1, .int 0, .int 900, .int 0, .int 0])), (s1, .inr (12, [.int 7, .int 5, .ref mf, .int 1, .int 0, .int 900, .int 0, .int 0])), (s2, .inr (12, [.int 3, .int 3, .ref mf, .int 1, .int 0, .int 900, .int 0, .int 0])), (s3, .inr (12, [.int 10, .int 8, .ref mm, .int 1, .int 0, .int 900, .int 0, .int 0])), (s4, .inr (12, [.int 9, .int 6, .ref mm, .int 1, .int 0, .int 900, .int 0, .int 0])), (s5, .inr (12, [.int 4, .int 3, .ref mm, .int 1, .int 0, .int 900, .int 0, .int 0])), (s6, .inr (12, [.int 5, .int 4, .ref mz, .int 1, .int 0, .int 900, .int 0, .int 0])), (s7, .inr (12, [.int 4, .int 3, .ref mf, .int 0, .int 0, .int 900, .int 0, .int 0])), (s8, .inr (12, [.int 6, .int 4, .ref mz, .int 0, .int 0, .int 900, .int 0, .int 0]))] H := hP
  have hD : va_D A [(x, .inr (15, [.ref sh, .ref tl, .ref tw, .int 0])), (sh, .inr (13, [.ref rg, .ref dk, .ref hd, .ref lg, .ref pl, .ref pr, .int 0, .int 0, .int 0, .int 0, .int 0, .int 0, .int 0, .int 0, .int 0, .int 0, .int 0])), (rg, .inr (11, [.ref mf, .ref mm, .ref mz, .ref ma, .ref sa, .int 0])), (sa, .inl (cS, 9, .inr (.inr (.inr (.inr (va_up (va_up (va_up (va_up (va_up (va_up (va_up (va_up (va_up (fun _ => none) 0 (some s0)) 1 (some s1)) 2 (some s2)) 3 (some s3)) 4 (some s4)) 5 (some s5)) 6 (some s6)) 7 (some s7)) 8 (some s8))))))), (s0, .inr (12, [.int 8, .int 6, .ref mf, .int 1, .int 0, .int 900, .int 0, .int 0])), (s1, .inr (12, [.int 7, .int 5, .ref mf, .int 1, .int 0, .int 900, .int 0, .int 0])), (s2, .inr (12, [.int 3, .int 3, .ref mf, .int 1, .int 0, .int 900, .int 0, .int 0])), (s3, .inr (12, [.int 10, .int 8, .ref mm, .int 1, .int 0, .int 900, .int 0, .int 0])), (s4, .inr (12, [.int 9, .int 6, .ref mm, .int 1, .int 0, .int 900, .int 0, .int 0])), (s5, .inr (12, [.int 4, .int 3, .ref mm, .int 1, .int 0, .int 900, .int 0, .int 0])), (s6, .inr (12, [.int 5, .int 4, .ref mz, .int 1, .int 0, .int 900, .int 0, .int 0])), (s7, .inr (12, [.int 4, .int 3, .ref mf, .int 0, .int 0, .int 900, .int 0, .int 0])), (s8, .inr (12, [.int 6, .int 4, .ref mz, .int 0, .int 0, .int 900, .int 0, .int 0]))] := hD
  have hK : va_K (dC, dI) vwCl [(cS, .object RX8)] s := hK
  obtain rfl : 9 = r1 := hw
  refine lv_istore_n (lv' := [(1, .int 9), (0, .ref x)]) hx hb dX11_meanStrength_10 rfl hl (by decide) rfl (fun ls hl => ?_)
  refine lv_iload_n hx hb dX11_meanStrength_11 rfl (lv_at hl 0 rfl) ?_
  refine lv_if_ne (tgt := 26) hx hb dX11_meanStrength_12 (by decide) (fun _ => ?_) (fun c_ => absurd c_ (by decide +kernel))
  refine lv_aload_n hx hb dX11_meanStrength_26 rfl (lv_at hl 1 rfl) ?_
  refine va_get (D := (dC, dI)) (ci := 15) (v := .ref sh) (C := RX11) (T := TX11) (N := 4) hx hb hts hiX11 hown hK hP 0 rfl rfl 0 (by decide) (hts (.fieldLink RX11 10 "SquareRig" "ship" "LSquareRig$Ship;") (by decide +kernel)) (fun _ h9 => h9) rfl dX11_meanStrength_27 ?_
  refine va_getN (D := (dC, dI)) (ci := 13) (v := .ref rg) (C := RX9) (T := TX9) (N := 17) hx hb hts hiX9 hown hK hP 1 rfl rfl 0 (by decide) (va_Nw.use rfl (hM.1 _ (List.mem_of_getElem? (i := 36) rfl))) (fun _ h9 => h9) rfl dX11_meanStrength_30 ?_
  have hPc := hP.sub (ws' := [(rg, .inr (11, [.ref mf, .ref mm, .ref mz, .ref ma, .ref sa, .int 0])), (sa, .inl (cS, 9, .inr (.inr (.inr (.inr (va_up (va_up (va_up (va_up (va_up (va_up (va_up (va_up (va_up (fun _ => none) 0 (some s0)) 1 (some s1)) 2 (some s2)) 3 (some s3)) 4 (some s4)) 5 (some s5)) 6 (some s6)) 7 (some s7)) 8 (some s8))))))), (s0, .inr (12, [.int 8, .int 6, .ref mf, .int 1, .int 0, .int 900, .int 0, .int 0])), (s1, .inr (12, [.int 7, .int 5, .ref mf, .int 1, .int 0, .int 900, .int 0, .int 0])), (s2, .inr (12, [.int 3, .int 3, .ref mf, .int 1, .int 0, .int 900, .int 0, .int 0])), (s3, .inr (12, [.int 10, .int 8, .ref mm, .int 1, .int 0, .int 900, .int 0, .int 0])), (s4, .inr (12, [.int 9, .int 6, .ref mm, .int 1, .int 0, .int 900, .int 0, .int 0])), (s5, .inr (12, [.int 4, .int 3, .ref mm, .int 1, .int 0, .int 900, .int 0, .int 0])), (s6, .inr (12, [.int 5, .int 4, .ref mz, .int 1, .int 0, .int 900, .int 0, .int 0])), (s7, .inr (12, [.int 4, .int 3, .ref mf, .int 0, .int 0, .int 900, .int 0, .int 0])), (s8, .inr (12, [.int 6, .int 4, .ref mz, .int 0, .int 0, .int 900, .int 0, .int 0]))]) [2, 3, 4, 5, 6, 7, 8, 9, 10, 11, 12] rfl
  have hDc := hD.sub (ws' := [(rg, .inr (11, [.ref mf, .ref mm, .ref mz, .ref ma, .ref sa, .int 0])), (sa, .inl (cS, 9, .inr (.inr (.inr (.inr (va_up (va_up (va_up (va_up (va_up (va_up (va_up (va_up (va_up (fun _ => none) 0 (some s0)) 1 (some s1)) 2 (some s2)) 3 (some s3)) 4 (some s4)) 5 (some s5)) 6 (some s6)) 7 (some s7)) 8 (some s8))))))), (s0, .inr (12, [.int 8, .int 6, .ref mf, .int 1, .int 0, .int 900, .int 0, .int 0])), (s1, .inr (12, [.int 7, .int 5, .ref mf, .int 1, .int 0, .int 900, .int 0, .int 0])), (s2, .inr (12, [.int 3, .int 3, .ref mf, .int 1, .int 0, .int 900, .int 0, .int 0])), (s3, .inr (12, [.int 10, .int 8, .ref mm, .int 1, .int 0, .int 900, .int 0, .int 0])), (s4, .inr (12, [.int 9, .int 6, .ref mm, .int 1, .int 0, .int 900, .int 0, .int 0])), (s5, .inr (12, [.int 4, .int 3, .ref mm, .int 1, .int 0, .int 900, .int 0, .int 0])), (s6, .inr (12, [.int 5, .int 4, .ref mz, .int 1, .int 0, .int 900, .int 0, .int 0])), (s7, .inr (12, [.int 4, .int 3, .ref mf, .int 0, .int 0, .int 900, .int 0, .int 0])), (s8, .inr (12, [.int 6, .int 4, .ref mz, .int 0, .int 0, .int 900, .int 0, .int 0]))]) [2, 3, 4, 5, 6, 7, 8, 9, 10, 11, 12] (by decide) rfl
  have hKc := hK.sub (tys' := [(cS, .object RX8)]) [0] rfl
  have hFc := va_free (wc := [(rg, .inr (11, [.ref mf, .ref mm, .ref mz, .ref ma, .ref sa, .int 0])), (sa, .inl (cS, 9, .inr (.inr (.inr (.inr (va_up (va_up (va_up (va_up (va_up (va_up (va_up (va_up (va_up (fun _ => none) 0 (some s0)) 1 (some s1)) 2 (some s2)) 3 (some s3)) 4 (some s4)) 5 (some s5)) 6 (some s6)) 7 (some s7)) 8 (some s8))))))), (s0, .inr (12, [.int 8, .int 6, .ref mf, .int 1, .int 0, .int 900, .int 0, .int 0])), (s1, .inr (12, [.int 7, .int 5, .ref mf, .int 1, .int 0, .int 900, .int 0, .int 0])), (s2, .inr (12, [.int 3, .int 3, .ref mf, .int 1, .int 0, .int 900, .int 0, .int 0])), (s3, .inr (12, [.int 10, .int 8, .ref mm, .int 1, .int 0, .int 900, .int 0, .int 0])), (s4, .inr (12, [.int 9, .int 6, .ref mm, .int 1, .int 0, .int 900, .int 0, .int 0])), (s5, .inr (12, [.int 4, .int 3, .ref mm, .int 1, .int 0, .int 900, .int 0, .int 0])), (s6, .inr (12, [.int 5, .int 4, .ref mz, .int 1, .int 0, .int 900, .int 0, .int 0])), (s7, .inr (12, [.int 4, .int 3, .ref mf, .int 0, .int 0, .int 900, .int 0, .int 0])), (s8, .inr (12, [.int 6, .int 4, .ref mz, .int 0, .int 0, .int 900, .int 0, .int 0]))]) hD hS hA [2, 3, 4, 5, 6, 7, 8, 9, 10, 11, 12] rfl
  refine va_calli (va_runV (As := []) (rest := []) ⟨hx, hb, hml, hown, hts⟩ (k_sumWholeRopes l dC dI z zK zV rg mf mm mz ma sa s0 s1 s2 s3 s4 s5 s6 s7 s8 cS H.size) (cwV 0 hts gX11_meanStrength_X7_sumWholeRopes rfl rfl rfl (by decide +kernel) ⟨Nat.le_of_ble_eq_true rfl, Nat.le_of_ble_eq_true rfl⟩) ⟨kP_blind, va_recv hKc hPc (ci := 11) (q0 := 0) rfl rfl, kP_go hPc hKc hDc hFc hM hS⟩ rfl rfl hl.1 rfl (lv_room (Nat.le_of_ble_eq_true rfl)) dX11_meanStrength_33 ⟨Nat.le_of_ble_eq_true rfl, Nat.le_of_ble_eq_true rfl⟩) hS (fun q _ h => hFc q h) hFc (fun r2 u t H1 locs ht hvm hw hB hz1 hk1 hS => ?_)
  obtain ⟨hP, hD, hK⟩ := kJ (wr := [(x, .inr (15, [.ref sh, .ref tl, .ref tw, .int 0])), (sh, .inr (13, [.ref rg, .ref dk, .ref hd, .ref lg, .ref pl, .ref pr, .int 0, .int 0, .int 0, .int 0, .int 0, .int 0, .int 0, .int 0, .int 0, .int 0, .int 0]))]) (w1 := [(rg, .inr (11, [.ref mf, .ref mm, .ref mz, .ref ma, .ref sa, .int 0])), (sa, .inl (cS, 9, .inr (.inr (.inr (.inr (va_up (va_up (va_up (va_up (va_up (va_up (va_up (va_up (va_up (fun _ => none) 0 (some s0)) 1 (some s1)) 2 (some s2)) 3 (some s3)) 4 (some s4)) 5 (some s5)) 6 (some s6)) 7 (some s7)) 8 (some s8))))))), (s0, .inr (12, [.int 8, .int 6, .ref mf, .int 1, .int 0, .int 900, .int 0, .int 0])), (s1, .inr (12, [.int 7, .int 5, .ref mf, .int 1, .int 0, .int 900, .int 0, .int 0])), (s2, .inr (12, [.int 3, .int 3, .ref mf, .int 1, .int 0, .int 900, .int 0, .int 0])), (s3, .inr (12, [.int 10, .int 8, .ref mm, .int 1, .int 0, .int 900, .int 0, .int 0])), (s4, .inr (12, [.int 9, .int 6, .ref mm, .int 1, .int 0, .int 900, .int 0, .int 0])), (s5, .inr (12, [.int 4, .int 3, .ref mm, .int 1, .int 0, .int 900, .int 0, .int 0])), (s6, .inr (12, [.int 5, .int 4, .ref mz, .int 1, .int 0, .int 900, .int 0, .int 0])), (s7, .inr (12, [.int 4, .int 3, .ref mf, .int 0, .int 0, .int 900, .int 0, .int 0])), (s8, .inr (12, [.int 6, .int 4, .ref mz, .int 0, .int 0, .int 900, .int 0, .int 0]))]) (t1 := []) hP hD hK [2, 3, 4, 5, 6, 7, 8, 9, 10, 11, 12] [0, 1] rfl rfl (by decide) (by decide) hk1 hFc ht hvm hB
  generalize H1 = H at hP hS ⊢
  have hP : va_P (dC, dI) vwCl [(x, .inr (15, [.ref sh, .ref tl, .ref tw, .int 0])), (sh, .inr (13, [.ref rg, .ref dk, .ref hd, .ref lg, .ref pl, .ref pr, .int 0, .int 0, .int 0, .int 0, .int 0, .int 0, .int 0, .int 0, .int 0, .int 0, .int 0])), (rg, .inr (11, [.ref mf, .ref mm, .ref mz, .ref ma, .ref sa, .int 0])), (sa, .inl (cS, 9, .inr (.inr (.inr (.inr (va_up (va_up (va_up (va_up (va_up (va_up (va_up (va_up (va_up (fun _ => none) 0 (some s0)) 1 (some s1)) 2 (some s2)) 3 (some s3)) 4 (some s4)) 5 (some s5)) 6 (some s6)) 7 (some s7)) 8 (some s8))))))), (s0, .inr (12, [.int 8, .int 6, .ref mf, .int 1, .int 0, .int 900, .int 0, .int 0])), (s1, .inr (12, [.int 7, .int 5, .ref mf, .int 1, .int 0, .int 900, .int 0, .int 0])), (s2, .inr (12, [.int 3, .int 3, .ref mf, .int 1, .int 0, .int 900, .int 0, .int 0])), (s3, .inr (12, [.int 10, .int 8, .ref mm, .int 1, .int 0, .int 900, .int 0, .int 0])), (s4, .inr (12, [.int 9, .int 6, .ref mm, .int 1, .int 0, .int 900, .int 0, .int 0])), (s5, .inr (12, [.int 4, .int 3, .ref mm, .int 1, .int 0, .int 900, .int 0, .int 0])), (s6, .inr (12, [.int 5, .int 4, .ref mz, .int 1, .int 0, .int 900, .int 0, .int 0])), (s7, .inr (12, [.int 4, .int 3, .ref mf, .int 0, .int 0, .int 900, .int 0, .int 0])), (s8, .inr (12, [.int 6, .int 4, .ref mz, .int 0, .int 0, .int 900, .int 0, .int 0]))] H := hP
  have hD : va_D A [(x, .inr (15, [.ref sh, .ref tl, .ref tw, .int 0])), (sh, .inr (13, [.ref rg, .ref dk, .ref hd, .ref lg, .ref pl, .ref pr, .int 0, .int 0, .int 0, .int 0, .int 0, .int 0, .int 0, .int 0, .int 0, .int 0, .int 0])), (rg, .inr (11, [.ref mf, .ref mm, .ref mz, .ref ma, .ref sa, .int 0])), (sa, .inl (cS, 9, .inr (.inr (.inr (.inr (va_up (va_up (va_up (va_up (va_up (va_up (va_up (va_up (va_up (fun _ => none) 0 (some s0)) 1 (some s1)) 2 (some s2)) 3 (some s3)) 4 (some s4)) 5 (some s5)) 6 (some s6)) 7 (some s7)) 8 (some s8))))))), (s0, .inr (12, [.int 8, .int 6, .ref mf, .int 1, .int 0, .int 900, .int 0, .int 0])), (s1, .inr (12, [.int 7, .int 5, .ref mf, .int 1, .int 0, .int 900, .int 0, .int 0])), (s2, .inr (12, [.int 3, .int 3, .ref mf, .int 1, .int 0, .int 900, .int 0, .int 0])), (s3, .inr (12, [.int 10, .int 8, .ref mm, .int 1, .int 0, .int 900, .int 0, .int 0])), (s4, .inr (12, [.int 9, .int 6, .ref mm, .int 1, .int 0, .int 900, .int 0, .int 0])), (s5, .inr (12, [.int 4, .int 3, .ref mm, .int 1, .int 0, .int 900, .int 0, .int 0])), (s6, .inr (12, [.int 5, .int 4, .ref mz, .int 1, .int 0, .int 900, .int 0, .int 0])), (s7, .inr (12, [.int 4, .int 3, .ref mf, .int 0, .int 0, .int 900, .int 0, .int 0])), (s8, .inr (12, [.int 6, .int 4, .ref mz, .int 0, .int 0, .int 900, .int 0, .int 0]))] := hD
  have hK : va_K (dC, dI) vwCl [(cS, .object RX8)] s := hK
  obtain rfl : 8100 = r2 := hw
  refine lv_i2d hx hb dX11_meanStrength_36 ?_
  refine kc_v (y := .double 4665628058886078464) (by decide +kernel) ?_
  refine lv_iload_n hx hb dX11_meanStrength_37 rfl (lv_at hl 0 rfl) ?_
  refine lv_i2d hx hb dX11_meanStrength_38 ?_
  refine kc_v (y := .double 4621256167635550208) (by decide +kernel) ?_
  refine lv_ddiv hx hb dX11_meanStrength_39 (by unfold vf_n64; decide +kernel) ?_
  refine kc_v (y := .double 4651127699538968576) (by decide +kernel) ?_
  exact W.dret (v := 4651127699538968576) hx hb hr (fun t ht hW => ⟨⟨4651127699538968576, (), rfl, rfl, kB_end (w9 := []) (t9 := []) hP hK hD [] [] rfl (by decide) rfl rfl t ht hW⟩, hS.F ht⟩) hS.2.2 dX11_meanStrength_40
abbrev wd_k_put0 (z : Nat → Nat) (hd : Nat) (hu : Nat) (hy : Nat) (cU : ClassId) (cW : ClassId) (p0 : Int32) : va_W := [(hd, .inr (6, [.ref hu, .ref hy, .int 0])), (hu, .inl (cU, 20, .inl (fun _ => 0))), (hy, .inl (cW, 20, .inl (fun _ => 0)))]
set_option maxHeartbeats 4000000 in
set_option maxRecDepth 100000 in
theorem k_put0 (l : Launch) (dC : Nat → ClassId) (dI : Nat → Nat → Nat) (z zK zV : Nat → Nat) (hd : Nat) (hu : Nat) (hy : Nat) (cU : ClassId) (cW : ClassId) (p0 : Int32) (sz : Nat)  : Met l yX2_put wsX2_put ({ frames := 0, cells := 0, slots := 0, locals := 0 }) (kP dC dI z zK zV [.ref hd, .int 0, .int p0] sz (wd_k_put0 z hd hu hy cU cW p0) [(cU, .int), (cW, .boolean)]) (va_Qv (fun _ : Unit => True) (fun _ t => kB (dC, dI) (va_A (wd_k_put0 z hd hu hy cU cW p0) sz) [(hd, .inr (6, [.ref hu, .ref hy, .int 1]))] [] t) (va_A (wd_k_put0 z hd hu hy cU cW p0) sz)) 0 0 (va_A (wd_k_put0 z hd hu hy cU cW p0) sz) := by
  refine Met.ofW (cc := cX2_put) (maxL := 3) (ret := none) (by decide) rfl ?_
  intro p e s m args below meth c s₁ B hml hv
  obtain ⟨rfl, hsz, hP, hK, hD0, hM⟩ := hv
  have hx := B.exec
  have hb := B.bytes
  have hr := B.returns
  have hts := atoms_spec (ws := wsX2_put) B.pre
  have hown : s.vm.findClass RX2 = some m.cls := findClass_of_methodNamed B.named
  have hlocks := B.notSynchronized
  have hiX2 : ∀ w ∈ u_ws RX2 TX2 3, w ∈ wsX2_put := by decide +kernel
  subst hsz
  have hD := hD0.self (sz := s.heap.size)
  generalize hAe : va_A (wd_k_put0 z hd hu hy cU cW p0) s.heap.size = A at hD hM ⊢
  have hA : ∀ q : Nat, s.heap.size ≤ q → A q := fun q h => by rw [← hAe]; exact Or.inr h
  have hS : va_S A s.heap s.heap [] := va_S.rf
  have hP : va_P (dC, dI) vwCl [(hd, .inr (6, [.ref hu, .ref hy, .int 0])), (hu, .inl (cU, 20, .inl (fun _ => 0))), (hy, .inl (cW, 20, .inl (fun _ => 0)))] s.heap := hP
  have hD : va_D A [(hd, .inr (6, [.ref hu, .ref hy, .int 0])), (hu, .inl (cU, 20, .inl (fun _ => 0))), (hy, .inl (cW, 20, .inl (fun _ => 0)))] := hD
  have hl := lv_entry ([.ref hd, .int 0, .int p0]) (n := 3) (Nat.le_of_ble_eq_true rfl)
  rw [lg_entry_eq]
  generalize (lg_sl ([.ref hd, .int 0, .int p0]) ++ List.replicate (3 - (lg_sl ([.ref hd, .int 0, .int p0])).length) Slot.unset).toArray = ls at hl ⊢
  have hl : lv_has ls 3 [(0, .ref hd), (1, .int 0), (2, .int p0)] := hl
  refine lv_aload_n hx hb dX2_put_0 rfl (lv_at hl 0 rfl) ?_
  refine va_get (D := (dC, dI)) (ci := 6) (v := .int 0) (C := RX2) (T := TX2) (N := 3) hx hb hts hiX2 hown hK hP 0 rfl rfl 2 (by decide) (hts (.fieldLink RX2 19 "SquareRig$Hold" "casks" "I") (by decide +kernel)) (fun _ h9 => h9) rfl dX2_put_1 ?_
  refine lv_if_lt (tgt := 46) hx hb dX2_put_4 (by decide) (fun c_ => absurd c_ (by decide +kernel)) (fun _ => ?_)
  refine lv_aload_n hx hb dX2_put_7 rfl (lv_at hl 0 rfl) ?_
  refine va_get (D := (dC, dI)) (ci := 6) (v := .int 0) (C := RX2) (T := TX2) (N := 3) hx hb hts hiX2 hown hK hP 0 rfl rfl 2 (by decide) (hts (.fieldLink RX2 19 "SquareRig$Hold" "casks" "I") (by decide +kernel)) (fun _ h9 => h9) rfl dX2_put_8 ?_
  refine lv_bipush (v := 20) hx hb dX2_put_11 (by decide) ?_
  refine lv_icmp_ge (tgt := 46) hx hb dX2_put_13 (by decide) (fun c_ => absurd c_ (by decide +kernel)) (fun _ => ?_)
  refine lv_aload_n hx hb dX2_put_16 rfl (lv_at hl 0 rfl) ?_
  refine va_get (D := (dC, dI)) (ci := 6) (v := .ref hu) (C := RX2) (T := TX2) (N := 3) hx hb hts hiX2 hown hK hP 0 rfl rfl 0 (by decide) (hts (.fieldLink RX2 9 "SquareRig$Hold" "units" "[I") (by decide +kernel)) (fun _ h9 => h9) rfl dX2_put_17 ?_
  refine lv_aload_n hx hb dX2_put_20 rfl (lv_at hl 0 rfl) ?_
  refine va_get (D := (dC, dI)) (ci := 6) (v := .int 0) (C := RX2) (T := TX2) (N := 3) hx hb hts hiX2 hown hK hP 0 rfl rfl 2 (by decide) (hts (.fieldLink RX2 19 "SquareRig$Hold" "casks" "I") (by decide +kernel)) (fun _ h9 => h9) rfl dX2_put_21 ?_
  refine lv_iload_n hx hb dX2_put_24 rfl (lv_at hl 2 rfl) ?_
  refine va_iast hx hb hK hP hD hS 1 0 rfl rfl (pk_in 0 20 (by decide) rfl) dX2_put_25 (fun H locs hP hD hS => ?_)
  have hP : va_P (dC, dI) vwCl [(hd, .inr (6, [.ref hu, .ref hy, .int 0])), (hu, .inl (cU, 20, .inl (upd (fun _ => 0) 0 p0))), (hy, .inl (cW, 20, .inl (fun _ => 0)))] H := hP
  have hD : va_D A [(hd, .inr (6, [.ref hu, .ref hy, .int 0])), (hu, .inl (cU, 20, .inl (upd (fun _ => 0) 0 p0))), (hy, .inl (cW, 20, .inl (fun _ => 0)))] := hD
  refine lv_aload_n hx hb dX2_put_26 rfl (lv_at hl 0 rfl) ?_
  refine va_get (D := (dC, dI)) (ci := 6) (v := .ref hy) (C := RX2) (T := TX2) (N := 3) hx hb hts hiX2 hown hK hP 0 rfl rfl 1 (by decide) (hts (.fieldLink RX2 15 "SquareRig$Hold" "isWater" "[Z") (by decide +kernel)) (fun _ h9 => h9) rfl dX2_put_27 ?_
  refine lv_aload_n hx hb dX2_put_30 rfl (lv_at hl 0 rfl) ?_
  refine va_get (D := (dC, dI)) (ci := 6) (v := .int 0) (C := RX2) (T := TX2) (N := 3) hx hb hts hiX2 hown hK hP 0 rfl rfl 2 (by decide) (hts (.fieldLink RX2 19 "SquareRig$Hold" "casks" "I") (by decide +kernel)) (fun _ h9 => h9) rfl dX2_put_31 ?_
  refine lv_iload_n hx hb dX2_put_34 rfl (lv_at hl 1 rfl) ?_
  refine va_zast hx hb hK hP hD hS 2 1 rfl rfl (pk_in 0 20 (by decide) rfl) dX2_put_35 (fun H locs hP hD hS => ?_)
  have hP : va_P (dC, dI) vwCl [(hd, .inr (6, [.ref hu, .ref hy, .int 0])), (hu, .inl (cU, 20, .inl (upd (fun _ => 0) 0 p0))), (hy, .inl (cW, 20, .inl (upd (fun _ => 0) 0 0)))] H := hP
  have hD : va_D A [(hd, .inr (6, [.ref hu, .ref hy, .int 0])), (hu, .inl (cU, 20, .inl (upd (fun _ => 0) 0 p0))), (hy, .inl (cW, 20, .inl (upd (fun _ => 0) 0 0)))] := hD
  refine lv_aload_n hx hb dX2_put_36 rfl (lv_at hl 0 rfl) ?_
  refine lv_dup hx hb dX2_put_37 rfl ?_
  refine va_get (D := (dC, dI)) (ci := 6) (v := .int 0) (C := RX2) (T := TX2) (N := 3) hx hb hts hiX2 hown hK hP 0 rfl rfl 2 (by decide) (hts (.fieldLink RX2 19 "SquareRig$Hold" "casks" "I") (by decide +kernel)) (fun _ h9 => h9) rfl dX2_put_38 ?_
  refine lv_iconst (v := 1) hx hb dX2_put_41 (by decide) ?_
  refine lv_iadd hx hb dX2_put_42 ?_
  refine kc_i (y := 1) (by decide +kernel) ?_
  refine va_put (D := (dC, dI)) (ci := 6) (v := .int 1) (ty := .int) (C := RX2) (T := TX2) (N := 3) hx hb hts hiX2 tyX2 tyX2_ok nmX2 hown hK hP hD hS 0 rfl rfl 2 (by decide) (hts (.fieldLink RX2 19 "SquareRig$Hold" "casks" "I") (by decide +kernel)) (fun _ h9 => h9) rfl (by decide +kernel) rfl rfl (Nat.le_of_ble_eq_true rfl) dX2_put_43 (fun H locs hP hD hS => ?_)
  have hP : va_P (dC, dI) vwCl [(hd, .inr (6, [.ref hu, .ref hy, .int 1])), (hu, .inl (cU, 20, .inl (upd (fun _ => 0) 0 p0))), (hy, .inl (cW, 20, .inl (upd (fun _ => 0) 0 0)))] H := hP
  have hD : va_D A [(hd, .inr (6, [.ref hu, .ref hy, .int 1])), (hu, .inl (cU, 20, .inl (upd (fun _ => 0) 0 p0))), (hy, .inl (cW, 20, .inl (upd (fun _ => 0) 0 0)))] := hD
  exact W.vret hx hb hr (fun t ht hW => ⟨⟨(), rfl, trivial, kB_end (w9 := [(hd, .inr (6, [.ref hu, .ref hy, .int 1]))]) (t9 := []) hP hK hD [0] [] rfl (by decide) rfl rfl t ht hW⟩, hS.F ht⟩) hS.2.2 dX2_put_46
abbrev wd_k_obey_stow0 (z : Nat → Nat) (sh : Nat) (rg : Nat) (dk : Nat) (hd : Nat) (hu : Nat) (hy : Nat) (lg : Nat) (pl : Nat) (pr : Nat) (cU : ClassId) (cW : ClassId) (de : Nat) (p0 : Int32) : va_W := [(sh, .inr (13, [.ref rg, .ref dk, .ref hd, .ref lg, .ref pl, .ref pr, .int 0, .int 0, .int 0, .int 0, .int 0, .int 0, .int 0, .int 0, .int 0, .int 0, .int 0])), (de, .inr (5, [.int 6, .int 0, .int p0, .int 0])), (hd, .inr (6, [.ref hu, .ref hy, .int 0])), (hu, .inl (cU, 20, .inl (fun _ => 0))), (hy, .inl (cW, 20, .inl (fun _ => 0)))]
set_option maxHeartbeats 4000000 in
set_option maxRecDepth 100000 in
theorem k_obey_stow0 (l : Launch) (dC : Nat → ClassId) (dI : Nat → Nat → Nat) (z zK zV : Nat → Nat) (sh : Nat) (rg : Nat) (dk : Nat) (hd : Nat) (hu : Nat) (hy : Nat) (lg : Nat) (pl : Nat) (pr : Nat) (cU : ClassId) (cW : ClassId) (de : Nat) (p0 : Int32) (sz : Nat)  : Met l yX9_obey wsX9_obey ({ frames := 1, cells := 0, slots := 0, locals := 22 }) (kP dC dI z zK zV [.ref sh, .ref de] sz (wd_k_obey_stow0 z sh rg dk hd hu hy lg pl pr cU cW de p0) [(cU, .int), (cW, .boolean)]) (va_Qv (fun _ : Unit => True) (fun _ t => kB (dC, dI) (va_A (wd_k_obey_stow0 z sh rg dk hd hu hy lg pl pr cU cW de p0) sz) [(sh, .inr (13, [.ref rg, .ref dk, .ref hd, .ref lg, .ref pl, .ref pr, .int 0, .int 0, .int 0, .int 0, .int 0, .int 0, .int 0, .int 0, .int 0, .int 0, .int 0])), (hd, .inr (6, [.ref hu, .ref hy, .int 1]))] [] t) (va_A (wd_k_obey_stow0 z sh rg dk hd hu hy lg pl pr cU cW de p0) sz)) 0 0 (va_A (wd_k_obey_stow0 z sh rg dk hd hu hy lg pl pr cU cW de p0) sz) := by
  refine Met.ofW (cc := cX9_obey) (maxL := 3) (ret := none) (by decide) rfl ?_
  intro p e s m args below meth c s₁ B hml hv
  obtain ⟨rfl, hsz, hP, hK, hD0, hM⟩ := hv
  have hx := B.exec
  have hb := B.bytes
  have hr := B.returns
  have hts := atoms_spec (ws := wsX9_obey) B.pre
  have hown : s.vm.findClass RX9 = some m.cls := findClass_of_methodNamed B.named
  have hlocks := B.notSynchronized
  have hiX1 : ∀ w ∈ u_ws RX1 TX1 4, w ∈ wsX9_obey := by decide +kernel
  have hiX9 : ∀ w ∈ u_ws RX9 TX9 17, w ∈ wsX9_obey := by decide +kernel
  subst hsz
  have hD := hD0.self (sz := s.heap.size)
  generalize hAe : va_A (wd_k_obey_stow0 z sh rg dk hd hu hy lg pl pr cU cW de p0) s.heap.size = A at hD hM ⊢
  have hA : ∀ q : Nat, s.heap.size ≤ q → A q := fun q h => by rw [← hAe]; exact Or.inr h
  have hS : va_S A s.heap s.heap [] := va_S.rf
  have hP : va_P (dC, dI) vwCl [(sh, .inr (13, [.ref rg, .ref dk, .ref hd, .ref lg, .ref pl, .ref pr, .int 0, .int 0, .int 0, .int 0, .int 0, .int 0, .int 0, .int 0, .int 0, .int 0, .int 0])), (de, .inr (5, [.int 6, .int 0, .int p0, .int 0])), (hd, .inr (6, [.ref hu, .ref hy, .int 0])), (hu, .inl (cU, 20, .inl (fun _ => 0))), (hy, .inl (cW, 20, .inl (fun _ => 0)))] s.heap := hP
  have hD : va_D A [(sh, .inr (13, [.ref rg, .ref dk, .ref hd, .ref lg, .ref pl, .ref pr, .int 0, .int 0, .int 0, .int 0, .int 0, .int 0, .int 0, .int 0, .int 0, .int 0, .int 0])), (de, .inr (5, [.int 6, .int 0, .int p0, .int 0])), (hd, .inr (6, [.ref hu, .ref hy, .int 0])), (hu, .inl (cU, 20, .inl (fun _ => 0))), (hy, .inl (cW, 20, .inl (fun _ => 0)))] := hD
  have hl := lv_entry ([.ref sh, .ref de]) (n := 3) (Nat.le_of_ble_eq_true rfl)
  rw [lg_entry_eq]
  generalize (lg_sl ([.ref sh, .ref de]) ++ List.replicate (3 - (lg_sl ([.ref sh, .ref de])).length) Slot.unset).toArray = ls at hl ⊢
  have hl : lv_has ls 3 [(0, .ref sh), (1, .ref de)] := hl
  refine lv_aload_n hx hb dX9_obey_0 rfl (lv_at hl 1 rfl) ?_
  refine va_getN (D := (dC, dI)) (ci := 5) (v := .int 6) (C := RX1) (T := TX1) (N := 4) hx hb hts hiX1 hown hK hP 1 rfl rfl 0 (by decide) (va_Nw.use rfl (hM.1 _ (List.mem_of_getElem? (i := 49) rfl))) (fun _ h9 => h9) rfl dX9_obey_1 ?_
  refine lv_tableIn (off := 162) (tgt := 166) hx hb dX9_obey_4 (by decide +kernel) (by decide +kernel) rfl (by decide) ?_
  refine lv_aload_n hx hb dX9_obey_166 rfl (lv_at hl 0 rfl) ?_
  refine va_get (D := (dC, dI)) (ci := 13) (v := .ref hd) (C := RX9) (T := TX9) (N := 17) hx hb hts hiX9 hown hK hP 0 rfl rfl 2 (by decide) (hts (.fieldLink RX9 28 "SquareRig$Ship" "hold" "LSquareRig$Hold;") (by decide +kernel)) (fun _ h9 => h9) rfl dX9_obey_167 ?_
  refine lv_aload_n hx hb dX9_obey_170 rfl (lv_at hl 1 rfl) ?_
  refine va_getN (D := (dC, dI)) (ci := 5) (v := .int 0) (C := RX1) (T := TX1) (N := 4) hx hb hts hiX1 hown hK hP 1 rfl rfl 1 (by decide) (va_Nw.use rfl (hM.1 _ (List.mem_of_getElem? (i := 50) rfl))) (fun _ h9 => h9) rfl dX9_obey_171 ?_
  refine lv_iconst (v := 1) hx hb dX9_obey_174 (by decide) ?_
  refine lv_icmp_ne (tgt := 182) hx hb dX9_obey_175 (by decide) (fun _ => ?_) (fun c_ => absurd c_ (by decide +kernel))
  refine lv_iconst (v := 0) hx hb dX9_obey_182 (by decide) ?_
  refine lv_aload_n hx hb dX9_obey_183 rfl (lv_at hl 1 rfl) ?_
  refine va_getN (D := (dC, dI)) (ci := 5) (v := .int p0) (C := RX1) (T := TX1) (N := 4) hx hb hts hiX1 hown hK hP 1 rfl rfl 2 (by decide) (va_Nw.use rfl (hM.1 _ (List.mem_of_getElem? (i := 51) rfl))) (fun _ h9 => h9) rfl dX9_obey_184 ?_
  have hPc := hP.sub (ws' := [(hd, .inr (6, [.ref hu, .ref hy, .int 0])), (hu, .inl (cU, 20, .inl (fun _ => 0))), (hy, .inl (cW, 20, .inl (fun _ => 0)))]) [2, 3, 4] rfl
  have hDc := hD.sub (ws' := [(hd, .inr (6, [.ref hu, .ref hy, .int 0])), (hu, .inl (cU, 20, .inl (fun _ => 0))), (hy, .inl (cW, 20, .inl (fun _ => 0)))]) [2, 3, 4] (by decide) rfl
  have hKc := hK.sub (tys' := [(cU, .int), (cW, .boolean)]) [0, 1] rfl
  have hFc := va_free (wc := [(hd, .inr (6, [.ref hu, .ref hy, .int 0])), (hu, .inl (cU, 20, .inl (fun _ => 0))), (hy, .inl (cW, 20, .inl (fun _ => 0)))]) hD hS hA [2, 3, 4] rfl
  refine va_callv (va_runV (As := [.int 0, .int p0]) (rest := []) ⟨hx, hb, hml, hown, hts⟩ (k_put0 l dC dI z zK zV hd hu hy cU cW p0 s.heap.size) (cwV 2 hts gX9_obey_X2_put rfl rfl rfl (by decide +kernel) ⟨Nat.le_of_ble_eq_true rfl, Nat.le_of_ble_eq_true rfl⟩) ⟨kP_blind, va_recv hKc hPc (ci := 6) (q0 := 0) rfl rfl, kP_go hPc hKc hDc hFc hM hS⟩ rfl rfl hl.1 rfl (lv_room (Nat.le_of_ble_eq_true rfl)) dX9_obey_187 ⟨Nat.le_of_ble_eq_true rfl, Nat.le_of_ble_eq_true rfl⟩) hS (fun q _ h => hFc q h) hFc (fun u t H1 locs ht hvm hw hB hz1 hk1 hS => ?_)
  obtain ⟨hP, hD, hK⟩ := kJ (wr := [(sh, .inr (13, [.ref rg, .ref dk, .ref hd, .ref lg, .ref pl, .ref pr, .int 0, .int 0, .int 0, .int 0, .int 0, .int 0, .int 0, .int 0, .int 0, .int 0, .int 0])), (de, .inr (5, [.int 6, .int 0, .int p0, .int 0]))]) (w1 := [(hd, .inr (6, [.ref hu, .ref hy, .int 1]))]) (t1 := []) hP hD hK [2, 3, 4] [0, 1] rfl rfl (by decide) (by decide) hk1 hFc ht hvm hB
  generalize H1 = H at hP hS ⊢
  have hP : va_P (dC, dI) vwCl [(sh, .inr (13, [.ref rg, .ref dk, .ref hd, .ref lg, .ref pl, .ref pr, .int 0, .int 0, .int 0, .int 0, .int 0, .int 0, .int 0, .int 0, .int 0, .int 0, .int 0])), (de, .inr (5, [.int 6, .int 0, .int p0, .int 0])), (hd, .inr (6, [.ref hu, .ref hy, .int 1]))] H := hP
  have hD : va_D A [(sh, .inr (13, [.ref rg, .ref dk, .ref hd, .ref lg, .ref pl, .ref pr, .int 0, .int 0, .int 0, .int 0, .int 0, .int 0, .int 0, .int 0, .int 0, .int 0, .int 0])), (de, .inr (5, [.int 6, .int 0, .int p0, .int 0])), (hd, .inr (6, [.ref hu, .ref hy, .int 1]))] := hD
  have hK : va_K (dC, dI) vwCl [(cU, .int), (cW, .boolean)] s := hK
  clear hw
  refine lv_goto (tgt := 243) hx hb dX9_obey_190 (by decide) ?_
  exact W.vret hx hb hr (fun t ht hW => ⟨⟨(), rfl, trivial, kB_end (w9 := [(sh, .inr (13, [.ref rg, .ref dk, .ref hd, .ref lg, .ref pl, .ref pr, .int 0, .int 0, .int 0, .int 0, .int 0, .int 0, .int 0, .int 0, .int 0, .int 0, .int 0])), (hd, .inr (6, [.ref hu, .ref hy, .int 1]))]) (t9 := []) hP hK hD [0, 2] [] rfl (by decide) rfl rfl t ht hW⟩, hS.F ht⟩) hS.2.2 dX9_obey_243
abbrev wd_k_x_stow0 (z : Nat → Nat) (sh : Nat) (rg : Nat) (dk : Nat) (hd : Nat) (hu : Nat) (hy : Nat) (lg : Nat) (pl : Nat) (pr : Nat) (cU : ClassId) (cW : ClassId) (x : Nat) (tl : Nat) (tw : Nat) (p0 : Int32) : va_W := [(x, .inr (15, [.ref sh, .ref tl, .ref tw, .int 0])), (tl, .inr (3, [.int 0, .ref (z 0), .int 0])), (sh, .inr (13, [.ref rg, .ref dk, .ref hd, .ref lg, .ref pl, .ref pr, .int 0, .int 0, .int 0, .int 0, .int 0, .int 0, .int 0, .int 0, .int 0, .int 0, .int 0])), (hd, .inr (6, [.ref hu, .ref hy, .int 0])), (hu, .inl (cU, 20, .inl (fun _ => 0))), (hy, .inl (cW, 20, .inl (fun _ => 0)))]
set_option maxHeartbeats 4000000 in
set_option maxRecDepth 100000 in
theorem k_x_stow0 (l : Launch) (dC : Nat → ClassId) (dI : Nat → Nat → Nat) (z zK zV : Nat → Nat) (sh : Nat) (rg : Nat) (dk : Nat) (hd : Nat) (hu : Nat) (hy : Nat) (lg : Nat) (pl : Nat) (pr : Nat) (cU : ClassId) (cW : ClassId) (x : Nat) (tl : Nat) (tw : Nat) (p0 : Int32) (sz : Nat) (hst : l.stackTraces = false) (hg0 : (1 : Int32) ≤ p0 ∧ p0 ≤ 500) : vx_Met l yX11_stow wsX11_stow ({ frames := 6, cells := 2, slots := 14, locals := 126 }) (kP dC dI z zK zV [.ref x, .int 0, .int p0] sz (wd_k_x_stow0 z sh rg dk hd hu hy lg pl pr cU cW x tl tw p0) [(cU, .int), (cW, .boolean)]) (va_Qi (fun (r : Int32) (_ : Unit) => 1 = r) (fun _ t => kB (dC, dI) (va_A (wd_k_x_stow0 z sh rg dk hd hu hy lg pl pr cU cW x tl tw p0) sz) [] [] t) (va_A (wd_k_x_stow0 z sh rg dk hd hu hy lg pl pr cU cW x tl tw p0) sz)) (vx_X (fun _ : Unit => True) (fun E _ _ => "java/lang/IllegalArgumentException" = E) (va_A (wd_k_x_stow0 z sh rg dk hd hu hy lg pl pr cU cW x tl tw p0) sz)) 2 14 (va_A (wd_k_x_stow0 z sh rg dk hd hu hy lg pl pr cU cW x tl tw p0) sz) := by
  refine vx_ofW (cc := cX11_stow) (maxL := 3) (ret := (some .int)) (by decide) rfl ?_
  intro p e s m args below meth c s₁ B hml hnt hv
  obtain ⟨rfl, hsz, hP, hK, hD0, hM⟩ := hv
  have hx := B.exec
  have hb := B.bytes
  have hr := B.returns
  have hts := atoms_spec (ws := wsX11_stow) B.pre
  have hown : s.vm.findClass RX11 = some m.cls := findClass_of_methodNamed B.named
  have hlocks := B.notSynchronized
  have hiX11 : ∀ w ∈ u_ws RX11 TX11 4, w ∈ wsX11_stow := by decide +kernel
  have hiX9 : ∀ w ∈ u_ws RX9 TX9 17, w ∈ wsX11_stow := by decide +kernel
  have hiX2 : ∀ w ∈ u_ws RX2 TX2 3, w ∈ wsX11_stow := by decide +kernel
  subst hsz
  have hD := hD0.self (sz := s.heap.size)
  generalize hAe : va_A (wd_k_x_stow0 z sh rg dk hd hu hy lg pl pr cU cW x tl tw p0) s.heap.size = A at hD hM ⊢
  have hA : ∀ q : Nat, s.heap.size ≤ q → A q := fun q h => by rw [← hAe]; exact Or.inr h
  have hS : va_S A s.heap s.heap [] := va_S.rf
  have hP : va_P (dC, dI) vwCl [(x, .inr (15, [.ref sh, .ref tl, .ref tw, .int 0])), (tl, .inr (3, [.int 0, .ref (z 0), .int 0])), (sh, .inr (13, [.ref rg, .ref dk, .ref hd, .ref lg, .ref pl, .ref pr, .int 0, .int 0, .int 0, .int 0, .int 0, .int 0, .int 0, .int 0, .int 0, .int 0, .int 0])), (hd, .inr (6, [.ref hu, .ref hy, .int 0])), (hu, .inl (cU, 20, .inl (fun _ => 0))), (hy, .inl (cW, 20, .inl (fun _ => 0)))] s.heap := hP
  have hD : va_D A [(x, .inr (15, [.ref sh, .ref tl, .ref tw, .int 0])), (tl, .inr (3, [.int 0, .ref (z 0), .int 0])), (sh, .inr (13, [.ref rg, .ref dk, .ref hd, .ref lg, .ref pl, .ref pr, .int 0, .int 0, .int 0, .int 0, .int 0, .int 0, .int 0, .int 0, .int 0, .int 0, .int 0])), (hd, .inr (6, [.ref hu, .ref hy, .int 0])), (hu, .inl (cU, 20, .inl (fun _ => 0))), (hy, .inl (cW, 20, .inl (fun _ => 0)))] := hD
  have hl := lv_entry ([.ref x, .int 0, .int p0]) (n := 3) (Nat.le_of_ble_eq_true rfl)
  rw [lg_entry_eq]
  generalize (lg_sl ([.ref x, .int 0, .int p0]) ++ List.replicate (3 - (lg_sl ([.ref x, .int 0, .int p0])).length) Slot.unset).toArray = ls at hl ⊢
  have hl : lv_has ls 3 [(0, .ref x), (1, .int 0), (2, .int p0)] := hl
  refine lv_iload_n hx hb dX11_stow_0 rfl (lv_at hl 2 rfl) ?_
  refine lv_iconst (v := 1) hx hb dX11_stow_1 (by decide) ?_
  refine lv_sipush (v := 500) hx hb dX11_stow_2 (by decide) ?_
  have hPc := hP.sub (ws' := []) [] rfl
  have hDc := hD.sub (ws' := []) [] (by decide) rfl
  have hKc := hK.sub (tys' := []) [] rfl
  have hFc := va_free (wc := []) hD hS hA [] rfl
  refine va_calli (va_runS (As := [.int p0, .int 1, .int 500]) (rest := []) ⟨hx, hb, hml, hown, hts⟩ (k_isIn l dC dI z zK zV p0 1 500 s.heap.size) (va_cwS 3 hts gX11_stow_X11_isIn rfl rfl rfl (by decide +kernel) ⟨Nat.le_of_ble_eq_true rfl, Nat.le_of_ble_eq_true rfl⟩) ⟨kP_blind, kP_go hPc hKc hDc hFc hM hS⟩ rfl rfl hl.1 rfl (lv_room (Nat.le_of_ble_eq_true rfl)) dX11_stow_5 ⟨Nat.le_of_ble_eq_true rfl, Nat.le_of_ble_eq_true rfl⟩) hS (fun q _ h => hFc q h) hFc (fun r1 u t H1 locs ht hvm hw hB hz1 hk1 hS => ?_)
  obtain ⟨hP, hD, hK⟩ := kJ (wr := [(x, .inr (15, [.ref sh, .ref tl, .ref tw, .int 0])), (tl, .inr (3, [.int 0, .ref (z 0), .int 0])), (sh, .inr (13, [.ref rg, .ref dk, .ref hd, .ref lg, .ref pl, .ref pr, .int 0, .int 0, .int 0, .int 0, .int 0, .int 0, .int 0, .int 0, .int 0, .int 0, .int 0])), (hd, .inr (6, [.ref hu, .ref hy, .int 0])), (hu, .inl (cU, 20, .inl (fun _ => 0))), (hy, .inl (cW, 20, .inl (fun _ => 0)))]) (w1 := []) (t1 := []) hP hD hK [] [0, 1, 2, 3, 4, 5] rfl rfl (by decide) (by decide) hk1 hFc ht hvm hB
  generalize H1 = H at hP hS ⊢
  have hP : va_P (dC, dI) vwCl [(x, .inr (15, [.ref sh, .ref tl, .ref tw, .int 0])), (tl, .inr (3, [.int 0, .ref (z 0), .int 0])), (sh, .inr (13, [.ref rg, .ref dk, .ref hd, .ref lg, .ref pl, .ref pr, .int 0, .int 0, .int 0, .int 0, .int 0, .int 0, .int 0, .int 0, .int 0, .int 0, .int 0])), (hd, .inr (6, [.ref hu, .ref hy, .int 0])), (hu, .inl (cU, 20, .inl (fun _ => 0))), (hy, .inl (cW, 20, .inl (fun _ => 0)))] H := hP
  have hD : va_D A [(x, .inr (15, [.ref sh, .ref tl, .ref tw, .int 0])), (tl, .inr (3, [.int 0, .ref (z 0), .int 0])), (sh, .inr (13, [.ref rg, .ref dk, .ref hd, .ref lg, .ref pl, .ref pr, .int 0, .int 0, .int 0, .int 0, .int 0, .int 0, .int 0, .int 0, .int 0, .int 0, .int 0])), (hd, .inr (6, [.ref hu, .ref hy, .int 0])), (hu, .inl (cU, 20, .inl (fun _ => 0))), (hy, .inl (cW, 20, .inl (fun _ => 0)))] := hD
  have hK : va_K (dC, dI) vwCl [(cU, .int), (cW, .boolean)] s := hK
  obtain rfl : (if 1 ≤ p0 ∧ p0 ≤ 500 then (1 : Int32) else 0) = r1 := hw
  refine lv_if_ne (tgt := 21) hx hb dX11_stow_8 (by decide) (fun c2 => ?_) (fun c2 => ?_)
  · skip
    refine lv_aload_n hx hb dX11_stow_21 rfl (lv_at hl 0 rfl) ?_
    refine va_get (D := (dC, dI)) (ci := 15) (v := .ref sh) (C := RX11) (T := TX11) (N := 4) hx hb hts hiX11 hown hK hP 0 rfl rfl 0 (by decide) (hts (.fieldLink RX11 10 "SquareRig" "ship" "LSquareRig$Ship;") (by decide +kernel)) (fun _ h9 => h9) rfl dX11_stow_22 ?_
    refine va_getN (D := (dC, dI)) (ci := 13) (v := .ref hd) (C := RX9) (T := TX9) (N := 17) hx hb hts hiX9 hown hK hP 2 rfl rfl 2 (by decide) (va_Nw.use rfl (hM.1 _ (List.mem_of_getElem? (i := 38) rfl))) (fun _ h9 => h9) rfl dX11_stow_25 ?_
    refine va_getN (D := (dC, dI)) (ci := 6) (v := .int 0) (C := RX2) (T := TX2) (N := 3) hx hb hts hiX2 hown hK hP 3 rfl rfl 2 (by decide) (va_Nw.use rfl (hM.1 _ (List.mem_of_getElem? (i := 30) rfl))) (fun _ h9 => h9) rfl dX11_stow_28 ?_
    refine lv_bipush (v := 20) hx hb dX11_stow_31 (by decide) ?_
    refine lv_icmp_lt (tgt := 46) hx hb dX11_stow_33 (by decide) (fun _ => ?_) (fun c_ => absurd (by decide +kernel) c_)
    refine lv_aload_n hx hb dX11_stow_46 rfl (lv_at hl 0 rfl) ?_
    refine va_get (D := (dC, dI)) (ci := 15) (v := .ref sh) (C := RX11) (T := TX11) (N := 4) hx hb hts hiX11 hown hK hP 0 rfl rfl 0 (by decide) (hts (.fieldLink RX11 10 "SquareRig" "ship" "LSquareRig$Ship;") (by decide +kernel)) (fun _ h9 => h9) rfl dX11_stow_47 ?_
    refine lv_aload_n hx hb dX11_stow_50 rfl (lv_at hl 0 rfl) ?_
    refine lv_bipush (v := 6) hx hb dX11_stow_51 (by decide) ?_
    refine lv_iload_n hx hb dX11_stow_53 rfl (lv_at hl 1 rfl) ?_
    refine lv_if_eq (tgt := 61) hx hb dX11_stow_54 (by decide) (fun _ => ?_) (fun c_ => absurd (by decide +kernel) c_)
    refine lv_iconst (v := 0) hx hb dX11_stow_61 (by decide) ?_
    refine lv_iload_n hx hb dX11_stow_62 rfl (lv_at hl 2 rfl) ?_
    refine lv_iconst (v := 0) hx hb dX11_stow_63 (by decide) ?_
    have hPc := hP.sub (ws' := [(x, .inr (15, [.ref sh, .ref tl, .ref tw, .int 0])), (tl, .inr (3, [.int 0, .ref (z 0), .int 0]))]) [0, 1] rfl
    have hDc := hD.sub (ws' := [(x, .inr (15, [.ref sh, .ref tl, .ref tw, .int 0])), (tl, .inr (3, [.int 0, .ref (z 0), .int 0]))]) [0, 1] (by decide) rfl
    have hKc := hK.sub (tys' := []) [] rfl
    have hFc := va_free (wc := [(x, .inr (15, [.ref sh, .ref tl, .ref tw, .int 0])), (tl, .inr (3, [.int 0, .ref (z 0), .int 0]))]) hD hS hA [0, 1] rfl
    refine va_callr (va_runV (As := [.int 6, .int 0, .int p0, .int 0]) (rest := [.ref sh]) ⟨hx, hb, hml, hown, hts⟩ (k_keep l dC dI z zK zV sh x tl tw 6 0 p0 0 H.size) (cwV 4 hts gX11_stow_X11_keep rfl rfl rfl (by decide +kernel) ⟨Nat.le_of_ble_eq_true rfl, Nat.le_of_ble_eq_true rfl⟩) ⟨kP_blind, va_recv hKc hPc (ci := 15) (q0 := 0) rfl rfl, kP_go hPc hKc hDc hFc hM hS⟩ rfl rfl hl.1 rfl (lv_room (Nat.le_of_ble_eq_true rfl)) dX11_stow_64 ⟨Nat.le_of_ble_eq_true rfl, Nat.le_of_ble_eq_true rfl⟩) hS (fun q _ h => hFc q h) hFc (fun u ra3 t H1 locs ht hvm hw hB hz1 hk1 hS => ?_)
    obtain ⟨q4, q5, cA6, rfl, hB⟩ := hB
    obtain ⟨hP, hD, hK⟩ := kJ (wr := [(sh, .inr (13, [.ref rg, .ref dk, .ref hd, .ref lg, .ref pl, .ref pr, .int 0, .int 0, .int 0, .int 0, .int 0, .int 0, .int 0, .int 0, .int 0, .int 0, .int 0])), (hd, .inr (6, [.ref hu, .ref hy, .int 0])), (hu, .inl (cU, 20, .inl (fun _ => 0))), (hy, .inl (cW, 20, .inl (fun _ => 0)))]) (w1 := [(x, .inr (15, [.ref sh, .ref tl, .ref tw, .int 0])), (q4, .inr (5, [.int 6, .int 0, .int p0, .int 0])), (tl, .inr (3, [.int (0 + 1), .ref q5, .int 1])), (q5, .inl (cA6, 10, .inr (.inr (.inr (.inr (va_up (fun _ => none) 0 (some q4)))))))]) (t1 := [(cA6, .object "java/lang/Object")]) hP hD hK [0, 1] [2, 3, 4, 5] rfl rfl (by decide) (by decide) hk1 hFc ht hvm hB
    generalize H1 = H at hP hS ⊢
    have hP : va_P (dC, dI) vwCl [(sh, .inr (13, [.ref rg, .ref dk, .ref hd, .ref lg, .ref pl, .ref pr, .int 0, .int 0, .int 0, .int 0, .int 0, .int 0, .int 0, .int 0, .int 0, .int 0, .int 0])), (hd, .inr (6, [.ref hu, .ref hy, .int 0])), (hu, .inl (cU, 20, .inl (fun _ => 0))), (hy, .inl (cW, 20, .inl (fun _ => 0))), (x, .inr (15, [.ref sh, .ref tl, .ref tw, .int 0])), (q4, .inr (5, [.int 6, .int 0, .int p0, .int 0])), (tl, .inr (3, [.int (0 + 1), .ref q5, .int 1])), (q5, .inl (cA6, 10, .inr (.inr (.inr (.inr (va_up (fun _ => none) 0 (some q4)))))))] H := hP
    have hD : va_D A [(sh, .inr (13, [.ref rg, .ref dk, .ref hd, .ref lg, .ref pl, .ref pr, .int 0, .int 0, .int 0, .int 0, .int 0, .int 0, .int 0, .int 0, .int 0, .int 0, .int 0])), (hd, .inr (6, [.ref hu, .ref hy, .int 0])), (hu, .inl (cU, 20, .inl (fun _ => 0))), (hy, .inl (cW, 20, .inl (fun _ => 0))), (x, .inr (15, [.ref sh, .ref tl, .ref tw, .int 0])), (q4, .inr (5, [.int 6, .int 0, .int p0, .int 0])), (tl, .inr (3, [.int (0 + 1), .ref q5, .int 1])), (q5, .inl (cA6, 10, .inr (.inr (.inr (.inr (va_up (fun _ => none) 0 (some q4)))))))] := hD
    have hK : va_K (dC, dI) vwCl [(cU, .int), (cW, .boolean), (cA6, .object "java/lang/Object")] s := hK
    have hPc := hP.sub (ws' := [(sh, .inr (13, [.ref rg, .ref dk, .ref hd, .ref lg, .ref pl, .ref pr, .int 0, .int 0, .int 0, .int 0, .int 0, .int 0, .int 0, .int 0, .int 0, .int 0, .int 0])), (q4, .inr (5, [.int 6, .int 0, .int p0, .int 0])), (hd, .inr (6, [.ref hu, .ref hy, .int 0])), (hu, .inl (cU, 20, .inl (fun _ => 0))), (hy, .inl (cW, 20, .inl (fun _ => 0)))]) [0, 5, 1, 2, 3] rfl
    have hDc := hD.sub (ws' := [(sh, .inr (13, [.ref rg, .ref dk, .ref hd, .ref lg, .ref pl, .ref pr, .int 0, .int 0, .int 0, .int 0, .int 0, .int 0, .int 0, .int 0, .int 0, .int 0, .int 0])), (q4, .inr (5, [.int 6, .int 0, .int p0, .int 0])), (hd, .inr (6, [.ref hu, .ref hy, .int 0])), (hu, .inl (cU, 20, .inl (fun _ => 0))), (hy, .inl (cW, 20, .inl (fun _ => 0)))]) [0, 5, 1, 2, 3] (by decide) rfl
    have hKc := hK.sub (tys' := [(cU, .int), (cW, .boolean)]) [0, 1] rfl
    have hFc := va_free (wc := [(sh, .inr (13, [.ref rg, .ref dk, .ref hd, .ref lg, .ref pl, .ref pr, .int 0, .int 0, .int 0, .int 0, .int 0, .int 0, .int 0, .int 0, .int 0, .int 0, .int 0])), (q4, .inr (5, [.int 6, .int 0, .int p0, .int 0])), (hd, .inr (6, [.ref hu, .ref hy, .int 0])), (hu, .inl (cU, 20, .inl (fun _ => 0))), (hy, .inl (cW, 20, .inl (fun _ => 0)))]) hD hS hA [0, 5, 1, 2, 3] rfl
    refine va_callv (va_runV (As := [.ref q4]) (rest := []) ⟨hx, hb, hml, hown, hts⟩ (k_obey_stow0 l dC dI z zK zV sh rg dk hd hu hy lg pl pr cU cW q4 p0 H.size) (cwV 1 hts gX11_stow_X9_obey rfl rfl rfl (by decide +kernel) ⟨Nat.le_of_ble_eq_true rfl, Nat.le_of_ble_eq_true rfl⟩) ⟨kP_blind, va_recv hKc hPc (ci := 13) (q0 := 0) rfl rfl, kP_go hPc hKc hDc hFc hM hS⟩ rfl rfl hl.1 rfl (lv_room (Nat.le_of_ble_eq_true rfl)) dX11_stow_67 ⟨Nat.le_of_ble_eq_true rfl, Nat.le_of_ble_eq_true rfl⟩) hS (fun q _ h => hFc q h) hFc (fun u t H1 locs ht hvm hw hB hz1 hk1 hS => ?_)
    obtain ⟨hP, hD, hK⟩ := kJ (wr := [(x, .inr (15, [.ref sh, .ref tl, .ref tw, .int 0])), (tl, .inr (3, [.int (0 + 1), .ref q5, .int 1])), (q5, .inl (cA6, 10, .inr (.inr (.inr (.inr (va_up (fun _ => none) 0 (some q4)))))))]) (w1 := [(sh, .inr (13, [.ref rg, .ref dk, .ref hd, .ref lg, .ref pl, .ref pr, .int 0, .int 0, .int 0, .int 0, .int 0, .int 0, .int 0, .int 0, .int 0, .int 0, .int 0])), (hd, .inr (6, [.ref hu, .ref hy, .int 1]))]) (t1 := []) hP hD hK [0, 5, 1, 2, 3] [4, 6, 7] rfl rfl (by decide) (by decide) hk1 hFc ht hvm hB
    generalize H1 = H at hP hS ⊢
    have hP : va_P (dC, dI) vwCl [(x, .inr (15, [.ref sh, .ref tl, .ref tw, .int 0])), (tl, .inr (3, [.int (0 + 1), .ref q5, .int 1])), (q5, .inl (cA6, 10, .inr (.inr (.inr (.inr (va_up (fun _ => none) 0 (some q4))))))), (sh, .inr (13, [.ref rg, .ref dk, .ref hd, .ref lg, .ref pl, .ref pr, .int 0, .int 0, .int 0, .int 0, .int 0, .int 0, .int 0, .int 0, .int 0, .int 0, .int 0])), (hd, .inr (6, [.ref hu, .ref hy, .int 1]))] H := hP
    have hD : va_D A [(x, .inr (15, [.ref sh, .ref tl, .ref tw, .int 0])), (tl, .inr (3, [.int (0 + 1), .ref q5, .int 1])), (q5, .inl (cA6, 10, .inr (.inr (.inr (.inr (va_up (fun _ => none) 0 (some q4))))))), (sh, .inr (13, [.ref rg, .ref dk, .ref hd, .ref lg, .ref pl, .ref pr, .int 0, .int 0, .int 0, .int 0, .int 0, .int 0, .int 0, .int 0, .int 0, .int 0, .int 0])), (hd, .inr (6, [.ref hu, .ref hy, .int 1]))] := hD
    have hK : va_K (dC, dI) vwCl [(cU, .int), (cW, .boolean), (cA6, .object "java/lang/Object")] s := hK
    clear hw
    refine lv_aload_n hx hb dX11_stow_70 rfl (lv_at hl 0 rfl) ?_
    refine va_get (D := (dC, dI)) (ci := 15) (v := .ref sh) (C := RX11) (T := TX11) (N := 4) hx hb hts hiX11 hown hK hP 0 rfl rfl 0 (by decide) (hts (.fieldLink RX11 10 "SquareRig" "ship" "LSquareRig$Ship;") (by decide +kernel)) (fun _ h9 => h9) rfl dX11_stow_71 ?_
    refine va_getN (D := (dC, dI)) (ci := 13) (v := .ref hd) (C := RX9) (T := TX9) (N := 17) hx hb hts hiX9 hown hK hP 3 rfl rfl 2 (by decide) (va_Nw.use rfl (hM.1 _ (List.mem_of_getElem? (i := 38) rfl))) (fun _ h9 => h9) rfl dX11_stow_74 ?_
    refine va_getN (D := (dC, dI)) (ci := 6) (v := .int 1) (C := RX2) (T := TX2) (N := 3) hx hb hts hiX2 hown hK hP 4 rfl rfl 2 (by decide) (va_Nw.use rfl (hM.1 _ (List.mem_of_getElem? (i := 30) rfl))) (fun _ h9 => h9) rfl dX11_stow_77 ?_
    refine vx_ret ?_
    refine W.widen (k := 2) (n := 14) (Nat.le_of_ble_eq_true rfl) (Nat.le_of_ble_eq_true rfl) ?_
    exact W.iret (v := 1) hx hb hr (fun t ht hW => ⟨⟨1, (), rfl, rfl, kB_end (w9 := []) (t9 := []) hP hK hD [] [] rfl (by decide) rfl rfl t ht hW⟩, hS.F ht⟩) hS.2.2 dX11_stow_80
  · skip
    obtain ⟨sa, hsa⟩ := hM.2.1 _ (List.mem_of_getElem? (i := 8) rfl)
    exact vx_throwS (own := RX11) (cls := "java/lang/IllegalArgumentException") (text := "no cask has so many units") (names := ["java/lang/RuntimeException", "java/lang/Exception"]) (ik := 34) (is := 136) (ic := 38) (mc := 2) (ms := 14) (sa := sa) hx hb hst hown (by decide) (by decide) (hts (.classLink RX11 34 "java/lang/IllegalArgumentException") (by decide +kernel)) (hts (.initialized "java/lang/IllegalArgumentException") (by decide +kernel)) hsa (vx_hat (fun w h9 => hts w (List.mem_cons_of_mem _ (List.mem_append_left _ (List.mem_append_left _ (List.mem_append_left _ (List.mem_append_right _ h9)))))) (by decide +kernel) (fun w hw => va_Nw.use (List.all_eq_true.mp am_Bt w hw) (hM.2.2.2.2.2.2.2.2.2.1 w hw))) (by decide +kernel) hM.2.2.2.2.2.2.2.1.1 hM.2.2.2.2.2.2.2.1.2 hS (hl.1.trans hml.symm) dX11_stow_11 dX11_stow_14 dX11_stow_15 dX11_stow_17 dX11_stow_20 (fun x hx => (hnt x hx).elim) (Nat.le_of_ble_eq_true rfl) (Nat.le_of_ble_eq_true rfl) (Nat.le_of_ble_eq_true rfl) (Nat.le_of_ble_eq_true rfl) hlocks (fun t hvm hz hq => ⟨(), trivial, rfl, Nat.le_trans hS.1 hz, fun q h1 h2 => (hq q (Nat.lt_of_lt_of_le h1 hS.1)).trans (hS.2.1 q h1 h2)⟩) hS.2.2 (Nat.le_of_ble_eq_true rfl) (Nat.le_of_ble_eq_true rfl)
abbrev wd_k_put1 (z : Nat → Nat) (hd : Nat) (hu : Nat) (hy : Nat) (cU : ClassId) (cW : ClassId) (p0 : Int32) : va_W := [(hd, .inr (6, [.ref hu, .ref hy, .int 0])), (hu, .inl (cU, 20, .inl (fun _ => 0))), (hy, .inl (cW, 20, .inl (fun _ => 0)))]
set_option maxHeartbeats 4000000 in
set_option maxRecDepth 100000 in
theorem k_put1 (l : Launch) (dC : Nat → ClassId) (dI : Nat → Nat → Nat) (z zK zV : Nat → Nat) (hd : Nat) (hu : Nat) (hy : Nat) (cU : ClassId) (cW : ClassId) (p0 : Int32) (sz : Nat)  : Met l yX2_put wsX2_put ({ frames := 0, cells := 0, slots := 0, locals := 0 }) (kP dC dI z zK zV [.ref hd, .int 1, .int p0] sz (wd_k_put1 z hd hu hy cU cW p0) [(cU, .int), (cW, .boolean)]) (va_Qv (fun _ : Unit => True) (fun _ t => kB (dC, dI) (va_A (wd_k_put1 z hd hu hy cU cW p0) sz) [(hd, .inr (6, [.ref hu, .ref hy, .int 1]))] [] t) (va_A (wd_k_put1 z hd hu hy cU cW p0) sz)) 0 0 (va_A (wd_k_put1 z hd hu hy cU cW p0) sz) := by
  refine Met.ofW (cc := cX2_put) (maxL := 3) (ret := none) (by decide) rfl ?_
  intro p e s m args below meth c s₁ B hml hv
  obtain ⟨rfl, hsz, hP, hK, hD0, hM⟩ := hv
  have hx := B.exec
  have hb := B.bytes
  have hr := B.returns
  have hts := atoms_spec (ws := wsX2_put) B.pre
  have hown : s.vm.findClass RX2 = some m.cls := findClass_of_methodNamed B.named
  have hlocks := B.notSynchronized
  have hiX2 : ∀ w ∈ u_ws RX2 TX2 3, w ∈ wsX2_put := by decide +kernel
  subst hsz
  have hD := hD0.self (sz := s.heap.size)
  generalize hAe : va_A (wd_k_put1 z hd hu hy cU cW p0) s.heap.size = A at hD hM ⊢
  have hA : ∀ q : Nat, s.heap.size ≤ q → A q := fun q h => by rw [← hAe]; exact Or.inr h
  have hS : va_S A s.heap s.heap [] := va_S.rf
  have hP : va_P (dC, dI) vwCl [(hd, .inr (6, [.ref hu, .ref hy, .int 0])), (hu, .inl (cU, 20, .inl (fun _ => 0))), (hy, .inl (cW, 20, .inl (fun _ => 0)))] s.heap := hP
  have hD : va_D A [(hd, .inr (6, [.ref hu, .ref hy, .int 0])), (hu, .inl (cU, 20, .inl (fun _ => 0))), (hy, .inl (cW, 20, .inl (fun _ => 0)))] := hD
  have hl := lv_entry ([.ref hd, .int 1, .int p0]) (n := 3) (Nat.le_of_ble_eq_true rfl)
  rw [lg_entry_eq]
  generalize (lg_sl ([.ref hd, .int 1, .int p0]) ++ List.replicate (3 - (lg_sl ([.ref hd, .int 1, .int p0])).length) Slot.unset).toArray = ls at hl ⊢
  have hl : lv_has ls 3 [(0, .ref hd), (1, .int 1), (2, .int p0)] := hl
  refine lv_aload_n hx hb dX2_put_0 rfl (lv_at hl 0 rfl) ?_
  refine va_get (D := (dC, dI)) (ci := 6) (v := .int 0) (C := RX2) (T := TX2) (N := 3) hx hb hts hiX2 hown hK hP 0 rfl rfl 2 (by decide) (hts (.fieldLink RX2 19 "SquareRig$Hold" "casks" "I") (by decide +kernel)) (fun _ h9 => h9) rfl dX2_put_1 ?_
  refine lv_if_lt (tgt := 46) hx hb dX2_put_4 (by decide) (fun c_ => absurd c_ (by decide +kernel)) (fun _ => ?_)
  refine lv_aload_n hx hb dX2_put_7 rfl (lv_at hl 0 rfl) ?_
  refine va_get (D := (dC, dI)) (ci := 6) (v := .int 0) (C := RX2) (T := TX2) (N := 3) hx hb hts hiX2 hown hK hP 0 rfl rfl 2 (by decide) (hts (.fieldLink RX2 19 "SquareRig$Hold" "casks" "I") (by decide +kernel)) (fun _ h9 => h9) rfl dX2_put_8 ?_
  refine lv_bipush (v := 20) hx hb dX2_put_11 (by decide) ?_
  refine lv_icmp_ge (tgt := 46) hx hb dX2_put_13 (by decide) (fun c_ => absurd c_ (by decide +kernel)) (fun _ => ?_)
  refine lv_aload_n hx hb dX2_put_16 rfl (lv_at hl 0 rfl) ?_
  refine va_get (D := (dC, dI)) (ci := 6) (v := .ref hu) (C := RX2) (T := TX2) (N := 3) hx hb hts hiX2 hown hK hP 0 rfl rfl 0 (by decide) (hts (.fieldLink RX2 9 "SquareRig$Hold" "units" "[I") (by decide +kernel)) (fun _ h9 => h9) rfl dX2_put_17 ?_
  refine lv_aload_n hx hb dX2_put_20 rfl (lv_at hl 0 rfl) ?_
  refine va_get (D := (dC, dI)) (ci := 6) (v := .int 0) (C := RX2) (T := TX2) (N := 3) hx hb hts hiX2 hown hK hP 0 rfl rfl 2 (by decide) (hts (.fieldLink RX2 19 "SquareRig$Hold" "casks" "I") (by decide +kernel)) (fun _ h9 => h9) rfl dX2_put_21 ?_
  refine lv_iload_n hx hb dX2_put_24 rfl (lv_at hl 2 rfl) ?_
  refine va_iast hx hb hK hP hD hS 1 0 rfl rfl (pk_in 0 20 (by decide) rfl) dX2_put_25 (fun H locs hP hD hS => ?_)
  have hP : va_P (dC, dI) vwCl [(hd, .inr (6, [.ref hu, .ref hy, .int 0])), (hu, .inl (cU, 20, .inl (upd (fun _ => 0) 0 p0))), (hy, .inl (cW, 20, .inl (fun _ => 0)))] H := hP
  have hD : va_D A [(hd, .inr (6, [.ref hu, .ref hy, .int 0])), (hu, .inl (cU, 20, .inl (upd (fun _ => 0) 0 p0))), (hy, .inl (cW, 20, .inl (fun _ => 0)))] := hD
  refine lv_aload_n hx hb dX2_put_26 rfl (lv_at hl 0 rfl) ?_
  refine va_get (D := (dC, dI)) (ci := 6) (v := .ref hy) (C := RX2) (T := TX2) (N := 3) hx hb hts hiX2 hown hK hP 0 rfl rfl 1 (by decide) (hts (.fieldLink RX2 15 "SquareRig$Hold" "isWater" "[Z") (by decide +kernel)) (fun _ h9 => h9) rfl dX2_put_27 ?_
  refine lv_aload_n hx hb dX2_put_30 rfl (lv_at hl 0 rfl) ?_
  refine va_get (D := (dC, dI)) (ci := 6) (v := .int 0) (C := RX2) (T := TX2) (N := 3) hx hb hts hiX2 hown hK hP 0 rfl rfl 2 (by decide) (hts (.fieldLink RX2 19 "SquareRig$Hold" "casks" "I") (by decide +kernel)) (fun _ h9 => h9) rfl dX2_put_31 ?_
  refine lv_iload_n hx hb dX2_put_34 rfl (lv_at hl 1 rfl) ?_
  refine va_zast hx hb hK hP hD hS 2 1 rfl rfl (pk_in 0 20 (by decide) rfl) dX2_put_35 (fun H locs hP hD hS => ?_)
  have hP : va_P (dC, dI) vwCl [(hd, .inr (6, [.ref hu, .ref hy, .int 0])), (hu, .inl (cU, 20, .inl (upd (fun _ => 0) 0 p0))), (hy, .inl (cW, 20, .inl (upd (fun _ => 0) 0 1)))] H := hP
  have hD : va_D A [(hd, .inr (6, [.ref hu, .ref hy, .int 0])), (hu, .inl (cU, 20, .inl (upd (fun _ => 0) 0 p0))), (hy, .inl (cW, 20, .inl (upd (fun _ => 0) 0 1)))] := hD
  refine lv_aload_n hx hb dX2_put_36 rfl (lv_at hl 0 rfl) ?_
  refine lv_dup hx hb dX2_put_37 rfl ?_
  refine va_get (D := (dC, dI)) (ci := 6) (v := .int 0) (C := RX2) (T := TX2) (N := 3) hx hb hts hiX2 hown hK hP 0 rfl rfl 2 (by decide) (hts (.fieldLink RX2 19 "SquareRig$Hold" "casks" "I") (by decide +kernel)) (fun _ h9 => h9) rfl dX2_put_38 ?_
  refine lv_iconst (v := 1) hx hb dX2_put_41 (by decide) ?_
  refine lv_iadd hx hb dX2_put_42 ?_
  refine kc_i (y := 1) (by decide +kernel) ?_
  refine va_put (D := (dC, dI)) (ci := 6) (v := .int 1) (ty := .int) (C := RX2) (T := TX2) (N := 3) hx hb hts hiX2 tyX2 tyX2_ok nmX2 hown hK hP hD hS 0 rfl rfl 2 (by decide) (hts (.fieldLink RX2 19 "SquareRig$Hold" "casks" "I") (by decide +kernel)) (fun _ h9 => h9) rfl (by decide +kernel) rfl rfl (Nat.le_of_ble_eq_true rfl) dX2_put_43 (fun H locs hP hD hS => ?_)
  have hP : va_P (dC, dI) vwCl [(hd, .inr (6, [.ref hu, .ref hy, .int 1])), (hu, .inl (cU, 20, .inl (upd (fun _ => 0) 0 p0))), (hy, .inl (cW, 20, .inl (upd (fun _ => 0) 0 1)))] H := hP
  have hD : va_D A [(hd, .inr (6, [.ref hu, .ref hy, .int 1])), (hu, .inl (cU, 20, .inl (upd (fun _ => 0) 0 p0))), (hy, .inl (cW, 20, .inl (upd (fun _ => 0) 0 1)))] := hD
  exact W.vret hx hb hr (fun t ht hW => ⟨⟨(), rfl, trivial, kB_end (w9 := [(hd, .inr (6, [.ref hu, .ref hy, .int 1]))]) (t9 := []) hP hK hD [0] [] rfl (by decide) rfl rfl t ht hW⟩, hS.F ht⟩) hS.2.2 dX2_put_46
abbrev wd_k_obey_stow1 (z : Nat → Nat) (sh : Nat) (rg : Nat) (dk : Nat) (hd : Nat) (hu : Nat) (hy : Nat) (lg : Nat) (pl : Nat) (pr : Nat) (cU : ClassId) (cW : ClassId) (de : Nat) (p0 : Int32) : va_W := [(sh, .inr (13, [.ref rg, .ref dk, .ref hd, .ref lg, .ref pl, .ref pr, .int 0, .int 0, .int 0, .int 0, .int 0, .int 0, .int 0, .int 0, .int 0, .int 0, .int 0])), (de, .inr (5, [.int 6, .int 1, .int p0, .int 0])), (hd, .inr (6, [.ref hu, .ref hy, .int 0])), (hu, .inl (cU, 20, .inl (fun _ => 0))), (hy, .inl (cW, 20, .inl (fun _ => 0)))]
set_option maxHeartbeats 4000000 in
set_option maxRecDepth 100000 in
theorem k_obey_stow1 (l : Launch) (dC : Nat → ClassId) (dI : Nat → Nat → Nat) (z zK zV : Nat → Nat) (sh : Nat) (rg : Nat) (dk : Nat) (hd : Nat) (hu : Nat) (hy : Nat) (lg : Nat) (pl : Nat) (pr : Nat) (cU : ClassId) (cW : ClassId) (de : Nat) (p0 : Int32) (sz : Nat)  : Met l yX9_obey wsX9_obey ({ frames := 1, cells := 0, slots := 0, locals := 22 }) (kP dC dI z zK zV [.ref sh, .ref de] sz (wd_k_obey_stow1 z sh rg dk hd hu hy lg pl pr cU cW de p0) [(cU, .int), (cW, .boolean)]) (va_Qv (fun _ : Unit => True) (fun _ t => kB (dC, dI) (va_A (wd_k_obey_stow1 z sh rg dk hd hu hy lg pl pr cU cW de p0) sz) [(sh, .inr (13, [.ref rg, .ref dk, .ref hd, .ref lg, .ref pl, .ref pr, .int 0, .int 0, .int 0, .int 0, .int 0, .int 0, .int 0, .int 0, .int 0, .int 0, .int 0])), (hd, .inr (6, [.ref hu, .ref hy, .int 1]))] [] t) (va_A (wd_k_obey_stow1 z sh rg dk hd hu hy lg pl pr cU cW de p0) sz)) 0 0 (va_A (wd_k_obey_stow1 z sh rg dk hd hu hy lg pl pr cU cW de p0) sz) := by
  refine Met.ofW (cc := cX9_obey) (maxL := 3) (ret := none) (by decide) rfl ?_
  intro p e s m args below meth c s₁ B hml hv
  obtain ⟨rfl, hsz, hP, hK, hD0, hM⟩ := hv
  have hx := B.exec
  have hb := B.bytes
  have hr := B.returns
  have hts := atoms_spec (ws := wsX9_obey) B.pre
  have hown : s.vm.findClass RX9 = some m.cls := findClass_of_methodNamed B.named
  have hlocks := B.notSynchronized
  have hiX1 : ∀ w ∈ u_ws RX1 TX1 4, w ∈ wsX9_obey := by decide +kernel
  have hiX9 : ∀ w ∈ u_ws RX9 TX9 17, w ∈ wsX9_obey := by decide +kernel
  subst hsz
  have hD := hD0.self (sz := s.heap.size)
  generalize hAe : va_A (wd_k_obey_stow1 z sh rg dk hd hu hy lg pl pr cU cW de p0) s.heap.size = A at hD hM ⊢
  have hA : ∀ q : Nat, s.heap.size ≤ q → A q := fun q h => by rw [← hAe]; exact Or.inr h
  have hS : va_S A s.heap s.heap [] := va_S.rf
  have hP : va_P (dC, dI) vwCl [(sh, .inr (13, [.ref rg, .ref dk, .ref hd, .ref lg, .ref pl, .ref pr, .int 0, .int 0, .int 0, .int 0, .int 0, .int 0, .int 0, .int 0, .int 0, .int 0, .int 0])), (de, .inr (5, [.int 6, .int 1, .int p0, .int 0])), (hd, .inr (6, [.ref hu, .ref hy, .int 0])), (hu, .inl (cU, 20, .inl (fun _ => 0))), (hy, .inl (cW, 20, .inl (fun _ => 0)))] s.heap := hP
  have hD : va_D A [(sh, .inr (13, [.ref rg, .ref dk, .ref hd, .ref lg, .ref pl, .ref pr, .int 0, .int 0, .int 0, .int 0, .int 0, .int 0, .int 0, .int 0, .int 0, .int 0, .int 0])), (de, .inr (5, [.int 6, .int 1, .int p0, .int 0])), (hd, .inr (6, [.ref hu, .ref hy, .int 0])), (hu, .inl (cU, 20, .inl (fun _ => 0))), (hy, .inl (cW, 20, .inl (fun _ => 0)))] := hD
  have hl := lv_entry ([.ref sh, .ref de]) (n := 3) (Nat.le_of_ble_eq_true rfl)
  rw [lg_entry_eq]
  generalize (lg_sl ([.ref sh, .ref de]) ++ List.replicate (3 - (lg_sl ([.ref sh, .ref de])).length) Slot.unset).toArray = ls at hl ⊢
  have hl : lv_has ls 3 [(0, .ref sh), (1, .ref de)] := hl
  refine lv_aload_n hx hb dX9_obey_0 rfl (lv_at hl 1 rfl) ?_
  refine va_getN (D := (dC, dI)) (ci := 5) (v := .int 6) (C := RX1) (T := TX1) (N := 4) hx hb hts hiX1 hown hK hP 1 rfl rfl 0 (by decide) (va_Nw.use rfl (hM.1 _ (List.mem_of_getElem? (i := 49) rfl))) (fun _ h9 => h9) rfl dX9_obey_1 ?_
  refine lv_tableIn (off := 162) (tgt := 166) hx hb dX9_obey_4 (by decide +kernel) (by decide +kernel) rfl (by decide) ?_
  refine lv_aload_n hx hb dX9_obey_166 rfl (lv_at hl 0 rfl) ?_
  refine va_get (D := (dC, dI)) (ci := 13) (v := .ref hd) (C := RX9) (T := TX9) (N := 17) hx hb hts hiX9 hown hK hP 0 rfl rfl 2 (by decide) (hts (.fieldLink RX9 28 "SquareRig$Ship" "hold" "LSquareRig$Hold;") (by decide +kernel)) (fun _ h9 => h9) rfl dX9_obey_167 ?_
  refine lv_aload_n hx hb dX9_obey_170 rfl (lv_at hl 1 rfl) ?_
  refine va_getN (D := (dC, dI)) (ci := 5) (v := .int 1) (C := RX1) (T := TX1) (N := 4) hx hb hts hiX1 hown hK hP 1 rfl rfl 1 (by decide) (va_Nw.use rfl (hM.1 _ (List.mem_of_getElem? (i := 50) rfl))) (fun _ h9 => h9) rfl dX9_obey_171 ?_
  refine lv_iconst (v := 1) hx hb dX9_obey_174 (by decide) ?_
  refine lv_icmp_ne (tgt := 182) hx hb dX9_obey_175 (by decide) (fun c_ => absurd (by decide +kernel) c_) (fun _ => ?_)
  refine lv_iconst (v := 1) hx hb dX9_obey_178 (by decide) ?_
  refine lv_goto (tgt := 183) hx hb dX9_obey_179 (by decide) ?_
  refine lv_aload_n hx hb dX9_obey_183 rfl (lv_at hl 1 rfl) ?_
  refine va_getN (D := (dC, dI)) (ci := 5) (v := .int p0) (C := RX1) (T := TX1) (N := 4) hx hb hts hiX1 hown hK hP 1 rfl rfl 2 (by decide) (va_Nw.use rfl (hM.1 _ (List.mem_of_getElem? (i := 51) rfl))) (fun _ h9 => h9) rfl dX9_obey_184 ?_
  have hPc := hP.sub (ws' := [(hd, .inr (6, [.ref hu, .ref hy, .int 0])), (hu, .inl (cU, 20, .inl (fun _ => 0))), (hy, .inl (cW, 20, .inl (fun _ => 0)))]) [2, 3, 4] rfl
  have hDc := hD.sub (ws' := [(hd, .inr (6, [.ref hu, .ref hy, .int 0])), (hu, .inl (cU, 20, .inl (fun _ => 0))), (hy, .inl (cW, 20, .inl (fun _ => 0)))]) [2, 3, 4] (by decide) rfl
  have hKc := hK.sub (tys' := [(cU, .int), (cW, .boolean)]) [0, 1] rfl
  have hFc := va_free (wc := [(hd, .inr (6, [.ref hu, .ref hy, .int 0])), (hu, .inl (cU, 20, .inl (fun _ => 0))), (hy, .inl (cW, 20, .inl (fun _ => 0)))]) hD hS hA [2, 3, 4] rfl
  refine va_callv (va_runV (As := [.int 1, .int p0]) (rest := []) ⟨hx, hb, hml, hown, hts⟩ (k_put1 l dC dI z zK zV hd hu hy cU cW p0 s.heap.size) (cwV 2 hts gX9_obey_X2_put rfl rfl rfl (by decide +kernel) ⟨Nat.le_of_ble_eq_true rfl, Nat.le_of_ble_eq_true rfl⟩) ⟨kP_blind, va_recv hKc hPc (ci := 6) (q0 := 0) rfl rfl, kP_go hPc hKc hDc hFc hM hS⟩ rfl rfl hl.1 rfl (lv_room (Nat.le_of_ble_eq_true rfl)) dX9_obey_187 ⟨Nat.le_of_ble_eq_true rfl, Nat.le_of_ble_eq_true rfl⟩) hS (fun q _ h => hFc q h) hFc (fun u t H1 locs ht hvm hw hB hz1 hk1 hS => ?_)
  obtain ⟨hP, hD, hK⟩ := kJ (wr := [(sh, .inr (13, [.ref rg, .ref dk, .ref hd, .ref lg, .ref pl, .ref pr, .int 0, .int 0, .int 0, .int 0, .int 0, .int 0, .int 0, .int 0, .int 0, .int 0, .int 0])), (de, .inr (5, [.int 6, .int 1, .int p0, .int 0]))]) (w1 := [(hd, .inr (6, [.ref hu, .ref hy, .int 1]))]) (t1 := []) hP hD hK [2, 3, 4] [0, 1] rfl rfl (by decide) (by decide) hk1 hFc ht hvm hB
  generalize H1 = H at hP hS ⊢
  have hP : va_P (dC, dI) vwCl [(sh, .inr (13, [.ref rg, .ref dk, .ref hd, .ref lg, .ref pl, .ref pr, .int 0, .int 0, .int 0, .int 0, .int 0, .int 0, .int 0, .int 0, .int 0, .int 0, .int 0])), (de, .inr (5, [.int 6, .int 1, .int p0, .int 0])), (hd, .inr (6, [.ref hu, .ref hy, .int 1]))] H := hP
  have hD : va_D A [(sh, .inr (13, [.ref rg, .ref dk, .ref hd, .ref lg, .ref pl, .ref pr, .int 0, .int 0, .int 0, .int 0, .int 0, .int 0, .int 0, .int 0, .int 0, .int 0, .int 0])), (de, .inr (5, [.int 6, .int 1, .int p0, .int 0])), (hd, .inr (6, [.ref hu, .ref hy, .int 1]))] := hD
  have hK : va_K (dC, dI) vwCl [(cU, .int), (cW, .boolean)] s := hK
  clear hw
  refine lv_goto (tgt := 243) hx hb dX9_obey_190 (by decide) ?_
  exact W.vret hx hb hr (fun t ht hW => ⟨⟨(), rfl, trivial, kB_end (w9 := [(sh, .inr (13, [.ref rg, .ref dk, .ref hd, .ref lg, .ref pl, .ref pr, .int 0, .int 0, .int 0, .int 0, .int 0, .int 0, .int 0, .int 0, .int 0, .int 0, .int 0])), (hd, .inr (6, [.ref hu, .ref hy, .int 1]))]) (t9 := []) hP hK hD [0, 2] [] rfl (by decide) rfl rfl t ht hW⟩, hS.F ht⟩) hS.2.2 dX9_obey_243
abbrev wd_k_x_stow1 (z : Nat → Nat) (sh : Nat) (rg : Nat) (dk : Nat) (hd : Nat) (hu : Nat) (hy : Nat) (lg : Nat) (pl : Nat) (pr : Nat) (cU : ClassId) (cW : ClassId) (x : Nat) (tl : Nat) (tw : Nat) (p0 : Int32) : va_W := [(x, .inr (15, [.ref sh, .ref tl, .ref tw, .int 0])), (tl, .inr (3, [.int 0, .ref (z 0), .int 0])), (sh, .inr (13, [.ref rg, .ref dk, .ref hd, .ref lg, .ref pl, .ref pr, .int 0, .int 0, .int 0, .int 0, .int 0, .int 0, .int 0, .int 0, .int 0, .int 0, .int 0])), (hd, .inr (6, [.ref hu, .ref hy, .int 0])), (hu, .inl (cU, 20, .inl (fun _ => 0))), (hy, .inl (cW, 20, .inl (fun _ => 0)))]
set_option maxHeartbeats 4000000 in
set_option maxRecDepth 100000 in
theorem k_x_stow1 (l : Launch) (dC : Nat → ClassId) (dI : Nat → Nat → Nat) (z zK zV : Nat → Nat) (sh : Nat) (rg : Nat) (dk : Nat) (hd : Nat) (hu : Nat) (hy : Nat) (lg : Nat) (pl : Nat) (pr : Nat) (cU : ClassId) (cW : ClassId) (x : Nat) (tl : Nat) (tw : Nat) (p0 : Int32) (sz : Nat) (hst : l.stackTraces = false) (hg0 : (1 : Int32) ≤ p0 ∧ p0 ≤ 500) : vx_Met l yX11_stow wsX11_stow ({ frames := 6, cells := 2, slots := 14, locals := 126 }) (kP dC dI z zK zV [.ref x, .int 1, .int p0] sz (wd_k_x_stow1 z sh rg dk hd hu hy lg pl pr cU cW x tl tw p0) [(cU, .int), (cW, .boolean)]) (va_Qi (fun (r : Int32) (_ : Unit) => 1 = r) (fun _ t => kB (dC, dI) (va_A (wd_k_x_stow1 z sh rg dk hd hu hy lg pl pr cU cW x tl tw p0) sz) [] [] t) (va_A (wd_k_x_stow1 z sh rg dk hd hu hy lg pl pr cU cW x tl tw p0) sz)) (vx_X (fun _ : Unit => True) (fun E _ _ => "java/lang/IllegalArgumentException" = E) (va_A (wd_k_x_stow1 z sh rg dk hd hu hy lg pl pr cU cW x tl tw p0) sz)) 2 14 (va_A (wd_k_x_stow1 z sh rg dk hd hu hy lg pl pr cU cW x tl tw p0) sz) := by
  refine vx_ofW (cc := cX11_stow) (maxL := 3) (ret := (some .int)) (by decide) rfl ?_
  intro p e s m args below meth c s₁ B hml hnt hv
  obtain ⟨rfl, hsz, hP, hK, hD0, hM⟩ := hv
  have hx := B.exec
  have hb := B.bytes
  have hr := B.returns
  have hts := atoms_spec (ws := wsX11_stow) B.pre
  have hown : s.vm.findClass RX11 = some m.cls := findClass_of_methodNamed B.named
  have hlocks := B.notSynchronized
  have hiX11 : ∀ w ∈ u_ws RX11 TX11 4, w ∈ wsX11_stow := by decide +kernel
  have hiX9 : ∀ w ∈ u_ws RX9 TX9 17, w ∈ wsX11_stow := by decide +kernel
  have hiX2 : ∀ w ∈ u_ws RX2 TX2 3, w ∈ wsX11_stow := by decide +kernel
  subst hsz
  have hD := hD0.self (sz := s.heap.size)
  generalize hAe : va_A (wd_k_x_stow1 z sh rg dk hd hu hy lg pl pr cU cW x tl tw p0) s.heap.size = A at hD hM ⊢
  have hA : ∀ q : Nat, s.heap.size ≤ q → A q := fun q h => by rw [← hAe]; exact Or.inr h
  have hS : va_S A s.heap s.heap [] := va_S.rf
  have hP : va_P (dC, dI) vwCl [(x, .inr (15, [.ref sh, .ref tl, .ref tw, .int 0])), (tl, .inr (3, [.int 0, .ref (z 0), .int 0])), (sh, .inr (13, [.ref rg, .ref dk, .ref hd, .ref lg, .ref pl, .ref pr, .int 0, .int 0, .int 0, .int 0, .int 0, .int 0, .int 0, .int 0, .int 0, .int 0, .int 0])), (hd, .inr (6, [.ref hu, .ref hy, .int 0])), (hu, .inl (cU, 20, .inl (fun _ => 0))), (hy, .inl (cW, 20, .inl (fun _ => 0)))] s.heap := hP
  have hD : va_D A [(x, .inr (15, [.ref sh, .ref tl, .ref tw, .int 0])), (tl, .inr (3, [.int 0, .ref (z 0), .int 0])), (sh, .inr (13, [.ref rg, .ref dk, .ref hd, .ref lg, .ref pl, .ref pr, .int 0, .int 0, .int 0, .int 0, .int 0, .int 0, .int 0, .int 0, .int 0, .int 0, .int 0])), (hd, .inr (6, [.ref hu, .ref hy, .int 0])), (hu, .inl (cU, 20, .inl (fun _ => 0))), (hy, .inl (cW, 20, .inl (fun _ => 0)))] := hD
  have hl := lv_entry ([.ref x, .int 1, .int p0]) (n := 3) (Nat.le_of_ble_eq_true rfl)
  rw [lg_entry_eq]
  generalize (lg_sl ([.ref x, .int 1, .int p0]) ++ List.replicate (3 - (lg_sl ([.ref x, .int 1, .int p0])).length) Slot.unset).toArray = ls at hl ⊢
  have hl : lv_has ls 3 [(0, .ref x), (1, .int 1), (2, .int p0)] := hl
  refine lv_iload_n hx hb dX11_stow_0 rfl (lv_at hl 2 rfl) ?_
  refine lv_iconst (v := 1) hx hb dX11_stow_1 (by decide) ?_
  refine lv_sipush (v := 500) hx hb dX11_stow_2 (by decide) ?_
  have hPc := hP.sub (ws' := []) [] rfl
  have hDc := hD.sub (ws' := []) [] (by decide) rfl
  have hKc := hK.sub (tys' := []) [] rfl
  have hFc := va_free (wc := []) hD hS hA [] rfl
  refine va_calli (va_runS (As := [.int p0, .int 1, .int 500]) (rest := []) ⟨hx, hb, hml, hown, hts⟩ (k_isIn l dC dI z zK zV p0 1 500 s.heap.size) (va_cwS 3 hts gX11_stow_X11_isIn rfl rfl rfl (by decide +kernel) ⟨Nat.le_of_ble_eq_true rfl, Nat.le_of_ble_eq_true rfl⟩) ⟨kP_blind, kP_go hPc hKc hDc hFc hM hS⟩ rfl rfl hl.1 rfl (lv_room (Nat.le_of_ble_eq_true rfl)) dX11_stow_5 ⟨Nat.le_of_ble_eq_true rfl, Nat.le_of_ble_eq_true rfl⟩) hS (fun q _ h => hFc q h) hFc (fun r1 u t H1 locs ht hvm hw hB hz1 hk1 hS => ?_)
  obtain ⟨hP, hD, hK⟩ := kJ (wr := [(x, .inr (15, [.ref sh, .ref tl, .ref tw, .int 0])), (tl, .inr (3, [.int 0, .ref (z 0), .int 0])), (sh, .inr (13, [.ref rg, .ref dk, .ref hd, .ref lg, .ref pl, .ref pr, .int 0, .int 0, .int 0, .int 0, .int 0, .int 0, .int 0, .int 0, .int 0, .int 0, .int 0])), (hd, .inr (6, [.ref hu, .ref hy, .int 0])), (hu, .inl (cU, 20, .inl (fun _ => 0))), (hy, .inl (cW, 20, .inl (fun _ => 0)))]) (w1 := []) (t1 := []) hP hD hK [] [0, 1, 2, 3, 4, 5] rfl rfl (by decide) (by decide) hk1 hFc ht hvm hB
  generalize H1 = H at hP hS ⊢
  have hP : va_P (dC, dI) vwCl [(x, .inr (15, [.ref sh, .ref tl, .ref tw, .int 0])), (tl, .inr (3, [.int 0, .ref (z 0), .int 0])), (sh, .inr (13, [.ref rg, .ref dk, .ref hd, .ref lg, .ref pl, .ref pr, .int 0, .int 0, .int 0, .int 0, .int 0, .int 0, .int 0, .int 0, .int 0, .int 0, .int 0])), (hd, .inr (6, [.ref hu, .ref hy, .int 0])), (hu, .inl (cU, 20, .inl (fun _ => 0))), (hy, .inl (cW, 20, .inl (fun _ => 0)))] H := hP
  have hD : va_D A [(x, .inr (15, [.ref sh, .ref tl, .ref tw, .int 0])), (tl, .inr (3, [.int 0, .ref (z 0), .int 0])), (sh, .inr (13, [.ref rg, .ref dk, .ref hd, .ref lg, .ref pl, .ref pr, .int 0, .int 0, .int 0, .int 0, .int 0, .int 0, .int 0, .int 0, .int 0, .int 0, .int 0])), (hd, .inr (6, [.ref hu, .ref hy, .int 0])), (hu, .inl (cU, 20, .inl (fun _ => 0))), (hy, .inl (cW, 20, .inl (fun _ => 0)))] := hD
  have hK : va_K (dC, dI) vwCl [(cU, .int), (cW, .boolean)] s := hK
  obtain rfl : (if 1 ≤ p0 ∧ p0 ≤ 500 then (1 : Int32) else 0) = r1 := hw
  refine lv_if_ne (tgt := 21) hx hb dX11_stow_8 (by decide) (fun c2 => ?_) (fun c2 => ?_)
  · skip
    refine lv_aload_n hx hb dX11_stow_21 rfl (lv_at hl 0 rfl) ?_
    refine va_get (D := (dC, dI)) (ci := 15) (v := .ref sh) (C := RX11) (T := TX11) (N := 4) hx hb hts hiX11 hown hK hP 0 rfl rfl 0 (by decide) (hts (.fieldLink RX11 10 "SquareRig" "ship" "LSquareRig$Ship;") (by decide +kernel)) (fun _ h9 => h9) rfl dX11_stow_22 ?_
    refine va_getN (D := (dC, dI)) (ci := 13) (v := .ref hd) (C := RX9) (T := TX9) (N := 17) hx hb hts hiX9 hown hK hP 2 rfl rfl 2 (by decide) (va_Nw.use rfl (hM.1 _ (List.mem_of_getElem? (i := 38) rfl))) (fun _ h9 => h9) rfl dX11_stow_25 ?_
    refine va_getN (D := (dC, dI)) (ci := 6) (v := .int 0) (C := RX2) (T := TX2) (N := 3) hx hb hts hiX2 hown hK hP 3 rfl rfl 2 (by decide) (va_Nw.use rfl (hM.1 _ (List.mem_of_getElem? (i := 30) rfl))) (fun _ h9 => h9) rfl dX11_stow_28 ?_
    refine lv_bipush (v := 20) hx hb dX11_stow_31 (by decide) ?_
    refine lv_icmp_lt (tgt := 46) hx hb dX11_stow_33 (by decide) (fun _ => ?_) (fun c_ => absurd (by decide +kernel) c_)
    refine lv_aload_n hx hb dX11_stow_46 rfl (lv_at hl 0 rfl) ?_
    refine va_get (D := (dC, dI)) (ci := 15) (v := .ref sh) (C := RX11) (T := TX11) (N := 4) hx hb hts hiX11 hown hK hP 0 rfl rfl 0 (by decide) (hts (.fieldLink RX11 10 "SquareRig" "ship" "LSquareRig$Ship;") (by decide +kernel)) (fun _ h9 => h9) rfl dX11_stow_47 ?_
    refine lv_aload_n hx hb dX11_stow_50 rfl (lv_at hl 0 rfl) ?_
    refine lv_bipush (v := 6) hx hb dX11_stow_51 (by decide) ?_
    refine lv_iload_n hx hb dX11_stow_53 rfl (lv_at hl 1 rfl) ?_
    refine lv_if_eq (tgt := 61) hx hb dX11_stow_54 (by decide) (fun c_ => absurd c_ (by decide +kernel)) (fun _ => ?_)
    refine lv_iconst (v := 1) hx hb dX11_stow_57 (by decide) ?_
    refine lv_goto (tgt := 62) hx hb dX11_stow_58 (by decide) ?_
    refine lv_iload_n hx hb dX11_stow_62 rfl (lv_at hl 2 rfl) ?_
    refine lv_iconst (v := 0) hx hb dX11_stow_63 (by decide) ?_
    have hPc := hP.sub (ws' := [(x, .inr (15, [.ref sh, .ref tl, .ref tw, .int 0])), (tl, .inr (3, [.int 0, .ref (z 0), .int 0]))]) [0, 1] rfl
    have hDc := hD.sub (ws' := [(x, .inr (15, [.ref sh, .ref tl, .ref tw, .int 0])), (tl, .inr (3, [.int 0, .ref (z 0), .int 0]))]) [0, 1] (by decide) rfl
    have hKc := hK.sub (tys' := []) [] rfl
    have hFc := va_free (wc := [(x, .inr (15, [.ref sh, .ref tl, .ref tw, .int 0])), (tl, .inr (3, [.int 0, .ref (z 0), .int 0]))]) hD hS hA [0, 1] rfl
    refine va_callr (va_runV (As := [.int 6, .int 1, .int p0, .int 0]) (rest := [.ref sh]) ⟨hx, hb, hml, hown, hts⟩ (k_keep l dC dI z zK zV sh x tl tw 6 1 p0 0 H.size) (cwV 4 hts gX11_stow_X11_keep rfl rfl rfl (by decide +kernel) ⟨Nat.le_of_ble_eq_true rfl, Nat.le_of_ble_eq_true rfl⟩) ⟨kP_blind, va_recv hKc hPc (ci := 15) (q0 := 0) rfl rfl, kP_go hPc hKc hDc hFc hM hS⟩ rfl rfl hl.1 rfl (lv_room (Nat.le_of_ble_eq_true rfl)) dX11_stow_64 ⟨Nat.le_of_ble_eq_true rfl, Nat.le_of_ble_eq_true rfl⟩) hS (fun q _ h => hFc q h) hFc (fun u ra3 t H1 locs ht hvm hw hB hz1 hk1 hS => ?_)
    obtain ⟨q4, q5, cA6, rfl, hB⟩ := hB
    obtain ⟨hP, hD, hK⟩ := kJ (wr := [(sh, .inr (13, [.ref rg, .ref dk, .ref hd, .ref lg, .ref pl, .ref pr, .int 0, .int 0, .int 0, .int 0, .int 0, .int 0, .int 0, .int 0, .int 0, .int 0, .int 0])), (hd, .inr (6, [.ref hu, .ref hy, .int 0])), (hu, .inl (cU, 20, .inl (fun _ => 0))), (hy, .inl (cW, 20, .inl (fun _ => 0)))]) (w1 := [(x, .inr (15, [.ref sh, .ref tl, .ref tw, .int 0])), (q4, .inr (5, [.int 6, .int 1, .int p0, .int 0])), (tl, .inr (3, [.int (0 + 1), .ref q5, .int 1])), (q5, .inl (cA6, 10, .inr (.inr (.inr (.inr (va_up (fun _ => none) 0 (some q4)))))))]) (t1 := [(cA6, .object "java/lang/Object")]) hP hD hK [0, 1] [2, 3, 4, 5] rfl rfl (by decide) (by decide) hk1 hFc ht hvm hB
    generalize H1 = H at hP hS ⊢
    have hP : va_P (dC, dI) vwCl [(sh, .inr (13, [.ref rg, .ref dk, .ref hd, .ref lg, .ref pl, .ref pr, .int 0, .int 0, .int 0, .int 0, .int 0, .int 0, .int 0, .int 0, .int 0, .int 0, .int 0])), (hd, .inr (6, [.ref hu, .ref hy, .int 0])), (hu, .inl (cU, 20, .inl (fun _ => 0))), (hy, .inl (cW, 20, .inl (fun _ => 0))), (x, .inr (15, [.ref sh, .ref tl, .ref tw, .int 0])), (q4, .inr (5, [.int 6, .int 1, .int p0, .int 0])), (tl, .inr (3, [.int (0 + 1), .ref q5, .int 1])), (q5, .inl (cA6, 10, .inr (.inr (.inr (.inr (va_up (fun _ => none) 0 (some q4)))))))] H := hP
    have hD : va_D A [(sh, .inr (13, [.ref rg, .ref dk, .ref hd, .ref lg, .ref pl, .ref pr, .int 0, .int 0, .int 0, .int 0, .int 0, .int 0, .int 0, .int 0, .int 0, .int 0, .int 0])), (hd, .inr (6, [.ref hu, .ref hy, .int 0])), (hu, .inl (cU, 20, .inl (fun _ => 0))), (hy, .inl (cW, 20, .inl (fun _ => 0))), (x, .inr (15, [.ref sh, .ref tl, .ref tw, .int 0])), (q4, .inr (5, [.int 6, .int 1, .int p0, .int 0])), (tl, .inr (3, [.int (0 + 1), .ref q5, .int 1])), (q5, .inl (cA6, 10, .inr (.inr (.inr (.inr (va_up (fun _ => none) 0 (some q4)))))))] := hD
    have hK : va_K (dC, dI) vwCl [(cU, .int), (cW, .boolean), (cA6, .object "java/lang/Object")] s := hK
    have hPc := hP.sub (ws' := [(sh, .inr (13, [.ref rg, .ref dk, .ref hd, .ref lg, .ref pl, .ref pr, .int 0, .int 0, .int 0, .int 0, .int 0, .int 0, .int 0, .int 0, .int 0, .int 0, .int 0])), (q4, .inr (5, [.int 6, .int 1, .int p0, .int 0])), (hd, .inr (6, [.ref hu, .ref hy, .int 0])), (hu, .inl (cU, 20, .inl (fun _ => 0))), (hy, .inl (cW, 20, .inl (fun _ => 0)))]) [0, 5, 1, 2, 3] rfl
    have hDc := hD.sub (ws' := [(sh, .inr (13, [.ref rg, .ref dk, .ref hd, .ref lg, .ref pl, .ref pr, .int 0, .int 0, .int 0, .int 0, .int 0, .int 0, .int 0, .int 0, .int 0, .int 0, .int 0])), (q4, .inr (5, [.int 6, .int 1, .int p0, .int 0])), (hd, .inr (6, [.ref hu, .ref hy, .int 0])), (hu, .inl (cU, 20, .inl (fun _ => 0))), (hy, .inl (cW, 20, .inl (fun _ => 0)))]) [0, 5, 1, 2, 3] (by decide) rfl
    have hKc := hK.sub (tys' := [(cU, .int), (cW, .boolean)]) [0, 1] rfl
    have hFc := va_free (wc := [(sh, .inr (13, [.ref rg, .ref dk, .ref hd, .ref lg, .ref pl, .ref pr, .int 0, .int 0, .int 0, .int 0, .int 0, .int 0, .int 0, .int 0, .int 0, .int 0, .int 0])), (q4, .inr (5, [.int 6, .int 1, .int p0, .int 0])), (hd, .inr (6, [.ref hu, .ref hy, .int 0])), (hu, .inl (cU, 20, .inl (fun _ => 0))), (hy, .inl (cW, 20, .inl (fun _ => 0)))]) hD hS hA [0, 5, 1, 2, 3] rfl
    refine va_callv (va_runV (As := [.ref q4]) (rest := []) ⟨hx, hb, hml, hown, hts⟩ (k_obey_stow1 l dC dI z zK zV sh rg dk hd hu hy lg pl pr cU cW q4 p0 H.size) (cwV 1 hts gX11_stow_X9_obey rfl rfl rfl (by decide +kernel) ⟨Nat.le_of_ble_eq_true rfl, Nat.le_of_ble_eq_true rfl⟩) ⟨kP_blind, va_recv hKc hPc (ci := 13) (q0 := 0) rfl rfl, kP_go hPc hKc hDc hFc hM hS⟩ rfl rfl hl.1 rfl (lv_room (Nat.le_of_ble_eq_true rfl)) dX11_stow_67 ⟨Nat.le_of_ble_eq_true rfl, Nat.le_of_ble_eq_true rfl⟩) hS (fun q _ h => hFc q h) hFc (fun u t H1 locs ht hvm hw hB hz1 hk1 hS => ?_)
    obtain ⟨hP, hD, hK⟩ := kJ (wr := [(x, .inr (15, [.ref sh, .ref tl, .ref tw, .int 0])), (tl, .inr (3, [.int (0 + 1), .ref q5, .int 1])), (q5, .inl (cA6, 10, .inr (.inr (.inr (.inr (va_up (fun _ => none) 0 (some q4)))))))]) (w1 := [(sh, .inr (13, [.ref rg, .ref dk, .ref hd, .ref lg, .ref pl, .ref pr, .int 0, .int 0, .int 0, .int 0, .int 0, .int 0, .int 0, .int 0, .int 0, .int 0, .int 0])), (hd, .inr (6, [.ref hu, .ref hy, .int 1]))]) (t1 := []) hP hD hK [0, 5, 1, 2, 3] [4, 6, 7] rfl rfl (by decide) (by decide) hk1 hFc ht hvm hB
    generalize H1 = H at hP hS ⊢
    have hP : va_P (dC, dI) vwCl [(x, .inr (15, [.ref sh, .ref tl, .ref tw, .int 0])), (tl, .inr (3, [.int (0 + 1), .ref q5, .int 1])), (q5, .inl (cA6, 10, .inr (.inr (.inr (.inr (va_up (fun _ => none) 0 (some q4))))))), (sh, .inr (13, [.ref rg, .ref dk, .ref hd, .ref lg, .ref pl, .ref pr, .int 0, .int 0, .int 0, .int 0, .int 0, .int 0, .int 0, .int 0, .int 0, .int 0, .int 0])), (hd, .inr (6, [.ref hu, .ref hy, .int 1]))] H := hP
    have hD : va_D A [(x, .inr (15, [.ref sh, .ref tl, .ref tw, .int 0])), (tl, .inr (3, [.int (0 + 1), .ref q5, .int 1])), (q5, .inl (cA6, 10, .inr (.inr (.inr (.inr (va_up (fun _ => none) 0 (some q4))))))), (sh, .inr (13, [.ref rg, .ref dk, .ref hd, .ref lg, .ref pl, .ref pr, .int 0, .int 0, .int 0, .int 0, .int 0, .int 0, .int 0, .int 0, .int 0, .int 0, .int 0])), (hd, .inr (6, [.ref hu, .ref hy, .int 1]))] := hD
    have hK : va_K (dC, dI) vwCl [(cU, .int), (cW, .boolean), (cA6, .object "java/lang/Object")] s := hK
    clear hw
    refine lv_aload_n hx hb dX11_stow_70 rfl (lv_at hl 0 rfl) ?_
    refine va_get (D := (dC, dI)) (ci := 15) (v := .ref sh) (C := RX11) (T := TX11) (N := 4) hx hb hts hiX11 hown hK hP 0 rfl rfl 0 (by decide) (hts (.fieldLink RX11 10 "SquareRig" "ship" "LSquareRig$Ship;") (by decide +kernel)) (fun _ h9 => h9) rfl dX11_stow_71 ?_
    refine va_getN (D := (dC, dI)) (ci := 13) (v := .ref hd) (C := RX9) (T := TX9) (N := 17) hx hb hts hiX9 hown hK hP 3 rfl rfl 2 (by decide) (va_Nw.use rfl (hM.1 _ (List.mem_of_getElem? (i := 38) rfl))) (fun _ h9 => h9) rfl dX11_stow_74 ?_
    refine va_getN (D := (dC, dI)) (ci := 6) (v := .int 1) (C := RX2) (T := TX2) (N := 3) hx hb hts hiX2 hown hK hP 4 rfl rfl 2 (by decide) (va_Nw.use rfl (hM.1 _ (List.mem_of_getElem? (i := 30) rfl))) (fun _ h9 => h9) rfl dX11_stow_77 ?_
    refine vx_ret ?_
    refine W.widen (k := 2) (n := 14) (Nat.le_of_ble_eq_true rfl) (Nat.le_of_ble_eq_true rfl) ?_
    exact W.iret (v := 1) hx hb hr (fun t ht hW => ⟨⟨1, (), rfl, rfl, kB_end (w9 := []) (t9 := []) hP hK hD [] [] rfl (by decide) rfl rfl t ht hW⟩, hS.F ht⟩) hS.2.2 dX11_stow_80
  · skip
    obtain ⟨sa, hsa⟩ := hM.2.1 _ (List.mem_of_getElem? (i := 8) rfl)
    exact vx_throwS (own := RX11) (cls := "java/lang/IllegalArgumentException") (text := "no cask has so many units") (names := ["java/lang/RuntimeException", "java/lang/Exception"]) (ik := 34) (is := 136) (ic := 38) (mc := 2) (ms := 14) (sa := sa) hx hb hst hown (by decide) (by decide) (hts (.classLink RX11 34 "java/lang/IllegalArgumentException") (by decide +kernel)) (hts (.initialized "java/lang/IllegalArgumentException") (by decide +kernel)) hsa (vx_hat (fun w h9 => hts w (List.mem_cons_of_mem _ (List.mem_append_left _ (List.mem_append_left _ (List.mem_append_left _ (List.mem_append_right _ h9)))))) (by decide +kernel) (fun w hw => va_Nw.use (List.all_eq_true.mp am_Bt w hw) (hM.2.2.2.2.2.2.2.2.2.1 w hw))) (by decide +kernel) hM.2.2.2.2.2.2.2.1.1 hM.2.2.2.2.2.2.2.1.2 hS (hl.1.trans hml.symm) dX11_stow_11 dX11_stow_14 dX11_stow_15 dX11_stow_17 dX11_stow_20 (fun x hx => (hnt x hx).elim) (Nat.le_of_ble_eq_true rfl) (Nat.le_of_ble_eq_true rfl) (Nat.le_of_ble_eq_true rfl) (Nat.le_of_ble_eq_true rfl) hlocks (fun t hvm hz hq => ⟨(), trivial, rfl, Nat.le_trans hS.1 hz, fun q h1 h2 => (hq q (Nat.lt_of_lt_of_le h1 hS.1)).trans (hS.2.1 q h1 h2)⟩) hS.2.2 (Nat.le_of_ble_eq_true rfl) (Nat.le_of_ble_eq_true rfl)
abbrev wd_k_x_stow_bad (z : Nat → Nat) (sh : Nat) (rg : Nat) (dk : Nat) (hd : Nat) (lg : Nat) (pl : Nat) (pr : Nat) (x : Nat) (tl : Nat) (tw : Nat) (p0 : Int32) (p1 : Int32) : va_W := [(x, .inr (15, [.ref sh, .ref tl, .ref tw, .int 0])), (sh, .inr (13, [.ref rg, .ref dk, .ref hd, .ref lg, .ref pl, .ref pr, .int 0, .int 0, .int 0, .int 0, .int 0, .int 0, .int 0, .int 0, .int 0, .int 0, .int 0]))]
set_option maxHeartbeats 4000000 in
set_option maxRecDepth 100000 in
theorem k_x_stow_bad (l : Launch) (dC : Nat → ClassId) (dI : Nat → Nat → Nat) (z zK zV : Nat → Nat) (sh : Nat) (rg : Nat) (dk : Nat) (hd : Nat) (lg : Nat) (pl : Nat) (pr : Nat) (x : Nat) (tl : Nat) (tw : Nat) (p0 : Int32) (p1 : Int32) (sz : Nat) (hst : l.stackTraces = false) (hb0 : ¬ ((1 : Int32) ≤ p0 ∧ p0 ≤ 500)) : vx_Met l yX11_stow wsX11_stow ({ frames := 6, cells := 1, slots := 6, locals := 82 }) (kP dC dI z zK zV [.ref x, .int p1, .int p0] sz (wd_k_x_stow_bad z sh rg dk hd lg pl pr x tl tw p0 p1) []) (va_Qi (fun (r : Int32) (_ : Unit) => False) (fun _ t => kB (dC, dI) (va_A (wd_k_x_stow_bad z sh rg dk hd lg pl pr x tl tw p0 p1) sz) [] [] t) (va_A (wd_k_x_stow_bad z sh rg dk hd lg pl pr x tl tw p0 p1) sz)) (vx_X (fun _ : Unit => True) (fun E _ _ => "java/lang/IllegalArgumentException" = E) (va_A (wd_k_x_stow_bad z sh rg dk hd lg pl pr x tl tw p0 p1) sz)) 1 6 (va_A (wd_k_x_stow_bad z sh rg dk hd lg pl pr x tl tw p0 p1) sz) := by
  refine vx_ofW (cc := cX11_stow) (maxL := 3) (ret := (some .int)) (by decide) rfl ?_
  intro p e s m args below meth c s₁ B hml hnt hv
  obtain ⟨rfl, hsz, hP, hK, hD0, hM⟩ := hv
  have hx := B.exec
  have hb := B.bytes
  have hr := B.returns
  have hts := atoms_spec (ws := wsX11_stow) B.pre
  have hown : s.vm.findClass RX11 = some m.cls := findClass_of_methodNamed B.named
  have hlocks := B.notSynchronized
  subst hsz
  have hD := hD0.self (sz := s.heap.size)
  generalize hAe : va_A (wd_k_x_stow_bad z sh rg dk hd lg pl pr x tl tw p0 p1) s.heap.size = A at hD hM ⊢
  have hA : ∀ q : Nat, s.heap.size ≤ q → A q := fun q h => by rw [← hAe]; exact Or.inr h
  have hS : va_S A s.heap s.heap [] := va_S.rf
  have hP : va_P (dC, dI) vwCl [(x, .inr (15, [.ref sh, .ref tl, .ref tw, .int 0])), (sh, .inr (13, [.ref rg, .ref dk, .ref hd, .ref lg, .ref pl, .ref pr, .int 0, .int 0, .int 0, .int 0, .int 0, .int 0, .int 0, .int 0, .int 0, .int 0, .int 0]))] s.heap := hP
  have hD : va_D A [(x, .inr (15, [.ref sh, .ref tl, .ref tw, .int 0])), (sh, .inr (13, [.ref rg, .ref dk, .ref hd, .ref lg, .ref pl, .ref pr, .int 0, .int 0, .int 0, .int 0, .int 0, .int 0, .int 0, .int 0, .int 0, .int 0, .int 0]))] := hD
  have hl := lv_entry ([.ref x, .int p1, .int p0]) (n := 3) (Nat.le_of_ble_eq_true rfl)
  rw [lg_entry_eq]
  generalize (lg_sl ([.ref x, .int p1, .int p0]) ++ List.replicate (3 - (lg_sl ([.ref x, .int p1, .int p0])).length) Slot.unset).toArray = ls at hl ⊢
  have hl : lv_has ls 3 [(0, .ref x), (1, .int p1), (2, .int p0)] := hl
  refine lv_iload_n hx hb dX11_stow_0 rfl (lv_at hl 2 rfl) ?_
  refine lv_iconst (v := 1) hx hb dX11_stow_1 (by decide) ?_
  refine lv_sipush (v := 500) hx hb dX11_stow_2 (by decide) ?_
  have hPc := hP.sub (ws' := []) [] rfl
  have hDc := hD.sub (ws' := []) [] (by decide) rfl
  have hKc := hK.sub (tys' := []) [] rfl
  have hFc := va_free (wc := []) hD hS hA [] rfl
  refine va_calli (va_runS (As := [.int p0, .int 1, .int 500]) (rest := []) ⟨hx, hb, hml, hown, hts⟩ (k_isIn l dC dI z zK zV p0 1 500 s.heap.size) (va_cwS 3 hts gX11_stow_X11_isIn rfl rfl rfl (by decide +kernel) ⟨Nat.le_of_ble_eq_true rfl, Nat.le_of_ble_eq_true rfl⟩) ⟨kP_blind, kP_go hPc hKc hDc hFc hM hS⟩ rfl rfl hl.1 rfl (lv_room (Nat.le_of_ble_eq_true rfl)) dX11_stow_5 ⟨Nat.le_of_ble_eq_true rfl, Nat.le_of_ble_eq_true rfl⟩) hS (fun q _ h => hFc q h) hFc (fun r1 u t H1 locs ht hvm hw hB hz1 hk1 hS => ?_)
  obtain ⟨hP, hD, hK⟩ := kJ (wr := [(x, .inr (15, [.ref sh, .ref tl, .ref tw, .int 0])), (sh, .inr (13, [.ref rg, .ref dk, .ref hd, .ref lg, .ref pl, .ref pr, .int 0, .int 0, .int 0, .int 0, .int 0, .int 0, .int 0, .int 0, .int 0, .int 0, .int 0]))]) (w1 := []) (t1 := []) hP hD hK [] [0, 1] rfl rfl (by decide) (by decide) hk1 hFc ht hvm hB
  generalize H1 = H at hP hS ⊢
  have hP : va_P (dC, dI) vwCl [(x, .inr (15, [.ref sh, .ref tl, .ref tw, .int 0])), (sh, .inr (13, [.ref rg, .ref dk, .ref hd, .ref lg, .ref pl, .ref pr, .int 0, .int 0, .int 0, .int 0, .int 0, .int 0, .int 0, .int 0, .int 0, .int 0, .int 0]))] H := hP
  have hD : va_D A [(x, .inr (15, [.ref sh, .ref tl, .ref tw, .int 0])), (sh, .inr (13, [.ref rg, .ref dk, .ref hd, .ref lg, .ref pl, .ref pr, .int 0, .int 0, .int 0, .int 0, .int 0, .int 0, .int 0, .int 0, .int 0, .int 0, .int 0]))] := hD
  have hK : va_K (dC, dI) vwCl [] s := hK
  obtain rfl : (if 1 ≤ p0 ∧ p0 ≤ 500 then (1 : Int32) else 0) = r1 := hw
  refine lv_if_ne (tgt := 21) hx hb dX11_stow_8 (by decide) (fun c_ => absurd (if_neg hb0) c_) (fun _ => ?_)
  obtain ⟨sa, hsa⟩ := hM.2.1 _ (List.mem_of_getElem? (i := 8) rfl)
  exact vx_throwS (own := RX11) (cls := "java/lang/IllegalArgumentException") (text := "no cask has so many units") (names := ["java/lang/RuntimeException", "java/lang/Exception"]) (ik := 34) (is := 136) (ic := 38) (mc := 1) (ms := 6) (sa := sa) hx hb hst hown (by decide) (by decide) (hts (.classLink RX11 34 "java/lang/IllegalArgumentException") (by decide +kernel)) (hts (.initialized "java/lang/IllegalArgumentException") (by decide +kernel)) hsa (vx_hat (fun w h9 => hts w (List.mem_cons_of_mem _ (List.mem_append_left _ (List.mem_append_left _ (List.mem_append_left _ (List.mem_append_right _ h9)))))) (by decide +kernel) (fun w hw => va_Nw.use (List.all_eq_true.mp am_Bt w hw) (hM.2.2.2.2.2.2.2.2.2.1 w hw))) (by decide +kernel) hM.2.2.2.2.2.2.2.1.1 hM.2.2.2.2.2.2.2.1.2 hS (hl.1.trans hml.symm) dX11_stow_11 dX11_stow_14 dX11_stow_15 dX11_stow_17 dX11_stow_20 (fun x hx => (hnt x hx).elim) (Nat.le_of_ble_eq_true rfl) (Nat.le_of_ble_eq_true rfl) (Nat.le_of_ble_eq_true rfl) (Nat.le_of_ble_eq_true rfl) hlocks (fun t hvm hz hq => ⟨(), trivial, rfl, Nat.le_trans hS.1 hz, fun q h1 h2 => (hq q (Nat.lt_of_lt_of_le h1 hS.1)).trans (hS.2.1 q h1 h2)⟩) hS.2.2 (Nat.le_of_ble_eq_true rfl) (Nat.le_of_ble_eq_true rfl)
abbrev wd_k_x_wind_good (z : Nat → Nat) (sh : Nat) (rg : Nat) (dk : Nat) (hd : Nat) (lg : Nat) (pl : Nat) (pr : Nat) (x : Nat) (tl : Nat) (tw : Nat) (p0 : Int32) (p1 : Int32) : va_W := [(x, .inr (15, [.ref sh, .ref tl, .ref tw, .int 0])), (tl, .inr (3, [.int 0, .ref (z 0), .int 0])), (sh, .inr (13, [.ref rg, .ref dk, .ref hd, .ref lg, .ref pl, .ref pr, .int 0, .int 0, .int 0, .int 0, .int 0, .int 0, .int 0, .int 0, .int 0, .int 0, .int 0]))]
set_option maxHeartbeats 4000000 in
set_option maxRecDepth 100000 in
theorem k_x_wind_good (l : Launch) (dC : Nat → ClassId) (dI : Nat → Nat → Nat) (z zK zV : Nat → Nat) (sh : Nat) (rg : Nat) (dk : Nat) (hd : Nat) (lg : Nat) (pl : Nat) (pr : Nat) (x : Nat) (tl : Nat) (tw : Nat) (p0 : Int32) (p1 : Int32) (sz : Nat) (hg0 : ((0 : Int32) ≤ p0 ∧ p0 ≤ 31) ∧ (0 : Int32) ≤ p1 ∧ p1 ≤ 12) : Met l yX11_wind wsX11_wind ({ frames := 6, cells := 2, slots := 14, locals := 126 }) (kP dC dI z zK zV [.ref x, .int p0, .int p1] sz (wd_k_x_wind_good z sh rg dk hd lg pl pr x tl tw p0 p1) []) (va_Qi (fun (r : Int32) (_ : Unit) => 0 = r) (fun _ t => kB (dC, dI) (va_A (wd_k_x_wind_good z sh rg dk hd lg pl pr x tl tw p0 p1) sz) [] [] t) (va_A (wd_k_x_wind_good z sh rg dk hd lg pl pr x tl tw p0 p1) sz)) 2 14 (va_A (wd_k_x_wind_good z sh rg dk hd lg pl pr x tl tw p0 p1) sz) := by
  refine Met.ofW (cc := cX11_wind) (maxL := 4) (ret := (some .int)) (by decide) rfl ?_
  intro p e s m args below meth c s₁ B hml hv
  obtain ⟨rfl, hsz, hP, hK, hD0, hM⟩ := hv
  have hx := B.exec
  have hb := B.bytes
  have hr := B.returns
  have hts := atoms_spec (ws := wsX11_wind) B.pre
  have hown : s.vm.findClass RX11 = some m.cls := findClass_of_methodNamed B.named
  have hlocks := B.notSynchronized
  have hiX11 : ∀ w ∈ u_ws RX11 TX11 4, w ∈ wsX11_wind := by decide +kernel
  have hiX9 : ∀ w ∈ u_ws RX9 TX9 17, w ∈ wsX11_wind := by decide +kernel
  subst hsz
  have hD := hD0.self (sz := s.heap.size)
  generalize hAe : va_A (wd_k_x_wind_good z sh rg dk hd lg pl pr x tl tw p0 p1) s.heap.size = A at hD hM ⊢
  have hA : ∀ q : Nat, s.heap.size ≤ q → A q := fun q h => by rw [← hAe]; exact Or.inr h
  have hS : va_S A s.heap s.heap [] := va_S.rf
  have hP : va_P (dC, dI) vwCl [(x, .inr (15, [.ref sh, .ref tl, .ref tw, .int 0])), (tl, .inr (3, [.int 0, .ref (z 0), .int 0])), (sh, .inr (13, [.ref rg, .ref dk, .ref hd, .ref lg, .ref pl, .ref pr, .int 0, .int 0, .int 0, .int 0, .int 0, .int 0, .int 0, .int 0, .int 0, .int 0, .int 0]))] s.heap := hP
  have hD : va_D A [(x, .inr (15, [.ref sh, .ref tl, .ref tw, .int 0])), (tl, .inr (3, [.int 0, .ref (z 0), .int 0])), (sh, .inr (13, [.ref rg, .ref dk, .ref hd, .ref lg, .ref pl, .ref pr, .int 0, .int 0, .int 0, .int 0, .int 0, .int 0, .int 0, .int 0, .int 0, .int 0, .int 0]))] := hD
  have hl := lv_entry ([.ref x, .int p0, .int p1]) (n := 4) (Nat.le_of_ble_eq_true rfl)
  rw [lg_entry_eq]
  generalize (lg_sl ([.ref x, .int p0, .int p1]) ++ List.replicate (4 - (lg_sl ([.ref x, .int p0, .int p1])).length) Slot.unset).toArray = ls at hl ⊢
  have hl : lv_has ls 4 [(0, .ref x), (1, .int p0), (2, .int p1)] := hl
  refine lv_iload_n hx hb dX11_wind_0 rfl (lv_at hl 1 rfl) ?_
  refine lv_iconst (v := 0) hx hb dX11_wind_1 (by decide) ?_
  refine lv_bipush (v := 31) hx hb dX11_wind_2 (by decide) ?_
  have hPc := hP.sub (ws' := []) [] rfl
  have hDc := hD.sub (ws' := []) [] (by decide) rfl
  have hKc := hK.sub (tys' := []) [] rfl
  have hFc := va_free (wc := []) hD hS hA [] rfl
  refine va_calli (va_runS (As := [.int p0, .int 0, .int 31]) (rest := []) ⟨hx, hb, hml, hown, hts⟩ (k_isIn l dC dI z zK zV p0 0 31 s.heap.size) (va_cwS 3 hts gX11_wind_X11_isIn rfl rfl rfl (by decide +kernel) ⟨Nat.le_of_ble_eq_true rfl, Nat.le_of_ble_eq_true rfl⟩) ⟨kP_blind, kP_go hPc hKc hDc hFc hM hS⟩ rfl rfl hl.1 rfl (lv_room (Nat.le_of_ble_eq_true rfl)) dX11_wind_4 ⟨Nat.le_of_ble_eq_true rfl, Nat.le_of_ble_eq_true rfl⟩) hS (fun q _ h => hFc q h) hFc (fun r1 u t H1 locs ht hvm hw hB hz1 hk1 hS => ?_)
  obtain ⟨hP, hD, hK⟩ := kJ (wr := [(x, .inr (15, [.ref sh, .ref tl, .ref tw, .int 0])), (tl, .inr (3, [.int 0, .ref (z 0), .int 0])), (sh, .inr (13, [.ref rg, .ref dk, .ref hd, .ref lg, .ref pl, .ref pr, .int 0, .int 0, .int 0, .int 0, .int 0, .int 0, .int 0, .int 0, .int 0, .int 0, .int 0]))]) (w1 := []) (t1 := []) hP hD hK [] [0, 1, 2] rfl rfl (by decide) (by decide) hk1 hFc ht hvm hB
  generalize H1 = H at hP hS ⊢
  have hP : va_P (dC, dI) vwCl [(x, .inr (15, [.ref sh, .ref tl, .ref tw, .int 0])), (tl, .inr (3, [.int 0, .ref (z 0), .int 0])), (sh, .inr (13, [.ref rg, .ref dk, .ref hd, .ref lg, .ref pl, .ref pr, .int 0, .int 0, .int 0, .int 0, .int 0, .int 0, .int 0, .int 0, .int 0, .int 0, .int 0]))] H := hP
  have hD : va_D A [(x, .inr (15, [.ref sh, .ref tl, .ref tw, .int 0])), (tl, .inr (3, [.int 0, .ref (z 0), .int 0])), (sh, .inr (13, [.ref rg, .ref dk, .ref hd, .ref lg, .ref pl, .ref pr, .int 0, .int 0, .int 0, .int 0, .int 0, .int 0, .int 0, .int 0, .int 0, .int 0, .int 0]))] := hD
  have hK : va_K (dC, dI) vwCl [] s := hK
  obtain rfl : (if 0 ≤ p0 ∧ p0 ≤ 31 then (1 : Int32) else 0) = r1 := hw
  refine lv_if_eq (tgt := 20) hx hb dX11_wind_7 (by decide) (fun c_ => absurd c_ (by rw [if_pos hg0.1]; decide)) (fun _ => ?_)
  refine lv_iload_n hx hb dX11_wind_10 rfl (lv_at hl 2 rfl) ?_
  refine lv_iconst (v := 0) hx hb dX11_wind_11 (by decide) ?_
  refine lv_bipush (v := 12) hx hb dX11_wind_12 (by decide) ?_
  have hPc := hP.sub (ws' := []) [] rfl
  have hDc := hD.sub (ws' := []) [] (by decide) rfl
  have hKc := hK.sub (tys' := []) [] rfl
  have hFc := va_free (wc := []) hD hS hA [] rfl
  refine va_calli (va_runS (As := [.int p1, .int 0, .int 12]) (rest := []) ⟨hx, hb, hml, hown, hts⟩ (k_isIn l dC dI z zK zV p1 0 12 H.size) (va_cwS 3 hts gX11_wind_X11_isIn rfl rfl rfl (by decide +kernel) ⟨Nat.le_of_ble_eq_true rfl, Nat.le_of_ble_eq_true rfl⟩) ⟨kP_blind, kP_go hPc hKc hDc hFc hM hS⟩ rfl rfl hl.1 rfl (lv_room (Nat.le_of_ble_eq_true rfl)) dX11_wind_14 ⟨Nat.le_of_ble_eq_true rfl, Nat.le_of_ble_eq_true rfl⟩) hS (fun q _ h => hFc q h) hFc (fun r2 u t H1 locs ht hvm hw hB hz1 hk1 hS => ?_)
  obtain ⟨hP, hD, hK⟩ := kJ (wr := [(x, .inr (15, [.ref sh, .ref tl, .ref tw, .int 0])), (tl, .inr (3, [.int 0, .ref (z 0), .int 0])), (sh, .inr (13, [.ref rg, .ref dk, .ref hd, .ref lg, .ref pl, .ref pr, .int 0, .int 0, .int 0, .int 0, .int 0, .int 0, .int 0, .int 0, .int 0, .int 0, .int 0]))]) (w1 := []) (t1 := []) hP hD hK [] [0, 1, 2] rfl rfl (by decide) (by decide) hk1 hFc ht hvm hB
  generalize H1 = H at hP hS ⊢
  have hP : va_P (dC, dI) vwCl [(x, .inr (15, [.ref sh, .ref tl, .ref tw, .int 0])), (tl, .inr (3, [.int 0, .ref (z 0), .int 0])), (sh, .inr (13, [.ref rg, .ref dk, .ref hd, .ref lg, .ref pl, .ref pr, .int 0, .int 0, .int 0, .int 0, .int 0, .int 0, .int 0, .int 0, .int 0, .int 0, .int 0]))] H := hP
  have hD : va_D A [(x, .inr (15, [.ref sh, .ref tl, .ref tw, .int 0])), (tl, .inr (3, [.int 0, .ref (z 0), .int 0])), (sh, .inr (13, [.ref rg, .ref dk, .ref hd, .ref lg, .ref pl, .ref pr, .int 0, .int 0, .int 0, .int 0, .int 0, .int 0, .int 0, .int 0, .int 0, .int 0, .int 0]))] := hD
  have hK : va_K (dC, dI) vwCl [] s := hK
  obtain rfl : (if 0 ≤ p1 ∧ p1 ≤ 12 then (1 : Int32) else 0) = r2 := hw
  refine lv_if_ne (tgt := 30) hx hb dX11_wind_17 (by decide) (fun _ => ?_) (fun c_ => absurd c_ (by rw [if_pos hg0.2]; decide))
  refine lv_aload_n hx hb dX11_wind_30 rfl (lv_at hl 0 rfl) ?_
  refine va_get (D := (dC, dI)) (ci := 15) (v := .ref sh) (C := RX11) (T := TX11) (N := 4) hx hb hts hiX11 hown hK hP 0 rfl rfl 0 (by decide) (hts (.fieldLink RX11 10 "SquareRig" "ship" "LSquareRig$Ship;") (by decide +kernel)) (fun _ h9 => h9) rfl dX11_wind_31 ?_
  refine va_getN (D := (dC, dI)) (ci := 13) (v := .int 0) (C := RX9) (T := TX9) (N := 17) hx hb hts hiX9 hown hK hP 2 rfl rfl 7 (by decide) (va_Nw.use rfl (hM.1 _ (List.mem_of_getElem? (i := 42) rfl))) (fun _ h9 => h9) rfl dX11_wind_34 ?_
  refine lv_istore_n (lv' := [(3, .int 0), (0, .ref x), (1, .int p0), (2, .int p1)]) hx hb dX11_wind_37 rfl hl (by decide) rfl (fun ls hl => ?_)
  refine lv_aload_n hx hb dX11_wind_38 rfl (lv_at hl 1 rfl) ?_
  refine va_get (D := (dC, dI)) (ci := 15) (v := .ref sh) (C := RX11) (T := TX11) (N := 4) hx hb hts hiX11 hown hK hP 0 rfl rfl 0 (by decide) (hts (.fieldLink RX11 10 "SquareRig" "ship" "LSquareRig$Ship;") (by decide +kernel)) (fun _ h9 => h9) rfl dX11_wind_39 ?_
  refine lv_aload_n hx hb dX11_wind_42 rfl (lv_at hl 1 rfl) ?_
  refine lv_iconst (v := 0) hx hb dX11_wind_43 (by decide) ?_
  refine lv_iload_n hx hb dX11_wind_44 rfl (lv_at hl 2 rfl) ?_
  refine lv_iload_n hx hb dX11_wind_45 rfl (lv_at hl 3 rfl) ?_
  refine lv_iconst (v := 0) hx hb dX11_wind_46 (by decide) ?_
  have hPc := hP.sub (ws' := [(x, .inr (15, [.ref sh, .ref tl, .ref tw, .int 0])), (tl, .inr (3, [.int 0, .ref (z 0), .int 0]))]) [0, 1] rfl
  have hDc := hD.sub (ws' := [(x, .inr (15, [.ref sh, .ref tl, .ref tw, .int 0])), (tl, .inr (3, [.int 0, .ref (z 0), .int 0]))]) [0, 1] (by decide) rfl
  have hKc := hK.sub (tys' := []) [] rfl
  have hFc := va_free (wc := [(x, .inr (15, [.ref sh, .ref tl, .ref tw, .int 0])), (tl, .inr (3, [.int 0, .ref (z 0), .int 0]))]) hD hS hA [0, 1] rfl
  refine va_callr (va_runV (As := [.int 0, .int p0, .int p1, .int 0]) (rest := [.ref sh]) ⟨hx, hb, hml, hown, hts⟩ (k_keep l dC dI z zK zV sh x tl tw 0 p0 p1 0 H.size) (cwV 4 hts gX11_wind_X11_keep rfl rfl rfl (by decide +kernel) ⟨Nat.le_of_ble_eq_true rfl, Nat.le_of_ble_eq_true rfl⟩) ⟨kP_blind, va_recv hKc hPc (ci := 15) (q0 := 0) rfl rfl, kP_go hPc hKc hDc hFc hM hS⟩ rfl rfl hl.1 rfl (lv_room (Nat.le_of_ble_eq_true rfl)) dX11_wind_47 ⟨Nat.le_of_ble_eq_true rfl, Nat.le_of_ble_eq_true rfl⟩) hS (fun q _ h => hFc q h) hFc (fun u ra3 t H1 locs ht hvm hw hB hz1 hk1 hS => ?_)
  obtain ⟨q4, q5, cA6, rfl, hB⟩ := hB
  obtain ⟨hP, hD, hK⟩ := kJ (wr := [(sh, .inr (13, [.ref rg, .ref dk, .ref hd, .ref lg, .ref pl, .ref pr, .int 0, .int 0, .int 0, .int 0, .int 0, .int 0, .int 0, .int 0, .int 0, .int 0, .int 0]))]) (w1 := [(x, .inr (15, [.ref sh, .ref tl, .ref tw, .int 0])), (q4, .inr (5, [.int 0, .int p0, .int p1, .int 0])), (tl, .inr (3, [.int (0 + 1), .ref q5, .int 1])), (q5, .inl (cA6, 10, .inr (.inr (.inr (.inr (va_up (fun _ => none) 0 (some q4)))))))]) (t1 := [(cA6, .object "java/lang/Object")]) hP hD hK [0, 1] [2] rfl rfl (by decide) (by decide) hk1 hFc ht hvm hB
  generalize H1 = H at hP hS ⊢
  have hP : va_P (dC, dI) vwCl [(sh, .inr (13, [.ref rg, .ref dk, .ref hd, .ref lg, .ref pl, .ref pr, .int 0, .int 0, .int 0, .int 0, .int 0, .int 0, .int 0, .int 0, .int 0, .int 0, .int 0])), (x, .inr (15, [.ref sh, .ref tl, .ref tw, .int 0])), (q4, .inr (5, [.int 0, .int p0, .int p1, .int 0])), (tl, .inr (3, [.int (0 + 1), .ref q5, .int 1])), (q5, .inl (cA6, 10, .inr (.inr (.inr (.inr (va_up (fun _ => none) 0 (some q4)))))))] H := hP
  have hD : va_D A [(sh, .inr (13, [.ref rg, .ref dk, .ref hd, .ref lg, .ref pl, .ref pr, .int 0, .int 0, .int 0, .int 0, .int 0, .int 0, .int 0, .int 0, .int 0, .int 0, .int 0])), (x, .inr (15, [.ref sh, .ref tl, .ref tw, .int 0])), (q4, .inr (5, [.int 0, .int p0, .int p1, .int 0])), (tl, .inr (3, [.int (0 + 1), .ref q5, .int 1])), (q5, .inl (cA6, 10, .inr (.inr (.inr (.inr (va_up (fun _ => none) 0 (some q4)))))))] := hD
  have hK : va_K (dC, dI) vwCl [(cA6, .object "java/lang/Object")] s := hK
  have hPc := hP.sub (ws' := [(sh, .inr (13, [.ref rg, .ref dk, .ref hd, .ref lg, .ref pl, .ref pr, .int 0, .int 0, .int 0, .int 0, .int 0, .int 0, .int 0, .int 0, .int 0, .int 0, .int 0])), (q4, .inr (5, [.int 0, .int p0, .int p1, .int 0]))]) [0, 2] rfl
  have hDc := hD.sub (ws' := [(sh, .inr (13, [.ref rg, .ref dk, .ref hd, .ref lg, .ref pl, .ref pr, .int 0, .int 0, .int 0, .int 0, .int 0, .int 0, .int 0, .int 0, .int 0, .int 0, .int 0])), (q4, .inr (5, [.int 0, .int p0, .int p1, .int 0]))]) [0, 2] (by decide) rfl
  have hKc := hK.sub (tys' := []) [] rfl
  have hFc := va_free (wc := [(sh, .inr (13, [.ref rg, .ref dk, .ref hd, .ref lg, .ref pl, .ref pr, .int 0, .int 0, .int 0, .int 0, .int 0, .int 0, .int 0, .int 0, .int 0, .int 0, .int 0])), (q4, .inr (5, [.int 0, .int p0, .int p1, .int 0]))]) hD hS hA [0, 2] rfl
  refine va_callv (va_runV (As := [.ref q4]) (rest := []) ⟨hx, hb, hml, hown, hts⟩ (k_obey_wind l dC dI z zK zV sh rg dk hd lg pl pr q4 p0 p1 0 H.size) (cwV 1 hts gX11_wind_X9_obey rfl rfl rfl (by decide +kernel) ⟨Nat.le_of_ble_eq_true rfl, Nat.le_of_ble_eq_true rfl⟩) ⟨kP_blind, va_recv hKc hPc (ci := 13) (q0 := 0) rfl rfl, kP_go hPc hKc hDc hFc hM hS⟩ rfl rfl hl.1 rfl (lv_room (Nat.le_of_ble_eq_true rfl)) dX11_wind_50 ⟨Nat.le_of_ble_eq_true rfl, Nat.le_of_ble_eq_true rfl⟩) hS (fun q _ h => hFc q h) hFc (fun u t H1 locs ht hvm hw hB hz1 hk1 hS => ?_)
  obtain ⟨hP, hD, hK⟩ := kJ (wr := [(x, .inr (15, [.ref sh, .ref tl, .ref tw, .int 0])), (tl, .inr (3, [.int (0 + 1), .ref q5, .int 1])), (q5, .inl (cA6, 10, .inr (.inr (.inr (.inr (va_up (fun _ => none) 0 (some q4)))))))]) (w1 := []) (t1 := []) hP hD hK [0, 2] [1, 3, 4] rfl rfl (by decide) (by decide) hk1 hFc ht hvm hB
  generalize H1 = H at hP hS ⊢
  have hP : va_P (dC, dI) vwCl [(x, .inr (15, [.ref sh, .ref tl, .ref tw, .int 0])), (tl, .inr (3, [.int (0 + 1), .ref q5, .int 1])), (q5, .inl (cA6, 10, .inr (.inr (.inr (.inr (va_up (fun _ => none) 0 (some q4)))))))] H := hP
  have hD : va_D A [(x, .inr (15, [.ref sh, .ref tl, .ref tw, .int 0])), (tl, .inr (3, [.int (0 + 1), .ref q5, .int 1])), (q5, .inl (cA6, 10, .inr (.inr (.inr (.inr (va_up (fun _ => none) 0 (some q4)))))))] := hD
  have hK : va_K (dC, dI) vwCl [(cA6, .object "java/lang/Object")] s := hK
  clear hw
  refine lv_iload_n hx hb dX11_wind_53 rfl (lv_at hl 0 rfl) ?_
  refine W.widen (k := 2) (n := 14) (Nat.le_of_ble_eq_true rfl) (Nat.le_of_ble_eq_true rfl) ?_
  exact W.iret (v := 0) hx hb hr (fun t ht hW => ⟨⟨0, (), rfl, rfl, kB_end (w9 := []) (t9 := []) hP hK hD [] [] rfl (by decide) rfl rfl t ht hW⟩, hS.F ht⟩) hS.2.2 dX11_wind_54
abbrev wd_k_x_wind_bad (z : Nat → Nat) (sh : Nat) (rg : Nat) (dk : Nat) (hd : Nat) (lg : Nat) (pl : Nat) (pr : Nat) (x : Nat) (tl : Nat) (tw : Nat) (p0 : Int32) (p1 : Int32) : va_W := [(x, .inr (15, [.ref sh, .ref tl, .ref tw, .int 0])), (sh, .inr (13, [.ref rg, .ref dk, .ref hd, .ref lg, .ref pl, .ref pr, .int 0, .int 0, .int 0, .int 0, .int 0, .int 0, .int 0, .int 0, .int 0, .int 0, .int 0]))]
set_option maxHeartbeats 4000000 in
set_option maxRecDepth 100000 in
theorem k_x_wind_bad (l : Launch) (dC : Nat → ClassId) (dI : Nat → Nat → Nat) (z zK zV : Nat → Nat) (sh : Nat) (rg : Nat) (dk : Nat) (hd : Nat) (lg : Nat) (pl : Nat) (pr : Nat) (x : Nat) (tl : Nat) (tw : Nat) (p0 : Int32) (p1 : Int32) (sz : Nat) (hst : l.stackTraces = false) (hb0 : ¬ (((0 : Int32) ≤ p0 ∧ p0 ≤ 31) ∧ (0 : Int32) ≤ p1 ∧ p1 ≤ 12)) : vx_Met l yX11_wind wsX11_wind ({ frames := 6, cells := 1, slots := 6, locals := 82 }) (kP dC dI z zK zV [.ref x, .int p0, .int p1] sz (wd_k_x_wind_bad z sh rg dk hd lg pl pr x tl tw p0 p1) []) (va_Qi (fun (r : Int32) (_ : Unit) => False) (fun _ t => kB (dC, dI) (va_A (wd_k_x_wind_bad z sh rg dk hd lg pl pr x tl tw p0 p1) sz) [] [] t) (va_A (wd_k_x_wind_bad z sh rg dk hd lg pl pr x tl tw p0 p1) sz)) (vx_X (fun _ : Unit => True) (fun E _ _ => "java/lang/IllegalArgumentException" = E) (va_A (wd_k_x_wind_bad z sh rg dk hd lg pl pr x tl tw p0 p1) sz)) 1 6 (va_A (wd_k_x_wind_bad z sh rg dk hd lg pl pr x tl tw p0 p1) sz) := by
  refine vx_ofW (cc := cX11_wind) (maxL := 4) (ret := (some .int)) (by decide) rfl ?_
  intro p e s m args below meth c s₁ B hml hnt hv
  obtain ⟨rfl, hsz, hP, hK, hD0, hM⟩ := hv
  have hx := B.exec
  have hb := B.bytes
  have hr := B.returns
  have hts := atoms_spec (ws := wsX11_wind) B.pre
  have hown : s.vm.findClass RX11 = some m.cls := findClass_of_methodNamed B.named
  have hlocks := B.notSynchronized
  subst hsz
  have hD := hD0.self (sz := s.heap.size)
  generalize hAe : va_A (wd_k_x_wind_bad z sh rg dk hd lg pl pr x tl tw p0 p1) s.heap.size = A at hD hM ⊢
  have hA : ∀ q : Nat, s.heap.size ≤ q → A q := fun q h => by rw [← hAe]; exact Or.inr h
  have hS : va_S A s.heap s.heap [] := va_S.rf
  have hP : va_P (dC, dI) vwCl [(x, .inr (15, [.ref sh, .ref tl, .ref tw, .int 0])), (sh, .inr (13, [.ref rg, .ref dk, .ref hd, .ref lg, .ref pl, .ref pr, .int 0, .int 0, .int 0, .int 0, .int 0, .int 0, .int 0, .int 0, .int 0, .int 0, .int 0]))] s.heap := hP
  have hD : va_D A [(x, .inr (15, [.ref sh, .ref tl, .ref tw, .int 0])), (sh, .inr (13, [.ref rg, .ref dk, .ref hd, .ref lg, .ref pl, .ref pr, .int 0, .int 0, .int 0, .int 0, .int 0, .int 0, .int 0, .int 0, .int 0, .int 0, .int 0]))] := hD
  have hl := lv_entry ([.ref x, .int p0, .int p1]) (n := 4) (Nat.le_of_ble_eq_true rfl)
  rw [lg_entry_eq]
  generalize (lg_sl ([.ref x, .int p0, .int p1]) ++ List.replicate (4 - (lg_sl ([.ref x, .int p0, .int p1])).length) Slot.unset).toArray = ls at hl ⊢
  have hl : lv_has ls 4 [(0, .ref x), (1, .int p0), (2, .int p1)] := hl
  refine lv_iload_n hx hb dX11_wind_0 rfl (lv_at hl 1 rfl) ?_
  refine lv_iconst (v := 0) hx hb dX11_wind_1 (by decide) ?_
  refine lv_bipush (v := 31) hx hb dX11_wind_2 (by decide) ?_
  have hPc := hP.sub (ws' := []) [] rfl
  have hDc := hD.sub (ws' := []) [] (by decide) rfl
  have hKc := hK.sub (tys' := []) [] rfl
  have hFc := va_free (wc := []) hD hS hA [] rfl
  refine va_calli (va_runS (As := [.int p0, .int 0, .int 31]) (rest := []) ⟨hx, hb, hml, hown, hts⟩ (k_isIn l dC dI z zK zV p0 0 31 s.heap.size) (va_cwS 3 hts gX11_wind_X11_isIn rfl rfl rfl (by decide +kernel) ⟨Nat.le_of_ble_eq_true rfl, Nat.le_of_ble_eq_true rfl⟩) ⟨kP_blind, kP_go hPc hKc hDc hFc hM hS⟩ rfl rfl hl.1 rfl (lv_room (Nat.le_of_ble_eq_true rfl)) dX11_wind_4 ⟨Nat.le_of_ble_eq_true rfl, Nat.le_of_ble_eq_true rfl⟩) hS (fun q _ h => hFc q h) hFc (fun r1 u t H1 locs ht hvm hw hB hz1 hk1 hS => ?_)
  obtain ⟨hP, hD, hK⟩ := kJ (wr := [(x, .inr (15, [.ref sh, .ref tl, .ref tw, .int 0])), (sh, .inr (13, [.ref rg, .ref dk, .ref hd, .ref lg, .ref pl, .ref pr, .int 0, .int 0, .int 0, .int 0, .int 0, .int 0, .int 0, .int 0, .int 0, .int 0, .int 0]))]) (w1 := []) (t1 := []) hP hD hK [] [0, 1] rfl rfl (by decide) (by decide) hk1 hFc ht hvm hB
  generalize H1 = H at hP hS ⊢
  have hP : va_P (dC, dI) vwCl [(x, .inr (15, [.ref sh, .ref tl, .ref tw, .int 0])), (sh, .inr (13, [.ref rg, .ref dk, .ref hd, .ref lg, .ref pl, .ref pr, .int 0, .int 0, .int 0, .int 0, .int 0, .int 0, .int 0, .int 0, .int 0, .int 0, .int 0]))] H := hP
  have hD : va_D A [(x, .inr (15, [.ref sh, .ref tl, .ref tw, .int 0])), (sh, .inr (13, [.ref rg, .ref dk, .ref hd, .ref lg, .ref pl, .ref pr, .int 0, .int 0, .int 0, .int 0, .int 0, .int 0, .int 0, .int 0, .int 0, .int 0, .int 0]))] := hD
  have hK : va_K (dC, dI) vwCl [] s := hK
  obtain rfl : (if 0 ≤ p0 ∧ p0 ≤ 31 then (1 : Int32) else 0) = r1 := hw
  refine lv_if_eq (tgt := 20) hx hb dX11_wind_7 (by decide) (fun c2 => ?_) (fun c2 => ?_)
  · skip
    obtain ⟨sa, hsa⟩ := hM.2.1 _ (List.mem_of_getElem? (i := 0) rfl)
    exact vx_throwS (own := RX11) (cls := "java/lang/IllegalArgumentException") (text := "no such wind") (names := ["java/lang/RuntimeException", "java/lang/Exception"]) (ik := 34) (is := 36) (ic := 38) (mc := 1) (ms := 6) (sa := sa) hx hb hst hown (by decide) (by decide) (hts (.classLink RX11 34 "java/lang/IllegalArgumentException") (by decide +kernel)) (hts (.initialized "java/lang/IllegalArgumentException") (by decide +kernel)) hsa (vx_hat (fun w h9 => hts w (List.mem_cons_of_mem _ (List.mem_append_left _ (List.mem_append_left _ (List.mem_append_right _ h9))))) (by decide +kernel) (fun w hw => va_Nw.use (List.all_eq_true.mp am_Bt w hw) (hM.2.2.2.2.2.2.2.2.2.1 w hw))) (by decide +kernel) hM.2.2.2.2.2.2.2.1.1 hM.2.2.2.2.2.2.2.1.2 hS (hl.1.trans hml.symm) dX11_wind_20 dX11_wind_23 dX11_wind_24 dX11_wind_26 dX11_wind_29 (fun x hx => (hnt x hx).elim) (Nat.le_of_ble_eq_true rfl) (Nat.le_of_ble_eq_true rfl) (Nat.le_of_ble_eq_true rfl) (Nat.le_of_ble_eq_true rfl) hlocks (fun t hvm hz hq => ⟨(), trivial, rfl, Nat.le_trans hS.1 hz, fun q h1 h2 => (hq q (Nat.lt_of_lt_of_le h1 hS.1)).trans (hS.2.1 q h1 h2)⟩) hS.2.2 (Nat.le_of_ble_eq_true rfl) (Nat.le_of_ble_eq_true rfl)
  · skip
    refine lv_iload_n hx hb dX11_wind_10 rfl (lv_at hl 2 rfl) ?_
    refine lv_iconst (v := 0) hx hb dX11_wind_11 (by decide) ?_
    refine lv_bipush (v := 12) hx hb dX11_wind_12 (by decide) ?_
    have hPc := hP.sub (ws' := []) [] rfl
    have hDc := hD.sub (ws' := []) [] (by decide) rfl
    have hKc := hK.sub (tys' := []) [] rfl
    have hFc := va_free (wc := []) hD hS hA [] rfl
    refine va_calli (va_runS (As := [.int p1, .int 0, .int 12]) (rest := []) ⟨hx, hb, hml, hown, hts⟩ (k_isIn l dC dI z zK zV p1 0 12 H.size) (va_cwS 3 hts gX11_wind_X11_isIn rfl rfl rfl (by decide +kernel) ⟨Nat.le_of_ble_eq_true rfl, Nat.le_of_ble_eq_true rfl⟩) ⟨kP_blind, kP_go hPc hKc hDc hFc hM hS⟩ rfl rfl hl.1 rfl (lv_room (Nat.le_of_ble_eq_true rfl)) dX11_wind_14 ⟨Nat.le_of_ble_eq_true rfl, Nat.le_of_ble_eq_true rfl⟩) hS (fun q _ h => hFc q h) hFc (fun r3 u t H1 locs ht hvm hw hB hz1 hk1 hS => ?_)
    obtain ⟨hP, hD, hK⟩ := kJ (wr := [(x, .inr (15, [.ref sh, .ref tl, .ref tw, .int 0])), (sh, .inr (13, [.ref rg, .ref dk, .ref hd, .ref lg, .ref pl, .ref pr, .int 0, .int 0, .int 0, .int 0, .int 0, .int 0, .int 0, .int 0, .int 0, .int 0, .int 0]))]) (w1 := []) (t1 := []) hP hD hK [] [0, 1] rfl rfl (by decide) (by decide) hk1 hFc ht hvm hB
    generalize H1 = H at hP hS ⊢
    have hP : va_P (dC, dI) vwCl [(x, .inr (15, [.ref sh, .ref tl, .ref tw, .int 0])), (sh, .inr (13, [.ref rg, .ref dk, .ref hd, .ref lg, .ref pl, .ref pr, .int 0, .int 0, .int 0, .int 0, .int 0, .int 0, .int 0, .int 0, .int 0, .int 0, .int 0]))] H := hP
    have hD : va_D A [(x, .inr (15, [.ref sh, .ref tl, .ref tw, .int 0])), (sh, .inr (13, [.ref rg, .ref dk, .ref hd, .ref lg, .ref pl, .ref pr, .int 0, .int 0, .int 0, .int 0, .int 0, .int 0, .int 0, .int 0, .int 0, .int 0, .int 0]))] := hD
    have hK : va_K (dC, dI) vwCl [] s := hK
    obtain rfl : (if 0 ≤ p1 ∧ p1 ≤ 12 then (1 : Int32) else 0) = r3 := hw
    refine lv_if_ne (tgt := 30) hx hb dX11_wind_17 (by decide) (fun c_ => absurd (if_neg (fun h => hb0 ⟨k_ift c2, h⟩)) c_) (fun _ => ?_)
    obtain ⟨sa, hsa⟩ := hM.2.1 _ (List.mem_of_getElem? (i := 0) rfl)
    exact vx_throwS (own := RX11) (cls := "java/lang/IllegalArgumentException") (text := "no such wind") (names := ["java/lang/RuntimeException", "java/lang/Exception"]) (ik := 34) (is := 36) (ic := 38) (mc := 1) (ms := 6) (sa := sa) hx hb hst hown (by decide) (by decide) (hts (.classLink RX11 34 "java/lang/IllegalArgumentException") (by decide +kernel)) (hts (.initialized "java/lang/IllegalArgumentException") (by decide +kernel)) hsa (vx_hat (fun w h9 => hts w (List.mem_cons_of_mem _ (List.mem_append_left _ (List.mem_append_left _ (List.mem_append_right _ h9))))) (by decide +kernel) (fun w hw => va_Nw.use (List.all_eq_true.mp am_Bt w hw) (hM.2.2.2.2.2.2.2.2.2.1 w hw))) (by decide +kernel) hM.2.2.2.2.2.2.2.1.1 hM.2.2.2.2.2.2.2.1.2 hS (hl.1.trans hml.symm) dX11_wind_20 dX11_wind_23 dX11_wind_24 dX11_wind_26 dX11_wind_29 (fun x hx => (hnt x hx).elim) (Nat.le_of_ble_eq_true rfl) (Nat.le_of_ble_eq_true rfl) (Nat.le_of_ble_eq_true rfl) (Nat.le_of_ble_eq_true rfl) hlocks (fun t hvm hz hq => ⟨(), trivial, rfl, Nat.le_trans hS.1 hz, fun q h1 h2 => (hq q (Nat.lt_of_lt_of_le h1 hS.1)).trans (hS.2.1 q h1 h2)⟩) hS.2.2 (Nat.le_of_ble_eq_true rfl) (Nat.le_of_ble_eq_true rfl)
abbrev wd_k_x_current_good (z : Nat → Nat) (sh : Nat) (rg : Nat) (dk : Nat) (hd : Nat) (lg : Nat) (pl : Nat) (pr : Nat) (x : Nat) (tl : Nat) (tw : Nat) (p0 : Int32) (p1 : Int32) : va_W := [(x, .inr (15, [.ref sh, .ref tl, .ref tw, .int 0])), (tl, .inr (3, [.int 0, .ref (z 0), .int 0])), (sh, .inr (13, [.ref rg, .ref dk, .ref hd, .ref lg, .ref pl, .ref pr, .int 0, .int 0, .int 0, .int 0, .int 0, .int 0, .int 0, .int 0, .int 0, .int 0, .int 0]))]
set_option maxHeartbeats 4000000 in
set_option maxRecDepth 100000 in
theorem k_x_current_good (l : Launch) (dC : Nat → ClassId) (dI : Nat → Nat → Nat) (z zK zV : Nat → Nat) (sh : Nat) (rg : Nat) (dk : Nat) (hd : Nat) (lg : Nat) (pl : Nat) (pr : Nat) (x : Nat) (tl : Nat) (tw : Nat) (p0 : Int32) (p1 : Int32) (sz : Nat) (hg0 : ((-9999 : Int32) ≤ p0 ∧ p0 ≤ 9999) ∧ (-9999 : Int32) ≤ p1 ∧ p1 ≤ 9999) : Met l yX11_current wsX11_current ({ frames := 6, cells := 2, slots := 14, locals := 126 }) (kP dC dI z zK zV [.ref x, .int p0, .int p1] sz (wd_k_x_current_good z sh rg dk hd lg pl pr x tl tw p0 p1) []) (va_Qi (fun (r : Int32) (_ : Unit) => 0 = r) (fun _ t => kB (dC, dI) (va_A (wd_k_x_current_good z sh rg dk hd lg pl pr x tl tw p0 p1) sz) [] [] t) (va_A (wd_k_x_current_good z sh rg dk hd lg pl pr x tl tw p0 p1) sz)) 2 14 (va_A (wd_k_x_current_good z sh rg dk hd lg pl pr x tl tw p0 p1) sz) := by
  refine Met.ofW (cc := cX11_current) (maxL := 4) (ret := (some .boolean)) (by decide) rfl ?_
  intro p e s m args below meth c s₁ B hml hv
  obtain ⟨rfl, hsz, hP, hK, hD0, hM⟩ := hv
  have hx := B.exec
  have hb := B.bytes
  have hr := B.returns
  have hts := atoms_spec (ws := wsX11_current) B.pre
  have hown : s.vm.findClass RX11 = some m.cls := findClass_of_methodNamed B.named
  have hlocks := B.notSynchronized
  have hiX11 : ∀ w ∈ u_ws RX11 TX11 4, w ∈ wsX11_current := by decide +kernel
  have hiX9 : ∀ w ∈ u_ws RX9 TX9 17, w ∈ wsX11_current := by decide +kernel
  subst hsz
  have hD := hD0.self (sz := s.heap.size)
  generalize hAe : va_A (wd_k_x_current_good z sh rg dk hd lg pl pr x tl tw p0 p1) s.heap.size = A at hD hM ⊢
  have hA : ∀ q : Nat, s.heap.size ≤ q → A q := fun q h => by rw [← hAe]; exact Or.inr h
  have hS : va_S A s.heap s.heap [] := va_S.rf
  have hP : va_P (dC, dI) vwCl [(x, .inr (15, [.ref sh, .ref tl, .ref tw, .int 0])), (tl, .inr (3, [.int 0, .ref (z 0), .int 0])), (sh, .inr (13, [.ref rg, .ref dk, .ref hd, .ref lg, .ref pl, .ref pr, .int 0, .int 0, .int 0, .int 0, .int 0, .int 0, .int 0, .int 0, .int 0, .int 0, .int 0]))] s.heap := hP
  have hD : va_D A [(x, .inr (15, [.ref sh, .ref tl, .ref tw, .int 0])), (tl, .inr (3, [.int 0, .ref (z 0), .int 0])), (sh, .inr (13, [.ref rg, .ref dk, .ref hd, .ref lg, .ref pl, .ref pr, .int 0, .int 0, .int 0, .int 0, .int 0, .int 0, .int 0, .int 0, .int 0, .int 0, .int 0]))] := hD
  have hl := lv_entry ([.ref x, .int p0, .int p1]) (n := 4) (Nat.le_of_ble_eq_true rfl)
  rw [lg_entry_eq]
  generalize (lg_sl ([.ref x, .int p0, .int p1]) ++ List.replicate (4 - (lg_sl ([.ref x, .int p0, .int p1])).length) Slot.unset).toArray = ls at hl ⊢
  have hl : lv_has ls 4 [(0, .ref x), (1, .int p0), (2, .int p1)] := hl
  refine lv_iload_n hx hb dX11_current_0 rfl (lv_at hl 1 rfl) ?_
  refine lv_sipush (v := (-9999)) hx hb dX11_current_1 (by decide) ?_
  refine lv_sipush (v := 9999) hx hb dX11_current_4 (by decide) ?_
  have hPc := hP.sub (ws' := []) [] rfl
  have hDc := hD.sub (ws' := []) [] (by decide) rfl
  have hKc := hK.sub (tys' := []) [] rfl
  have hFc := va_free (wc := []) hD hS hA [] rfl
  refine va_calli (va_runS (As := [.int p0, .int (-9999), .int 9999]) (rest := []) ⟨hx, hb, hml, hown, hts⟩ (k_isIn l dC dI z zK zV p0 (-9999) 9999 s.heap.size) (va_cwS 3 hts gX11_current_X11_isIn rfl rfl rfl (by decide +kernel) ⟨Nat.le_of_ble_eq_true rfl, Nat.le_of_ble_eq_true rfl⟩) ⟨kP_blind, kP_go hPc hKc hDc hFc hM hS⟩ rfl rfl hl.1 rfl (lv_room (Nat.le_of_ble_eq_true rfl)) dX11_current_7 ⟨Nat.le_of_ble_eq_true rfl, Nat.le_of_ble_eq_true rfl⟩) hS (fun q _ h => hFc q h) hFc (fun r1 u t H1 locs ht hvm hw hB hz1 hk1 hS => ?_)
  obtain ⟨hP, hD, hK⟩ := kJ (wr := [(x, .inr (15, [.ref sh, .ref tl, .ref tw, .int 0])), (tl, .inr (3, [.int 0, .ref (z 0), .int 0])), (sh, .inr (13, [.ref rg, .ref dk, .ref hd, .ref lg, .ref pl, .ref pr, .int 0, .int 0, .int 0, .int 0, .int 0, .int 0, .int 0, .int 0, .int 0, .int 0, .int 0]))]) (w1 := []) (t1 := []) hP hD hK [] [0, 1, 2] rfl rfl (by decide) (by decide) hk1 hFc ht hvm hB
  generalize H1 = H at hP hS ⊢
  have hP : va_P (dC, dI) vwCl [(x, .inr (15, [.ref sh, .ref tl, .ref tw, .int 0])), (tl, .inr (3, [.int 0, .ref (z 0), .int 0])), (sh, .inr (13, [.ref rg, .ref dk, .ref hd, .ref lg, .ref pl, .ref pr, .int 0, .int 0, .int 0, .int 0, .int 0, .int 0, .int 0, .int 0, .int 0, .int 0, .int 0]))] H := hP
  have hD : va_D A [(x, .inr (15, [.ref sh, .ref tl, .ref tw, .int 0])), (tl, .inr (3, [.int 0, .ref (z 0), .int 0])), (sh, .inr (13, [.ref rg, .ref dk, .ref hd, .ref lg, .ref pl, .ref pr, .int 0, .int 0, .int 0, .int 0, .int 0, .int 0, .int 0, .int 0, .int 0, .int 0, .int 0]))] := hD
  have hK : va_K (dC, dI) vwCl [] s := hK
  obtain rfl : (if (-9999) ≤ p0 ∧ p0 ≤ 9999 then (1 : Int32) else 0) = r1 := hw
  refine lv_if_eq (tgt := 26) hx hb dX11_current_10 (by decide) (fun c_ => absurd c_ (by rw [if_pos hg0.1]; decide)) (fun _ => ?_)
  refine lv_iload_n hx hb dX11_current_13 rfl (lv_at hl 2 rfl) ?_
  refine lv_sipush (v := (-9999)) hx hb dX11_current_14 (by decide) ?_
  refine lv_sipush (v := 9999) hx hb dX11_current_17 (by decide) ?_
  have hPc := hP.sub (ws' := []) [] rfl
  have hDc := hD.sub (ws' := []) [] (by decide) rfl
  have hKc := hK.sub (tys' := []) [] rfl
  have hFc := va_free (wc := []) hD hS hA [] rfl
  refine va_calli (va_runS (As := [.int p1, .int (-9999), .int 9999]) (rest := []) ⟨hx, hb, hml, hown, hts⟩ (k_isIn l dC dI z zK zV p1 (-9999) 9999 H.size) (va_cwS 3 hts gX11_current_X11_isIn rfl rfl rfl (by decide +kernel) ⟨Nat.le_of_ble_eq_true rfl, Nat.le_of_ble_eq_true rfl⟩) ⟨kP_blind, kP_go hPc hKc hDc hFc hM hS⟩ rfl rfl hl.1 rfl (lv_room (Nat.le_of_ble_eq_true rfl)) dX11_current_20 ⟨Nat.le_of_ble_eq_true rfl, Nat.le_of_ble_eq_true rfl⟩) hS (fun q _ h => hFc q h) hFc (fun r2 u t H1 locs ht hvm hw hB hz1 hk1 hS => ?_)
  obtain ⟨hP, hD, hK⟩ := kJ (wr := [(x, .inr (15, [.ref sh, .ref tl, .ref tw, .int 0])), (tl, .inr (3, [.int 0, .ref (z 0), .int 0])), (sh, .inr (13, [.ref rg, .ref dk, .ref hd, .ref lg, .ref pl, .ref pr, .int 0, .int 0, .int 0, .int 0, .int 0, .int 0, .int 0, .int 0, .int 0, .int 0, .int 0]))]) (w1 := []) (t1 := []) hP hD hK [] [0, 1, 2] rfl rfl (by decide) (by decide) hk1 hFc ht hvm hB
  generalize H1 = H at hP hS ⊢
  have hP : va_P (dC, dI) vwCl [(x, .inr (15, [.ref sh, .ref tl, .ref tw, .int 0])), (tl, .inr (3, [.int 0, .ref (z 0), .int 0])), (sh, .inr (13, [.ref rg, .ref dk, .ref hd, .ref lg, .ref pl, .ref pr, .int 0, .int 0, .int 0, .int 0, .int 0, .int 0, .int 0, .int 0, .int 0, .int 0, .int 0]))] H := hP
  have hD : va_D A [(x, .inr (15, [.ref sh, .ref tl, .ref tw, .int 0])), (tl, .inr (3, [.int 0, .ref (z 0), .int 0])), (sh, .inr (13, [.ref rg, .ref dk, .ref hd, .ref lg, .ref pl, .ref pr, .int 0, .int 0, .int 0, .int 0, .int 0, .int 0, .int 0, .int 0, .int 0, .int 0, .int 0]))] := hD
  have hK : va_K (dC, dI) vwCl [] s := hK
  obtain rfl : (if (-9999) ≤ p1 ∧ p1 ≤ 9999 then (1 : Int32) else 0) = r2 := hw
  refine lv_if_ne (tgt := 36) hx hb dX11_current_23 (by decide) (fun _ => ?_) (fun c_ => absurd c_ (by rw [if_pos hg0.2]; decide))
  refine lv_aload_n hx hb dX11_current_36 rfl (lv_at hl 0 rfl) ?_
  refine va_get (D := (dC, dI)) (ci := 15) (v := .ref sh) (C := RX11) (T := TX11) (N := 4) hx hb hts hiX11 hown hK hP 0 rfl rfl 0 (by decide) (hts (.fieldLink RX11 10 "SquareRig" "ship" "LSquareRig$Ship;") (by decide +kernel)) (fun _ h9 => h9) rfl dX11_current_37 ?_
  refine va_getN (D := (dC, dI)) (ci := 13) (v := .int 0) (C := RX9) (T := TX9) (N := 17) hx hb hts hiX9 hown hK hP 2 rfl rfl 8 (by decide) (va_Nw.use rfl (hM.1 _ (List.mem_of_getElem? (i := 43) rfl))) (fun _ h9 => h9) rfl dX11_current_40 ?_
  refine lv_if_ne (tgt := 56) hx hb dX11_current_43 (by decide) (fun c_ => absurd (by decide +kernel) c_) (fun _ => ?_)
  refine lv_aload_n hx hb dX11_current_46 rfl (lv_at hl 0 rfl) ?_
  refine va_get (D := (dC, dI)) (ci := 15) (v := .ref sh) (C := RX11) (T := TX11) (N := 4) hx hb hts hiX11 hown hK hP 0 rfl rfl 0 (by decide) (hts (.fieldLink RX11 10 "SquareRig" "ship" "LSquareRig$Ship;") (by decide +kernel)) (fun _ h9 => h9) rfl dX11_current_47 ?_
  refine va_getN (D := (dC, dI)) (ci := 13) (v := .int 0) (C := RX9) (T := TX9) (N := 17) hx hb hts hiX9 hown hK hP 2 rfl rfl 9 (by decide) (va_Nw.use rfl (hM.1 _ (List.mem_of_getElem? (i := 44) rfl))) (fun _ h9 => h9) rfl dX11_current_50 ?_
  refine lv_if_eq (tgt := 60) hx hb dX11_current_53 (by decide) (fun _ => ?_) (fun c_ => absurd (by decide +kernel) c_)
  refine lv_iconst (v := 0) hx hb dX11_current_60 (by decide) ?_
  refine lv_istore_n (lv' := [(3, .int 0), (0, .ref x), (1, .int p0), (2, .int p1)]) hx hb dX11_current_61 rfl hl (by decide) rfl (fun ls hl => ?_)
  refine lv_aload_n hx hb dX11_current_62 rfl (lv_at hl 1 rfl) ?_
  refine va_get (D := (dC, dI)) (ci := 15) (v := .ref sh) (C := RX11) (T := TX11) (N := 4) hx hb hts hiX11 hown hK hP 0 rfl rfl 0 (by decide) (hts (.fieldLink RX11 10 "SquareRig" "ship" "LSquareRig$Ship;") (by decide +kernel)) (fun _ h9 => h9) rfl dX11_current_63 ?_
  refine lv_aload_n hx hb dX11_current_66 rfl (lv_at hl 1 rfl) ?_
  refine lv_iconst (v := 1) hx hb dX11_current_67 (by decide) ?_
  refine lv_iload_n hx hb dX11_current_68 rfl (lv_at hl 2 rfl) ?_
  refine lv_iload_n hx hb dX11_current_69 rfl (lv_at hl 3 rfl) ?_
  refine lv_iconst (v := 0) hx hb dX11_current_70 (by decide) ?_
  have hPc := hP.sub (ws' := [(x, .inr (15, [.ref sh, .ref tl, .ref tw, .int 0])), (tl, .inr (3, [.int 0, .ref (z 0), .int 0]))]) [0, 1] rfl
  have hDc := hD.sub (ws' := [(x, .inr (15, [.ref sh, .ref tl, .ref tw, .int 0])), (tl, .inr (3, [.int 0, .ref (z 0), .int 0]))]) [0, 1] (by decide) rfl
  have hKc := hK.sub (tys' := []) [] rfl
  have hFc := va_free (wc := [(x, .inr (15, [.ref sh, .ref tl, .ref tw, .int 0])), (tl, .inr (3, [.int 0, .ref (z 0), .int 0]))]) hD hS hA [0, 1] rfl
  refine va_callr (va_runV (As := [.int 1, .int p0, .int p1, .int 0]) (rest := [.ref sh]) ⟨hx, hb, hml, hown, hts⟩ (k_keep l dC dI z zK zV sh x tl tw 1 p0 p1 0 H.size) (cwV 4 hts gX11_current_X11_keep rfl rfl rfl (by decide +kernel) ⟨Nat.le_of_ble_eq_true rfl, Nat.le_of_ble_eq_true rfl⟩) ⟨kP_blind, va_recv hKc hPc (ci := 15) (q0 := 0) rfl rfl, kP_go hPc hKc hDc hFc hM hS⟩ rfl rfl hl.1 rfl (lv_room (Nat.le_of_ble_eq_true rfl)) dX11_current_71 ⟨Nat.le_of_ble_eq_true rfl, Nat.le_of_ble_eq_true rfl⟩) hS (fun q _ h => hFc q h) hFc (fun u ra3 t H1 locs ht hvm hw hB hz1 hk1 hS => ?_)
  obtain ⟨q4, q5, cA6, rfl, hB⟩ := hB
  obtain ⟨hP, hD, hK⟩ := kJ (wr := [(sh, .inr (13, [.ref rg, .ref dk, .ref hd, .ref lg, .ref pl, .ref pr, .int 0, .int 0, .int 0, .int 0, .int 0, .int 0, .int 0, .int 0, .int 0, .int 0, .int 0]))]) (w1 := [(x, .inr (15, [.ref sh, .ref tl, .ref tw, .int 0])), (q4, .inr (5, [.int 1, .int p0, .int p1, .int 0])), (tl, .inr (3, [.int (0 + 1), .ref q5, .int 1])), (q5, .inl (cA6, 10, .inr (.inr (.inr (.inr (va_up (fun _ => none) 0 (some q4)))))))]) (t1 := [(cA6, .object "java/lang/Object")]) hP hD hK [0, 1] [2] rfl rfl (by decide) (by decide) hk1 hFc ht hvm hB
  generalize H1 = H at hP hS ⊢
  have hP : va_P (dC, dI) vwCl [(sh, .inr (13, [.ref rg, .ref dk, .ref hd, .ref lg, .ref pl, .ref pr, .int 0, .int 0, .int 0, .int 0, .int 0, .int 0, .int 0, .int 0, .int 0, .int 0, .int 0])), (x, .inr (15, [.ref sh, .ref tl, .ref tw, .int 0])), (q4, .inr (5, [.int 1, .int p0, .int p1, .int 0])), (tl, .inr (3, [.int (0 + 1), .ref q5, .int 1])), (q5, .inl (cA6, 10, .inr (.inr (.inr (.inr (va_up (fun _ => none) 0 (some q4)))))))] H := hP
  have hD : va_D A [(sh, .inr (13, [.ref rg, .ref dk, .ref hd, .ref lg, .ref pl, .ref pr, .int 0, .int 0, .int 0, .int 0, .int 0, .int 0, .int 0, .int 0, .int 0, .int 0, .int 0])), (x, .inr (15, [.ref sh, .ref tl, .ref tw, .int 0])), (q4, .inr (5, [.int 1, .int p0, .int p1, .int 0])), (tl, .inr (3, [.int (0 + 1), .ref q5, .int 1])), (q5, .inl (cA6, 10, .inr (.inr (.inr (.inr (va_up (fun _ => none) 0 (some q4)))))))] := hD
  have hK : va_K (dC, dI) vwCl [(cA6, .object "java/lang/Object")] s := hK
  have hPc := hP.sub (ws' := [(sh, .inr (13, [.ref rg, .ref dk, .ref hd, .ref lg, .ref pl, .ref pr, .int 0, .int 0, .int 0, .int 0, .int 0, .int 0, .int 0, .int 0, .int 0, .int 0, .int 0])), (q4, .inr (5, [.int 1, .int p0, .int p1, .int 0]))]) [0, 2] rfl
  have hDc := hD.sub (ws' := [(sh, .inr (13, [.ref rg, .ref dk, .ref hd, .ref lg, .ref pl, .ref pr, .int 0, .int 0, .int 0, .int 0, .int 0, .int 0, .int 0, .int 0, .int 0, .int 0, .int 0])), (q4, .inr (5, [.int 1, .int p0, .int p1, .int 0]))]) [0, 2] (by decide) rfl
  have hKc := hK.sub (tys' := []) [] rfl
  have hFc := va_free (wc := [(sh, .inr (13, [.ref rg, .ref dk, .ref hd, .ref lg, .ref pl, .ref pr, .int 0, .int 0, .int 0, .int 0, .int 0, .int 0, .int 0, .int 0, .int 0, .int 0, .int 0])), (q4, .inr (5, [.int 1, .int p0, .int p1, .int 0]))]) hD hS hA [0, 2] rfl
  refine va_callv (va_runV (As := [.ref q4]) (rest := []) ⟨hx, hb, hml, hown, hts⟩ (k_obey_current l dC dI z zK zV sh rg dk hd lg pl pr q4 p0 p1 0 H.size) (cwV 1 hts gX11_current_X9_obey rfl rfl rfl (by decide +kernel) ⟨Nat.le_of_ble_eq_true rfl, Nat.le_of_ble_eq_true rfl⟩) ⟨kP_blind, va_recv hKc hPc (ci := 13) (q0 := 0) rfl rfl, kP_go hPc hKc hDc hFc hM hS⟩ rfl rfl hl.1 rfl (lv_room (Nat.le_of_ble_eq_true rfl)) dX11_current_74 ⟨Nat.le_of_ble_eq_true rfl, Nat.le_of_ble_eq_true rfl⟩) hS (fun q _ h => hFc q h) hFc (fun u t H1 locs ht hvm hw hB hz1 hk1 hS => ?_)
  obtain ⟨hP, hD, hK⟩ := kJ (wr := [(x, .inr (15, [.ref sh, .ref tl, .ref tw, .int 0])), (tl, .inr (3, [.int (0 + 1), .ref q5, .int 1])), (q5, .inl (cA6, 10, .inr (.inr (.inr (.inr (va_up (fun _ => none) 0 (some q4)))))))]) (w1 := []) (t1 := []) hP hD hK [0, 2] [1, 3, 4] rfl rfl (by decide) (by decide) hk1 hFc ht hvm hB
  generalize H1 = H at hP hS ⊢
  have hP : va_P (dC, dI) vwCl [(x, .inr (15, [.ref sh, .ref tl, .ref tw, .int 0])), (tl, .inr (3, [.int (0 + 1), .ref q5, .int 1])), (q5, .inl (cA6, 10, .inr (.inr (.inr (.inr (va_up (fun _ => none) 0 (some q4)))))))] H := hP
  have hD : va_D A [(x, .inr (15, [.ref sh, .ref tl, .ref tw, .int 0])), (tl, .inr (3, [.int (0 + 1), .ref q5, .int 1])), (q5, .inl (cA6, 10, .inr (.inr (.inr (.inr (va_up (fun _ => none) 0 (some q4)))))))] := hD
  have hK : va_K (dC, dI) vwCl [(cA6, .object "java/lang/Object")] s := hK
  clear hw
  refine lv_iload_n hx hb dX11_current_77 rfl (lv_at hl 0 rfl) ?_
  refine W.widen (k := 2) (n := 14) (Nat.le_of_ble_eq_true rfl) (Nat.le_of_ble_eq_true rfl) ?_
  exact W.zret (v := 0) hx hb hr (by decide +kernel) (fun t ht hW => ⟨⟨0, (), rfl, rfl, kB_end (w9 := []) (t9 := []) hP hK hD [] [] rfl (by decide) rfl rfl t ht hW⟩, hS.F ht⟩) hS.2.2 dX11_current_78
abbrev wd_k_x_current_bad (z : Nat → Nat) (sh : Nat) (rg : Nat) (dk : Nat) (hd : Nat) (lg : Nat) (pl : Nat) (pr : Nat) (x : Nat) (tl : Nat) (tw : Nat) (p0 : Int32) (p1 : Int32) : va_W := [(x, .inr (15, [.ref sh, .ref tl, .ref tw, .int 0])), (sh, .inr (13, [.ref rg, .ref dk, .ref hd, .ref lg, .ref pl, .ref pr, .int 0, .int 0, .int 0, .int 0, .int 0, .int 0, .int 0, .int 0, .int 0, .int 0, .int 0]))]
set_option maxHeartbeats 4000000 in
set_option maxRecDepth 100000 in
theorem k_x_current_bad (l : Launch) (dC : Nat → ClassId) (dI : Nat → Nat → Nat) (z zK zV : Nat → Nat) (sh : Nat) (rg : Nat) (dk : Nat) (hd : Nat) (lg : Nat) (pl : Nat) (pr : Nat) (x : Nat) (tl : Nat) (tw : Nat) (p0 : Int32) (p1 : Int32) (sz : Nat) (hst : l.stackTraces = false) (hb0 : ¬ (((-9999 : Int32) ≤ p0 ∧ p0 ≤ 9999) ∧ (-9999 : Int32) ≤ p1 ∧ p1 ≤ 9999)) : vx_Met l yX11_current wsX11_current ({ frames := 6, cells := 1, slots := 6, locals := 82 }) (kP dC dI z zK zV [.ref x, .int p0, .int p1] sz (wd_k_x_current_bad z sh rg dk hd lg pl pr x tl tw p0 p1) []) (va_Qi (fun (r : Int32) (_ : Unit) => False) (fun _ t => kB (dC, dI) (va_A (wd_k_x_current_bad z sh rg dk hd lg pl pr x tl tw p0 p1) sz) [] [] t) (va_A (wd_k_x_current_bad z sh rg dk hd lg pl pr x tl tw p0 p1) sz)) (vx_X (fun _ : Unit => True) (fun E _ _ => "java/lang/IllegalArgumentException" = E) (va_A (wd_k_x_current_bad z sh rg dk hd lg pl pr x tl tw p0 p1) sz)) 1 6 (va_A (wd_k_x_current_bad z sh rg dk hd lg pl pr x tl tw p0 p1) sz) := by
  refine vx_ofW (cc := cX11_current) (maxL := 4) (ret := (some .boolean)) (by decide) rfl ?_
  intro p e s m args below meth c s₁ B hml hnt hv
  obtain ⟨rfl, hsz, hP, hK, hD0, hM⟩ := hv
  have hx := B.exec
  have hb := B.bytes
  have hr := B.returns
  have hts := atoms_spec (ws := wsX11_current) B.pre
  have hown : s.vm.findClass RX11 = some m.cls := findClass_of_methodNamed B.named
  have hlocks := B.notSynchronized
  subst hsz
  have hD := hD0.self (sz := s.heap.size)
  generalize hAe : va_A (wd_k_x_current_bad z sh rg dk hd lg pl pr x tl tw p0 p1) s.heap.size = A at hD hM ⊢
  have hA : ∀ q : Nat, s.heap.size ≤ q → A q := fun q h => by rw [← hAe]; exact Or.inr h
  have hS : va_S A s.heap s.heap [] := va_S.rf
  have hP : va_P (dC, dI) vwCl [(x, .inr (15, [.ref sh, .ref tl, .ref tw, .int 0])), (sh, .inr (13, [.ref rg, .ref dk, .ref hd, .ref lg, .ref pl, .ref pr, .int 0, .int 0, .int 0, .int 0, .int 0, .int 0, .int 0, .int 0, .int 0, .int 0, .int 0]))] s.heap := hP
  have hD : va_D A [(x, .inr (15, [.ref sh, .ref tl, .ref tw, .int 0])), (sh, .inr (13, [.ref rg, .ref dk, .ref hd, .ref lg, .ref pl, .ref pr, .int 0, .int 0, .int 0, .int 0, .int 0, .int 0, .int 0, .int 0, .int 0, .int 0, .int 0]))] := hD
  have hl := lv_entry ([.ref x, .int p0, .int p1]) (n := 4) (Nat.le_of_ble_eq_true rfl)
  rw [lg_entry_eq]
  generalize (lg_sl ([.ref x, .int p0, .int p1]) ++ List.replicate (4 - (lg_sl ([.ref x, .int p0, .int p1])).length) Slot.unset).toArray = ls at hl ⊢
  have hl : lv_has ls 4 [(0, .ref x), (1, .int p0), (2, .int p1)] := hl
  refine lv_iload_n hx hb dX11_current_0 rfl (lv_at hl 1 rfl) ?_
  refine lv_sipush (v := (-9999)) hx hb dX11_current_1 (by decide) ?_
  refine lv_sipush (v := 9999) hx hb dX11_current_4 (by decide) ?_
  have hPc := hP.sub (ws' := []) [] rfl
  have hDc := hD.sub (ws' := []) [] (by decide) rfl
  have hKc := hK.sub (tys' := []) [] rfl
  have hFc := va_free (wc := []) hD hS hA [] rfl
  refine va_calli (va_runS (As := [.int p0, .int (-9999), .int 9999]) (rest := []) ⟨hx, hb, hml, hown, hts⟩ (k_isIn l dC dI z zK zV p0 (-9999) 9999 s.heap.size) (va_cwS 3 hts gX11_current_X11_isIn rfl rfl rfl (by decide +kernel) ⟨Nat.le_of_ble_eq_true rfl, Nat.le_of_ble_eq_true rfl⟩) ⟨kP_blind, kP_go hPc hKc hDc hFc hM hS⟩ rfl rfl hl.1 rfl (lv_room (Nat.le_of_ble_eq_true rfl)) dX11_current_7 ⟨Nat.le_of_ble_eq_true rfl, Nat.le_of_ble_eq_true rfl⟩) hS (fun q _ h => hFc q h) hFc (fun r1 u t H1 locs ht hvm hw hB hz1 hk1 hS => ?_)
  obtain ⟨hP, hD, hK⟩ := kJ (wr := [(x, .inr (15, [.ref sh, .ref tl, .ref tw, .int 0])), (sh, .inr (13, [.ref rg, .ref dk, .ref hd, .ref lg, .ref pl, .ref pr, .int 0, .int 0, .int 0, .int 0, .int 0, .int 0, .int 0, .int 0, .int 0, .int 0, .int 0]))]) (w1 := []) (t1 := []) hP hD hK [] [0, 1] rfl rfl (by decide) (by decide) hk1 hFc ht hvm hB
  generalize H1 = H at hP hS ⊢
  have hP : va_P (dC, dI) vwCl [(x, .inr (15, [.ref sh, .ref tl, .ref tw, .int 0])), (sh, .inr (13, [.ref rg, .ref dk, .ref hd, .ref lg, .ref pl, .ref pr, .int 0, .int 0, .int 0, .int 0, .int 0, .int 0, .int 0, .int 0, .int 0, .int 0, .int 0]))] H := hP
  have hD : va_D A [(x, .inr (15, [.ref sh, .ref tl, .ref tw, .int 0])), (sh, .inr (13, [.ref rg, .ref dk, .ref hd, .ref lg, .ref pl, .ref pr, .int 0, .int 0, .int 0, .int 0, .int 0, .int 0, .int 0, .int 0, .int 0, .int 0, .int 0]))] := hD
  have hK : va_K (dC, dI) vwCl [] s := hK
  obtain rfl : (if (-9999) ≤ p0 ∧ p0 ≤ 9999 then (1 : Int32) else 0) = r1 := hw
  refine lv_if_eq (tgt := 26) hx hb dX11_current_10 (by decide) (fun c2 => ?_) (fun c2 => ?_)
  · skip
    obtain ⟨sa, hsa⟩ := hM.2.1 _ (List.mem_of_getElem? (i := 1) rfl)
    exact vx_throwS (own := RX11) (cls := "java/lang/IllegalArgumentException") (text := "no such current") (names := ["java/lang/RuntimeException", "java/lang/Exception"]) (ik := 34) (is := 52) (ic := 38) (mc := 1) (ms := 6) (sa := sa) hx hb hst hown (by decide) (by decide) (hts (.classLink RX11 34 "java/lang/IllegalArgumentException") (by decide +kernel)) (hts (.initialized "java/lang/IllegalArgumentException") (by decide +kernel)) hsa (vx_hat (fun w h9 => hts w (List.mem_cons_of_mem _ (List.mem_append_left _ (List.mem_append_left _ (List.mem_append_right _ h9))))) (by decide +kernel) (fun w hw => va_Nw.use (List.all_eq_true.mp am_Bt w hw) (hM.2.2.2.2.2.2.2.2.2.1 w hw))) (by decide +kernel) hM.2.2.2.2.2.2.2.1.1 hM.2.2.2.2.2.2.2.1.2 hS (hl.1.trans hml.symm) dX11_current_26 dX11_current_29 dX11_current_30 dX11_current_32 dX11_current_35 (fun x hx => (hnt x hx).elim) (Nat.le_of_ble_eq_true rfl) (Nat.le_of_ble_eq_true rfl) (Nat.le_of_ble_eq_true rfl) (Nat.le_of_ble_eq_true rfl) hlocks (fun t hvm hz hq => ⟨(), trivial, rfl, Nat.le_trans hS.1 hz, fun q h1 h2 => (hq q (Nat.lt_of_lt_of_le h1 hS.1)).trans (hS.2.1 q h1 h2)⟩) hS.2.2 (Nat.le_of_ble_eq_true rfl) (Nat.le_of_ble_eq_true rfl)
  · skip
    refine lv_iload_n hx hb dX11_current_13 rfl (lv_at hl 2 rfl) ?_
    refine lv_sipush (v := (-9999)) hx hb dX11_current_14 (by decide) ?_
    refine lv_sipush (v := 9999) hx hb dX11_current_17 (by decide) ?_
    have hPc := hP.sub (ws' := []) [] rfl
    have hDc := hD.sub (ws' := []) [] (by decide) rfl
    have hKc := hK.sub (tys' := []) [] rfl
    have hFc := va_free (wc := []) hD hS hA [] rfl
    refine va_calli (va_runS (As := [.int p1, .int (-9999), .int 9999]) (rest := []) ⟨hx, hb, hml, hown, hts⟩ (k_isIn l dC dI z zK zV p1 (-9999) 9999 H.size) (va_cwS 3 hts gX11_current_X11_isIn rfl rfl rfl (by decide +kernel) ⟨Nat.le_of_ble_eq_true rfl, Nat.le_of_ble_eq_true rfl⟩) ⟨kP_blind, kP_go hPc hKc hDc hFc hM hS⟩ rfl rfl hl.1 rfl (lv_room (Nat.le_of_ble_eq_true rfl)) dX11_current_20 ⟨Nat.le_of_ble_eq_true rfl, Nat.le_of_ble_eq_true rfl⟩) hS (fun q _ h => hFc q h) hFc (fun r3 u t H1 locs ht hvm hw hB hz1 hk1 hS => ?_)
    obtain ⟨hP, hD, hK⟩ := kJ (wr := [(x, .inr (15, [.ref sh, .ref tl, .ref tw, .int 0])), (sh, .inr (13, [.ref rg, .ref dk, .ref hd, .ref lg, .ref pl, .ref pr, .int 0, .int 0, .int 0, .int 0, .int 0, .int 0, .int 0, .int 0, .int 0, .int 0, .int 0]))]) (w1 := []) (t1 := []) hP hD hK [] [0, 1] rfl rfl (by decide) (by decide) hk1 hFc ht hvm hB
    generalize H1 = H at hP hS ⊢
    have hP : va_P (dC, dI) vwCl [(x, .inr (15, [.ref sh, .ref tl, .ref tw, .int 0])), (sh, .inr (13, [.ref rg, .ref dk, .ref hd, .ref lg, .ref pl, .ref pr, .int 0, .int 0, .int 0, .int 0, .int 0, .int 0, .int 0, .int 0, .int 0, .int 0, .int 0]))] H := hP
    have hD : va_D A [(x, .inr (15, [.ref sh, .ref tl, .ref tw, .int 0])), (sh, .inr (13, [.ref rg, .ref dk, .ref hd, .ref lg, .ref pl, .ref pr, .int 0, .int 0, .int 0, .int 0, .int 0, .int 0, .int 0, .int 0, .int 0, .int 0, .int 0]))] := hD
    have hK : va_K (dC, dI) vwCl [] s := hK
    obtain rfl : (if (-9999) ≤ p1 ∧ p1 ≤ 9999 then (1 : Int32) else 0) = r3 := hw
    refine lv_if_ne (tgt := 36) hx hb dX11_current_23 (by decide) (fun c_ => absurd (if_neg (fun h => hb0 ⟨k_ift c2, h⟩)) c_) (fun _ => ?_)
    obtain ⟨sa, hsa⟩ := hM.2.1 _ (List.mem_of_getElem? (i := 1) rfl)
    exact vx_throwS (own := RX11) (cls := "java/lang/IllegalArgumentException") (text := "no such current") (names := ["java/lang/RuntimeException", "java/lang/Exception"]) (ik := 34) (is := 52) (ic := 38) (mc := 1) (ms := 6) (sa := sa) hx hb hst hown (by decide) (by decide) (hts (.classLink RX11 34 "java/lang/IllegalArgumentException") (by decide +kernel)) (hts (.initialized "java/lang/IllegalArgumentException") (by decide +kernel)) hsa (vx_hat (fun w h9 => hts w (List.mem_cons_of_mem _ (List.mem_append_left _ (List.mem_append_left _ (List.mem_append_right _ h9))))) (by decide +kernel) (fun w hw => va_Nw.use (List.all_eq_true.mp am_Bt w hw) (hM.2.2.2.2.2.2.2.2.2.1 w hw))) (by decide +kernel) hM.2.2.2.2.2.2.2.1.1 hM.2.2.2.2.2.2.2.1.2 hS (hl.1.trans hml.symm) dX11_current_26 dX11_current_29 dX11_current_30 dX11_current_32 dX11_current_35 (fun x hx => (hnt x hx).elim) (Nat.le_of_ble_eq_true rfl) (Nat.le_of_ble_eq_true rfl) (Nat.le_of_ble_eq_true rfl) (Nat.le_of_ble_eq_true rfl) hlocks (fun t hvm hz hq => ⟨(), trivial, rfl, Nat.le_trans hS.1 hz, fun q h1 h2 => (hq q (Nat.lt_of_lt_of_le h1 hS.1)).trans (hS.2.1 q h1 h2)⟩) hS.2.2 (Nat.le_of_ble_eq_true rfl) (Nat.le_of_ble_eq_true rfl)
abbrev wd_k_x_helm_good (z : Nat → Nat) (sh : Nat) (rg : Nat) (dk : Nat) (hd : Nat) (lg : Nat) (pl : Nat) (pr : Nat) (x : Nat) (tl : Nat) (tw : Nat) (p0 : Int32) : va_W := [(x, .inr (15, [.ref sh, .ref tl, .ref tw, .int 0])), (tl, .inr (3, [.int 0, .ref (z 0), .int 0])), (sh, .inr (13, [.ref rg, .ref dk, .ref hd, .ref lg, .ref pl, .ref pr, .int 0, .int 0, .int 0, .int 0, .int 0, .int 0, .int 0, .int 0, .int 0, .int 0, .int 0]))]
set_option maxHeartbeats 4000000 in
set_option maxRecDepth 100000 in
theorem k_x_helm_good (l : Launch) (dC : Nat → ClassId) (dI : Nat → Nat → Nat) (z zK zV : Nat → Nat) (sh : Nat) (rg : Nat) (dk : Nat) (hd : Nat) (lg : Nat) (pl : Nat) (pr : Nat) (x : Nat) (tl : Nat) (tw : Nat) (p0 : Int32) (sz : Nat) (hg0 : (-3 : Int32) ≤ p0 ∧ p0 ≤ 3) : Met l yX11_helm wsX11_helm ({ frames := 6, cells := 2, slots := 14, locals := 126 }) (kP dC dI z zK zV [.ref x, .int p0] sz (wd_k_x_helm_good z sh rg dk hd lg pl pr x tl tw p0) []) (va_Qi (fun (r : Int32) (_ : Unit) => 0 = r) (fun _ t => kB (dC, dI) (va_A (wd_k_x_helm_good z sh rg dk hd lg pl pr x tl tw p0) sz) [] [] t) (va_A (wd_k_x_helm_good z sh rg dk hd lg pl pr x tl tw p0) sz)) 2 14 (va_A (wd_k_x_helm_good z sh rg dk hd lg pl pr x tl tw p0) sz) := by
  refine Met.ofW (cc := cX11_helm) (maxL := 3) (ret := (some .int)) (by decide) rfl ?_
  intro p e s m args below meth c s₁ B hml hv
  obtain ⟨rfl, hsz, hP, hK, hD0, hM⟩ := hv
  have hx := B.exec
  have hb := B.bytes
  have hr := B.returns
  have hts := atoms_spec (ws := wsX11_helm) B.pre
  have hown : s.vm.findClass RX11 = some m.cls := findClass_of_methodNamed B.named
  have hlocks := B.notSynchronized
  have hiX11 : ∀ w ∈ u_ws RX11 TX11 4, w ∈ wsX11_helm := by decide +kernel
  have hiX9 : ∀ w ∈ u_ws RX9 TX9 17, w ∈ wsX11_helm := by decide +kernel
  subst hsz
  have hD := hD0.self (sz := s.heap.size)
  generalize hAe : va_A (wd_k_x_helm_good z sh rg dk hd lg pl pr x tl tw p0) s.heap.size = A at hD hM ⊢
  have hA : ∀ q : Nat, s.heap.size ≤ q → A q := fun q h => by rw [← hAe]; exact Or.inr h
  have hS : va_S A s.heap s.heap [] := va_S.rf
  have hP : va_P (dC, dI) vwCl [(x, .inr (15, [.ref sh, .ref tl, .ref tw, .int 0])), (tl, .inr (3, [.int 0, .ref (z 0), .int 0])), (sh, .inr (13, [.ref rg, .ref dk, .ref hd, .ref lg, .ref pl, .ref pr, .int 0, .int 0, .int 0, .int 0, .int 0, .int 0, .int 0, .int 0, .int 0, .int 0, .int 0]))] s.heap := hP
  have hD : va_D A [(x, .inr (15, [.ref sh, .ref tl, .ref tw, .int 0])), (tl, .inr (3, [.int 0, .ref (z 0), .int 0])), (sh, .inr (13, [.ref rg, .ref dk, .ref hd, .ref lg, .ref pl, .ref pr, .int 0, .int 0, .int 0, .int 0, .int 0, .int 0, .int 0, .int 0, .int 0, .int 0, .int 0]))] := hD
  have hl := lv_entry ([.ref x, .int p0]) (n := 3) (Nat.le_of_ble_eq_true rfl)
  rw [lg_entry_eq]
  generalize (lg_sl ([.ref x, .int p0]) ++ List.replicate (3 - (lg_sl ([.ref x, .int p0])).length) Slot.unset).toArray = ls at hl ⊢
  have hl : lv_has ls 3 [(0, .ref x), (1, .int p0)] := hl
  refine lv_iload_n hx hb dX11_helm_0 rfl (lv_at hl 1 rfl) ?_
  refine lv_bipush (v := (-3)) hx hb dX11_helm_1 (by decide) ?_
  refine lv_iconst (v := 3) hx hb dX11_helm_3 (by decide) ?_
  have hPc := hP.sub (ws' := []) [] rfl
  have hDc := hD.sub (ws' := []) [] (by decide) rfl
  have hKc := hK.sub (tys' := []) [] rfl
  have hFc := va_free (wc := []) hD hS hA [] rfl
  refine va_calli (va_runS (As := [.int p0, .int (-3), .int 3]) (rest := []) ⟨hx, hb, hml, hown, hts⟩ (k_isIn l dC dI z zK zV p0 (-3) 3 s.heap.size) (va_cwS 3 hts gX11_helm_X11_isIn rfl rfl rfl (by decide +kernel) ⟨Nat.le_of_ble_eq_true rfl, Nat.le_of_ble_eq_true rfl⟩) ⟨kP_blind, kP_go hPc hKc hDc hFc hM hS⟩ rfl rfl hl.1 rfl (lv_room (Nat.le_of_ble_eq_true rfl)) dX11_helm_4 ⟨Nat.le_of_ble_eq_true rfl, Nat.le_of_ble_eq_true rfl⟩) hS (fun q _ h => hFc q h) hFc (fun r1 u t H1 locs ht hvm hw hB hz1 hk1 hS => ?_)
  obtain ⟨hP, hD, hK⟩ := kJ (wr := [(x, .inr (15, [.ref sh, .ref tl, .ref tw, .int 0])), (tl, .inr (3, [.int 0, .ref (z 0), .int 0])), (sh, .inr (13, [.ref rg, .ref dk, .ref hd, .ref lg, .ref pl, .ref pr, .int 0, .int 0, .int 0, .int 0, .int 0, .int 0, .int 0, .int 0, .int 0, .int 0, .int 0]))]) (w1 := []) (t1 := []) hP hD hK [] [0, 1, 2] rfl rfl (by decide) (by decide) hk1 hFc ht hvm hB
  generalize H1 = H at hP hS ⊢
  have hP : va_P (dC, dI) vwCl [(x, .inr (15, [.ref sh, .ref tl, .ref tw, .int 0])), (tl, .inr (3, [.int 0, .ref (z 0), .int 0])), (sh, .inr (13, [.ref rg, .ref dk, .ref hd, .ref lg, .ref pl, .ref pr, .int 0, .int 0, .int 0, .int 0, .int 0, .int 0, .int 0, .int 0, .int 0, .int 0, .int 0]))] H := hP
  have hD : va_D A [(x, .inr (15, [.ref sh, .ref tl, .ref tw, .int 0])), (tl, .inr (3, [.int 0, .ref (z 0), .int 0])), (sh, .inr (13, [.ref rg, .ref dk, .ref hd, .ref lg, .ref pl, .ref pr, .int 0, .int 0, .int 0, .int 0, .int 0, .int 0, .int 0, .int 0, .int 0, .int 0, .int 0]))] := hD
  have hK : va_K (dC, dI) vwCl [] s := hK
  obtain rfl : (if (-3) ≤ p0 ∧ p0 ≤ 3 then (1 : Int32) else 0) = r1 := hw
  refine lv_if_ne (tgt := 20) hx hb dX11_helm_7 (by decide) (fun _ => ?_) (fun c_ => absurd c_ (by rw [if_pos hg0]; decide))
  refine lv_aload_n hx hb dX11_helm_20 rfl (lv_at hl 0 rfl) ?_
  refine va_get (D := (dC, dI)) (ci := 15) (v := .ref sh) (C := RX11) (T := TX11) (N := 4) hx hb hts hiX11 hown hK hP 0 rfl rfl 0 (by decide) (hts (.fieldLink RX11 10 "SquareRig" "ship" "LSquareRig$Ship;") (by decide +kernel)) (fun _ h9 => h9) rfl dX11_helm_21 ?_
  refine va_getN (D := (dC, dI)) (ci := 13) (v := .int 0) (C := RX9) (T := TX9) (N := 17) hx hb hts hiX9 hown hK hP 2 rfl rfl 10 (by decide) (va_Nw.use rfl (hM.1 _ (List.mem_of_getElem? (i := 45) rfl))) (fun _ h9 => h9) rfl dX11_helm_24 ?_
  refine lv_istore_n (lv' := [(2, .int 0), (0, .ref x), (1, .int p0)]) hx hb dX11_helm_27 rfl hl (by decide) rfl (fun ls hl => ?_)
  refine lv_aload_n hx hb dX11_helm_28 rfl (lv_at hl 1 rfl) ?_
  refine va_get (D := (dC, dI)) (ci := 15) (v := .ref sh) (C := RX11) (T := TX11) (N := 4) hx hb hts hiX11 hown hK hP 0 rfl rfl 0 (by decide) (hts (.fieldLink RX11 10 "SquareRig" "ship" "LSquareRig$Ship;") (by decide +kernel)) (fun _ h9 => h9) rfl dX11_helm_29 ?_
  refine lv_aload_n hx hb dX11_helm_32 rfl (lv_at hl 1 rfl) ?_
  refine lv_iconst (v := 2) hx hb dX11_helm_33 (by decide) ?_
  refine lv_iload_n hx hb dX11_helm_34 rfl (lv_at hl 2 rfl) ?_
  refine lv_iconst (v := 0) hx hb dX11_helm_35 (by decide) ?_
  refine lv_iconst (v := 0) hx hb dX11_helm_36 (by decide) ?_
  have hPc := hP.sub (ws' := [(x, .inr (15, [.ref sh, .ref tl, .ref tw, .int 0])), (tl, .inr (3, [.int 0, .ref (z 0), .int 0]))]) [0, 1] rfl
  have hDc := hD.sub (ws' := [(x, .inr (15, [.ref sh, .ref tl, .ref tw, .int 0])), (tl, .inr (3, [.int 0, .ref (z 0), .int 0]))]) [0, 1] (by decide) rfl
  have hKc := hK.sub (tys' := []) [] rfl
  have hFc := va_free (wc := [(x, .inr (15, [.ref sh, .ref tl, .ref tw, .int 0])), (tl, .inr (3, [.int 0, .ref (z 0), .int 0]))]) hD hS hA [0, 1] rfl
  refine va_callr (va_runV (As := [.int 2, .int p0, .int 0, .int 0]) (rest := [.ref sh]) ⟨hx, hb, hml, hown, hts⟩ (k_keep l dC dI z zK zV sh x tl tw 2 p0 0 0 H.size) (cwV 4 hts gX11_helm_X11_keep rfl rfl rfl (by decide +kernel) ⟨Nat.le_of_ble_eq_true rfl, Nat.le_of_ble_eq_true rfl⟩) ⟨kP_blind, va_recv hKc hPc (ci := 15) (q0 := 0) rfl rfl, kP_go hPc hKc hDc hFc hM hS⟩ rfl rfl hl.1 rfl (lv_room (Nat.le_of_ble_eq_true rfl)) dX11_helm_37 ⟨Nat.le_of_ble_eq_true rfl, Nat.le_of_ble_eq_true rfl⟩) hS (fun q _ h => hFc q h) hFc (fun u ra2 t H1 locs ht hvm hw hB hz1 hk1 hS => ?_)
  obtain ⟨q3, q4, cA5, rfl, hB⟩ := hB
  obtain ⟨hP, hD, hK⟩ := kJ (wr := [(sh, .inr (13, [.ref rg, .ref dk, .ref hd, .ref lg, .ref pl, .ref pr, .int 0, .int 0, .int 0, .int 0, .int 0, .int 0, .int 0, .int 0, .int 0, .int 0, .int 0]))]) (w1 := [(x, .inr (15, [.ref sh, .ref tl, .ref tw, .int 0])), (q3, .inr (5, [.int 2, .int p0, .int 0, .int 0])), (tl, .inr (3, [.int (0 + 1), .ref q4, .int 1])), (q4, .inl (cA5, 10, .inr (.inr (.inr (.inr (va_up (fun _ => none) 0 (some q3)))))))]) (t1 := [(cA5, .object "java/lang/Object")]) hP hD hK [0, 1] [2] rfl rfl (by decide) (by decide) hk1 hFc ht hvm hB
  generalize H1 = H at hP hS ⊢
  have hP : va_P (dC, dI) vwCl [(sh, .inr (13, [.ref rg, .ref dk, .ref hd, .ref lg, .ref pl, .ref pr, .int 0, .int 0, .int 0, .int 0, .int 0, .int 0, .int 0, .int 0, .int 0, .int 0, .int 0])), (x, .inr (15, [.ref sh, .ref tl, .ref tw, .int 0])), (q3, .inr (5, [.int 2, .int p0, .int 0, .int 0])), (tl, .inr (3, [.int (0 + 1), .ref q4, .int 1])), (q4, .inl (cA5, 10, .inr (.inr (.inr (.inr (va_up (fun _ => none) 0 (some q3)))))))] H := hP
  have hD : va_D A [(sh, .inr (13, [.ref rg, .ref dk, .ref hd, .ref lg, .ref pl, .ref pr, .int 0, .int 0, .int 0, .int 0, .int 0, .int 0, .int 0, .int 0, .int 0, .int 0, .int 0])), (x, .inr (15, [.ref sh, .ref tl, .ref tw, .int 0])), (q3, .inr (5, [.int 2, .int p0, .int 0, .int 0])), (tl, .inr (3, [.int (0 + 1), .ref q4, .int 1])), (q4, .inl (cA5, 10, .inr (.inr (.inr (.inr (va_up (fun _ => none) 0 (some q3)))))))] := hD
  have hK : va_K (dC, dI) vwCl [(cA5, .object "java/lang/Object")] s := hK
  have hPc := hP.sub (ws' := [(sh, .inr (13, [.ref rg, .ref dk, .ref hd, .ref lg, .ref pl, .ref pr, .int 0, .int 0, .int 0, .int 0, .int 0, .int 0, .int 0, .int 0, .int 0, .int 0, .int 0])), (q3, .inr (5, [.int 2, .int p0, .int 0, .int 0]))]) [0, 2] rfl
  have hDc := hD.sub (ws' := [(sh, .inr (13, [.ref rg, .ref dk, .ref hd, .ref lg, .ref pl, .ref pr, .int 0, .int 0, .int 0, .int 0, .int 0, .int 0, .int 0, .int 0, .int 0, .int 0, .int 0])), (q3, .inr (5, [.int 2, .int p0, .int 0, .int 0]))]) [0, 2] (by decide) rfl
  have hKc := hK.sub (tys' := []) [] rfl
  have hFc := va_free (wc := [(sh, .inr (13, [.ref rg, .ref dk, .ref hd, .ref lg, .ref pl, .ref pr, .int 0, .int 0, .int 0, .int 0, .int 0, .int 0, .int 0, .int 0, .int 0, .int 0, .int 0])), (q3, .inr (5, [.int 2, .int p0, .int 0, .int 0]))]) hD hS hA [0, 2] rfl
  refine va_callv (va_runV (As := [.ref q3]) (rest := []) ⟨hx, hb, hml, hown, hts⟩ (k_obey_helm l dC dI z zK zV sh rg dk hd lg pl pr q3 p0 0 0 H.size) (cwV 1 hts gX11_helm_X9_obey rfl rfl rfl (by decide +kernel) ⟨Nat.le_of_ble_eq_true rfl, Nat.le_of_ble_eq_true rfl⟩) ⟨kP_blind, va_recv hKc hPc (ci := 13) (q0 := 0) rfl rfl, kP_go hPc hKc hDc hFc hM hS⟩ rfl rfl hl.1 rfl (lv_room (Nat.le_of_ble_eq_true rfl)) dX11_helm_40 ⟨Nat.le_of_ble_eq_true rfl, Nat.le_of_ble_eq_true rfl⟩) hS (fun q _ h => hFc q h) hFc (fun u t H1 locs ht hvm hw hB hz1 hk1 hS => ?_)
  obtain ⟨hP, hD, hK⟩ := kJ (wr := [(x, .inr (15, [.ref sh, .ref tl, .ref tw, .int 0])), (tl, .inr (3, [.int (0 + 1), .ref q4, .int 1])), (q4, .inl (cA5, 10, .inr (.inr (.inr (.inr (va_up (fun _ => none) 0 (some q3)))))))]) (w1 := []) (t1 := []) hP hD hK [0, 2] [1, 3, 4] rfl rfl (by decide) (by decide) hk1 hFc ht hvm hB
  generalize H1 = H at hP hS ⊢
  have hP : va_P (dC, dI) vwCl [(x, .inr (15, [.ref sh, .ref tl, .ref tw, .int 0])), (tl, .inr (3, [.int (0 + 1), .ref q4, .int 1])), (q4, .inl (cA5, 10, .inr (.inr (.inr (.inr (va_up (fun _ => none) 0 (some q3)))))))] H := hP
  have hD : va_D A [(x, .inr (15, [.ref sh, .ref tl, .ref tw, .int 0])), (tl, .inr (3, [.int (0 + 1), .ref q4, .int 1])), (q4, .inl (cA5, 10, .inr (.inr (.inr (.inr (va_up (fun _ => none) 0 (some q3)))))))] := hD
  have hK : va_K (dC, dI) vwCl [(cA5, .object "java/lang/Object")] s := hK
  clear hw
  refine lv_iload_n hx hb dX11_helm_43 rfl (lv_at hl 0 rfl) ?_
  refine W.widen (k := 2) (n := 14) (Nat.le_of_ble_eq_true rfl) (Nat.le_of_ble_eq_true rfl) ?_
  exact W.iret (v := 0) hx hb hr (fun t ht hW => ⟨⟨0, (), rfl, rfl, kB_end (w9 := []) (t9 := []) hP hK hD [] [] rfl (by decide) rfl rfl t ht hW⟩, hS.F ht⟩) hS.2.2 dX11_helm_44
abbrev wd_k_x_helm_bad (z : Nat → Nat) (sh : Nat) (rg : Nat) (dk : Nat) (hd : Nat) (lg : Nat) (pl : Nat) (pr : Nat) (x : Nat) (tl : Nat) (tw : Nat) (p0 : Int32) : va_W := [(x, .inr (15, [.ref sh, .ref tl, .ref tw, .int 0])), (sh, .inr (13, [.ref rg, .ref dk, .ref hd, .ref lg, .ref pl, .ref pr, .int 0, .int 0, .int 0, .int 0, .int 0, .int 0, .int 0, .int 0, .int 0, .int 0, .int 0]))]
set_option maxHeartbeats 4000000 in
set_option maxRecDepth 100000 in
theorem k_x_helm_bad (l : Launch) (dC : Nat → ClassId) (dI : Nat → Nat → Nat) (z zK zV : Nat → Nat) (sh : Nat) (rg : Nat) (dk : Nat) (hd : Nat) (lg : Nat) (pl : Nat) (pr : Nat) (x : Nat) (tl : Nat) (tw : Nat) (p0 : Int32) (sz : Nat) (hst : l.stackTraces = false) (hb0 : ¬ ((-3 : Int32) ≤ p0 ∧ p0 ≤ 3)) : vx_Met l yX11_helm wsX11_helm ({ frames := 6, cells := 1, slots := 6, locals := 82 }) (kP dC dI z zK zV [.ref x, .int p0] sz (wd_k_x_helm_bad z sh rg dk hd lg pl pr x tl tw p0) []) (va_Qi (fun (r : Int32) (_ : Unit) => False) (fun _ t => kB (dC, dI) (va_A (wd_k_x_helm_bad z sh rg dk hd lg pl pr x tl tw p0) sz) [] [] t) (va_A (wd_k_x_helm_bad z sh rg dk hd lg pl pr x tl tw p0) sz)) (vx_X (fun _ : Unit => True) (fun E _ _ => "java/lang/IllegalArgumentException" = E) (va_A (wd_k_x_helm_bad z sh rg dk hd lg pl pr x tl tw p0) sz)) 1 6 (va_A (wd_k_x_helm_bad z sh rg dk hd lg pl pr x tl tw p0) sz) := by
  refine vx_ofW (cc := cX11_helm) (maxL := 3) (ret := (some .int)) (by decide) rfl ?_
  intro p e s m args below meth c s₁ B hml hnt hv
  obtain ⟨rfl, hsz, hP, hK, hD0, hM⟩ := hv
  have hx := B.exec
  have hb := B.bytes
  have hr := B.returns
  have hts := atoms_spec (ws := wsX11_helm) B.pre
  have hown : s.vm.findClass RX11 = some m.cls := findClass_of_methodNamed B.named
  have hlocks := B.notSynchronized
  subst hsz
  have hD := hD0.self (sz := s.heap.size)
  generalize hAe : va_A (wd_k_x_helm_bad z sh rg dk hd lg pl pr x tl tw p0) s.heap.size = A at hD hM ⊢
  have hA : ∀ q : Nat, s.heap.size ≤ q → A q := fun q h => by rw [← hAe]; exact Or.inr h
  have hS : va_S A s.heap s.heap [] := va_S.rf
  have hP : va_P (dC, dI) vwCl [(x, .inr (15, [.ref sh, .ref tl, .ref tw, .int 0])), (sh, .inr (13, [.ref rg, .ref dk, .ref hd, .ref lg, .ref pl, .ref pr, .int 0, .int 0, .int 0, .int 0, .int 0, .int 0, .int 0, .int 0, .int 0, .int 0, .int 0]))] s.heap := hP
  have hD : va_D A [(x, .inr (15, [.ref sh, .ref tl, .ref tw, .int 0])), (sh, .inr (13, [.ref rg, .ref dk, .ref hd, .ref lg, .ref pl, .ref pr, .int 0, .int 0, .int 0, .int 0, .int 0, .int 0, .int 0, .int 0, .int 0, .int 0, .int 0]))] := hD
  have hl := lv_entry ([.ref x, .int p0]) (n := 3) (Nat.le_of_ble_eq_true rfl)
  rw [lg_entry_eq]
  generalize (lg_sl ([.ref x, .int p0]) ++ List.replicate (3 - (lg_sl ([.ref x, .int p0])).length) Slot.unset).toArray = ls at hl ⊢
  have hl : lv_has ls 3 [(0, .ref x), (1, .int p0)] := hl
  refine lv_iload_n hx hb dX11_helm_0 rfl (lv_at hl 1 rfl) ?_
  refine lv_bipush (v := (-3)) hx hb dX11_helm_1 (by decide) ?_
  refine lv_iconst (v := 3) hx hb dX11_helm_3 (by decide) ?_
  have hPc := hP.sub (ws' := []) [] rfl
  have hDc := hD.sub (ws' := []) [] (by decide) rfl
  have hKc := hK.sub (tys' := []) [] rfl
  have hFc := va_free (wc := []) hD hS hA [] rfl
  refine va_calli (va_runS (As := [.int p0, .int (-3), .int 3]) (rest := []) ⟨hx, hb, hml, hown, hts⟩ (k_isIn l dC dI z zK zV p0 (-3) 3 s.heap.size) (va_cwS 3 hts gX11_helm_X11_isIn rfl rfl rfl (by decide +kernel) ⟨Nat.le_of_ble_eq_true rfl, Nat.le_of_ble_eq_true rfl⟩) ⟨kP_blind, kP_go hPc hKc hDc hFc hM hS⟩ rfl rfl hl.1 rfl (lv_room (Nat.le_of_ble_eq_true rfl)) dX11_helm_4 ⟨Nat.le_of_ble_eq_true rfl, Nat.le_of_ble_eq_true rfl⟩) hS (fun q _ h => hFc q h) hFc (fun r1 u t H1 locs ht hvm hw hB hz1 hk1 hS => ?_)
  obtain ⟨hP, hD, hK⟩ := kJ (wr := [(x, .inr (15, [.ref sh, .ref tl, .ref tw, .int 0])), (sh, .inr (13, [.ref rg, .ref dk, .ref hd, .ref lg, .ref pl, .ref pr, .int 0, .int 0, .int 0, .int 0, .int 0, .int 0, .int 0, .int 0, .int 0, .int 0, .int 0]))]) (w1 := []) (t1 := []) hP hD hK [] [0, 1] rfl rfl (by decide) (by decide) hk1 hFc ht hvm hB
  generalize H1 = H at hP hS ⊢
  have hP : va_P (dC, dI) vwCl [(x, .inr (15, [.ref sh, .ref tl, .ref tw, .int 0])), (sh, .inr (13, [.ref rg, .ref dk, .ref hd, .ref lg, .ref pl, .ref pr, .int 0, .int 0, .int 0, .int 0, .int 0, .int 0, .int 0, .int 0, .int 0, .int 0, .int 0]))] H := hP
  have hD : va_D A [(x, .inr (15, [.ref sh, .ref tl, .ref tw, .int 0])), (sh, .inr (13, [.ref rg, .ref dk, .ref hd, .ref lg, .ref pl, .ref pr, .int 0, .int 0, .int 0, .int 0, .int 0, .int 0, .int 0, .int 0, .int 0, .int 0, .int 0]))] := hD
  have hK : va_K (dC, dI) vwCl [] s := hK
  obtain rfl : (if (-3) ≤ p0 ∧ p0 ≤ 3 then (1 : Int32) else 0) = r1 := hw
  refine lv_if_ne (tgt := 20) hx hb dX11_helm_7 (by decide) (fun c_ => absurd (if_neg hb0) c_) (fun _ => ?_)
  obtain ⟨sa, hsa⟩ := hM.2.1 _ (List.mem_of_getElem? (i := 2) rfl)
  exact vx_throwS (own := RX11) (cls := "java/lang/IllegalArgumentException") (text := "the helm does not go so far") (names := ["java/lang/RuntimeException", "java/lang/Exception"]) (ik := 34) (is := 60) (ic := 38) (mc := 1) (ms := 6) (sa := sa) hx hb hst hown (by decide) (by decide) (hts (.classLink RX11 34 "java/lang/IllegalArgumentException") (by decide +kernel)) (hts (.initialized "java/lang/IllegalArgumentException") (by decide +kernel)) hsa (vx_hat (fun w h9 => hts w (List.mem_cons_of_mem _ (List.mem_append_left _ (List.mem_append_left _ (List.mem_append_right _ h9))))) (by decide +kernel) (fun w hw => va_Nw.use (List.all_eq_true.mp am_Bt w hw) (hM.2.2.2.2.2.2.2.2.2.1 w hw))) (by decide +kernel) hM.2.2.2.2.2.2.2.1.1 hM.2.2.2.2.2.2.2.1.2 hS (hl.1.trans hml.symm) dX11_helm_10 dX11_helm_13 dX11_helm_14 dX11_helm_16 dX11_helm_19 (fun x hx => (hnt x hx).elim) (Nat.le_of_ble_eq_true rfl) (Nat.le_of_ble_eq_true rfl) (Nat.le_of_ble_eq_true rfl) (Nat.le_of_ble_eq_true rfl) hlocks (fun t hvm hz hq => ⟨(), trivial, rfl, Nat.le_trans hS.1 hz, fun q h1 h2 => (hq q (Nat.lt_of_lt_of_le h1 hS.1)).trans (hS.2.1 q h1 h2)⟩) hS.2.2 (Nat.le_of_ble_eq_true rfl) (Nat.le_of_ble_eq_true rfl)
