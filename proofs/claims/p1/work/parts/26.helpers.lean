set_option maxRecDepth 20000 in
theorem ggL_wind_X11_wind : GoodIn wsL_wind wsX11_wind := goodIn_ca (goodIn_ca (goodIn_ca (goodIn_r _ [6, 7, 8, 9, 10, 11, 5, 12, 13, 14, 15, 16, 17, 18, 19, 20, 21, 22, 23, 24, 25, 26, 27, 28, 29, 30, 31, 32, 33, 34, 35, 36, 37, 38, 39, 40, 41, 42, 43, 44, 45, 46, 47, 48, 49, 50, 51, 52, 53, 54, 55, 56, 57, 58, 59, 60, 61, 62, 63, 64, 65, 66, 67, 68, 69, 70, 71, 72, 73, 74, 75, 76, 77, 78, 79, 80, 81, 82, 83, 84, 85, 86, 87, 88, 89, 90, 91, 92, 93, 94, 95, 96, 97, 98, 99, 100, 101, 102, 103, 104, 105, 106, 107, 108, 109, 110, 111, 112, 113, 114, 115, 116, 117, 118, 119, 120, 121, 122, 123, 124, 125, 126, 127, 128, 129, 130, 131, 132, 133, 134, 135, 136, 137, 138, 139, 140, 141, 142, 143, 144, 145, 146, 147, 148, 149, 150, 151, 152, 153, 154, 155, 156, 157, 158, 159, 160, 161, 162, 163, 164, 165, 166, 167, 168, 169, 170, 171, 172, 173, 174, 175, 176, 177, 178, 179, 180, 181, 182, 183, 184, 185, 186, 187, 188, 189, 190, 191, 192, 193, 194, 195, 196, 197, 198, 199, 200, 201, 202, 203, 204, 205, 206, 207, 208, 209, 210, 211, 212, 213, 214, 215, 216, 217, 218, 219, 220, 221, 222, 223, 224, 225, 226, 227, 228, 229, 230, 231, 232, 233, 234, 235, 236, 237, 238, 239, 240, 241, 242, 243, 244, 245, 246, 247, 248, 249, 250, 251, 252, 253, 254, 255, 256, 257, 258, 259, 260, 261, 262, 263, 264, 265, 266, 267, 268, 269, 270, 271, 272, 273, 274, 275, 276, 277, 278, 279, 280, 281, 282, 283, 284, 285, 286, 287, 288, 289, 290, 291, 292, 293, 294, 295, 296, 297, 298, 299, 300, 301, 302, 303, 304, 305, 306, 307, 308, 309, 310, 311, 312, 313, 314, 315, 316, 317, 318, 319, 320, 321, 322, 323, 324, 325, 326, 327, 328, 329, 330, 331, 332, 333, 334, 335, 336, 337, 338, 339, 340, 341, 342, 343, 344, 345, 346, 347, 348, 349, 350, 351, 352, 353, 354, 355, 356, 357, 358, 359, 360, 361, 362, 363, 364, 365, 366, 367, 368, 369, 370, 371, 372, 373, 374, 375, 376, 377, 378, 379, 380, 381, 382, 383, 384, 385, 386, 387, 388, 389, 390, 391, 392, 393, 394, 395, 396, 397, 398, 399, 400, 401, 402, 403, 404, 405, 406, 407, 408, 409, 410, 411, 412, 413, 414, 415, 416, 417, 418, 419, 420, 421, 422, 423, 424, 425, 426, 427, 428, 429, 430, 431, 432, 433, 434, 435, 436, 437, 438, 439, 440, 441, 442, 443, 444, 445, 446, 447, 448, 449, 450, 451, 452, 453, 454, 455] (by decide +kernel) (by decide +kernel)) (goodIn_sub (fun _ h => List.mem_cons_of_mem _ (List.mem_append_left _ (List.mem_append_right _ h))) (by decide +kernel))) (goodIn_sub (fun _ h => List.mem_cons_of_mem _ (List.mem_append_left _ (List.mem_append_left _ (List.mem_append_right _ h)))) (by decide +kernel))) (goodIn_sub (fun _ h => List.mem_cons_of_mem _ (List.mem_append_right _ h)) (by decide +kernel))
set_option maxRecDepth 20000 in
theorem gL_wind_X11_wind : GoodIn wsL_wind (wsV RL 7 RX11 yX11_wind wsX11_wind) := goodIn_app (goodIn_of _ (by decide +kernel)) ggL_wind_X11_wind
theorem dL_wind_0 : decode cL_wind 0 = .ok (.aload_n 3, 1) := by decide +kernel
theorem dL_wind_1 : decode cL_wind 1 = .ok (.iconst 0, 1) := by decide +kernel
theorem dL_wind_2 : decode cL_wind 2 = .ok (.aload_n 0, 1) := by decide +kernel
theorem dL_wind_3 : decode cL_wind 3 = .ok (.iload_n 1, 1) := by decide +kernel
theorem dL_wind_4 : decode cL_wind 4 = .ok (.iload_n 2, 1) := by decide +kernel
theorem dL_wind_5 : decode cL_wind 5 = .ok (.invokevirtual 7, 3) := by decide +kernel
theorem dL_wind_8 : decode cL_wind 8 = .ok (.i2l, 1) := by decide +kernel
theorem dL_wind_9 : decode cL_wind 9 = .ok (.lastore, 1) := by decide +kernel
theorem dL_wind_10 : decode cL_wind 10 = .ok (.goto 7, 3) := by decide +kernel
theorem dL_wind_13 : decode cL_wind 13 = .ok (.astore 4, 2) := by decide +kernel
theorem dL_wind_15 : decode cL_wind 15 = .ok (.iconst 1, 1) := by decide +kernel
theorem dL_wind_16 : decode cL_wind 16 = .ok (.ireturn, 1) := by decide +kernel
theorem dL_wind_17 : decode cL_wind 17 = .ok (.iconst 0, 1) := by decide +kernel
theorem dL_wind_18 : decode cL_wind 18 = .ok (.ireturn, 1) := by decide +kernel
set_option maxRecDepth 20000 in
theorem ggL_current_X11_current : GoodIn wsL_current wsX11_current := goodIn_ca (goodIn_ca (goodIn_ca (goodIn_r _ [6, 7, 8, 9, 10, 11, 5, 12, 13, 14, 15, 16, 17, 18, 19, 20, 21, 22, 23, 24, 25, 26, 27, 28, 29, 30, 31, 32, 33, 34, 35, 36, 37, 38, 39, 40, 41, 42, 43, 44, 45, 46, 47, 48, 49, 50, 51, 52, 53, 54, 55, 56, 57, 58, 59, 60, 61, 62, 63, 64, 65, 66, 67, 68, 69, 70, 71, 72, 73, 74, 75, 76, 77, 78, 79, 80, 81, 82, 83, 84, 85, 86, 87, 88, 89, 90, 91, 92, 93, 94, 95, 96, 97, 98, 99, 100, 101, 102, 103, 104, 105, 106, 107, 108, 109, 110, 111, 112, 113, 114, 115, 116, 117, 118, 119, 120, 121, 122, 123, 124, 125, 126, 127, 128, 129, 130, 131, 132, 133, 134, 135, 136, 137, 138, 139, 140, 141, 142, 143, 144, 145, 146, 147, 148, 149, 150, 151, 152, 153, 154, 155, 156, 157, 158, 159, 160, 161, 162, 163, 164, 165, 166, 167, 168, 169, 170, 171, 172, 173, 174, 175, 176, 177, 178, 179, 180, 181, 182, 183, 184, 185, 186, 187, 188, 189, 190, 191, 192, 193, 194, 195, 196, 197, 198, 199, 200, 201, 202, 203, 204, 205, 206, 207, 208, 209, 210, 211, 212, 213, 214, 215, 216, 217, 218, 219, 220, 221, 222, 223, 224, 225, 226, 227, 228, 229, 230, 231, 232, 233, 234, 235, 236, 237, 238, 239, 240, 241, 242, 243, 244, 245, 246, 247, 248, 249, 250, 251, 252, 253, 254, 255, 256, 257, 258, 259, 260, 261, 262, 263, 264, 265, 266, 267, 268, 269, 270, 271, 272, 273, 274, 275, 276, 277, 278, 279, 280, 281, 282, 283, 284, 285, 286, 287, 288, 289, 290, 291, 292, 293, 294, 295, 296, 297, 298, 299, 300, 301, 302, 303, 304, 305, 306, 307, 308, 309, 310, 311, 312, 313, 314, 315, 316, 317, 318, 319, 320, 321, 322, 323, 324, 325, 326, 327, 328, 329, 330, 331, 332, 333, 334, 335, 336, 337, 338, 339, 340, 341, 342, 343, 344, 345, 346, 347, 348, 349, 350, 351, 352, 353, 354, 355, 356, 357, 358, 359, 360, 361, 362, 363, 364, 365, 366, 367, 368, 369, 370, 371, 372, 373, 374, 375, 376, 377, 378, 379, 380, 381, 382, 383, 384, 385, 386, 387, 388, 389, 390, 391, 392, 393, 394, 395, 396, 397, 398, 399, 400, 401, 402, 403, 404, 405, 406, 407, 408, 409, 410, 411, 412, 413, 414, 415, 416, 417, 418, 419, 420, 421, 422, 423, 424, 425, 426, 427, 428, 429, 430, 431, 432, 433, 434, 435, 436, 437, 438, 439, 440, 441, 442, 443, 444, 445, 446, 447, 448, 449, 450, 451, 452, 453, 454, 455] (by decide +kernel) (by decide +kernel)) (goodIn_sub (fun _ h => List.mem_cons_of_mem _ (List.mem_append_left _ (List.mem_append_right _ h))) (by decide +kernel))) (goodIn_sub (fun _ h => List.mem_cons_of_mem _ (List.mem_append_left _ (List.mem_append_left _ (List.mem_append_right _ h)))) (by decide +kernel))) (goodIn_sub (fun _ h => List.mem_cons_of_mem _ (List.mem_append_right _ h)) (by decide +kernel))
set_option maxRecDepth 20000 in
theorem gL_current_X11_current : GoodIn wsL_current (wsV RL 15 RX11 yX11_current wsX11_current) := goodIn_app (goodIn_of _ (by decide +kernel)) ggL_current_X11_current
theorem dL_current_0 : decode cL_current 0 = .ok (.aload_n 3, 1) := by decide +kernel
theorem dL_current_1 : decode cL_current 1 = .ok (.iconst 0, 1) := by decide +kernel
theorem dL_current_2 : decode cL_current 2 = .ok (.aload_n 0, 1) := by decide +kernel
theorem dL_current_3 : decode cL_current 3 = .ok (.iload_n 1, 1) := by decide +kernel
theorem dL_current_4 : decode cL_current 4 = .ok (.iload_n 2, 1) := by decide +kernel
theorem dL_current_5 : decode cL_current 5 = .ok (.invokevirtual 15, 3) := by decide +kernel
theorem dL_current_8 : decode cL_current 8 = .ok (.ifCond .eq 7, 3) := by decide +kernel
theorem dL_current_15 : decode cL_current 15 = .ok (.lconst 0, 1) := by decide +kernel
theorem dL_current_16 : decode cL_current 16 = .ok (.lastore, 1) := by decide +kernel
theorem dL_current_17 : decode cL_current 17 = .ok (.goto 7, 3) := by decide +kernel
theorem dL_current_20 : decode cL_current 20 = .ok (.astore 4, 2) := by decide +kernel
theorem dL_current_22 : decode cL_current 22 = .ok (.iconst 1, 1) := by decide +kernel
theorem dL_current_23 : decode cL_current 23 = .ok (.ireturn, 1) := by decide +kernel
theorem dL_current_24 : decode cL_current 24 = .ok (.iconst 0, 1) := by decide +kernel
theorem dL_current_25 : decode cL_current 25 = .ok (.ireturn, 1) := by decide +kernel
set_option maxRecDepth 20000 in
theorem ggL_helm_X11_helm : GoodIn wsL_helm wsX11_helm := goodIn_ca (goodIn_ca (goodIn_ca (goodIn_r _ [6, 7, 8, 9, 10, 11, 5, 12, 13, 14, 15, 16, 17, 18, 19, 20, 21, 22, 23, 24, 25, 26, 27, 28, 29, 30, 31, 32, 33, 34, 35, 36, 37, 38, 39, 40, 41, 42, 43, 44, 45, 46, 47, 48, 49, 50, 51, 52, 53, 54, 55, 56, 57, 58, 59, 60, 61, 62, 63, 64, 65, 66, 67, 68, 69, 70, 71, 72, 73, 74, 75, 76, 77, 78, 79, 80, 81, 82, 83, 84, 85, 86, 87, 88, 89, 90, 91, 92, 93, 94, 95, 96, 97, 98, 99, 100, 101, 102, 103, 104, 105, 106, 107, 108, 109, 110, 111, 112, 113, 114, 115, 116, 117, 118, 119, 120, 121, 122, 123, 124, 125, 126, 127, 128, 129, 130, 131, 132, 133, 134, 135, 136, 137, 138, 139, 140, 141, 142, 143, 144, 145, 146, 147, 148, 149, 150, 151, 152, 153, 154, 155, 156, 157, 158, 159, 160, 161, 162, 163, 164, 165, 166, 167, 168, 169, 170, 171, 172, 173, 174, 175, 176, 177, 178, 179, 180, 181, 182, 183, 184, 185, 186, 187, 188, 189, 190, 191, 192, 193, 194, 195, 196, 197, 198, 199, 200, 201, 202, 203, 204, 205, 206, 207, 208, 209, 210, 211, 212, 213, 214, 215, 216, 217, 218, 219, 220, 221, 222, 223, 224, 225, 226, 227, 228, 229, 230, 231, 232, 233, 234, 235, 236, 237, 238, 239, 240, 241, 242, 243, 244, 245, 246, 247, 248, 249, 250, 251, 252, 253, 254, 255, 256, 257, 258, 259, 260, 261, 262, 263, 264, 265, 266, 267, 268, 269, 270, 271, 272, 273, 274, 275, 276, 277, 278, 279, 280, 281, 282, 283, 284, 285, 286, 287, 288, 289, 290, 291, 292, 293, 294, 295, 296, 297, 298, 299, 300, 301, 302, 303, 304, 305, 306, 307, 308, 309, 310, 311, 312, 313, 314, 315, 316, 317, 318, 319, 320, 321, 322, 323, 324, 325, 326, 327, 328, 329, 330, 331, 332, 333, 334, 335, 336, 337, 338, 339, 340, 341, 342, 343, 344, 345, 346, 347, 348, 349, 350, 351, 352, 353, 354, 355, 356, 357, 358, 359, 360, 361, 362, 363, 364, 365, 366, 367, 368, 369, 370, 371, 372, 373, 374, 375, 376, 377, 378, 379, 380, 381, 382, 383, 384, 385, 386, 387, 388, 389, 390, 391, 392, 393, 394, 395, 396, 397, 398, 399, 400, 401, 402, 403, 404, 405, 406, 407, 408, 409, 410, 411, 412, 413, 414, 415, 416, 417, 418, 419, 420, 421, 422, 423, 424, 425, 426, 427, 428, 429, 430, 431, 432, 433, 434, 435, 436, 437, 438, 439, 440, 441, 442, 443, 444, 445, 446, 447, 448, 449, 450, 451, 452, 453, 454, 455] (by decide +kernel) (by decide +kernel)) (goodIn_sub (fun _ h => List.mem_cons_of_mem _ (List.mem_append_left _ (List.mem_append_right _ h))) (by decide +kernel))) (goodIn_sub (fun _ h => List.mem_cons_of_mem _ (List.mem_append_left _ (List.mem_append_left _ (List.mem_append_right _ h)))) (by decide +kernel))) (goodIn_sub (fun _ h => List.mem_cons_of_mem _ (List.mem_append_right _ h)) (by decide +kernel))
set_option maxRecDepth 20000 in
theorem gL_helm_X11_helm : GoodIn wsL_helm (wsV RL 19 RX11 yX11_helm wsX11_helm) := goodIn_app (goodIn_of _ (by decide +kernel)) ggL_helm_X11_helm
theorem dL_helm_0 : decode cL_helm 0 = .ok (.aload_n 2, 1) := by decide +kernel
theorem dL_helm_1 : decode cL_helm 1 = .ok (.iconst 0, 1) := by decide +kernel
theorem dL_helm_2 : decode cL_helm 2 = .ok (.aload_n 0, 1) := by decide +kernel
theorem dL_helm_3 : decode cL_helm 3 = .ok (.iload_n 1, 1) := by decide +kernel
theorem dL_helm_4 : decode cL_helm 4 = .ok (.invokevirtual 19, 3) := by decide +kernel
theorem dL_helm_7 : decode cL_helm 7 = .ok (.i2l, 1) := by decide +kernel
theorem dL_helm_8 : decode cL_helm 8 = .ok (.lastore, 1) := by decide +kernel
theorem dL_helm_9 : decode cL_helm 9 = .ok (.goto 6, 3) := by decide +kernel
theorem dL_helm_12 : decode cL_helm 12 = .ok (.astore_n 3, 1) := by decide +kernel
theorem dL_helm_13 : decode cL_helm 13 = .ok (.iconst 1, 1) := by decide +kernel
theorem dL_helm_14 : decode cL_helm 14 = .ok (.ireturn, 1) := by decide +kernel
theorem dL_helm_15 : decode cL_helm 15 = .ok (.iconst 0, 1) := by decide +kernel
theorem dL_helm_16 : decode cL_helm 16 = .ok (.ireturn, 1) := by decide +kernel
set_option maxRecDepth 20000 in
theorem ggL_order_X11_order : GoodIn wsL_order wsX11_order := goodIn_ca (goodIn_ca (goodIn_ca (goodIn_ca (goodIn_r _ [7, 8, 9, 10, 11, 12, 13, 14, 6, 15, 16, 17, 18, 19, 20, 21, 22, 23, 24, 25, 26, 27, 28, 29, 30, 31, 32, 33, 34, 35, 36, 37, 38, 39, 40, 41, 42, 43, 44, 45, 46, 47, 48, 49, 50, 51, 52, 53, 54, 55, 56, 57, 58, 59, 60, 61, 62, 63, 64, 65, 66, 67, 68, 69, 70, 71, 72, 73, 74, 75, 76, 77, 78, 79, 80, 81, 82, 83, 84, 85, 86, 87, 88, 89, 90, 91, 92, 93, 94, 95, 96, 97, 98, 99, 100, 101, 102, 103, 104, 105, 106, 107, 108, 109, 110, 111, 112, 113, 114, 115, 116, 117, 118, 119, 120, 121, 122, 123, 124, 125, 126, 127, 128, 129, 130, 131, 132, 133, 134, 135, 136, 137, 138, 139, 140, 141, 142, 143, 144, 145, 146, 147, 148, 149, 150, 151, 152, 153, 154, 155, 156, 157, 158, 159, 160, 161, 162, 163, 164, 165, 166, 167, 168, 169, 170, 171, 172, 173, 174, 175, 176, 177, 178, 179, 180, 181, 182, 183, 184, 185, 186, 187, 188, 189, 190, 191, 192, 193, 194, 195, 196, 197, 198, 199, 200, 201, 202, 203, 204, 205, 206, 207, 208, 209, 210, 211, 212, 213, 214, 215, 216, 217, 218, 219, 220, 221, 222, 223, 224, 225, 226, 227, 228, 229, 230, 231, 232, 233, 234, 235, 236, 237, 238, 239, 240, 241, 242, 243, 244, 245, 246, 247, 248, 249, 250, 251, 252, 253, 254, 255, 256, 257, 258, 259, 260, 261, 262, 263, 264, 265, 266, 267, 268, 269, 270, 271, 272, 273, 274, 275, 276, 277, 278, 279, 280, 281, 282, 283, 284, 285, 286, 287, 288, 289, 290, 291, 292, 293, 294, 295, 296, 297, 298, 299, 300, 301, 302, 303, 304, 305, 306, 307, 308, 309, 310, 311, 312, 313, 314, 315, 316, 317, 318, 319, 320, 321, 322, 323, 324, 325, 326, 327, 328, 329, 330, 331, 332, 333, 334, 335, 336, 337, 338, 339, 340, 341, 342, 343, 344, 345, 346, 347, 348, 349, 350, 351, 352, 353, 354, 355, 356, 357, 358, 359, 360, 361, 362, 363, 364, 365, 366, 367, 368, 369, 370, 371, 372, 373, 374, 375, 376, 377, 378, 379, 380, 381, 382, 383, 384, 385, 386, 387, 388, 389, 390, 391, 392, 393, 394, 395, 396, 397, 398, 399, 400, 401, 402, 403, 404, 405, 406, 407, 408, 409, 410, 411, 412, 413, 414, 415, 416, 417, 418, 419, 420, 421, 422, 423, 424, 425, 426, 427, 428, 429, 430, 431, 432, 433, 434, 435, 436, 437, 438, 439, 440, 441, 442, 443, 444, 445, 446, 447, 448, 449, 450, 451, 452, 453, 454, 455, 456, 457, 458, 459, 460, 461] (by decide +kernel) (by decide +kernel)) (goodIn_sub (fun _ h => List.mem_cons_of_mem _ (List.mem_append_left _ (List.mem_append_left _ (List.mem_append_right _ h)))) (by decide +kernel))) (goodIn_sub (fun _ h => List.mem_cons_of_mem _ (List.mem_append_left _ (List.mem_append_right _ h))) (by decide +kernel))) (goodIn_sub (fun _ h => List.mem_cons_of_mem _ (List.mem_append_left _ (List.mem_append_left _ (List.mem_append_left _ (List.mem_append_right _ h))))) (by decide +kernel))) (goodIn_sub (fun _ h => List.mem_cons_of_mem _ (List.mem_append_right _ h)) (by decide +kernel))
set_option maxRecDepth 20000 in
theorem gL_order_X11_order : GoodIn wsL_order (wsV RL 23 RX11 yX11_order wsX11_order) := goodIn_app (goodIn_of _ (by decide +kernel)) ggL_order_X11_order
theorem dL_order_0 : decode cL_order 0 = .ok (.aload 4, 2) := by decide +kernel
theorem dL_order_2 : decode cL_order 2 = .ok (.iconst 0, 1) := by decide +kernel
theorem dL_order_3 : decode cL_order 3 = .ok (.aload_n 0, 1) := by decide +kernel
theorem dL_order_4 : decode cL_order 4 = .ok (.iload_n 1, 1) := by decide +kernel
theorem dL_order_5 : decode cL_order 5 = .ok (.iload_n 2, 1) := by decide +kernel
theorem dL_order_6 : decode cL_order 6 = .ok (.iload_n 3, 1) := by decide +kernel
theorem dL_order_7 : decode cL_order 7 = .ok (.invokevirtual 23, 3) := by decide +kernel
theorem dL_order_10 : decode cL_order 10 = .ok (.i2l, 1) := by decide +kernel
theorem dL_order_11 : decode cL_order 11 = .ok (.lastore, 1) := by decide +kernel
theorem dL_order_12 : decode cL_order 12 = .ok (.goto 11, 3) := by decide +kernel
theorem dL_order_15 : decode cL_order 15 = .ok (.astore 5, 2) := by decide +kernel
theorem dL_order_17 : decode cL_order 17 = .ok (.iconst 1, 1) := by decide +kernel
theorem dL_order_18 : decode cL_order 18 = .ok (.ireturn, 1) := by decide +kernel
theorem dL_order_23 : decode cL_order 23 = .ok (.iconst 0, 1) := by decide +kernel
theorem dL_order_24 : decode cL_order 24 = .ok (.ireturn, 1) := by decide +kernel
set_option maxRecDepth 20000 in
theorem ggL_belay_X11_belay : GoodIn wsL_belay wsX11_belay := goodIn_ca (goodIn_ca (goodIn_ca (goodIn_ca (goodIn_r _ [7, 8, 9, 10, 11, 12, 13, 14, 15, 16, 17, 18, 19, 20, 21, 22, 23, 24, 25, 26, 27, 28, 29, 30, 31, 32, 33, 34, 35, 36, 37, 38, 39, 40, 41, 42, 43, 44, 45, 6, 46, 47, 48, 49, 50, 51, 52, 53, 54, 55, 56, 57, 58, 59, 60, 61, 62, 63, 64, 65, 66, 67, 68, 69, 70, 71, 72, 73, 74, 75, 76, 77, 78, 79, 80, 81, 82, 83, 84, 85, 86, 87, 88, 89, 90, 91, 92, 93, 94, 95, 96, 97, 98, 99, 100, 101, 102, 103, 104, 105, 106, 107, 108, 109, 110, 111, 112, 113, 114, 115, 116, 117, 118, 119, 120, 121, 122, 123, 124, 125, 126, 127, 128, 129, 130, 131, 132, 133, 134, 135, 136, 137, 138, 139, 140, 141, 142, 143, 144, 145, 146, 147, 148, 149, 150, 151, 152, 153, 154, 155, 156, 157, 158, 159, 160, 161, 162, 163, 164, 165, 166, 167, 168, 169, 170, 171, 172, 173, 174, 175, 176, 177, 178, 179, 180, 181, 182, 183, 184, 185, 186, 187, 188, 189, 190, 191, 192, 193, 194, 195, 196, 197, 198, 199, 200, 201, 202, 203, 204, 205, 206, 207, 208, 209, 210, 211, 212, 213, 214, 215, 216, 217, 218, 219, 220, 221, 222, 223, 224, 225, 226, 227, 228, 229, 230, 231, 232, 233, 234, 235, 236, 237, 238, 239, 240, 241, 242, 243, 244, 245, 246, 247, 248, 249, 250, 251, 252, 253, 254, 255, 256, 257, 258, 259, 260, 261, 262, 263, 264, 265, 266, 267, 268, 269, 270, 271, 272, 273, 274, 275, 276, 277, 278, 279, 280, 281, 282, 283, 284, 285, 286, 287, 288, 289, 290, 291, 292, 293, 294, 295, 296, 297, 298, 299, 300, 301, 302, 303, 304, 305, 306, 307, 308, 309, 310, 311, 312, 313, 314, 315, 316, 317, 318, 319, 320, 321, 322, 323, 324, 325, 326, 327, 328, 329, 330, 331, 332, 333, 334, 335, 336, 337, 338, 339, 340, 341, 342, 343, 344, 345, 346, 347, 348, 349, 350, 351, 352, 353, 354, 355, 356, 357, 358, 359, 360, 361, 362, 363, 364, 365, 366, 367, 368, 369, 370, 371, 372, 373, 374, 375, 376, 377, 378, 379, 380, 381, 382, 383, 384, 385, 386, 387, 388, 389, 390, 391, 392, 393, 394, 395, 396, 397, 398, 399, 400, 401, 402, 403, 404, 405, 406, 407, 408, 409, 410, 411, 412, 413, 414, 415, 416, 417, 418, 419, 420, 421, 422, 423, 424, 425, 426, 427, 428, 429, 430, 431, 432, 433, 434, 435, 436, 437, 438, 439, 440, 441, 442, 443, 444, 445, 446, 447, 448, 449, 450, 451, 452, 453, 454, 455, 456] (by decide +kernel) (by decide +kernel)) (goodIn_sub (fun _ h => List.mem_cons_of_mem _ (List.mem_append_left _ (List.mem_append_left _ (List.mem_append_right _ h)))) (by decide +kernel))) (goodIn_sub (fun _ h => List.mem_cons_of_mem _ (List.mem_append_left _ (List.mem_append_right _ h))) (by decide +kernel))) (goodIn_sub (fun _ h => List.mem_cons_of_mem _ (List.mem_append_left _ (List.mem_append_left _ (List.mem_append_left _ (List.mem_append_right _ h))))) (by decide +kernel))) (goodIn_sub (fun _ h => List.mem_cons_of_mem _ (List.mem_append_right _ h)) (by decide +kernel))
set_option maxRecDepth 20000 in
theorem gL_belay_X11_belay : GoodIn wsL_belay (wsV RL 29 RX11 yX11_belay wsX11_belay) := goodIn_app (goodIn_of _ (by decide +kernel)) ggL_belay_X11_belay
theorem dL_belay_0 : decode cL_belay 0 = .ok (.aload_n 2, 1) := by decide +kernel
theorem dL_belay_1 : decode cL_belay 1 = .ok (.iconst 0, 1) := by decide +kernel
theorem dL_belay_2 : decode cL_belay 2 = .ok (.aload_n 0, 1) := by decide +kernel
theorem dL_belay_3 : decode cL_belay 3 = .ok (.iload_n 1, 1) := by decide +kernel
theorem dL_belay_4 : decode cL_belay 4 = .ok (.invokevirtual 29, 3) := by decide +kernel
theorem dL_belay_12 : decode cL_belay 12 = .ok (.astore_n 3, 1) := by decide +kernel
theorem dL_belay_13 : decode cL_belay 13 = .ok (.iconst 1, 1) := by decide +kernel
theorem dL_belay_14 : decode cL_belay 14 = .ok (.ireturn, 1) := by decide +kernel
set_option maxRecDepth 20000 in
theorem ggL_state_X11_state : GoodIn wsL_state wsX11_state := goodIn_ca (goodIn_r _ [6, 7, 8, 9, 10, 11, 12, 13, 14, 15, 16, 17, 18, 19, 20, 21, 22, 23, 24, 25, 26, 27, 28, 29, 30, 31, 32, 33, 34, 35, 36, 37, 38, 39, 40, 41, 42, 43, 44, 45, 46, 47, 48, 49, 50, 51, 52, 53, 54, 55, 56, 57, 58, 59, 60, 61, 62, 63, 64, 65, 66, 67, 68, 69, 70, 71, 72, 73, 74, 75, 76, 77] (by decide +kernel) (by decide +kernel)) (goodIn_sub (fun _ h => List.mem_cons_of_mem _ (List.mem_append_right _ h)) (by decide +kernel))
set_option maxRecDepth 20000 in
theorem gL_state_X11_state : GoodIn wsL_state (wsV RL 36 RX11 yX11_state wsX11_state) := goodIn_app (goodIn_of _ (by decide +kernel)) ggL_state_X11_state
theorem dL_state_0 : decode cL_state 0 = .ok (.aload_n 2, 1) := by decide +kernel
theorem dL_state_1 : decode cL_state 1 = .ok (.iconst 0, 1) := by decide +kernel
theorem dL_state_2 : decode cL_state 2 = .ok (.aload_n 0, 1) := by decide +kernel
theorem dL_state_3 : decode cL_state 3 = .ok (.iload_n 1, 1) := by decide +kernel
theorem dL_state_4 : decode cL_state 4 = .ok (.invokevirtual 36, 3) := by decide +kernel
theorem dL_state_12 : decode cL_state 12 = .ok (.astore_n 3, 1) := by decide +kernel
theorem dL_state_13 : decode cL_state 13 = .ok (.iconst 1, 1) := by decide +kernel
theorem dL_state_14 : decode cL_state 14 = .ok (.ireturn, 1) := by decide +kernel
set_option maxRecDepth 20000 in
theorem ggL_tired_X11_tired : GoodIn wsL_tired wsX11_tired := goodIn_ca (goodIn_r _ [6, 7, 8, 9, 10, 11, 5, 12, 13, 14, 15, 16, 17, 18, 19, 20, 21, 22, 23, 24, 25, 26, 27, 28, 29, 30, 31, 32, 33, 34, 35, 36, 37, 38, 39, 40, 41, 42, 43, 44, 45, 46, 47, 48, 49] (by decide +kernel) (by decide +kernel)) (goodIn_sub (fun _ h => List.mem_cons_of_mem _ (List.mem_append_right _ h)) (by decide +kernel))
set_option maxRecDepth 20000 in
theorem gL_tired_X11_tired : GoodIn wsL_tired (wsV RL 40 RX11 yX11_tired wsX11_tired) := goodIn_app (goodIn_of _ (by decide +kernel)) ggL_tired_X11_tired
theorem dL_tired_0 : decode cL_tired 0 = .ok (.aload_n 2, 1) := by decide +kernel
theorem dL_tired_1 : decode cL_tired 1 = .ok (.iconst 0, 1) := by decide +kernel
theorem dL_tired_2 : decode cL_tired 2 = .ok (.aload_n 0, 1) := by decide +kernel
theorem dL_tired_3 : decode cL_tired 3 = .ok (.iload_n 1, 1) := by decide +kernel
theorem dL_tired_4 : decode cL_tired 4 = .ok (.invokevirtual 40, 3) := by decide +kernel
theorem dL_tired_7 : decode cL_tired 7 = .ok (.i2l, 1) := by decide +kernel
theorem dL_tired_8 : decode cL_tired 8 = .ok (.lastore, 1) := by decide +kernel
theorem dL_tired_9 : decode cL_tired 9 = .ok (.goto 6, 3) := by decide +kernel
theorem dL_tired_12 : decode cL_tired 12 = .ok (.astore_n 3, 1) := by decide +kernel
theorem dL_tired_13 : decode cL_tired 13 = .ok (.iconst 1, 1) := by decide +kernel
theorem dL_tired_14 : decode cL_tired 14 = .ok (.ireturn, 1) := by decide +kernel
theorem dL_tired_15 : decode cL_tired 15 = .ok (.iconst 0, 1) := by decide +kernel
theorem dL_tired_16 : decode cL_tired 16 = .ok (.ireturn, 1) := by decide +kernel
set_option maxRecDepth 20000 in
theorem ggL_sick_X11_sick : GoodIn wsL_sick wsX11_sick := goodIn_ca (goodIn_r _ [6, 7, 8, 9, 10, 11, 5, 12, 13, 14, 15, 16, 17, 18, 19, 20, 21, 22, 23, 24, 25, 26, 27, 28, 29, 30, 31, 32, 33, 34, 35, 36, 37, 38, 39, 40, 41, 42, 43, 44, 45, 46, 47, 48, 49] (by decide +kernel) (by decide +kernel)) (goodIn_sub (fun _ h => List.mem_cons_of_mem _ (List.mem_append_right _ h)) (by decide +kernel))
set_option maxRecDepth 20000 in
theorem gL_sick_X11_sick : GoodIn wsL_sick (wsV RL 43 RX11 yX11_sick wsX11_sick) := goodIn_app (goodIn_of _ (by decide +kernel)) ggL_sick_X11_sick
theorem dL_sick_0 : decode cL_sick 0 = .ok (.aload_n 2, 1) := by decide +kernel
theorem dL_sick_1 : decode cL_sick 1 = .ok (.iconst 0, 1) := by decide +kernel
theorem dL_sick_2 : decode cL_sick 2 = .ok (.aload_n 0, 1) := by decide +kernel
theorem dL_sick_3 : decode cL_sick 3 = .ok (.iload_n 1, 1) := by decide +kernel
theorem dL_sick_4 : decode cL_sick 4 = .ok (.invokevirtual 43, 3) := by decide +kernel
theorem dL_sick_7 : decode cL_sick 7 = .ok (.i2l, 1) := by decide +kernel
theorem dL_sick_8 : decode cL_sick 8 = .ok (.lastore, 1) := by decide +kernel
theorem dL_sick_9 : decode cL_sick 9 = .ok (.goto 6, 3) := by decide +kernel
theorem dL_sick_12 : decode cL_sick 12 = .ok (.astore_n 3, 1) := by decide +kernel
theorem dL_sick_13 : decode cL_sick 13 = .ok (.iconst 1, 1) := by decide +kernel
theorem dL_sick_14 : decode cL_sick 14 = .ok (.ireturn, 1) := by decide +kernel
theorem dL_sick_15 : decode cL_sick 15 = .ok (.iconst 0, 1) := by decide +kernel
theorem dL_sick_16 : decode cL_sick 16 = .ok (.ireturn, 1) := by decide +kernel
set_option maxRecDepth 20000 in
theorem ggL_stow_X11_stow : GoodIn wsL_stow wsX11_stow := goodIn_ca (goodIn_ca (goodIn_ca (goodIn_ca (goodIn_r _ [7, 8, 9, 10, 11, 12, 13, 14, 6, 15, 16, 17, 18, 19, 20, 21, 22, 23, 24, 25, 26, 27, 28, 29, 30, 31, 32, 33, 34, 35, 36, 37, 38, 39, 40, 41, 42, 43, 44, 45, 46, 47, 48, 49, 50, 51, 52, 53, 54, 55, 56, 57, 58, 59, 60, 61, 62, 63, 64, 65, 66, 67, 68, 69, 70, 71, 72, 73, 74, 75, 76, 77, 78, 79, 80, 81, 82, 83, 84, 85, 86, 87, 88, 89, 90, 91, 92, 93, 94, 95, 96, 97, 98, 99, 100, 101, 102, 103, 104, 105, 106, 107, 108, 109, 110, 111, 112, 113, 114, 115, 116, 117, 118, 119, 120, 121, 122, 123, 124, 125, 126, 127, 128, 129, 130, 131, 132, 133, 134, 135, 136, 137, 138, 139, 140, 141, 142, 143, 144, 145, 146, 147, 148, 149, 150, 151, 152, 153, 154, 155, 156, 157, 158, 159, 160, 161, 162, 163, 164, 165, 166, 167, 168, 169, 170, 171, 172, 173, 174, 175, 176, 177, 178, 179, 180, 181, 182, 183, 184, 185, 186, 187, 188, 189, 190, 191, 192, 193, 194, 195, 196, 197, 198, 199, 200, 201, 202, 203, 204, 205, 206, 207, 208, 209, 210, 211, 212, 213, 214, 215, 216, 217, 218, 219, 220, 221, 222, 223, 224, 225, 226, 227, 228, 229, 230, 231, 232, 233, 234, 235, 236, 237, 238, 239, 240, 241, 242, 243, 244, 245, 246, 247, 248, 249, 250, 251, 252, 253, 254, 255, 256, 257, 258, 259, 260, 261, 262, 263, 264, 265, 266, 267, 268, 269, 270, 271, 272, 273, 274, 275, 276, 277, 278, 279, 280, 281, 282, 283, 284, 285, 286, 287, 288, 289, 290, 291, 292, 293, 294, 295, 296, 297, 298, 299, 300, 301, 302, 303, 304, 305, 306, 307, 308, 309, 310, 311, 312, 313, 314, 315, 316, 317, 318, 319, 320, 321, 322, 323, 324, 325, 326, 327, 328, 329, 330, 331, 332, 333, 334, 335, 336, 337, 338, 339, 340, 341, 342, 343, 344, 345, 346, 347, 348, 349, 350, 351, 352, 353, 354, 355, 356, 357, 358, 359, 360, 361, 362, 363, 364, 365, 366, 367, 368, 369, 370, 371, 372, 373, 374, 375, 376, 377, 378, 379, 380, 381, 382, 383, 384, 385, 386, 387, 388, 389, 390, 391, 392, 393, 394, 395, 396, 397, 398, 399, 400, 401, 402, 403, 404, 405, 406, 407, 408, 409, 410, 411, 412, 413, 414, 415, 416, 417, 418, 419, 420, 421, 422, 423, 424, 425, 426, 427, 428, 429, 430, 431, 432, 433, 434, 435, 436, 437, 438, 439, 440, 441, 442, 443, 444, 445, 446, 447, 448, 449, 450, 451, 452, 453, 454, 455, 456, 457, 458] (by decide +kernel) (by decide +kernel)) (goodIn_sub (fun _ h => List.mem_cons_of_mem _ (List.mem_append_left _ (List.mem_append_left _ (List.mem_append_right _ h)))) (by decide +kernel))) (goodIn_sub (fun _ h => List.mem_cons_of_mem _ (List.mem_append_left _ (List.mem_append_right _ h))) (by decide +kernel))) (goodIn_sub (fun _ h => List.mem_cons_of_mem _ (List.mem_append_left _ (List.mem_append_left _ (List.mem_append_left _ (List.mem_append_right _ h))))) (by decide +kernel))) (goodIn_sub (fun _ h => List.mem_cons_of_mem _ (List.mem_append_right _ h)) (by decide +kernel))
set_option maxRecDepth 20000 in
theorem gL_stow_X11_stow : GoodIn wsL_stow (wsV RL 46 RX11 yX11_stow wsX11_stow) := goodIn_app (goodIn_of _ (by decide +kernel)) ggL_stow_X11_stow
theorem dL_stow_0 : decode cL_stow 0 = .ok (.aload_n 3, 1) := by decide +kernel
theorem dL_stow_1 : decode cL_stow 1 = .ok (.iconst 0, 1) := by decide +kernel
theorem dL_stow_2 : decode cL_stow 2 = .ok (.aload_n 0, 1) := by decide +kernel
theorem dL_stow_3 : decode cL_stow 3 = .ok (.iload_n 1, 1) := by decide +kernel
theorem dL_stow_4 : decode cL_stow 4 = .ok (.iload_n 2, 1) := by decide +kernel
theorem dL_stow_5 : decode cL_stow 5 = .ok (.invokevirtual 46, 3) := by decide +kernel
theorem dL_stow_8 : decode cL_stow 8 = .ok (.i2l, 1) := by decide +kernel
theorem dL_stow_9 : decode cL_stow 9 = .ok (.lastore, 1) := by decide +kernel
theorem dL_stow_10 : decode cL_stow 10 = .ok (.goto 11, 3) := by decide +kernel
theorem dL_stow_13 : decode cL_stow 13 = .ok (.astore 4, 2) := by decide +kernel
theorem dL_stow_15 : decode cL_stow 15 = .ok (.iconst 1, 1) := by decide +kernel
theorem dL_stow_16 : decode cL_stow 16 = .ok (.ireturn, 1) := by decide +kernel
theorem dL_stow_21 : decode cL_stow 21 = .ok (.iconst 0, 1) := by decide +kernel
theorem dL_stow_22 : decode cL_stow 22 = .ok (.ireturn, 1) := by decide +kernel
set_option maxRecDepth 20000 in
theorem ggL_left_X11_left : GoodIn wsL_left wsX11_left := goodIn_ca (goodIn_ca (goodIn_r _ [6, 7, 8, 9, 10, 11, 5, 12, 13, 14, 15, 16, 17, 18, 19, 20, 21, 22, 23, 24, 25, 26, 27, 28, 29, 30, 31, 32, 33, 34, 35, 36, 37, 38, 39, 40, 41, 42, 43] (by decide +kernel) (by decide +kernel)) (goodIn_sub (fun _ h => List.mem_cons_of_mem _ (List.mem_append_right _ h)) (by decide +kernel))) (goodIn_sub (fun _ h => List.mem_cons_of_mem _ (List.mem_append_left _ (List.mem_append_right _ h))) (by decide +kernel))
set_option maxRecDepth 20000 in
theorem gL_left_X11_left : GoodIn wsL_left (wsV RL 50 RX11 yX11_left wsX11_left) := goodIn_app (goodIn_of _ (by decide +kernel)) ggL_left_X11_left
theorem dL_left_0 : decode cL_left 0 = .ok (.aload_n 2, 1) := by decide +kernel
theorem dL_left_1 : decode cL_left 1 = .ok (.iconst 0, 1) := by decide +kernel
theorem dL_left_2 : decode cL_left 2 = .ok (.aload_n 0, 1) := by decide +kernel
theorem dL_left_3 : decode cL_left 3 = .ok (.iload_n 1, 1) := by decide +kernel
theorem dL_left_4 : decode cL_left 4 = .ok (.invokevirtual 50, 3) := by decide +kernel
theorem dL_left_12 : decode cL_left 12 = .ok (.astore_n 3, 1) := by decide +kernel
theorem dL_left_13 : decode cL_left 13 = .ok (.iconst 1, 1) := by decide +kernel
theorem dL_left_14 : decode cL_left 14 = .ok (.ireturn, 1) := by decide +kernel
set_option maxRecDepth 20000 in
theorem ggL_sail_X11_sail : GoodIn wsL_sail wsX11_sail := goodIn_ca (goodIn_ca (goodIn_ca (goodIn_r _ [6, 7, 8, 9, 10, 11, 5, 12, 13, 14, 15, 16, 17, 18, 19, 20, 21, 22, 23, 24, 25, 26, 27, 28, 29, 30, 31, 32, 33, 34, 35, 36, 37, 38, 39, 40, 41, 42, 43, 44, 45, 46, 47, 48, 49, 50, 51, 52, 53, 54, 55, 56, 57, 58, 59, 60, 61, 62, 63, 64, 65, 66, 67, 68, 69, 70, 71, 72, 73, 74, 75, 76, 77, 78, 79, 80, 81, 82, 83, 84, 85, 86, 87, 88, 89, 90, 91, 92, 93, 94, 95, 96, 97, 98, 99, 100, 101, 102, 103, 104, 105, 106, 107, 108, 109, 110, 111, 112, 113, 114, 115, 116, 117, 118, 119, 120, 121, 122, 123, 124, 125, 126, 127, 128, 129, 130, 131, 132, 133, 134, 135, 136, 137, 138, 139, 140, 141, 142, 143, 144, 145, 146, 147, 148, 149, 150, 151, 152, 153, 154, 155, 156, 157, 158, 159, 160, 161, 162, 163, 164, 165, 166, 167, 168, 169, 170, 171, 172, 173, 174, 175, 176, 177, 178, 179, 180, 181, 182, 183, 184, 185, 186, 187, 188, 189, 190, 191, 192, 193, 194, 195, 196, 197, 198, 199, 200, 201, 202, 203, 204, 205, 206, 207, 208, 209, 210, 211, 212, 213, 214, 215, 216, 217, 218, 219, 220, 221, 222, 223, 224, 225, 226, 227, 228, 229, 230, 231, 232, 233, 234, 235, 236, 237, 238, 239, 240, 241, 242, 243, 244, 245, 246, 247, 248, 249, 250, 251, 252, 253, 254, 255, 256, 257, 258, 259, 260, 261, 262, 263, 264, 265, 266, 267, 268, 269, 270, 271, 272, 273, 274, 275, 276, 277, 278, 279, 280, 281, 282, 283, 284, 285, 286, 287, 288, 289, 290, 291, 292, 293, 294, 295, 296, 297, 298, 299, 300, 301, 302, 303, 304, 305, 306, 307, 308, 309, 310, 311, 312, 313, 314, 315, 316, 317, 318, 319, 320, 321, 322, 323, 324, 325, 326, 327, 328, 329, 330, 331, 332, 333, 334, 335, 336, 337, 338, 339, 340, 341, 342, 343, 344, 345, 346, 347, 348, 349, 350, 351, 352, 353, 354, 355, 356, 357, 358, 359, 360, 361, 362, 363, 364, 365, 366, 367, 368, 369, 370, 371, 372, 373, 374, 375, 376, 377, 378, 379, 380, 381, 382, 383, 384, 385, 386, 387, 388, 389, 390, 391, 392, 393, 394, 395, 396, 397, 398, 399, 400, 401, 402, 403, 404, 405, 406, 407, 408, 409, 410, 411, 412, 413, 414, 415, 416, 417, 418, 419, 420, 421, 422, 423, 424, 425, 426, 427, 428, 429, 430, 431, 432, 433, 434, 435, 436, 437, 438, 439, 440, 441, 442, 443, 444, 445, 446, 447, 448, 449, 450, 451, 452, 453, 454, 455] (by decide +kernel) (by decide +kernel)) (goodIn_sub (fun _ h => List.mem_cons_of_mem _ (List.mem_append_left _ (List.mem_append_right _ h))) (by decide +kernel))) (goodIn_sub (fun _ h => List.mem_cons_of_mem _ (List.mem_append_left _ (List.mem_append_left _ (List.mem_append_right _ h)))) (by decide +kernel))) (goodIn_sub (fun _ h => List.mem_cons_of_mem _ (List.mem_append_right _ h)) (by decide +kernel))
set_option maxRecDepth 20000 in
theorem gL_sail_X11_sail : GoodIn wsL_sail (wsV RL 59 RX11 yX11_sail wsX11_sail) := goodIn_app (goodIn_of _ (by decide +kernel)) ggL_sail_X11_sail
theorem dL_sail_0 : decode cL_sail 0 = .ok (.aload_n 2, 1) := by decide +kernel
theorem dL_sail_1 : decode cL_sail 1 = .ok (.iconst 0, 1) := by decide +kernel
theorem dL_sail_2 : decode cL_sail 2 = .ok (.aload_n 0, 1) := by decide +kernel
theorem dL_sail_3 : decode cL_sail 3 = .ok (.iload_n 1, 1) := by decide +kernel
theorem dL_sail_4 : decode cL_sail 4 = .ok (.invokevirtual 59, 3) := by decide +kernel
theorem dL_sail_7 : decode cL_sail 7 = .ok (.i2l, 1) := by decide +kernel
theorem dL_sail_8 : decode cL_sail 8 = .ok (.lastore, 1) := by decide +kernel
theorem dL_sail_9 : decode cL_sail 9 = .ok (.goto 6, 3) := by decide +kernel
theorem dL_sail_12 : decode cL_sail 12 = .ok (.astore_n 3, 1) := by decide +kernel
theorem dL_sail_13 : decode cL_sail 13 = .ok (.iconst 1, 1) := by decide +kernel
theorem dL_sail_14 : decode cL_sail 14 = .ok (.ireturn, 1) := by decide +kernel
theorem dL_sail_15 : decode cL_sail 15 = .ok (.iconst 0, 1) := by decide +kernel
theorem dL_sail_16 : decode cL_sail 16 = .ok (.ireturn, 1) := by decide +kernel
set_option maxRecDepth 20000 in
theorem ggL_force_X11_force : GoodIn wsL_force wsX11_force := goodIn_ca (goodIn_ca (goodIn_r _ [6, 7, 8, 9, 10, 11, 12, 13, 14, 15, 16, 17, 18, 19, 20, 21, 22, 23, 24, 25, 26, 27, 28, 29, 30, 31, 32, 33, 34, 35, 36, 37, 38, 39, 40, 41, 42, 43, 44, 45, 46, 47, 48, 49, 50, 51, 52, 53, 54, 55, 56, 57, 58, 59, 60, 61, 62, 63, 64, 65, 66, 67, 68, 69, 70, 71, 72, 73, 74, 75, 76, 77, 78, 79, 80, 81, 82, 83, 84, 85, 86, 87] (by decide +kernel) (by decide +kernel)) (goodIn_sub (fun _ h => List.mem_cons_of_mem _ (List.mem_append_right _ h)) (by decide +kernel))) (goodIn_sub (fun _ h => List.mem_cons_of_mem _ (List.mem_append_left _ (List.mem_append_right _ h))) (by decide +kernel))
set_option maxRecDepth 20000 in
theorem gL_force_X11_force : GoodIn wsL_force (wsV RL 62 RX11 yX11_force wsX11_force) := goodIn_app (goodIn_of _ (by decide +kernel)) ggL_force_X11_force
theorem dL_force_0 : decode cL_force 0 = .ok (.aload_n 2, 1) := by decide +kernel
theorem dL_force_1 : decode cL_force 1 = .ok (.iconst 0, 1) := by decide +kernel
theorem dL_force_2 : decode cL_force 2 = .ok (.aload_n 0, 1) := by decide +kernel
theorem dL_force_3 : decode cL_force 3 = .ok (.iload_n 1, 1) := by decide +kernel
theorem dL_force_4 : decode cL_force 4 = .ok (.invokevirtual 62, 3) := by decide +kernel
theorem dL_force_7 : decode cL_force 7 = .ok (.i2l, 1) := by decide +kernel
theorem dL_force_8 : decode cL_force 8 = .ok (.lastore, 1) := by decide +kernel
theorem dL_force_9 : decode cL_force 9 = .ok (.goto 6, 3) := by decide +kernel
theorem dL_force_12 : decode cL_force 12 = .ok (.astore_n 3, 1) := by decide +kernel
theorem dL_force_13 : decode cL_force 13 = .ok (.iconst 1, 1) := by decide +kernel
theorem dL_force_14 : decode cL_force 14 = .ok (.ireturn, 1) := by decide +kernel
theorem dL_force_15 : decode cL_force 15 = .ok (.iconst 0, 1) := by decide +kernel
theorem dL_force_16 : decode cL_force 16 = .ok (.ireturn, 1) := by decide +kernel
set_option maxRecDepth 20000 in
theorem ggL_spread_X11_spread : GoodIn wsL_spread wsX11_spread := goodIn_ca (goodIn_r _ [6, 7, 8, 9, 10, 11, 12, 13, 14, 15, 16, 17, 18, 19, 20, 21, 22, 23, 24, 25, 26, 27, 28, 29, 30, 31, 32, 33, 34, 35, 36, 37, 38, 39, 40, 41, 42, 43, 44, 45, 46, 47, 48, 49, 50] (by decide +kernel) (by decide +kernel)) (goodIn_sub (fun _ h => List.mem_cons_of_mem _ (List.mem_append_right _ h)) (by decide +kernel))
set_option maxRecDepth 20000 in
theorem gL_spread_X11_spread : GoodIn wsL_spread (wsV RL 65 RX11 yX11_spread wsX11_spread) := goodIn_app (goodIn_of _ (by decide +kernel)) ggL_spread_X11_spread
theorem dL_spread_0 : decode cL_spread 0 = .ok (.aload_n 2, 1) := by decide +kernel
theorem dL_spread_1 : decode cL_spread 1 = .ok (.iconst 0, 1) := by decide +kernel
theorem dL_spread_2 : decode cL_spread 2 = .ok (.aload_n 0, 1) := by decide +kernel
theorem dL_spread_3 : decode cL_spread 3 = .ok (.iload_n 1, 1) := by decide +kernel
theorem dL_spread_4 : decode cL_spread 4 = .ok (.invokevirtual 65, 3) := by decide +kernel
theorem dL_spread_7 : decode cL_spread 7 = .ok (.i2l, 1) := by decide +kernel
theorem dL_spread_8 : decode cL_spread 8 = .ok (.lastore, 1) := by decide +kernel
theorem dL_spread_9 : decode cL_spread 9 = .ok (.goto 6, 3) := by decide +kernel
theorem dL_spread_12 : decode cL_spread 12 = .ok (.astore_n 3, 1) := by decide +kernel
theorem dL_spread_13 : decode cL_spread 13 = .ok (.iconst 1, 1) := by decide +kernel
theorem dL_spread_14 : decode cL_spread 14 = .ok (.ireturn, 1) := by decide +kernel
theorem dL_spread_15 : decode cL_spread 15 = .ok (.iconst 0, 1) := by decide +kernel
theorem dL_spread_16 : decode cL_spread 16 = .ok (.ireturn, 1) := by decide +kernel
set_option maxRecDepth 20000 in
theorem ggL_strength_X11_strength : GoodIn wsL_strength wsX11_strength := goodIn_ca (goodIn_r _ [6, 7, 8, 9, 10, 11, 12, 13, 14, 15, 16, 17, 18, 19, 20, 21, 22, 23, 24, 25, 26, 27, 28, 29, 30, 31, 32, 33, 34, 35, 36, 37, 38, 39, 40, 41, 42, 43, 44, 45, 46, 47, 48, 49, 50] (by decide +kernel) (by decide +kernel)) (goodIn_sub (fun _ h => List.mem_cons_of_mem _ (List.mem_append_right _ h)) (by decide +kernel))
set_option maxRecDepth 20000 in
theorem gL_strength_X11_strength : GoodIn wsL_strength (wsV RL 68 RX11 yX11_strength wsX11_strength) := goodIn_app (goodIn_of _ (by decide +kernel)) ggL_strength_X11_strength
theorem dL_strength_0 : decode cL_strength 0 = .ok (.aload_n 2, 1) := by decide +kernel
theorem dL_strength_1 : decode cL_strength 1 = .ok (.iconst 0, 1) := by decide +kernel
theorem dL_strength_2 : decode cL_strength 2 = .ok (.aload_n 0, 1) := by decide +kernel
theorem dL_strength_3 : decode cL_strength 3 = .ok (.iload_n 1, 1) := by decide +kernel
theorem dL_strength_4 : decode cL_strength 4 = .ok (.invokevirtual 68, 3) := by decide +kernel
theorem dL_strength_7 : decode cL_strength 7 = .ok (.i2l, 1) := by decide +kernel
theorem dL_strength_8 : decode cL_strength 8 = .ok (.lastore, 1) := by decide +kernel
theorem dL_strength_9 : decode cL_strength 9 = .ok (.goto 6, 3) := by decide +kernel
theorem dL_strength_12 : decode cL_strength 12 = .ok (.astore_n 3, 1) := by decide +kernel
theorem dL_strength_13 : decode cL_strength 13 = .ok (.iconst 1, 1) := by decide +kernel
theorem dL_strength_14 : decode cL_strength 14 = .ok (.ireturn, 1) := by decide +kernel
theorem dL_strength_15 : decode cL_strength 15 = .ok (.iconst 0, 1) := by decide +kernel
theorem dL_strength_16 : decode cL_strength 16 = .ok (.ireturn, 1) := by decide +kernel
set_option maxRecDepth 20000 in
theorem ggL_braced_X11_braced : GoodIn wsL_braced wsX11_braced := goodIn_ca (goodIn_r _ [6, 7, 8, 9, 10, 11, 12, 13, 14, 15, 16, 17, 18, 19, 20, 21, 22, 23, 24, 25, 26, 27, 28, 29, 30, 31, 32, 33, 34, 35, 36, 37, 38, 39, 40, 41, 42, 43, 44, 45] (by decide +kernel) (by decide +kernel)) (goodIn_sub (fun _ h => List.mem_cons_of_mem _ (List.mem_append_right _ h)) (by decide +kernel))
set_option maxRecDepth 20000 in
theorem gL_braced_X11_braced : GoodIn wsL_braced (wsV RL 71 RX11 yX11_braced wsX11_braced) := goodIn_app (goodIn_of _ (by decide +kernel)) ggL_braced_X11_braced
theorem dL_braced_0 : decode cL_braced 0 = .ok (.aload_n 2, 1) := by decide +kernel
theorem dL_braced_1 : decode cL_braced 1 = .ok (.iconst 0, 1) := by decide +kernel
theorem dL_braced_2 : decode cL_braced 2 = .ok (.aload_n 0, 1) := by decide +kernel
theorem dL_braced_3 : decode cL_braced 3 = .ok (.iload_n 1, 1) := by decide +kernel
theorem dL_braced_4 : decode cL_braced 4 = .ok (.invokevirtual 71, 3) := by decide +kernel
theorem dL_braced_7 : decode cL_braced 7 = .ok (.i2l, 1) := by decide +kernel
theorem dL_braced_8 : decode cL_braced 8 = .ok (.lastore, 1) := by decide +kernel
theorem dL_braced_9 : decode cL_braced 9 = .ok (.goto 6, 3) := by decide +kernel
theorem dL_braced_12 : decode cL_braced 12 = .ok (.astore_n 3, 1) := by decide +kernel
theorem dL_braced_13 : decode cL_braced 13 = .ok (.iconst 1, 1) := by decide +kernel
theorem dL_braced_14 : decode cL_braced 14 = .ok (.ireturn, 1) := by decide +kernel
theorem dL_braced_15 : decode cL_braced 15 = .ok (.iconst 0, 1) := by decide +kernel
theorem dL_braced_16 : decode cL_braced 16 = .ok (.ireturn, 1) := by decide +kernel
set_option maxRecDepth 20000 in
theorem ggL_isSprung_X11_isSprung : GoodIn wsL_isSprung wsX11_isSprung := goodIn_ca (goodIn_r _ [6, 7, 8, 9, 10, 11, 12, 13, 14, 15, 16, 17, 18, 19, 20, 21, 22, 23, 24, 25, 26, 27, 28, 29, 30, 31, 32, 33, 34, 35, 36, 37, 38, 39, 40, 41, 42, 43, 44, 45] (by decide +kernel) (by decide +kernel)) (goodIn_sub (fun _ h => List.mem_cons_of_mem _ (List.mem_append_right _ h)) (by decide +kernel))
set_option maxRecDepth 20000 in
theorem gL_isSprung_X11_isSprung : GoodIn wsL_isSprung (wsV RL 74 RX11 yX11_isSprung wsX11_isSprung) := goodIn_app (goodIn_of _ (by decide +kernel)) ggL_isSprung_X11_isSprung
theorem dL_isSprung_0 : decode cL_isSprung 0 = .ok (.aload_n 2, 1) := by decide +kernel
theorem dL_isSprung_1 : decode cL_isSprung 1 = .ok (.iconst 0, 1) := by decide +kernel
theorem dL_isSprung_2 : decode cL_isSprung 2 = .ok (.aload_n 0, 1) := by decide +kernel
theorem dL_isSprung_3 : decode cL_isSprung 3 = .ok (.iload_n 1, 1) := by decide +kernel
theorem dL_isSprung_4 : decode cL_isSprung 4 = .ok (.invokevirtual 74, 3) := by decide +kernel
theorem dL_isSprung_7 : decode cL_isSprung 7 = .ok (.ifCond .eq 7, 3) := by decide +kernel
theorem dL_isSprung_14 : decode cL_isSprung 14 = .ok (.lconst 0, 1) := by decide +kernel
theorem dL_isSprung_15 : decode cL_isSprung 15 = .ok (.lastore, 1) := by decide +kernel
theorem dL_isSprung_16 : decode cL_isSprung 16 = .ok (.goto 6, 3) := by decide +kernel
theorem dL_isSprung_19 : decode cL_isSprung 19 = .ok (.astore_n 3, 1) := by decide +kernel
theorem dL_isSprung_20 : decode cL_isSprung 20 = .ok (.iconst 1, 1) := by decide +kernel
theorem dL_isSprung_21 : decode cL_isSprung 21 = .ok (.ireturn, 1) := by decide +kernel
theorem dL_isSprung_22 : decode cL_isSprung 22 = .ok (.iconst 0, 1) := by decide +kernel
theorem dL_isSprung_23 : decode cL_isSprung 23 = .ok (.ireturn, 1) := by decide +kernel
set_option maxRecDepth 20000 in
theorem ggL_line_X11_line : GoodIn wsL_line wsX11_line := goodIn_ca (goodIn_ca (goodIn_r _ [6, 7, 8, 9, 10, 11, 5, 12, 13, 14, 15, 16, 17, 18, 19, 20, 21, 22, 23, 24, 25, 26, 27, 28, 29, 30, 31, 32, 33, 34, 35, 36, 37, 38, 39, 40, 41, 42, 43, 44, 45, 46, 47, 48, 49, 50, 51, 52] (by decide +kernel) (by decide +kernel)) (goodIn_sub (fun _ h => List.mem_cons_of_mem _ (List.mem_append_right _ h)) (by decide +kernel))) (goodIn_sub (fun _ h => List.mem_cons_of_mem _ (List.mem_append_left _ (List.mem_append_right _ h))) (by decide +kernel))
set_option maxRecDepth 20000 in
theorem gL_line_X11_line : GoodIn wsL_line (wsV RL 78 RX11 yX11_line wsX11_line) := goodIn_app (goodIn_of _ (by decide +kernel)) ggL_line_X11_line
theorem dL_line_0 : decode cL_line 0 = .ok (.aload_n 2, 1) := by decide +kernel
theorem dL_line_1 : decode cL_line 1 = .ok (.iconst 0, 1) := by decide +kernel
theorem dL_line_2 : decode cL_line 2 = .ok (.aload_n 0, 1) := by decide +kernel
theorem dL_line_3 : decode cL_line 3 = .ok (.iload_n 1, 1) := by decide +kernel
theorem dL_line_4 : decode cL_line 4 = .ok (.invokevirtual 78, 3) := by decide +kernel
theorem dL_line_12 : decode cL_line 12 = .ok (.astore_n 3, 1) := by decide +kernel
theorem dL_line_13 : decode cL_line 13 = .ok (.iconst 1, 1) := by decide +kernel
theorem dL_line_14 : decode cL_line 14 = .ok (.ireturn, 1) := by decide +kernel
set_option maxRecDepth 20000 in
theorem ggL_lineMinute_X11_lineMinute : GoodIn wsL_lineMinute wsX11_lineMinute := goodIn_ca (goodIn_ca (goodIn_r _ [6, 7, 8, 9, 10, 11, 5, 12, 13, 14, 15, 16, 17, 18, 19, 20, 21, 22, 23, 24, 25, 26, 27, 28, 29, 30, 31, 32, 33, 34, 35, 36, 37, 38, 39, 40, 41, 42, 43, 44, 45, 46, 47, 48, 49, 50, 51, 52] (by decide +kernel) (by decide +kernel)) (goodIn_sub (fun _ h => List.mem_cons_of_mem _ (List.mem_append_right _ h)) (by decide +kernel))) (goodIn_sub (fun _ h => List.mem_cons_of_mem _ (List.mem_append_left _ (List.mem_append_right _ h))) (by decide +kernel))
set_option maxRecDepth 20000 in
theorem gL_lineMinute_X11_lineMinute : GoodIn wsL_lineMinute (wsV RL 81 RX11 yX11_lineMinute wsX11_lineMinute) := goodIn_app (goodIn_of _ (by decide +kernel)) ggL_lineMinute_X11_lineMinute
theorem dL_lineMinute_0 : decode cL_lineMinute 0 = .ok (.aload_n 2, 1) := by decide +kernel
theorem dL_lineMinute_1 : decode cL_lineMinute 1 = .ok (.iconst 0, 1) := by decide +kernel
theorem dL_lineMinute_2 : decode cL_lineMinute 2 = .ok (.aload_n 0, 1) := by decide +kernel
theorem dL_lineMinute_3 : decode cL_lineMinute 3 = .ok (.iload_n 1, 1) := by decide +kernel
theorem dL_lineMinute_4 : decode cL_lineMinute 4 = .ok (.invokevirtual 81, 3) := by decide +kernel
theorem dL_lineMinute_12 : decode cL_lineMinute 12 = .ok (.astore_n 3, 1) := by decide +kernel
theorem dL_lineMinute_13 : decode cL_lineMinute 13 = .ok (.iconst 1, 1) := by decide +kernel
theorem dL_lineMinute_14 : decode cL_lineMinute 14 = .ok (.ireturn, 1) := by decide +kernel
set_option maxRecDepth 20000 in
theorem ggL_meanStrength_X11_meanStrength : GoodIn wsL_meanStrength wsX11_meanStrength := goodIn_ca (goodIn_r _ [6, 7, 8, 9, 10, 11, 12, 13, 14, 15, 16, 17, 18, 19, 20, 21, 22, 23, 24, 25, 26, 27, 28, 29, 30, 31, 32, 33, 34, 35, 36, 37, 38, 39, 40, 41, 42, 43, 44, 45, 46, 47, 48, 49, 50, 51, 52, 53, 54] (by decide +kernel) (by decide +kernel)) (goodIn_sub (fun _ h => List.mem_cons_of_mem _ (List.mem_append_right _ h)) (by decide +kernel))
set_option maxRecDepth 20000 in
theorem gL_meanStrength_X11_meanStrength : GoodIn wsL_meanStrength (wsV RL 84 RX11 yX11_meanStrength wsX11_meanStrength) := goodIn_app (goodIn_of _ (by decide +kernel)) ggL_meanStrength_X11_meanStrength
theorem dL_meanStrength_0 : decode cL_meanStrength 0 = .ok (.aload_n 1, 1) := by decide +kernel
theorem dL_meanStrength_1 : decode cL_meanStrength 1 = .ok (.iconst 0, 1) := by decide +kernel
theorem dL_meanStrength_2 : decode cL_meanStrength 2 = .ok (.aload_n 0, 1) := by decide +kernel
theorem dL_meanStrength_3 : decode cL_meanStrength 3 = .ok (.invokevirtual 84, 3) := by decide +kernel
theorem dL_meanStrength_6 : decode cL_meanStrength 6 = .ok (.dastore, 1) := by decide +kernel
theorem dL_meanStrength_7 : decode cL_meanStrength 7 = .ok (.goto 6, 3) := by decide +kernel
theorem dL_meanStrength_13 : decode cL_meanStrength 13 = .ok (.iconst 0, 1) := by decide +kernel
theorem dL_meanStrength_14 : decode cL_meanStrength 14 = .ok (.ireturn, 1) := by decide +kernel
abbrev wd_k_l_wind_good (z : Nat → Nat) (sh : Nat) (rg : Nat) (dk : Nat) (hd : Nat) (lg : Nat) (pl : Nat) (pr : Nat) (x : Nat) (tl : Nat) (tw : Nat) (p0 : Int32) (p1 : Int32) (ou : Nat) (co : ClassId) (of_ : Nat → Int64) : va_W := [(x, .inr (15, [.ref sh, .ref tl, .ref tw, .int 0])), (tl, .inr (3, [.int 0, .ref (z 0), .int 0])), (sh, .inr (13, [.ref rg, .ref dk, .ref hd, .ref lg, .ref pl, .ref pr, .int 0, .int 0, .int 0, .int 0, .int 0, .int 0, .int 0, .int 0, .int 0, .int 0, .int 0])), (ou, .inl (co, 1, .inr (.inl of_)))]
set_option maxHeartbeats 4000000 in
set_option maxRecDepth 100000 in
theorem k_l_wind_good (l : Launch) (dC : Nat → ClassId) (dI : Nat → Nat → Nat) (z zK zV : Nat → Nat) (sh : Nat) (rg : Nat) (dk : Nat) (hd : Nat) (lg : Nat) (pl : Nat) (pr : Nat) (x : Nat) (tl : Nat) (tw : Nat) (p0 : Int32) (p1 : Int32) (ou : Nat) (co : ClassId) (of_ : Nat → Int64) (sz : Nat) (hg0 : ((0 : Int32) ≤ p0 ∧ p0 ≤ 31) ∧ (0 : Int32) ≤ p1 ∧ p1 ≤ 12) : Met l yL_wind wsL_wind ({ frames := 7, cells := 2, slots := 14, locals := 149 }) (kP dC dI z zK zV [.ref x, .int p0, .int p1, .ref ou] sz (wd_k_l_wind_good z sh rg dk hd lg pl pr x tl tw p0 p1 ou co of_) [(co, .long)]) (va_Qi (fun (r : Int32) (_ : Unit) => 0 = r) (fun _ t => kB (dC, dI) (va_A (wd_k_l_wind_good z sh rg dk hd lg pl pr x tl tw p0 p1 ou co of_) sz) [(ou, .inl (co, 1, .inr (.inl (vp_updL of_ 0 0))))] [] t) (va_A (wd_k_l_wind_good z sh rg dk hd lg pl pr x tl tw p0 p1 ou co of_) sz)) 2 14 (va_A (wd_k_l_wind_good z sh rg dk hd lg pl pr x tl tw p0 p1 ou co of_) sz) := by
  refine va_MetW (hh := [(0, 10, 13, 13)]) (cc := cL_wind) (maxL := 5) (ret := (some .int)) (by decide) rfl ?_
  intro p e s m args below meth c s₁ B hml hv
  obtain ⟨rfl, hsz, hP, hK, hD0, hM⟩ := hv
  have hx := B.exec
  have hb := B.bytes
  have hr := B.returns
  have hts := atoms_spec (ws := wsL_wind) B.pre
  have hown : s.vm.findClass RL = some m.cls := findClass_of_methodNamed B.named
  have hlocks := B.notSynchronized
  have htab := vx_table (x := yL_wind) B (hts _ List.mem_cons_self)
  subst hsz
  have hD := hD0.self (sz := s.heap.size)
  generalize hAe : va_A (wd_k_l_wind_good z sh rg dk hd lg pl pr x tl tw p0 p1 ou co of_) s.heap.size = A at hD hM ⊢
  have hA : ∀ q : Nat, s.heap.size ≤ q → A q := fun q h => by rw [← hAe]; exact Or.inr h
  have hS : va_S A s.heap s.heap [] := va_S.rf
  have hP : va_P (dC, dI) vwCl [(x, .inr (15, [.ref sh, .ref tl, .ref tw, .int 0])), (tl, .inr (3, [.int 0, .ref (z 0), .int 0])), (sh, .inr (13, [.ref rg, .ref dk, .ref hd, .ref lg, .ref pl, .ref pr, .int 0, .int 0, .int 0, .int 0, .int 0, .int 0, .int 0, .int 0, .int 0, .int 0, .int 0])), (ou, .inl (co, 1, .inr (.inl of_)))] s.heap := hP
  have hD : va_D A [(x, .inr (15, [.ref sh, .ref tl, .ref tw, .int 0])), (tl, .inr (3, [.int 0, .ref (z 0), .int 0])), (sh, .inr (13, [.ref rg, .ref dk, .ref hd, .ref lg, .ref pl, .ref pr, .int 0, .int 0, .int 0, .int 0, .int 0, .int 0, .int 0, .int 0, .int 0, .int 0, .int 0])), (ou, .inl (co, 1, .inr (.inl of_)))] := hD
  have hl := lv_entry ([.ref x, .int p0, .int p1, .ref ou]) (n := 5) (Nat.le_of_ble_eq_true rfl)
  rw [lg_entry_eq]
  generalize (lg_sl ([.ref x, .int p0, .int p1, .ref ou]) ++ List.replicate (5 - (lg_sl ([.ref x, .int p0, .int p1, .ref ou])).length) Slot.unset).toArray = ls at hl ⊢
  have hl : lv_has ls 5 [(0, .ref x), (1, .int p0), (2, .int p1), (3, .ref ou)] := hl
  refine lv_aload_n hx hb dL_wind_0 rfl (lv_at hl 3 rfl) ?_
  refine lv_iconst (v := 0) hx hb dL_wind_1 (by decide) ?_
  refine lv_aload_n hx hb dL_wind_2 rfl (lv_at hl 0 rfl) ?_
  refine lv_iload_n hx hb dL_wind_3 rfl (lv_at hl 1 rfl) ?_
  refine lv_iload_n hx hb dL_wind_4 rfl (lv_at hl 2 rfl) ?_
  have hPc := hP.sub (ws' := [(x, .inr (15, [.ref sh, .ref tl, .ref tw, .int 0])), (tl, .inr (3, [.int 0, .ref (z 0), .int 0])), (sh, .inr (13, [.ref rg, .ref dk, .ref hd, .ref lg, .ref pl, .ref pr, .int 0, .int 0, .int 0, .int 0, .int 0, .int 0, .int 0, .int 0, .int 0, .int 0, .int 0]))]) [0, 1, 2] rfl
  have hDc := hD.sub (ws' := [(x, .inr (15, [.ref sh, .ref tl, .ref tw, .int 0])), (tl, .inr (3, [.int 0, .ref (z 0), .int 0])), (sh, .inr (13, [.ref rg, .ref dk, .ref hd, .ref lg, .ref pl, .ref pr, .int 0, .int 0, .int 0, .int 0, .int 0, .int 0, .int 0, .int 0, .int 0, .int 0, .int 0]))]) [0, 1, 2] (by decide) rfl
  have hKc := hK.sub (tys' := []) [] rfl
  have hFc := va_free (wc := [(x, .inr (15, [.ref sh, .ref tl, .ref tw, .int 0])), (tl, .inr (3, [.int 0, .ref (z 0), .int 0])), (sh, .inr (13, [.ref rg, .ref dk, .ref hd, .ref lg, .ref pl, .ref pr, .int 0, .int 0, .int 0, .int 0, .int 0, .int 0, .int 0, .int 0, .int 0, .int 0, .int 0]))]) hD hS hA [0, 1, 2] rfl
  refine va_calli (va_runV (As := [.int p0, .int p1]) (rest := [.int 0, .ref ou]) ⟨hx, hb, hml, hown, hts⟩ (k_x_wind_good l dC dI z zK zV sh rg dk hd lg pl pr x tl tw p0 p1 s.heap.size (hg0)) (cwV 2 hts gL_wind_X11_wind rfl rfl rfl (by decide +kernel) ⟨Nat.le_of_ble_eq_true rfl, Nat.le_of_ble_eq_true rfl⟩) ⟨kP_blind, va_recv hKc hPc (ci := 15) (q0 := 0) rfl rfl, kP_go hPc hKc hDc hFc hM hS⟩ rfl rfl hl.1 rfl (lv_room (Nat.le_of_ble_eq_true rfl)) dL_wind_5 ⟨Nat.le_of_ble_eq_true rfl, Nat.le_of_ble_eq_true rfl⟩) hS (fun q _ h => hFc q h) hFc (fun r1 u t H1 locs ht hvm hw hB hz1 hk1 hS => ?_)
  obtain ⟨hP, hD, hK⟩ := kJ (wr := [(ou, .inl (co, 1, .inr (.inl of_)))]) (w1 := []) (t1 := []) hP hD hK [0, 1, 2] [3] rfl rfl (by decide) (by decide) hk1 hFc ht hvm hB
  generalize H1 = H at hP hS ⊢
  have hP : va_P (dC, dI) vwCl [(ou, .inl (co, 1, .inr (.inl of_)))] H := hP
  have hD : va_D A [(ou, .inl (co, 1, .inr (.inl of_)))] := hD
  have hK : va_K (dC, dI) vwCl [(co, .long)] s := hK
  obtain rfl : 0 = r1 := hw
  refine lv_i2l (v := 0) hx hb dL_wind_8 (by decide +kernel) ?_
  refine va_last hx hb hK hP hD hS 0 0 rfl rfl (pk_in 0 1 (by decide) rfl) dL_wind_9 (fun H locs hP hD hS => ?_)
  have hP : va_P (dC, dI) vwCl [(ou, .inl (co, 1, .inr (.inl (vp_updL of_ 0 0))))] H := hP
  have hD : va_D A [(ou, .inl (co, 1, .inr (.inl (vp_updL of_ 0 0))))] := hD
  refine lv_goto (tgt := 17) hx hb dL_wind_10 (by decide) ?_
  refine lv_iconst (v := 0) hx hb dL_wind_17 (by decide) ?_
  refine W.widen (k := 2) (n := 14) (Nat.le_of_ble_eq_true rfl) (Nat.le_of_ble_eq_true rfl) ?_
  exact W.iret (v := 0) hx hb hr (fun t ht hW => ⟨⟨0, (), rfl, rfl, kB_end (w9 := [(ou, .inl (co, 1, .inr (.inl (vp_updL of_ 0 0))))]) (t9 := []) hP hK hD [0] [] rfl (by decide) rfl rfl t ht hW⟩, hS.F ht⟩) hS.2.2 dL_wind_18
abbrev wd_k_l_wind_bad (z : Nat → Nat) (sh : Nat) (rg : Nat) (dk : Nat) (hd : Nat) (lg : Nat) (pl : Nat) (pr : Nat) (x : Nat) (tl : Nat) (tw : Nat) (p0 : Int32) (p1 : Int32) (ou : Nat) (co : ClassId) (of_ : Nat → Int64) : va_W := [(x, .inr (15, [.ref sh, .ref tl, .ref tw, .int 0])), (sh, .inr (13, [.ref rg, .ref dk, .ref hd, .ref lg, .ref pl, .ref pr, .int 0, .int 0, .int 0, .int 0, .int 0, .int 0, .int 0, .int 0, .int 0, .int 0, .int 0])), (ou, .inl (co, 1, .inr (.inl of_)))]
set_option maxHeartbeats 4000000 in
set_option maxRecDepth 100000 in
theorem k_l_wind_bad (l : Launch) (dC : Nat → ClassId) (dI : Nat → Nat → Nat) (z zK zV : Nat → Nat) (sh : Nat) (rg : Nat) (dk : Nat) (hd : Nat) (lg : Nat) (pl : Nat) (pr : Nat) (x : Nat) (tl : Nat) (tw : Nat) (p0 : Int32) (p1 : Int32) (ou : Nat) (co : ClassId) (of_ : Nat → Int64) (sz : Nat) (hst : l.stackTraces = false) (hb0 : ¬ (((0 : Int32) ≤ p0 ∧ p0 ≤ 31) ∧ (0 : Int32) ≤ p1 ∧ p1 ≤ 12)) : Met l yL_wind wsL_wind ({ frames := 7, cells := 1, slots := 6, locals := 105 }) (kP dC dI z zK zV [.ref x, .int p0, .int p1, .ref ou] sz (wd_k_l_wind_bad z sh rg dk hd lg pl pr x tl tw p0 p1 ou co of_) [(co, .long)]) (va_Qi (fun (r : Int32) (_ : Unit) => 1 = r) (fun _ t => kB (dC, dI) (va_A (wd_k_l_wind_bad z sh rg dk hd lg pl pr x tl tw p0 p1 ou co of_) sz) [] [] t) (va_A (wd_k_l_wind_bad z sh rg dk hd lg pl pr x tl tw p0 p1 ou co of_) sz)) 1 6 (va_A (wd_k_l_wind_bad z sh rg dk hd lg pl pr x tl tw p0 p1 ou co of_) sz) := by
  refine va_MetW (hh := [(0, 10, 13, 13)]) (cc := cL_wind) (maxL := 5) (ret := (some .int)) (by decide) rfl ?_
  intro p e s m args below meth c s₁ B hml hv
  obtain ⟨rfl, hsz, hP, hK, hD0, hM⟩ := hv
  have hx := B.exec
  have hb := B.bytes
  have hr := B.returns
  have hts := atoms_spec (ws := wsL_wind) B.pre
  have hown : s.vm.findClass RL = some m.cls := findClass_of_methodNamed B.named
  have hlocks := B.notSynchronized
  have htab := vx_table (x := yL_wind) B (hts _ List.mem_cons_self)
  subst hsz
  have hD := hD0.self (sz := s.heap.size)
  generalize hAe : va_A (wd_k_l_wind_bad z sh rg dk hd lg pl pr x tl tw p0 p1 ou co of_) s.heap.size = A at hD hM ⊢
  have hA : ∀ q : Nat, s.heap.size ≤ q → A q := fun q h => by rw [← hAe]; exact Or.inr h
  have hS : va_S A s.heap s.heap [] := va_S.rf
  have hP : va_P (dC, dI) vwCl [(x, .inr (15, [.ref sh, .ref tl, .ref tw, .int 0])), (sh, .inr (13, [.ref rg, .ref dk, .ref hd, .ref lg, .ref pl, .ref pr, .int 0, .int 0, .int 0, .int 0, .int 0, .int 0, .int 0, .int 0, .int 0, .int 0, .int 0])), (ou, .inl (co, 1, .inr (.inl of_)))] s.heap := hP
  have hD : va_D A [(x, .inr (15, [.ref sh, .ref tl, .ref tw, .int 0])), (sh, .inr (13, [.ref rg, .ref dk, .ref hd, .ref lg, .ref pl, .ref pr, .int 0, .int 0, .int 0, .int 0, .int 0, .int 0, .int 0, .int 0, .int 0, .int 0, .int 0])), (ou, .inl (co, 1, .inr (.inl of_)))] := hD
  have hl := lv_entry ([.ref x, .int p0, .int p1, .ref ou]) (n := 5) (Nat.le_of_ble_eq_true rfl)
  rw [lg_entry_eq]
  generalize (lg_sl ([.ref x, .int p0, .int p1, .ref ou]) ++ List.replicate (5 - (lg_sl ([.ref x, .int p0, .int p1, .ref ou])).length) Slot.unset).toArray = ls at hl ⊢
  have hl : lv_has ls 5 [(0, .ref x), (1, .int p0), (2, .int p1), (3, .ref ou)] := hl
  refine lv_aload_n hx hb dL_wind_0 rfl (lv_at hl 3 rfl) ?_
  refine lv_iconst (v := 0) hx hb dL_wind_1 (by decide) ?_
  refine lv_aload_n hx hb dL_wind_2 rfl (lv_at hl 0 rfl) ?_
  refine lv_iload_n hx hb dL_wind_3 rfl (lv_at hl 1 rfl) ?_
  refine lv_iload_n hx hb dL_wind_4 rfl (lv_at hl 2 rfl) ?_
  have hPc := hP.sub (ws' := [(x, .inr (15, [.ref sh, .ref tl, .ref tw, .int 0])), (sh, .inr (13, [.ref rg, .ref dk, .ref hd, .ref lg, .ref pl, .ref pr, .int 0, .int 0, .int 0, .int 0, .int 0, .int 0, .int 0, .int 0, .int 0, .int 0, .int 0]))]) [0, 1] rfl
  have hDc := hD.sub (ws' := [(x, .inr (15, [.ref sh, .ref tl, .ref tw, .int 0])), (sh, .inr (13, [.ref rg, .ref dk, .ref hd, .ref lg, .ref pl, .ref pr, .int 0, .int 0, .int 0, .int 0, .int 0, .int 0, .int 0, .int 0, .int 0, .int 0, .int 0]))]) [0, 1] (by decide) rfl
  have hKc := hK.sub (tys' := []) [] rfl
  have hFc := va_free (wc := [(x, .inr (15, [.ref sh, .ref tl, .ref tw, .int 0])), (sh, .inr (13, [.ref rg, .ref dk, .ref hd, .ref lg, .ref pl, .ref pr, .int 0, .int 0, .int 0, .int 0, .int 0, .int 0, .int 0, .int 0, .int 0, .int 0, .int 0]))]) hD hS hA [0, 1] rfl
  refine vx_calli (vx_runV (As := [.int p0, .int p1]) (rest := [.int 0, .ref ou]) ⟨hx, hb, hml, hown, hts⟩ (k_x_wind_bad l dC dI z zK zV sh rg dk hd lg pl pr x tl tw p0 p1 s.heap.size hst (hb0)) (cwV 2 hts gL_wind_X11_wind rfl rfl rfl (by decide +kernel) ⟨Nat.le_of_ble_eq_true rfl, Nat.le_of_ble_eq_true rfl⟩) ⟨kP_blind, va_recv hKc hPc (ci := 15) (q0 := 0) rfl rfl, kP_go hPc hKc hDc hFc hM hS⟩ rfl rfl hl.1 rfl (lv_room (Nat.le_of_ble_eq_true rfl)) dL_wind_5 ⟨Nat.le_of_ble_eq_true rfl, Nat.le_of_ble_eq_true rfl⟩) hS (fun q _ h => hFc q h) hFc (fun q _ h => hFc q h) (fun E ce q9 u t H1 locs ht hvm hpx hbx hz1 hk1 hS hcell hcv hcl => ?_) (fun r1 u t H1 locs ht hvm hw hB hz1 hk1 hS => ?_)
  · skip
    obtain rfl : "java/lang/IllegalArgumentException" = E := hbx
    obtain ⟨hP, hD, hK⟩ := kJ (wr := [(ou, .inl (co, 1, .inr (.inl of_)))]) (w1 := []) (t1 := []) hP hD hK [0, 1] [2] rfl rfl (by decide) (by decide) hk1 hFc ht hvm (kB_nil t (va_K.moved hvm (hK.sub (tys' := []) [] rfl)))
    generalize H1 = H at hP hS hcell ⊢
    have hP : va_P (dC, dI) vwCl [(ou, .inl (co, 1, .inr (.inl of_)))] H := hP
    have hD : va_D A [(ou, .inl (co, 1, .inr (.inl of_)))] := hD
    have hK : va_K (dC, dI) vwCl [(co, .long)] s := hK
    refine vx_catch hown [] ⟨0, 10, 13, 13⟩ _ (htab.trans rfl) (fun z hz => absurd hz List.not_mem_nil) rfl (by decide) (hts (.classLink RL 13 "java/lang/IllegalArgumentException") (by decide +kernel)) (va_Nw.use rfl (hM.2.2.2.2.2.2.2.2.2.1 _ (List.mem_of_getElem? (i := 0) rfl))) hcell hcv hcl ?_
    refine lv_astore (lv' := [(4, .ref q9), (0, .ref x), (1, .int p0), (2, .int p1), (3, .ref ou)]) hx hb dL_wind_13 hl (by decide) rfl (fun ls hl => ?_)
    refine lv_iconst (v := 1) hx hb dL_wind_15 (by decide) ?_
    refine W.widen (k := 1) (n := 6) (Nat.le_of_ble_eq_true rfl) (Nat.le_of_ble_eq_true rfl) ?_
    exact W.iret (v := 1) hx hb hr (fun t ht hW => ⟨⟨1, (), rfl, rfl, kB_end (w9 := []) (t9 := []) hP hK hD [] [] rfl (by decide) rfl rfl t ht hW⟩, hS.F ht⟩) hS.2.2 dL_wind_16
  · skip
    exact hw.elim
abbrev wd_k_l_current_good (z : Nat → Nat) (sh : Nat) (rg : Nat) (dk : Nat) (hd : Nat) (lg : Nat) (pl : Nat) (pr : Nat) (x : Nat) (tl : Nat) (tw : Nat) (p0 : Int32) (p1 : Int32) (ou : Nat) (co : ClassId) (of_ : Nat → Int64) : va_W := [(x, .inr (15, [.ref sh, .ref tl, .ref tw, .int 0])), (tl, .inr (3, [.int 0, .ref (z 0), .int 0])), (sh, .inr (13, [.ref rg, .ref dk, .ref hd, .ref lg, .ref pl, .ref pr, .int 0, .int 0, .int 0, .int 0, .int 0, .int 0, .int 0, .int 0, .int 0, .int 0, .int 0])), (ou, .inl (co, 1, .inr (.inl of_)))]
set_option maxHeartbeats 4000000 in
set_option maxRecDepth 100000 in
theorem k_l_current_good (l : Launch) (dC : Nat → ClassId) (dI : Nat → Nat → Nat) (z zK zV : Nat → Nat) (sh : Nat) (rg : Nat) (dk : Nat) (hd : Nat) (lg : Nat) (pl : Nat) (pr : Nat) (x : Nat) (tl : Nat) (tw : Nat) (p0 : Int32) (p1 : Int32) (ou : Nat) (co : ClassId) (of_ : Nat → Int64) (sz : Nat) (hg0 : ((-9999 : Int32) ≤ p0 ∧ p0 ≤ 9999) ∧ (-9999 : Int32) ≤ p1 ∧ p1 ≤ 9999) : Met l yL_current wsL_current ({ frames := 7, cells := 2, slots := 14, locals := 149 }) (kP dC dI z zK zV [.ref x, .int p0, .int p1, .ref ou] sz (wd_k_l_current_good z sh rg dk hd lg pl pr x tl tw p0 p1 ou co of_) [(co, .long)]) (va_Qi (fun (r : Int32) (_ : Unit) => 0 = r) (fun _ t => kB (dC, dI) (va_A (wd_k_l_current_good z sh rg dk hd lg pl pr x tl tw p0 p1 ou co of_) sz) [(ou, .inl (co, 1, .inr (.inl (vp_updL of_ 0 0))))] [] t) (va_A (wd_k_l_current_good z sh rg dk hd lg pl pr x tl tw p0 p1 ou co of_) sz)) 2 14 (va_A (wd_k_l_current_good z sh rg dk hd lg pl pr x tl tw p0 p1 ou co of_) sz) := by
  refine va_MetW (hh := [(0, 17, 20, 13)]) (cc := cL_current) (maxL := 5) (ret := (some .int)) (by decide) rfl ?_
  intro p e s m args below meth c s₁ B hml hv
  obtain ⟨rfl, hsz, hP, hK, hD0, hM⟩ := hv
  have hx := B.exec
  have hb := B.bytes
  have hr := B.returns
  have hts := atoms_spec (ws := wsL_current) B.pre
  have hown : s.vm.findClass RL = some m.cls := findClass_of_methodNamed B.named
  have hlocks := B.notSynchronized
  have htab := vx_table (x := yL_current) B (hts _ List.mem_cons_self)
  subst hsz
  have hD := hD0.self (sz := s.heap.size)
  generalize hAe : va_A (wd_k_l_current_good z sh rg dk hd lg pl pr x tl tw p0 p1 ou co of_) s.heap.size = A at hD hM ⊢
  have hA : ∀ q : Nat, s.heap.size ≤ q → A q := fun q h => by rw [← hAe]; exact Or.inr h
  have hS : va_S A s.heap s.heap [] := va_S.rf
  have hP : va_P (dC, dI) vwCl [(x, .inr (15, [.ref sh, .ref tl, .ref tw, .int 0])), (tl, .inr (3, [.int 0, .ref (z 0), .int 0])), (sh, .inr (13, [.ref rg, .ref dk, .ref hd, .ref lg, .ref pl, .ref pr, .int 0, .int 0, .int 0, .int 0, .int 0, .int 0, .int 0, .int 0, .int 0, .int 0, .int 0])), (ou, .inl (co, 1, .inr (.inl of_)))] s.heap := hP
  have hD : va_D A [(x, .inr (15, [.ref sh, .ref tl, .ref tw, .int 0])), (tl, .inr (3, [.int 0, .ref (z 0), .int 0])), (sh, .inr (13, [.ref rg, .ref dk, .ref hd, .ref lg, .ref pl, .ref pr, .int 0, .int 0, .int 0, .int 0, .int 0, .int 0, .int 0, .int 0, .int 0, .int 0, .int 0])), (ou, .inl (co, 1, .inr (.inl of_)))] := hD
  have hl := lv_entry ([.ref x, .int p0, .int p1, .ref ou]) (n := 5) (Nat.le_of_ble_eq_true rfl)
  rw [lg_entry_eq]
  generalize (lg_sl ([.ref x, .int p0, .int p1, .ref ou]) ++ List.replicate (5 - (lg_sl ([.ref x, .int p0, .int p1, .ref ou])).length) Slot.unset).toArray = ls at hl ⊢
  have hl : lv_has ls 5 [(0, .ref x), (1, .int p0), (2, .int p1), (3, .ref ou)] := hl
  refine lv_aload_n hx hb dL_current_0 rfl (lv_at hl 3 rfl) ?_
  refine lv_iconst (v := 0) hx hb dL_current_1 (by decide) ?_
  refine lv_aload_n hx hb dL_current_2 rfl (lv_at hl 0 rfl) ?_
  refine lv_iload_n hx hb dL_current_3 rfl (lv_at hl 1 rfl) ?_
  refine lv_iload_n hx hb dL_current_4 rfl (lv_at hl 2 rfl) ?_
  have hPc := hP.sub (ws' := [(x, .inr (15, [.ref sh, .ref tl, .ref tw, .int 0])), (tl, .inr (3, [.int 0, .ref (z 0), .int 0])), (sh, .inr (13, [.ref rg, .ref dk, .ref hd, .ref lg, .ref pl, .ref pr, .int 0, .int 0, .int 0, .int 0, .int 0, .int 0, .int 0, .int 0, .int 0, .int 0, .int 0]))]) [0, 1, 2] rfl
  have hDc := hD.sub (ws' := [(x, .inr (15, [.ref sh, .ref tl, .ref tw, .int 0])), (tl, .inr (3, [.int 0, .ref (z 0), .int 0])), (sh, .inr (13, [.ref rg, .ref dk, .ref hd, .ref lg, .ref pl, .ref pr, .int 0, .int 0, .int 0, .int 0, .int 0, .int 0, .int 0, .int 0, .int 0, .int 0, .int 0]))]) [0, 1, 2] (by decide) rfl
  have hKc := hK.sub (tys' := []) [] rfl
  have hFc := va_free (wc := [(x, .inr (15, [.ref sh, .ref tl, .ref tw, .int 0])), (tl, .inr (3, [.int 0, .ref (z 0), .int 0])), (sh, .inr (13, [.ref rg, .ref dk, .ref hd, .ref lg, .ref pl, .ref pr, .int 0, .int 0, .int 0, .int 0, .int 0, .int 0, .int 0, .int 0, .int 0, .int 0, .int 0]))]) hD hS hA [0, 1, 2] rfl
  refine va_calli (va_runV (As := [.int p0, .int p1]) (rest := [.int 0, .ref ou]) ⟨hx, hb, hml, hown, hts⟩ (k_x_current_good l dC dI z zK zV sh rg dk hd lg pl pr x tl tw p0 p1 s.heap.size (hg0)) (cwV 2 hts gL_current_X11_current rfl rfl rfl (by decide +kernel) ⟨Nat.le_of_ble_eq_true rfl, Nat.le_of_ble_eq_true rfl⟩) ⟨kP_blind, va_recv hKc hPc (ci := 15) (q0 := 0) rfl rfl, kP_go hPc hKc hDc hFc hM hS⟩ rfl rfl hl.1 rfl (lv_room (Nat.le_of_ble_eq_true rfl)) dL_current_5 ⟨Nat.le_of_ble_eq_true rfl, Nat.le_of_ble_eq_true rfl⟩) hS (fun q _ h => hFc q h) hFc (fun r1 u t H1 locs ht hvm hw hB hz1 hk1 hS => ?_)
  obtain ⟨hP, hD, hK⟩ := kJ (wr := [(ou, .inl (co, 1, .inr (.inl of_)))]) (w1 := []) (t1 := []) hP hD hK [0, 1, 2] [3] rfl rfl (by decide) (by decide) hk1 hFc ht hvm hB
  generalize H1 = H at hP hS ⊢
  have hP : va_P (dC, dI) vwCl [(ou, .inl (co, 1, .inr (.inl of_)))] H := hP
  have hD : va_D A [(ou, .inl (co, 1, .inr (.inl of_)))] := hD
  have hK : va_K (dC, dI) vwCl [(co, .long)] s := hK
  obtain rfl : 0 = r1 := hw
  refine lv_if_eq (tgt := 15) hx hb dL_current_8 (by decide) (fun _ => ?_) (fun c_ => absurd (by decide +kernel) c_)
  refine lv_lconst (v := 0) hx hb dL_current_15 (by decide) ?_
  refine va_last hx hb hK hP hD hS 0 0 rfl rfl (pk_in 0 1 (by decide) rfl) dL_current_16 (fun H locs hP hD hS => ?_)
  have hP : va_P (dC, dI) vwCl [(ou, .inl (co, 1, .inr (.inl (vp_updL of_ 0 0))))] H := hP
  have hD : va_D A [(ou, .inl (co, 1, .inr (.inl (vp_updL of_ 0 0))))] := hD
  refine lv_goto (tgt := 24) hx hb dL_current_17 (by decide) ?_
  refine lv_iconst (v := 0) hx hb dL_current_24 (by decide) ?_
  refine W.widen (k := 2) (n := 14) (Nat.le_of_ble_eq_true rfl) (Nat.le_of_ble_eq_true rfl) ?_
  exact W.iret (v := 0) hx hb hr (fun t ht hW => ⟨⟨0, (), rfl, rfl, kB_end (w9 := [(ou, .inl (co, 1, .inr (.inl (vp_updL of_ 0 0))))]) (t9 := []) hP hK hD [0] [] rfl (by decide) rfl rfl t ht hW⟩, hS.F ht⟩) hS.2.2 dL_current_25
abbrev wd_k_l_current_bad (z : Nat → Nat) (sh : Nat) (rg : Nat) (dk : Nat) (hd : Nat) (lg : Nat) (pl : Nat) (pr : Nat) (x : Nat) (tl : Nat) (tw : Nat) (p0 : Int32) (p1 : Int32) (ou : Nat) (co : ClassId) (of_ : Nat → Int64) : va_W := [(x, .inr (15, [.ref sh, .ref tl, .ref tw, .int 0])), (sh, .inr (13, [.ref rg, .ref dk, .ref hd, .ref lg, .ref pl, .ref pr, .int 0, .int 0, .int 0, .int 0, .int 0, .int 0, .int 0, .int 0, .int 0, .int 0, .int 0])), (ou, .inl (co, 1, .inr (.inl of_)))]
set_option maxHeartbeats 4000000 in
set_option maxRecDepth 100000 in
theorem k_l_current_bad (l : Launch) (dC : Nat → ClassId) (dI : Nat → Nat → Nat) (z zK zV : Nat → Nat) (sh : Nat) (rg : Nat) (dk : Nat) (hd : Nat) (lg : Nat) (pl : Nat) (pr : Nat) (x : Nat) (tl : Nat) (tw : Nat) (p0 : Int32) (p1 : Int32) (ou : Nat) (co : ClassId) (of_ : Nat → Int64) (sz : Nat) (hst : l.stackTraces = false) (hb0 : ¬ (((-9999 : Int32) ≤ p0 ∧ p0 ≤ 9999) ∧ (-9999 : Int32) ≤ p1 ∧ p1 ≤ 9999)) : Met l yL_current wsL_current ({ frames := 7, cells := 1, slots := 6, locals := 105 }) (kP dC dI z zK zV [.ref x, .int p0, .int p1, .ref ou] sz (wd_k_l_current_bad z sh rg dk hd lg pl pr x tl tw p0 p1 ou co of_) [(co, .long)]) (va_Qi (fun (r : Int32) (_ : Unit) => 1 = r) (fun _ t => kB (dC, dI) (va_A (wd_k_l_current_bad z sh rg dk hd lg pl pr x tl tw p0 p1 ou co of_) sz) [] [] t) (va_A (wd_k_l_current_bad z sh rg dk hd lg pl pr x tl tw p0 p1 ou co of_) sz)) 1 6 (va_A (wd_k_l_current_bad z sh rg dk hd lg pl pr x tl tw p0 p1 ou co of_) sz) := by
  refine va_MetW (hh := [(0, 17, 20, 13)]) (cc := cL_current) (maxL := 5) (ret := (some .int)) (by decide) rfl ?_
  intro p e s m args below meth c s₁ B hml hv
  obtain ⟨rfl, hsz, hP, hK, hD0, hM⟩ := hv
  have hx := B.exec
  have hb := B.bytes
  have hr := B.returns
  have hts := atoms_spec (ws := wsL_current) B.pre
  have hown : s.vm.findClass RL = some m.cls := findClass_of_methodNamed B.named
  have hlocks := B.notSynchronized
  have htab := vx_table (x := yL_current) B (hts _ List.mem_cons_self)
  subst hsz
  have hD := hD0.self (sz := s.heap.size)
  generalize hAe : va_A (wd_k_l_current_bad z sh rg dk hd lg pl pr x tl tw p0 p1 ou co of_) s.heap.size = A at hD hM ⊢
  have hA : ∀ q : Nat, s.heap.size ≤ q → A q := fun q h => by rw [← hAe]; exact Or.inr h
  have hS : va_S A s.heap s.heap [] := va_S.rf
  have hP : va_P (dC, dI) vwCl [(x, .inr (15, [.ref sh, .ref tl, .ref tw, .int 0])), (sh, .inr (13, [.ref rg, .ref dk, .ref hd, .ref lg, .ref pl, .ref pr, .int 0, .int 0, .int 0, .int 0, .int 0, .int 0, .int 0, .int 0, .int 0, .int 0, .int 0])), (ou, .inl (co, 1, .inr (.inl of_)))] s.heap := hP
  have hD : va_D A [(x, .inr (15, [.ref sh, .ref tl, .ref tw, .int 0])), (sh, .inr (13, [.ref rg, .ref dk, .ref hd, .ref lg, .ref pl, .ref pr, .int 0, .int 0, .int 0, .int 0, .int 0, .int 0, .int 0, .int 0, .int 0, .int 0, .int 0])), (ou, .inl (co, 1, .inr (.inl of_)))] := hD
  have hl := lv_entry ([.ref x, .int p0, .int p1, .ref ou]) (n := 5) (Nat.le_of_ble_eq_true rfl)
  rw [lg_entry_eq]
  generalize (lg_sl ([.ref x, .int p0, .int p1, .ref ou]) ++ List.replicate (5 - (lg_sl ([.ref x, .int p0, .int p1, .ref ou])).length) Slot.unset).toArray = ls at hl ⊢
  have hl : lv_has ls 5 [(0, .ref x), (1, .int p0), (2, .int p1), (3, .ref ou)] := hl
  refine lv_aload_n hx hb dL_current_0 rfl (lv_at hl 3 rfl) ?_
  refine lv_iconst (v := 0) hx hb dL_current_1 (by decide) ?_
  refine lv_aload_n hx hb dL_current_2 rfl (lv_at hl 0 rfl) ?_
  refine lv_iload_n hx hb dL_current_3 rfl (lv_at hl 1 rfl) ?_
  refine lv_iload_n hx hb dL_current_4 rfl (lv_at hl 2 rfl) ?_
  have hPc := hP.sub (ws' := [(x, .inr (15, [.ref sh, .ref tl, .ref tw, .int 0])), (sh, .inr (13, [.ref rg, .ref dk, .ref hd, .ref lg, .ref pl, .ref pr, .int 0, .int 0, .int 0, .int 0, .int 0, .int 0, .int 0, .int 0, .int 0, .int 0, .int 0]))]) [0, 1] rfl
  have hDc := hD.sub (ws' := [(x, .inr (15, [.ref sh, .ref tl, .ref tw, .int 0])), (sh, .inr (13, [.ref rg, .ref dk, .ref hd, .ref lg, .ref pl, .ref pr, .int 0, .int 0, .int 0, .int 0, .int 0, .int 0, .int 0, .int 0, .int 0, .int 0, .int 0]))]) [0, 1] (by decide) rfl
  have hKc := hK.sub (tys' := []) [] rfl
  have hFc := va_free (wc := [(x, .inr (15, [.ref sh, .ref tl, .ref tw, .int 0])), (sh, .inr (13, [.ref rg, .ref dk, .ref hd, .ref lg, .ref pl, .ref pr, .int 0, .int 0, .int 0, .int 0, .int 0, .int 0, .int 0, .int 0, .int 0, .int 0, .int 0]))]) hD hS hA [0, 1] rfl
  refine vx_calli (vx_runV (As := [.int p0, .int p1]) (rest := [.int 0, .ref ou]) ⟨hx, hb, hml, hown, hts⟩ (k_x_current_bad l dC dI z zK zV sh rg dk hd lg pl pr x tl tw p0 p1 s.heap.size hst (hb0)) (cwV 2 hts gL_current_X11_current rfl rfl rfl (by decide +kernel) ⟨Nat.le_of_ble_eq_true rfl, Nat.le_of_ble_eq_true rfl⟩) ⟨kP_blind, va_recv hKc hPc (ci := 15) (q0 := 0) rfl rfl, kP_go hPc hKc hDc hFc hM hS⟩ rfl rfl hl.1 rfl (lv_room (Nat.le_of_ble_eq_true rfl)) dL_current_5 ⟨Nat.le_of_ble_eq_true rfl, Nat.le_of_ble_eq_true rfl⟩) hS (fun q _ h => hFc q h) hFc (fun q _ h => hFc q h) (fun E ce q9 u t H1 locs ht hvm hpx hbx hz1 hk1 hS hcell hcv hcl => ?_) (fun r1 u t H1 locs ht hvm hw hB hz1 hk1 hS => ?_)
  · skip
    obtain rfl : "java/lang/IllegalArgumentException" = E := hbx
    obtain ⟨hP, hD, hK⟩ := kJ (wr := [(ou, .inl (co, 1, .inr (.inl of_)))]) (w1 := []) (t1 := []) hP hD hK [0, 1] [2] rfl rfl (by decide) (by decide) hk1 hFc ht hvm (kB_nil t (va_K.moved hvm (hK.sub (tys' := []) [] rfl)))
    generalize H1 = H at hP hS hcell ⊢
    have hP : va_P (dC, dI) vwCl [(ou, .inl (co, 1, .inr (.inl of_)))] H := hP
    have hD : va_D A [(ou, .inl (co, 1, .inr (.inl of_)))] := hD
    have hK : va_K (dC, dI) vwCl [(co, .long)] s := hK
    refine vx_catch hown [] ⟨0, 17, 20, 13⟩ _ (htab.trans rfl) (fun z hz => absurd hz List.not_mem_nil) rfl (by decide) (hts (.classLink RL 13 "java/lang/IllegalArgumentException") (by decide +kernel)) (va_Nw.use rfl (hM.2.2.2.2.2.2.2.2.2.1 _ (List.mem_of_getElem? (i := 0) rfl))) hcell hcv hcl ?_
    refine lv_astore (lv' := [(4, .ref q9), (0, .ref x), (1, .int p0), (2, .int p1), (3, .ref ou)]) hx hb dL_current_20 hl (by decide) rfl (fun ls hl => ?_)
    refine lv_iconst (v := 1) hx hb dL_current_22 (by decide) ?_
    refine W.widen (k := 1) (n := 6) (Nat.le_of_ble_eq_true rfl) (Nat.le_of_ble_eq_true rfl) ?_
    exact W.iret (v := 1) hx hb hr (fun t ht hW => ⟨⟨1, (), rfl, rfl, kB_end (w9 := []) (t9 := []) hP hK hD [] [] rfl (by decide) rfl rfl t ht hW⟩, hS.F ht⟩) hS.2.2 dL_current_23
  · skip
    exact hw.elim
abbrev wd_k_l_helm_good (z : Nat → Nat) (sh : Nat) (rg : Nat) (dk : Nat) (hd : Nat) (lg : Nat) (pl : Nat) (pr : Nat) (x : Nat) (tl : Nat) (tw : Nat) (p0 : Int32) (ou : Nat) (co : ClassId) (of_ : Nat → Int64) : va_W := [(x, .inr (15, [.ref sh, .ref tl, .ref tw, .int 0])), (tl, .inr (3, [.int 0, .ref (z 0), .int 0])), (sh, .inr (13, [.ref rg, .ref dk, .ref hd, .ref lg, .ref pl, .ref pr, .int 0, .int 0, .int 0, .int 0, .int 0, .int 0, .int 0, .int 0, .int 0, .int 0, .int 0])), (ou, .inl (co, 1, .inr (.inl of_)))]
set_option maxHeartbeats 4000000 in
set_option maxRecDepth 100000 in
theorem k_l_helm_good (l : Launch) (dC : Nat → ClassId) (dI : Nat → Nat → Nat) (z zK zV : Nat → Nat) (sh : Nat) (rg : Nat) (dk : Nat) (hd : Nat) (lg : Nat) (pl : Nat) (pr : Nat) (x : Nat) (tl : Nat) (tw : Nat) (p0 : Int32) (ou : Nat) (co : ClassId) (of_ : Nat → Int64) (sz : Nat) (hg0 : (-3 : Int32) ≤ p0 ∧ p0 ≤ 3) : Met l yL_helm wsL_helm ({ frames := 7, cells := 2, slots := 14, locals := 148 }) (kP dC dI z zK zV [.ref x, .int p0, .ref ou] sz (wd_k_l_helm_good z sh rg dk hd lg pl pr x tl tw p0 ou co of_) [(co, .long)]) (va_Qi (fun (r : Int32) (_ : Unit) => 0 = r) (fun _ t => kB (dC, dI) (va_A (wd_k_l_helm_good z sh rg dk hd lg pl pr x tl tw p0 ou co of_) sz) [(ou, .inl (co, 1, .inr (.inl (vp_updL of_ 0 0))))] [] t) (va_A (wd_k_l_helm_good z sh rg dk hd lg pl pr x tl tw p0 ou co of_) sz)) 2 14 (va_A (wd_k_l_helm_good z sh rg dk hd lg pl pr x tl tw p0 ou co of_) sz) := by
  refine va_MetW (hh := [(0, 9, 12, 13)]) (cc := cL_helm) (maxL := 4) (ret := (some .int)) (by decide) rfl ?_
  intro p e s m args below meth c s₁ B hml hv
  obtain ⟨rfl, hsz, hP, hK, hD0, hM⟩ := hv
  have hx := B.exec
  have hb := B.bytes
  have hr := B.returns
  have hts := atoms_spec (ws := wsL_helm) B.pre
  have hown : s.vm.findClass RL = some m.cls := findClass_of_methodNamed B.named
  have hlocks := B.notSynchronized
  have htab := vx_table (x := yL_helm) B (hts _ List.mem_cons_self)
  subst hsz
  have hD := hD0.self (sz := s.heap.size)
  generalize hAe : va_A (wd_k_l_helm_good z sh rg dk hd lg pl pr x tl tw p0 ou co of_) s.heap.size = A at hD hM ⊢
  have hA : ∀ q : Nat, s.heap.size ≤ q → A q := fun q h => by rw [← hAe]; exact Or.inr h
  have hS : va_S A s.heap s.heap [] := va_S.rf
  have hP : va_P (dC, dI) vwCl [(x, .inr (15, [.ref sh, .ref tl, .ref tw, .int 0])), (tl, .inr (3, [.int 0, .ref (z 0), .int 0])), (sh, .inr (13, [.ref rg, .ref dk, .ref hd, .ref lg, .ref pl, .ref pr, .int 0, .int 0, .int 0, .int 0, .int 0, .int 0, .int 0, .int 0, .int 0, .int 0, .int 0])), (ou, .inl (co, 1, .inr (.inl of_)))] s.heap := hP
  have hD : va_D A [(x, .inr (15, [.ref sh, .ref tl, .ref tw, .int 0])), (tl, .inr (3, [.int 0, .ref (z 0), .int 0])), (sh, .inr (13, [.ref rg, .ref dk, .ref hd, .ref lg, .ref pl, .ref pr, .int 0, .int 0, .int 0, .int 0, .int 0, .int 0, .int 0, .int 0, .int 0, .int 0, .int 0])), (ou, .inl (co, 1, .inr (.inl of_)))] := hD
  have hl := lv_entry ([.ref x, .int p0, .ref ou]) (n := 4) (Nat.le_of_ble_eq_true rfl)
  rw [lg_entry_eq]
  generalize (lg_sl ([.ref x, .int p0, .ref ou]) ++ List.replicate (4 - (lg_sl ([.ref x, .int p0, .ref ou])).length) Slot.unset).toArray = ls at hl ⊢
  have hl : lv_has ls 4 [(0, .ref x), (1, .int p0), (2, .ref ou)] := hl
  refine lv_aload_n hx hb dL_helm_0 rfl (lv_at hl 2 rfl) ?_
  refine lv_iconst (v := 0) hx hb dL_helm_1 (by decide) ?_
  refine lv_aload_n hx hb dL_helm_2 rfl (lv_at hl 0 rfl) ?_
  refine lv_iload_n hx hb dL_helm_3 rfl (lv_at hl 1 rfl) ?_
  have hPc := hP.sub (ws' := [(x, .inr (15, [.ref sh, .ref tl, .ref tw, .int 0])), (tl, .inr (3, [.int 0, .ref (z 0), .int 0])), (sh, .inr (13, [.ref rg, .ref dk, .ref hd, .ref lg, .ref pl, .ref pr, .int 0, .int 0, .int 0, .int 0, .int 0, .int 0, .int 0, .int 0, .int 0, .int 0, .int 0]))]) [0, 1, 2] rfl
  have hDc := hD.sub (ws' := [(x, .inr (15, [.ref sh, .ref tl, .ref tw, .int 0])), (tl, .inr (3, [.int 0, .ref (z 0), .int 0])), (sh, .inr (13, [.ref rg, .ref dk, .ref hd, .ref lg, .ref pl, .ref pr, .int 0, .int 0, .int 0, .int 0, .int 0, .int 0, .int 0, .int 0, .int 0, .int 0, .int 0]))]) [0, 1, 2] (by decide) rfl
  have hKc := hK.sub (tys' := []) [] rfl
  have hFc := va_free (wc := [(x, .inr (15, [.ref sh, .ref tl, .ref tw, .int 0])), (tl, .inr (3, [.int 0, .ref (z 0), .int 0])), (sh, .inr (13, [.ref rg, .ref dk, .ref hd, .ref lg, .ref pl, .ref pr, .int 0, .int 0, .int 0, .int 0, .int 0, .int 0, .int 0, .int 0, .int 0, .int 0, .int 0]))]) hD hS hA [0, 1, 2] rfl
  refine va_calli (va_runV (As := [.int p0]) (rest := [.int 0, .ref ou]) ⟨hx, hb, hml, hown, hts⟩ (k_x_helm_good l dC dI z zK zV sh rg dk hd lg pl pr x tl tw p0 s.heap.size (hg0)) (cwV 1 hts gL_helm_X11_helm rfl rfl rfl (by decide +kernel) ⟨Nat.le_of_ble_eq_true rfl, Nat.le_of_ble_eq_true rfl⟩) ⟨kP_blind, va_recv hKc hPc (ci := 15) (q0 := 0) rfl rfl, kP_go hPc hKc hDc hFc hM hS⟩ rfl rfl hl.1 rfl (lv_room (Nat.le_of_ble_eq_true rfl)) dL_helm_4 ⟨Nat.le_of_ble_eq_true rfl, Nat.le_of_ble_eq_true rfl⟩) hS (fun q _ h => hFc q h) hFc (fun r1 u t H1 locs ht hvm hw hB hz1 hk1 hS => ?_)
  obtain ⟨hP, hD, hK⟩ := kJ (wr := [(ou, .inl (co, 1, .inr (.inl of_)))]) (w1 := []) (t1 := []) hP hD hK [0, 1, 2] [3] rfl rfl (by decide) (by decide) hk1 hFc ht hvm hB
  generalize H1 = H at hP hS ⊢
  have hP : va_P (dC, dI) vwCl [(ou, .inl (co, 1, .inr (.inl of_)))] H := hP
  have hD : va_D A [(ou, .inl (co, 1, .inr (.inl of_)))] := hD
  have hK : va_K (dC, dI) vwCl [(co, .long)] s := hK
  obtain rfl : 0 = r1 := hw
  refine lv_i2l (v := 0) hx hb dL_helm_7 (by decide +kernel) ?_
  refine va_last hx hb hK hP hD hS 0 0 rfl rfl (pk_in 0 1 (by decide) rfl) dL_helm_8 (fun H locs hP hD hS => ?_)
  have hP : va_P (dC, dI) vwCl [(ou, .inl (co, 1, .inr (.inl (vp_updL of_ 0 0))))] H := hP
  have hD : va_D A [(ou, .inl (co, 1, .inr (.inl (vp_updL of_ 0 0))))] := hD
  refine lv_goto (tgt := 15) hx hb dL_helm_9 (by decide) ?_
  refine lv_iconst (v := 0) hx hb dL_helm_15 (by decide) ?_
  refine W.widen (k := 2) (n := 14) (Nat.le_of_ble_eq_true rfl) (Nat.le_of_ble_eq_true rfl) ?_
  exact W.iret (v := 0) hx hb hr (fun t ht hW => ⟨⟨0, (), rfl, rfl, kB_end (w9 := [(ou, .inl (co, 1, .inr (.inl (vp_updL of_ 0 0))))]) (t9 := []) hP hK hD [0] [] rfl (by decide) rfl rfl t ht hW⟩, hS.F ht⟩) hS.2.2 dL_helm_16
abbrev wd_k_l_helm_bad (z : Nat → Nat) (sh : Nat) (rg : Nat) (dk : Nat) (hd : Nat) (lg : Nat) (pl : Nat) (pr : Nat) (x : Nat) (tl : Nat) (tw : Nat) (p0 : Int32) (ou : Nat) (co : ClassId) (of_ : Nat → Int64) : va_W := [(x, .inr (15, [.ref sh, .ref tl, .ref tw, .int 0])), (sh, .inr (13, [.ref rg, .ref dk, .ref hd, .ref lg, .ref pl, .ref pr, .int 0, .int 0, .int 0, .int 0, .int 0, .int 0, .int 0, .int 0, .int 0, .int 0, .int 0])), (ou, .inl (co, 1, .inr (.inl of_)))]
set_option maxHeartbeats 4000000 in
set_option maxRecDepth 100000 in
theorem k_l_helm_bad (l : Launch) (dC : Nat → ClassId) (dI : Nat → Nat → Nat) (z zK zV : Nat → Nat) (sh : Nat) (rg : Nat) (dk : Nat) (hd : Nat) (lg : Nat) (pl : Nat) (pr : Nat) (x : Nat) (tl : Nat) (tw : Nat) (p0 : Int32) (ou : Nat) (co : ClassId) (of_ : Nat → Int64) (sz : Nat) (hst : l.stackTraces = false) (hb0 : ¬ ((-3 : Int32) ≤ p0 ∧ p0 ≤ 3)) : Met l yL_helm wsL_helm ({ frames := 7, cells := 1, slots := 6, locals := 104 }) (kP dC dI z zK zV [.ref x, .int p0, .ref ou] sz (wd_k_l_helm_bad z sh rg dk hd lg pl pr x tl tw p0 ou co of_) [(co, .long)]) (va_Qi (fun (r : Int32) (_ : Unit) => 1 = r) (fun _ t => kB (dC, dI) (va_A (wd_k_l_helm_bad z sh rg dk hd lg pl pr x tl tw p0 ou co of_) sz) [] [] t) (va_A (wd_k_l_helm_bad z sh rg dk hd lg pl pr x tl tw p0 ou co of_) sz)) 1 6 (va_A (wd_k_l_helm_bad z sh rg dk hd lg pl pr x tl tw p0 ou co of_) sz) := by
  refine va_MetW (hh := [(0, 9, 12, 13)]) (cc := cL_helm) (maxL := 4) (ret := (some .int)) (by decide) rfl ?_
  intro p e s m args below meth c s₁ B hml hv
  obtain ⟨rfl, hsz, hP, hK, hD0, hM⟩ := hv
  have hx := B.exec
  have hb := B.bytes
  have hr := B.returns
  have hts := atoms_spec (ws := wsL_helm) B.pre
  have hown : s.vm.findClass RL = some m.cls := findClass_of_methodNamed B.named
  have hlocks := B.notSynchronized
  have htab := vx_table (x := yL_helm) B (hts _ List.mem_cons_self)
  subst hsz
  have hD := hD0.self (sz := s.heap.size)
  generalize hAe : va_A (wd_k_l_helm_bad z sh rg dk hd lg pl pr x tl tw p0 ou co of_) s.heap.size = A at hD hM ⊢
  have hA : ∀ q : Nat, s.heap.size ≤ q → A q := fun q h => by rw [← hAe]; exact Or.inr h
  have hS : va_S A s.heap s.heap [] := va_S.rf
  have hP : va_P (dC, dI) vwCl [(x, .inr (15, [.ref sh, .ref tl, .ref tw, .int 0])), (sh, .inr (13, [.ref rg, .ref dk, .ref hd, .ref lg, .ref pl, .ref pr, .int 0, .int 0, .int 0, .int 0, .int 0, .int 0, .int 0, .int 0, .int 0, .int 0, .int 0])), (ou, .inl (co, 1, .inr (.inl of_)))] s.heap := hP
  have hD : va_D A [(x, .inr (15, [.ref sh, .ref tl, .ref tw, .int 0])), (sh, .inr (13, [.ref rg, .ref dk, .ref hd, .ref lg, .ref pl, .ref pr, .int 0, .int 0, .int 0, .int 0, .int 0, .int 0, .int 0, .int 0, .int 0, .int 0, .int 0])), (ou, .inl (co, 1, .inr (.inl of_)))] := hD
  have hl := lv_entry ([.ref x, .int p0, .ref ou]) (n := 4) (Nat.le_of_ble_eq_true rfl)
  rw [lg_entry_eq]
  generalize (lg_sl ([.ref x, .int p0, .ref ou]) ++ List.replicate (4 - (lg_sl ([.ref x, .int p0, .ref ou])).length) Slot.unset).toArray = ls at hl ⊢
  have hl : lv_has ls 4 [(0, .ref x), (1, .int p0), (2, .ref ou)] := hl
  refine lv_aload_n hx hb dL_helm_0 rfl (lv_at hl 2 rfl) ?_
  refine lv_iconst (v := 0) hx hb dL_helm_1 (by decide) ?_
  refine lv_aload_n hx hb dL_helm_2 rfl (lv_at hl 0 rfl) ?_
  refine lv_iload_n hx hb dL_helm_3 rfl (lv_at hl 1 rfl) ?_
  have hPc := hP.sub (ws' := [(x, .inr (15, [.ref sh, .ref tl, .ref tw, .int 0])), (sh, .inr (13, [.ref rg, .ref dk, .ref hd, .ref lg, .ref pl, .ref pr, .int 0, .int 0, .int 0, .int 0, .int 0, .int 0, .int 0, .int 0, .int 0, .int 0, .int 0]))]) [0, 1] rfl
  have hDc := hD.sub (ws' := [(x, .inr (15, [.ref sh, .ref tl, .ref tw, .int 0])), (sh, .inr (13, [.ref rg, .ref dk, .ref hd, .ref lg, .ref pl, .ref pr, .int 0, .int 0, .int 0, .int 0, .int 0, .int 0, .int 0, .int 0, .int 0, .int 0, .int 0]))]) [0, 1] (by decide) rfl
  have hKc := hK.sub (tys' := []) [] rfl
  have hFc := va_free (wc := [(x, .inr (15, [.ref sh, .ref tl, .ref tw, .int 0])), (sh, .inr (13, [.ref rg, .ref dk, .ref hd, .ref lg, .ref pl, .ref pr, .int 0, .int 0, .int 0, .int 0, .int 0, .int 0, .int 0, .int 0, .int 0, .int 0, .int 0]))]) hD hS hA [0, 1] rfl
  refine vx_calli (vx_runV (As := [.int p0]) (rest := [.int 0, .ref ou]) ⟨hx, hb, hml, hown, hts⟩ (k_x_helm_bad l dC dI z zK zV sh rg dk hd lg pl pr x tl tw p0 s.heap.size hst (hb0)) (cwV 1 hts gL_helm_X11_helm rfl rfl rfl (by decide +kernel) ⟨Nat.le_of_ble_eq_true rfl, Nat.le_of_ble_eq_true rfl⟩) ⟨kP_blind, va_recv hKc hPc (ci := 15) (q0 := 0) rfl rfl, kP_go hPc hKc hDc hFc hM hS⟩ rfl rfl hl.1 rfl (lv_room (Nat.le_of_ble_eq_true rfl)) dL_helm_4 ⟨Nat.le_of_ble_eq_true rfl, Nat.le_of_ble_eq_true rfl⟩) hS (fun q _ h => hFc q h) hFc (fun q _ h => hFc q h) (fun E ce q9 u t H1 locs ht hvm hpx hbx hz1 hk1 hS hcell hcv hcl => ?_) (fun r1 u t H1 locs ht hvm hw hB hz1 hk1 hS => ?_)
  · skip
    obtain rfl : "java/lang/IllegalArgumentException" = E := hbx
    obtain ⟨hP, hD, hK⟩ := kJ (wr := [(ou, .inl (co, 1, .inr (.inl of_)))]) (w1 := []) (t1 := []) hP hD hK [0, 1] [2] rfl rfl (by decide) (by decide) hk1 hFc ht hvm (kB_nil t (va_K.moved hvm (hK.sub (tys' := []) [] rfl)))
    generalize H1 = H at hP hS hcell ⊢
    have hP : va_P (dC, dI) vwCl [(ou, .inl (co, 1, .inr (.inl of_)))] H := hP
    have hD : va_D A [(ou, .inl (co, 1, .inr (.inl of_)))] := hD
    have hK : va_K (dC, dI) vwCl [(co, .long)] s := hK
    refine vx_catch hown [] ⟨0, 9, 12, 13⟩ _ (htab.trans rfl) (fun z hz => absurd hz List.not_mem_nil) rfl (by decide) (hts (.classLink RL 13 "java/lang/IllegalArgumentException") (by decide +kernel)) (va_Nw.use rfl (hM.2.2.2.2.2.2.2.2.2.1 _ (List.mem_of_getElem? (i := 0) rfl))) hcell hcv hcl ?_
    refine lv_astore_n (lv' := [(3, .ref q9), (0, .ref x), (1, .int p0), (2, .ref ou)]) hx hb dL_helm_12 rfl hl (by decide) rfl (fun ls hl => ?_)
    refine lv_iconst (v := 1) hx hb dL_helm_13 (by decide) ?_
    refine W.widen (k := 1) (n := 6) (Nat.le_of_ble_eq_true rfl) (Nat.le_of_ble_eq_true rfl) ?_
    exact W.iret (v := 1) hx hb hr (fun t ht hW => ⟨⟨1, (), rfl, rfl, kB_end (w9 := []) (t9 := []) hP hK hD [] [] rfl (by decide) rfl rfl t ht hW⟩, hS.F ht⟩) hS.2.2 dL_helm_14
  · skip
    exact hw.elim
abbrev wd_k_l_order_s0 (z : Nat → Nat) (sh : Nat) (rg : Nat) (mf : Nat) (mm : Nat) (mz : Nat) (ma : Nat) (sa : Nat) (s0 : Nat) (s1 : Nat) (s2 : Nat) (s3 : Nat) (s4 : Nat) (s5 : Nat) (s6 : Nat) (s7 : Nat) (s8 : Nat) (dk : Nat) (w0 : Nat) (w1 : Nat) (ol : Nat) (hd : Nat) (lg : Nat) (pl : Nat) (pr : Nat) (cS : ClassId) (x : Nat) (tl : Nat) (tw : Nat) (p2 : Int32) (ou : Nat) (co : ClassId) (of_ : Nat → Int64) : va_W := [(x, .inr (15, [.ref sh, .ref tl, .ref tw, .int 0])), (tl, .inr (3, [.int 0, .ref (z 0), .int 0])), (sh, .inr (13, [.ref rg, .ref dk, .ref hd, .ref lg, .ref pl, .ref pr, .int 0, .int 0, .int 0, .int 0, .int 0, .int 0, .int 0, .int 0, .int 0, .int 0, .int 0])), (dk, .inr (4, [.ref w0, .ref w1, .ref ol, .int 0, .int 0, .int 0, .int 0])), (ol, .inr (3, [.int 0, .ref (z 0), .int 0])), (rg, .inr (11, [.ref mf, .ref mm, .ref mz, .ref ma, .ref sa, .int 0])), (sa, .inl (cS, 9, .inr (.inr (.inr (.inr (va_up (va_up (va_up (va_up (va_up (va_up (va_up (va_up (va_up (fun _ => none) 0 (some s0)) 1 (some s1)) 2 (some s2)) 3 (some s3)) 4 (some s4)) 5 (some s5)) 6 (some s6)) 7 (some s7)) 8 (some s8))))))), (s0, .inr (12, [.int 8, .int 6, .ref mf, .int 1, .int 0, .int 900, .int 0, .int 0])), (ou, .inl (co, 1, .inr (.inl of_)))]
set_option maxHeartbeats 4000000 in
set_option maxRecDepth 100000 in
theorem k_l_order_s0 (l : Launch) (dC : Nat → ClassId) (dI : Nat → Nat → Nat) (z zK zV : Nat → Nat) (sh : Nat) (rg : Nat) (mf : Nat) (mm : Nat) (mz : Nat) (ma : Nat) (sa : Nat) (s0 : Nat) (s1 : Nat) (s2 : Nat) (s3 : Nat) (s4 : Nat) (s5 : Nat) (s6 : Nat) (s7 : Nat) (s8 : Nat) (dk : Nat) (w0 : Nat) (w1 : Nat) (ol : Nat) (hd : Nat) (lg : Nat) (pl : Nat) (pr : Nat) (cS : ClassId) (x : Nat) (tl : Nat) (tw : Nat) (p2 : Int32) (ou : Nat) (co : ClassId) (of_ : Nat → Int64) (sz : Nat) (hg0 : (0 : Int32) ≤ p2 ∧ p2 ≤ 2) : Met l yL_order wsL_order ({ frames := 9, cells := 4, slots := 31, locals := 191 }) (kP dC dI z zK zV [.ref x, .int 115, .int 0, .int p2, .ref ou] sz (wd_k_l_order_s0 z sh rg mf mm mz ma sa s0 s1 s2 s3 s4 s5 s6 s7 s8 dk w0 w1 ol hd lg pl pr cS x tl tw p2 ou co of_) [(cS, .object RX8), (co, .long)]) (va_Qi (fun (r : Int32) (_ : Unit) => 0 = r) (fun _ t => kB (dC, dI) (va_A (wd_k_l_order_s0 z sh rg mf mm mz ma sa s0 s1 s2 s3 s4 s5 s6 s7 s8 dk w0 w1 ol hd lg pl pr cS x tl tw p2 ou co of_) sz) [(ou, .inl (co, 1, .inr (.inl (vp_updL of_ 0 0))))] [] t) (va_A (wd_k_l_order_s0 z sh rg mf mm mz ma sa s0 s1 s2 s3 s4 s5 s6 s7 s8 dk w0 w1 ol hd lg pl pr cS x tl tw p2 ou co of_) sz)) 4 31 (va_A (wd_k_l_order_s0 z sh rg mf mm mz ma sa s0 s1 s2 s3 s4 s5 s6 s7 s8 dk w0 w1 ol hd lg pl pr cS x tl tw p2 ou co of_) sz) := by
  refine va_MetW (hh := [(0, 12, 15, 13), (0, 12, 19, 27)]) (cc := cL_order) (maxL := 6) (ret := (some .int)) (by decide) rfl ?_
  intro p e s m args below meth c s₁ B hml hv
  obtain ⟨rfl, hsz, hP, hK, hD0, hM⟩ := hv
  have hx := B.exec
  have hb := B.bytes
  have hr := B.returns
  have hts := atoms_spec (ws := wsL_order) B.pre
  have hown : s.vm.findClass RL = some m.cls := findClass_of_methodNamed B.named
  have hlocks := B.notSynchronized
  have htab := vx_table (x := yL_order) B (hts _ List.mem_cons_self)
  subst hsz
  have hD := hD0.self (sz := s.heap.size)
  generalize hAe : va_A (wd_k_l_order_s0 z sh rg mf mm mz ma sa s0 s1 s2 s3 s4 s5 s6 s7 s8 dk w0 w1 ol hd lg pl pr cS x tl tw p2 ou co of_) s.heap.size = A at hD hM ⊢
  have hA : ∀ q : Nat, s.heap.size ≤ q → A q := fun q h => by rw [← hAe]; exact Or.inr h
  have hS : va_S A s.heap s.heap [] := va_S.rf
  have hP : va_P (dC, dI) vwCl [(x, .inr (15, [.ref sh, .ref tl, .ref tw, .int 0])), (tl, .inr (3, [.int 0, .ref (z 0), .int 0])), (sh, .inr (13, [.ref rg, .ref dk, .ref hd, .ref lg, .ref pl, .ref pr, .int 0, .int 0, .int 0, .int 0, .int 0, .int 0, .int 0, .int 0, .int 0, .int 0, .int 0])), (dk, .inr (4, [.ref w0, .ref w1, .ref ol, .int 0, .int 0, .int 0, .int 0])), (ol, .inr (3, [.int 0, .ref (z 0), .int 0])), (rg, .inr (11, [.ref mf, .ref mm, .ref mz, .ref ma, .ref sa, .int 0])), (sa, .inl (cS, 9, .inr (.inr (.inr (.inr (va_up (va_up (va_up (va_up (va_up (va_up (va_up (va_up (va_up (fun _ => none) 0 (some s0)) 1 (some s1)) 2 (some s2)) 3 (some s3)) 4 (some s4)) 5 (some s5)) 6 (some s6)) 7 (some s7)) 8 (some s8))))))), (s0, .inr (12, [.int 8, .int 6, .ref mf, .int 1, .int 0, .int 900, .int 0, .int 0])), (ou, .inl (co, 1, .inr (.inl of_)))] s.heap := hP
  have hD : va_D A [(x, .inr (15, [.ref sh, .ref tl, .ref tw, .int 0])), (tl, .inr (3, [.int 0, .ref (z 0), .int 0])), (sh, .inr (13, [.ref rg, .ref dk, .ref hd, .ref lg, .ref pl, .ref pr, .int 0, .int 0, .int 0, .int 0, .int 0, .int 0, .int 0, .int 0, .int 0, .int 0, .int 0])), (dk, .inr (4, [.ref w0, .ref w1, .ref ol, .int 0, .int 0, .int 0, .int 0])), (ol, .inr (3, [.int 0, .ref (z 0), .int 0])), (rg, .inr (11, [.ref mf, .ref mm, .ref mz, .ref ma, .ref sa, .int 0])), (sa, .inl (cS, 9, .inr (.inr (.inr (.inr (va_up (va_up (va_up (va_up (va_up (va_up (va_up (va_up (va_up (fun _ => none) 0 (some s0)) 1 (some s1)) 2 (some s2)) 3 (some s3)) 4 (some s4)) 5 (some s5)) 6 (some s6)) 7 (some s7)) 8 (some s8))))))), (s0, .inr (12, [.int 8, .int 6, .ref mf, .int 1, .int 0, .int 900, .int 0, .int 0])), (ou, .inl (co, 1, .inr (.inl of_)))] := hD
  have hl := lv_entry ([.ref x, .int 115, .int 0, .int p2, .ref ou]) (n := 6) (Nat.le_of_ble_eq_true rfl)
  rw [lg_entry_eq]
  generalize (lg_sl ([.ref x, .int 115, .int 0, .int p2, .ref ou]) ++ List.replicate (6 - (lg_sl ([.ref x, .int 115, .int 0, .int p2, .ref ou])).length) Slot.unset).toArray = ls at hl ⊢
  have hl : lv_has ls 6 [(0, .ref x), (1, .int 115), (2, .int 0), (3, .int p2), (4, .ref ou)] := hl
  refine lv_aload hx hb dL_order_0 (lv_at hl 4 rfl) ?_
  refine lv_iconst (v := 0) hx hb dL_order_2 (by decide) ?_
  refine lv_aload_n hx hb dL_order_3 rfl (lv_at hl 0 rfl) ?_
  refine lv_iload_n hx hb dL_order_4 rfl (lv_at hl 1 rfl) ?_
  refine lv_iload_n hx hb dL_order_5 rfl (lv_at hl 2 rfl) ?_
  refine lv_iload_n hx hb dL_order_6 rfl (lv_at hl 3 rfl) ?_
  have hPc := hP.sub (ws' := [(x, .inr (15, [.ref sh, .ref tl, .ref tw, .int 0])), (tl, .inr (3, [.int 0, .ref (z 0), .int 0])), (sh, .inr (13, [.ref rg, .ref dk, .ref hd, .ref lg, .ref pl, .ref pr, .int 0, .int 0, .int 0, .int 0, .int 0, .int 0, .int 0, .int 0, .int 0, .int 0, .int 0])), (dk, .inr (4, [.ref w0, .ref w1, .ref ol, .int 0, .int 0, .int 0, .int 0])), (ol, .inr (3, [.int 0, .ref (z 0), .int 0])), (rg, .inr (11, [.ref mf, .ref mm, .ref mz, .ref ma, .ref sa, .int 0])), (sa, .inl (cS, 9, .inr (.inr (.inr (.inr (va_up (va_up (va_up (va_up (va_up (va_up (va_up (va_up (va_up (fun _ => none) 0 (some s0)) 1 (some s1)) 2 (some s2)) 3 (some s3)) 4 (some s4)) 5 (some s5)) 6 (some s6)) 7 (some s7)) 8 (some s8))))))), (s0, .inr (12, [.int 8, .int 6, .ref mf, .int 1, .int 0, .int 900, .int 0, .int 0]))]) [0, 1, 2, 3, 4, 5, 6, 7] rfl
  have hDc := hD.sub (ws' := [(x, .inr (15, [.ref sh, .ref tl, .ref tw, .int 0])), (tl, .inr (3, [.int 0, .ref (z 0), .int 0])), (sh, .inr (13, [.ref rg, .ref dk, .ref hd, .ref lg, .ref pl, .ref pr, .int 0, .int 0, .int 0, .int 0, .int 0, .int 0, .int 0, .int 0, .int 0, .int 0, .int 0])), (dk, .inr (4, [.ref w0, .ref w1, .ref ol, .int 0, .int 0, .int 0, .int 0])), (ol, .inr (3, [.int 0, .ref (z 0), .int 0])), (rg, .inr (11, [.ref mf, .ref mm, .ref mz, .ref ma, .ref sa, .int 0])), (sa, .inl (cS, 9, .inr (.inr (.inr (.inr (va_up (va_up (va_up (va_up (va_up (va_up (va_up (va_up (va_up (fun _ => none) 0 (some s0)) 1 (some s1)) 2 (some s2)) 3 (some s3)) 4 (some s4)) 5 (some s5)) 6 (some s6)) 7 (some s7)) 8 (some s8))))))), (s0, .inr (12, [.int 8, .int 6, .ref mf, .int 1, .int 0, .int 900, .int 0, .int 0]))]) [0, 1, 2, 3, 4, 5, 6, 7] (by decide) rfl
  have hKc := hK.sub (tys' := [(cS, .object RX8)]) [0] rfl
  have hFc := va_free (wc := [(x, .inr (15, [.ref sh, .ref tl, .ref tw, .int 0])), (tl, .inr (3, [.int 0, .ref (z 0), .int 0])), (sh, .inr (13, [.ref rg, .ref dk, .ref hd, .ref lg, .ref pl, .ref pr, .int 0, .int 0, .int 0, .int 0, .int 0, .int 0, .int 0, .int 0, .int 0, .int 0, .int 0])), (dk, .inr (4, [.ref w0, .ref w1, .ref ol, .int 0, .int 0, .int 0, .int 0])), (ol, .inr (3, [.int 0, .ref (z 0), .int 0])), (rg, .inr (11, [.ref mf, .ref mm, .ref mz, .ref ma, .ref sa, .int 0])), (sa, .inl (cS, 9, .inr (.inr (.inr (.inr (va_up (va_up (va_up (va_up (va_up (va_up (va_up (va_up (va_up (fun _ => none) 0 (some s0)) 1 (some s1)) 2 (some s2)) 3 (some s3)) 4 (some s4)) 5 (some s5)) 6 (some s6)) 7 (some s7)) 8 (some s8))))))), (s0, .inr (12, [.int 8, .int 6, .ref mf, .int 1, .int 0, .int 900, .int 0, .int 0]))]) hD hS hA [0, 1, 2, 3, 4, 5, 6, 7] rfl
  refine va_calli (va_runV (As := [.int 115, .int 0, .int p2]) (rest := [.int 0, .ref ou]) ⟨hx, hb, hml, hown, hts⟩ (k_x_order_s0 l dC dI z zK zV sh rg mf mm mz ma sa s0 s1 s2 s3 s4 s5 s6 s7 s8 dk w0 w1 ol hd lg pl pr cS x tl tw p2 s.heap.size (hg0)) (cwV 3 hts gL_order_X11_order rfl rfl rfl (by decide +kernel) ⟨Nat.le_of_ble_eq_true rfl, Nat.le_of_ble_eq_true rfl⟩) ⟨kP_blind, va_recv hKc hPc (ci := 15) (q0 := 0) rfl rfl, kP_go hPc hKc hDc hFc hM hS⟩ rfl rfl hl.1 rfl (lv_room (Nat.le_of_ble_eq_true rfl)) dL_order_7 ⟨Nat.le_of_ble_eq_true rfl, Nat.le_of_ble_eq_true rfl⟩) hS (fun q _ h => hFc q h) hFc (fun r1 u t H1 locs ht hvm hw hB hz1 hk1 hS => ?_)
  obtain ⟨hP, hD, hK⟩ := kJ (wr := [(ou, .inl (co, 1, .inr (.inl of_)))]) (w1 := []) (t1 := []) hP hD hK [0, 1, 2, 3, 4, 5, 6, 7] [8] rfl rfl (by decide) (by decide) hk1 hFc ht hvm hB
  generalize H1 = H at hP hS ⊢
  have hP : va_P (dC, dI) vwCl [(ou, .inl (co, 1, .inr (.inl of_)))] H := hP
  have hD : va_D A [(ou, .inl (co, 1, .inr (.inl of_)))] := hD
  have hK : va_K (dC, dI) vwCl [(cS, .object RX8), (co, .long)] s := hK
  obtain rfl : 0 = r1 := hw
  refine lv_i2l (v := 0) hx hb dL_order_10 (by decide +kernel) ?_
  refine va_last hx hb hK hP hD hS 0 1 rfl rfl (pk_in 0 1 (by decide) rfl) dL_order_11 (fun H locs hP hD hS => ?_)
  have hP : va_P (dC, dI) vwCl [(ou, .inl (co, 1, .inr (.inl (vp_updL of_ 0 0))))] H := hP
  have hD : va_D A [(ou, .inl (co, 1, .inr (.inl (vp_updL of_ 0 0))))] := hD
  refine lv_goto (tgt := 23) hx hb dL_order_12 (by decide) ?_
  refine lv_iconst (v := 0) hx hb dL_order_23 (by decide) ?_
  refine W.widen (k := 4) (n := 31) (Nat.le_of_ble_eq_true rfl) (Nat.le_of_ble_eq_true rfl) ?_
  exact W.iret (v := 0) hx hb hr (fun t ht hW => ⟨⟨0, (), rfl, rfl, kB_end (w9 := [(ou, .inl (co, 1, .inr (.inl (vp_updL of_ 0 0))))]) (t9 := []) hP hK hD [0] [] rfl (by decide) rfl rfl t ht hW⟩, hS.F ht⟩) hS.2.2 dL_order_24
abbrev wd_k_l_order_s1 (z : Nat → Nat) (sh : Nat) (rg : Nat) (mf : Nat) (mm : Nat) (mz : Nat) (ma : Nat) (sa : Nat) (s0 : Nat) (s1 : Nat) (s2 : Nat) (s3 : Nat) (s4 : Nat) (s5 : Nat) (s6 : Nat) (s7 : Nat) (s8 : Nat) (dk : Nat) (w0 : Nat) (w1 : Nat) (ol : Nat) (hd : Nat) (lg : Nat) (pl : Nat) (pr : Nat) (cS : ClassId) (x : Nat) (tl : Nat) (tw : Nat) (p2 : Int32) (ou : Nat) (co : ClassId) (of_ : Nat → Int64) : va_W := [(x, .inr (15, [.ref sh, .ref tl, .ref tw, .int 0])), (tl, .inr (3, [.int 0, .ref (z 0), .int 0])), (sh, .inr (13, [.ref rg, .ref dk, .ref hd, .ref lg, .ref pl, .ref pr, .int 0, .int 0, .int 0, .int 0, .int 0, .int 0, .int 0, .int 0, .int 0, .int 0, .int 0])), (dk, .inr (4, [.ref w0, .ref w1, .ref ol, .int 0, .int 0, .int 0, .int 0])), (ol, .inr (3, [.int 0, .ref (z 0), .int 0])), (rg, .inr (11, [.ref mf, .ref mm, .ref mz, .ref ma, .ref sa, .int 0])), (sa, .inl (cS, 9, .inr (.inr (.inr (.inr (va_up (va_up (va_up (va_up (va_up (va_up (va_up (va_up (va_up (fun _ => none) 0 (some s0)) 1 (some s1)) 2 (some s2)) 3 (some s3)) 4 (some s4)) 5 (some s5)) 6 (some s6)) 7 (some s7)) 8 (some s8))))))), (s1, .inr (12, [.int 7, .int 5, .ref mf, .int 1, .int 0, .int 900, .int 0, .int 0])), (ou, .inl (co, 1, .inr (.inl of_)))]
set_option maxHeartbeats 4000000 in
set_option maxRecDepth 100000 in
theorem k_l_order_s1 (l : Launch) (dC : Nat → ClassId) (dI : Nat → Nat → Nat) (z zK zV : Nat → Nat) (sh : Nat) (rg : Nat) (mf : Nat) (mm : Nat) (mz : Nat) (ma : Nat) (sa : Nat) (s0 : Nat) (s1 : Nat) (s2 : Nat) (s3 : Nat) (s4 : Nat) (s5 : Nat) (s6 : Nat) (s7 : Nat) (s8 : Nat) (dk : Nat) (w0 : Nat) (w1 : Nat) (ol : Nat) (hd : Nat) (lg : Nat) (pl : Nat) (pr : Nat) (cS : ClassId) (x : Nat) (tl : Nat) (tw : Nat) (p2 : Int32) (ou : Nat) (co : ClassId) (of_ : Nat → Int64) (sz : Nat) (hg0 : (0 : Int32) ≤ p2 ∧ p2 ≤ 2) : Met l yL_order wsL_order ({ frames := 9, cells := 4, slots := 31, locals := 191 }) (kP dC dI z zK zV [.ref x, .int 115, .int 1, .int p2, .ref ou] sz (wd_k_l_order_s1 z sh rg mf mm mz ma sa s0 s1 s2 s3 s4 s5 s6 s7 s8 dk w0 w1 ol hd lg pl pr cS x tl tw p2 ou co of_) [(cS, .object RX8), (co, .long)]) (va_Qi (fun (r : Int32) (_ : Unit) => 0 = r) (fun _ t => kB (dC, dI) (va_A (wd_k_l_order_s1 z sh rg mf mm mz ma sa s0 s1 s2 s3 s4 s5 s6 s7 s8 dk w0 w1 ol hd lg pl pr cS x tl tw p2 ou co of_) sz) [(ou, .inl (co, 1, .inr (.inl (vp_updL of_ 0 0))))] [] t) (va_A (wd_k_l_order_s1 z sh rg mf mm mz ma sa s0 s1 s2 s3 s4 s5 s6 s7 s8 dk w0 w1 ol hd lg pl pr cS x tl tw p2 ou co of_) sz)) 4 31 (va_A (wd_k_l_order_s1 z sh rg mf mm mz ma sa s0 s1 s2 s3 s4 s5 s6 s7 s8 dk w0 w1 ol hd lg pl pr cS x tl tw p2 ou co of_) sz) := by
  refine va_MetW (hh := [(0, 12, 15, 13), (0, 12, 19, 27)]) (cc := cL_order) (maxL := 6) (ret := (some .int)) (by decide) rfl ?_
  intro p e s m args below meth c s₁ B hml hv
  obtain ⟨rfl, hsz, hP, hK, hD0, hM⟩ := hv
  have hx := B.exec
  have hb := B.bytes
  have hr := B.returns
  have hts := atoms_spec (ws := wsL_order) B.pre
  have hown : s.vm.findClass RL = some m.cls := findClass_of_methodNamed B.named
  have hlocks := B.notSynchronized
  have htab := vx_table (x := yL_order) B (hts _ List.mem_cons_self)
  subst hsz
  have hD := hD0.self (sz := s.heap.size)
  generalize hAe : va_A (wd_k_l_order_s1 z sh rg mf mm mz ma sa s0 s1 s2 s3 s4 s5 s6 s7 s8 dk w0 w1 ol hd lg pl pr cS x tl tw p2 ou co of_) s.heap.size = A at hD hM ⊢
  have hA : ∀ q : Nat, s.heap.size ≤ q → A q := fun q h => by rw [← hAe]; exact Or.inr h
  have hS : va_S A s.heap s.heap [] := va_S.rf
  have hP : va_P (dC, dI) vwCl [(x, .inr (15, [.ref sh, .ref tl, .ref tw, .int 0])), (tl, .inr (3, [.int 0, .ref (z 0), .int 0])), (sh, .inr (13, [.ref rg, .ref dk, .ref hd, .ref lg, .ref pl, .ref pr, .int 0, .int 0, .int 0, .int 0, .int 0, .int 0, .int 0, .int 0, .int 0, .int 0, .int 0])), (dk, .inr (4, [.ref w0, .ref w1, .ref ol, .int 0, .int 0, .int 0, .int 0])), (ol, .inr (3, [.int 0, .ref (z 0), .int 0])), (rg, .inr (11, [.ref mf, .ref mm, .ref mz, .ref ma, .ref sa, .int 0])), (sa, .inl (cS, 9, .inr (.inr (.inr (.inr (va_up (va_up (va_up (va_up (va_up (va_up (va_up (va_up (va_up (fun _ => none) 0 (some s0)) 1 (some s1)) 2 (some s2)) 3 (some s3)) 4 (some s4)) 5 (some s5)) 6 (some s6)) 7 (some s7)) 8 (some s8))))))), (s1, .inr (12, [.int 7, .int 5, .ref mf, .int 1, .int 0, .int 900, .int 0, .int 0])), (ou, .inl (co, 1, .inr (.inl of_)))] s.heap := hP
  have hD : va_D A [(x, .inr (15, [.ref sh, .ref tl, .ref tw, .int 0])), (tl, .inr (3, [.int 0, .ref (z 0), .int 0])), (sh, .inr (13, [.ref rg, .ref dk, .ref hd, .ref lg, .ref pl, .ref pr, .int 0, .int 0, .int 0, .int 0, .int 0, .int 0, .int 0, .int 0, .int 0, .int 0, .int 0])), (dk, .inr (4, [.ref w0, .ref w1, .ref ol, .int 0, .int 0, .int 0, .int 0])), (ol, .inr (3, [.int 0, .ref (z 0), .int 0])), (rg, .inr (11, [.ref mf, .ref mm, .ref mz, .ref ma, .ref sa, .int 0])), (sa, .inl (cS, 9, .inr (.inr (.inr (.inr (va_up (va_up (va_up (va_up (va_up (va_up (va_up (va_up (va_up (fun _ => none) 0 (some s0)) 1 (some s1)) 2 (some s2)) 3 (some s3)) 4 (some s4)) 5 (some s5)) 6 (some s6)) 7 (some s7)) 8 (some s8))))))), (s1, .inr (12, [.int 7, .int 5, .ref mf, .int 1, .int 0, .int 900, .int 0, .int 0])), (ou, .inl (co, 1, .inr (.inl of_)))] := hD
  have hl := lv_entry ([.ref x, .int 115, .int 1, .int p2, .ref ou]) (n := 6) (Nat.le_of_ble_eq_true rfl)
  rw [lg_entry_eq]
  generalize (lg_sl ([.ref x, .int 115, .int 1, .int p2, .ref ou]) ++ List.replicate (6 - (lg_sl ([.ref x, .int 115, .int 1, .int p2, .ref ou])).length) Slot.unset).toArray = ls at hl ⊢
  have hl : lv_has ls 6 [(0, .ref x), (1, .int 115), (2, .int 1), (3, .int p2), (4, .ref ou)] := hl
  refine lv_aload hx hb dL_order_0 (lv_at hl 4 rfl) ?_
  refine lv_iconst (v := 0) hx hb dL_order_2 (by decide) ?_
  refine lv_aload_n hx hb dL_order_3 rfl (lv_at hl 0 rfl) ?_
  refine lv_iload_n hx hb dL_order_4 rfl (lv_at hl 1 rfl) ?_
  refine lv_iload_n hx hb dL_order_5 rfl (lv_at hl 2 rfl) ?_
  refine lv_iload_n hx hb dL_order_6 rfl (lv_at hl 3 rfl) ?_
  have hPc := hP.sub (ws' := [(x, .inr (15, [.ref sh, .ref tl, .ref tw, .int 0])), (tl, .inr (3, [.int 0, .ref (z 0), .int 0])), (sh, .inr (13, [.ref rg, .ref dk, .ref hd, .ref lg, .ref pl, .ref pr, .int 0, .int 0, .int 0, .int 0, .int 0, .int 0, .int 0, .int 0, .int 0, .int 0, .int 0])), (dk, .inr (4, [.ref w0, .ref w1, .ref ol, .int 0, .int 0, .int 0, .int 0])), (ol, .inr (3, [.int 0, .ref (z 0), .int 0])), (rg, .inr (11, [.ref mf, .ref mm, .ref mz, .ref ma, .ref sa, .int 0])), (sa, .inl (cS, 9, .inr (.inr (.inr (.inr (va_up (va_up (va_up (va_up (va_up (va_up (va_up (va_up (va_up (fun _ => none) 0 (some s0)) 1 (some s1)) 2 (some s2)) 3 (some s3)) 4 (some s4)) 5 (some s5)) 6 (some s6)) 7 (some s7)) 8 (some s8))))))), (s1, .inr (12, [.int 7, .int 5, .ref mf, .int 1, .int 0, .int 900, .int 0, .int 0]))]) [0, 1, 2, 3, 4, 5, 6, 7] rfl
  have hDc := hD.sub (ws' := [(x, .inr (15, [.ref sh, .ref tl, .ref tw, .int 0])), (tl, .inr (3, [.int 0, .ref (z 0), .int 0])), (sh, .inr (13, [.ref rg, .ref dk, .ref hd, .ref lg, .ref pl, .ref pr, .int 0, .int 0, .int 0, .int 0, .int 0, .int 0, .int 0, .int 0, .int 0, .int 0, .int 0])), (dk, .inr (4, [.ref w0, .ref w1, .ref ol, .int 0, .int 0, .int 0, .int 0])), (ol, .inr (3, [.int 0, .ref (z 0), .int 0])), (rg, .inr (11, [.ref mf, .ref mm, .ref mz, .ref ma, .ref sa, .int 0])), (sa, .inl (cS, 9, .inr (.inr (.inr (.inr (va_up (va_up (va_up (va_up (va_up (va_up (va_up (va_up (va_up (fun _ => none) 0 (some s0)) 1 (some s1)) 2 (some s2)) 3 (some s3)) 4 (some s4)) 5 (some s5)) 6 (some s6)) 7 (some s7)) 8 (some s8))))))), (s1, .inr (12, [.int 7, .int 5, .ref mf, .int 1, .int 0, .int 900, .int 0, .int 0]))]) [0, 1, 2, 3, 4, 5, 6, 7] (by decide) rfl
  have hKc := hK.sub (tys' := [(cS, .object RX8)]) [0] rfl
  have hFc := va_free (wc := [(x, .inr (15, [.ref sh, .ref tl, .ref tw, .int 0])), (tl, .inr (3, [.int 0, .ref (z 0), .int 0])), (sh, .inr (13, [.ref rg, .ref dk, .ref hd, .ref lg, .ref pl, .ref pr, .int 0, .int 0, .int 0, .int 0, .int 0, .int 0, .int 0, .int 0, .int 0, .int 0, .int 0])), (dk, .inr (4, [.ref w0, .ref w1, .ref ol, .int 0, .int 0, .int 0, .int 0])), (ol, .inr (3, [.int 0, .ref (z 0), .int 0])), (rg, .inr (11, [.ref mf, .ref mm, .ref mz, .ref ma, .ref sa, .int 0])), (sa, .inl (cS, 9, .inr (.inr (.inr (.inr (va_up (va_up (va_up (va_up (va_up (va_up (va_up (va_up (va_up (fun _ => none) 0 (some s0)) 1 (some s1)) 2 (some s2)) 3 (some s3)) 4 (some s4)) 5 (some s5)) 6 (some s6)) 7 (some s7)) 8 (some s8))))))), (s1, .inr (12, [.int 7, .int 5, .ref mf, .int 1, .int 0, .int 900, .int 0, .int 0]))]) hD hS hA [0, 1, 2, 3, 4, 5, 6, 7] rfl
  refine va_calli (va_runV (As := [.int 115, .int 1, .int p2]) (rest := [.int 0, .ref ou]) ⟨hx, hb, hml, hown, hts⟩ (k_x_order_s1 l dC dI z zK zV sh rg mf mm mz ma sa s0 s1 s2 s3 s4 s5 s6 s7 s8 dk w0 w1 ol hd lg pl pr cS x tl tw p2 s.heap.size (hg0)) (cwV 3 hts gL_order_X11_order rfl rfl rfl (by decide +kernel) ⟨Nat.le_of_ble_eq_true rfl, Nat.le_of_ble_eq_true rfl⟩) ⟨kP_blind, va_recv hKc hPc (ci := 15) (q0 := 0) rfl rfl, kP_go hPc hKc hDc hFc hM hS⟩ rfl rfl hl.1 rfl (lv_room (Nat.le_of_ble_eq_true rfl)) dL_order_7 ⟨Nat.le_of_ble_eq_true rfl, Nat.le_of_ble_eq_true rfl⟩) hS (fun q _ h => hFc q h) hFc (fun r1 u t H1 locs ht hvm hw hB hz1 hk1 hS => ?_)
  obtain ⟨hP, hD, hK⟩ := kJ (wr := [(ou, .inl (co, 1, .inr (.inl of_)))]) (w1 := []) (t1 := []) hP hD hK [0, 1, 2, 3, 4, 5, 6, 7] [8] rfl rfl (by decide) (by decide) hk1 hFc ht hvm hB
  generalize H1 = H at hP hS ⊢
  have hP : va_P (dC, dI) vwCl [(ou, .inl (co, 1, .inr (.inl of_)))] H := hP
  have hD : va_D A [(ou, .inl (co, 1, .inr (.inl of_)))] := hD
  have hK : va_K (dC, dI) vwCl [(cS, .object RX8), (co, .long)] s := hK
  obtain rfl : 0 = r1 := hw
  refine lv_i2l (v := 0) hx hb dL_order_10 (by decide +kernel) ?_
  refine va_last hx hb hK hP hD hS 0 1 rfl rfl (pk_in 0 1 (by decide) rfl) dL_order_11 (fun H locs hP hD hS => ?_)
  have hP : va_P (dC, dI) vwCl [(ou, .inl (co, 1, .inr (.inl (vp_updL of_ 0 0))))] H := hP
  have hD : va_D A [(ou, .inl (co, 1, .inr (.inl (vp_updL of_ 0 0))))] := hD
  refine lv_goto (tgt := 23) hx hb dL_order_12 (by decide) ?_
  refine lv_iconst (v := 0) hx hb dL_order_23 (by decide) ?_
  refine W.widen (k := 4) (n := 31) (Nat.le_of_ble_eq_true rfl) (Nat.le_of_ble_eq_true rfl) ?_
  exact W.iret (v := 0) hx hb hr (fun t ht hW => ⟨⟨0, (), rfl, rfl, kB_end (w9 := [(ou, .inl (co, 1, .inr (.inl (vp_updL of_ 0 0))))]) (t9 := []) hP hK hD [0] [] rfl (by decide) rfl rfl t ht hW⟩, hS.F ht⟩) hS.2.2 dL_order_24
abbrev wd_k_l_order_s2 (z : Nat → Nat) (sh : Nat) (rg : Nat) (mf : Nat) (mm : Nat) (mz : Nat) (ma : Nat) (sa : Nat) (s0 : Nat) (s1 : Nat) (s2 : Nat) (s3 : Nat) (s4 : Nat) (s5 : Nat) (s6 : Nat) (s7 : Nat) (s8 : Nat) (dk : Nat) (w0 : Nat) (w1 : Nat) (ol : Nat) (hd : Nat) (lg : Nat) (pl : Nat) (pr : Nat) (cS : ClassId) (x : Nat) (tl : Nat) (tw : Nat) (p2 : Int32) (ou : Nat) (co : ClassId) (of_ : Nat → Int64) : va_W := [(x, .inr (15, [.ref sh, .ref tl, .ref tw, .int 0])), (tl, .inr (3, [.int 0, .ref (z 0), .int 0])), (sh, .inr (13, [.ref rg, .ref dk, .ref hd, .ref lg, .ref pl, .ref pr, .int 0, .int 0, .int 0, .int 0, .int 0, .int 0, .int 0, .int 0, .int 0, .int 0, .int 0])), (dk, .inr (4, [.ref w0, .ref w1, .ref ol, .int 0, .int 0, .int 0, .int 0])), (ol, .inr (3, [.int 0, .ref (z 0), .int 0])), (rg, .inr (11, [.ref mf, .ref mm, .ref mz, .ref ma, .ref sa, .int 0])), (sa, .inl (cS, 9, .inr (.inr (.inr (.inr (va_up (va_up (va_up (va_up (va_up (va_up (va_up (va_up (va_up (fun _ => none) 0 (some s0)) 1 (some s1)) 2 (some s2)) 3 (some s3)) 4 (some s4)) 5 (some s5)) 6 (some s6)) 7 (some s7)) 8 (some s8))))))), (s2, .inr (12, [.int 3, .int 3, .ref mf, .int 1, .int 0, .int 900, .int 0, .int 0])), (ou, .inl (co, 1, .inr (.inl of_)))]
set_option maxHeartbeats 4000000 in
set_option maxRecDepth 100000 in
theorem k_l_order_s2 (l : Launch) (dC : Nat → ClassId) (dI : Nat → Nat → Nat) (z zK zV : Nat → Nat) (sh : Nat) (rg : Nat) (mf : Nat) (mm : Nat) (mz : Nat) (ma : Nat) (sa : Nat) (s0 : Nat) (s1 : Nat) (s2 : Nat) (s3 : Nat) (s4 : Nat) (s5 : Nat) (s6 : Nat) (s7 : Nat) (s8 : Nat) (dk : Nat) (w0 : Nat) (w1 : Nat) (ol : Nat) (hd : Nat) (lg : Nat) (pl : Nat) (pr : Nat) (cS : ClassId) (x : Nat) (tl : Nat) (tw : Nat) (p2 : Int32) (ou : Nat) (co : ClassId) (of_ : Nat → Int64) (sz : Nat) (hg0 : (0 : Int32) ≤ p2 ∧ p2 ≤ 2) : Met l yL_order wsL_order ({ frames := 9, cells := 4, slots := 31, locals := 191 }) (kP dC dI z zK zV [.ref x, .int 115, .int 2, .int p2, .ref ou] sz (wd_k_l_order_s2 z sh rg mf mm mz ma sa s0 s1 s2 s3 s4 s5 s6 s7 s8 dk w0 w1 ol hd lg pl pr cS x tl tw p2 ou co of_) [(cS, .object RX8), (co, .long)]) (va_Qi (fun (r : Int32) (_ : Unit) => 0 = r) (fun _ t => kB (dC, dI) (va_A (wd_k_l_order_s2 z sh rg mf mm mz ma sa s0 s1 s2 s3 s4 s5 s6 s7 s8 dk w0 w1 ol hd lg pl pr cS x tl tw p2 ou co of_) sz) [(ou, .inl (co, 1, .inr (.inl (vp_updL of_ 0 0))))] [] t) (va_A (wd_k_l_order_s2 z sh rg mf mm mz ma sa s0 s1 s2 s3 s4 s5 s6 s7 s8 dk w0 w1 ol hd lg pl pr cS x tl tw p2 ou co of_) sz)) 4 31 (va_A (wd_k_l_order_s2 z sh rg mf mm mz ma sa s0 s1 s2 s3 s4 s5 s6 s7 s8 dk w0 w1 ol hd lg pl pr cS x tl tw p2 ou co of_) sz) := by
  refine va_MetW (hh := [(0, 12, 15, 13), (0, 12, 19, 27)]) (cc := cL_order) (maxL := 6) (ret := (some .int)) (by decide) rfl ?_
  intro p e s m args below meth c s₁ B hml hv
  obtain ⟨rfl, hsz, hP, hK, hD0, hM⟩ := hv
  have hx := B.exec
  have hb := B.bytes
  have hr := B.returns
  have hts := atoms_spec (ws := wsL_order) B.pre
  have hown : s.vm.findClass RL = some m.cls := findClass_of_methodNamed B.named
  have hlocks := B.notSynchronized
  have htab := vx_table (x := yL_order) B (hts _ List.mem_cons_self)
  subst hsz
  have hD := hD0.self (sz := s.heap.size)
  generalize hAe : va_A (wd_k_l_order_s2 z sh rg mf mm mz ma sa s0 s1 s2 s3 s4 s5 s6 s7 s8 dk w0 w1 ol hd lg pl pr cS x tl tw p2 ou co of_) s.heap.size = A at hD hM ⊢
  have hA : ∀ q : Nat, s.heap.size ≤ q → A q := fun q h => by rw [← hAe]; exact Or.inr h
  have hS : va_S A s.heap s.heap [] := va_S.rf
  have hP : va_P (dC, dI) vwCl [(x, .inr (15, [.ref sh, .ref tl, .ref tw, .int 0])), (tl, .inr (3, [.int 0, .ref (z 0), .int 0])), (sh, .inr (13, [.ref rg, .ref dk, .ref hd, .ref lg, .ref pl, .ref pr, .int 0, .int 0, .int 0, .int 0, .int 0, .int 0, .int 0, .int 0, .int 0, .int 0, .int 0])), (dk, .inr (4, [.ref w0, .ref w1, .ref ol, .int 0, .int 0, .int 0, .int 0])), (ol, .inr (3, [.int 0, .ref (z 0), .int 0])), (rg, .inr (11, [.ref mf, .ref mm, .ref mz, .ref ma, .ref sa, .int 0])), (sa, .inl (cS, 9, .inr (.inr (.inr (.inr (va_up (va_up (va_up (va_up (va_up (va_up (va_up (va_up (va_up (fun _ => none) 0 (some s0)) 1 (some s1)) 2 (some s2)) 3 (some s3)) 4 (some s4)) 5 (some s5)) 6 (some s6)) 7 (some s7)) 8 (some s8))))))), (s2, .inr (12, [.int 3, .int 3, .ref mf, .int 1, .int 0, .int 900, .int 0, .int 0])), (ou, .inl (co, 1, .inr (.inl of_)))] s.heap := hP
  have hD : va_D A [(x, .inr (15, [.ref sh, .ref tl, .ref tw, .int 0])), (tl, .inr (3, [.int 0, .ref (z 0), .int 0])), (sh, .inr (13, [.ref rg, .ref dk, .ref hd, .ref lg, .ref pl, .ref pr, .int 0, .int 0, .int 0, .int 0, .int 0, .int 0, .int 0, .int 0, .int 0, .int 0, .int 0])), (dk, .inr (4, [.ref w0, .ref w1, .ref ol, .int 0, .int 0, .int 0, .int 0])), (ol, .inr (3, [.int 0, .ref (z 0), .int 0])), (rg, .inr (11, [.ref mf, .ref mm, .ref mz, .ref ma, .ref sa, .int 0])), (sa, .inl (cS, 9, .inr (.inr (.inr (.inr (va_up (va_up (va_up (va_up (va_up (va_up (va_up (va_up (va_up (fun _ => none) 0 (some s0)) 1 (some s1)) 2 (some s2)) 3 (some s3)) 4 (some s4)) 5 (some s5)) 6 (some s6)) 7 (some s7)) 8 (some s8))))))), (s2, .inr (12, [.int 3, .int 3, .ref mf, .int 1, .int 0, .int 900, .int 0, .int 0])), (ou, .inl (co, 1, .inr (.inl of_)))] := hD
  have hl := lv_entry ([.ref x, .int 115, .int 2, .int p2, .ref ou]) (n := 6) (Nat.le_of_ble_eq_true rfl)
  rw [lg_entry_eq]
  generalize (lg_sl ([.ref x, .int 115, .int 2, .int p2, .ref ou]) ++ List.replicate (6 - (lg_sl ([.ref x, .int 115, .int 2, .int p2, .ref ou])).length) Slot.unset).toArray = ls at hl ⊢
  have hl : lv_has ls 6 [(0, .ref x), (1, .int 115), (2, .int 2), (3, .int p2), (4, .ref ou)] := hl
  refine lv_aload hx hb dL_order_0 (lv_at hl 4 rfl) ?_
  refine lv_iconst (v := 0) hx hb dL_order_2 (by decide) ?_
  refine lv_aload_n hx hb dL_order_3 rfl (lv_at hl 0 rfl) ?_
  refine lv_iload_n hx hb dL_order_4 rfl (lv_at hl 1 rfl) ?_
  refine lv_iload_n hx hb dL_order_5 rfl (lv_at hl 2 rfl) ?_
  refine lv_iload_n hx hb dL_order_6 rfl (lv_at hl 3 rfl) ?_
  have hPc := hP.sub (ws' := [(x, .inr (15, [.ref sh, .ref tl, .ref tw, .int 0])), (tl, .inr (3, [.int 0, .ref (z 0), .int 0])), (sh, .inr (13, [.ref rg, .ref dk, .ref hd, .ref lg, .ref pl, .ref pr, .int 0, .int 0, .int 0, .int 0, .int 0, .int 0, .int 0, .int 0, .int 0, .int 0, .int 0])), (dk, .inr (4, [.ref w0, .ref w1, .ref ol, .int 0, .int 0, .int 0, .int 0])), (ol, .inr (3, [.int 0, .ref (z 0), .int 0])), (rg, .inr (11, [.ref mf, .ref mm, .ref mz, .ref ma, .ref sa, .int 0])), (sa, .inl (cS, 9, .inr (.inr (.inr (.inr (va_up (va_up (va_up (va_up (va_up (va_up (va_up (va_up (va_up (fun _ => none) 0 (some s0)) 1 (some s1)) 2 (some s2)) 3 (some s3)) 4 (some s4)) 5 (some s5)) 6 (some s6)) 7 (some s7)) 8 (some s8))))))), (s2, .inr (12, [.int 3, .int 3, .ref mf, .int 1, .int 0, .int 900, .int 0, .int 0]))]) [0, 1, 2, 3, 4, 5, 6, 7] rfl
  have hDc := hD.sub (ws' := [(x, .inr (15, [.ref sh, .ref tl, .ref tw, .int 0])), (tl, .inr (3, [.int 0, .ref (z 0), .int 0])), (sh, .inr (13, [.ref rg, .ref dk, .ref hd, .ref lg, .ref pl, .ref pr, .int 0, .int 0, .int 0, .int 0, .int 0, .int 0, .int 0, .int 0, .int 0, .int 0, .int 0])), (dk, .inr (4, [.ref w0, .ref w1, .ref ol, .int 0, .int 0, .int 0, .int 0])), (ol, .inr (3, [.int 0, .ref (z 0), .int 0])), (rg, .inr (11, [.ref mf, .ref mm, .ref mz, .ref ma, .ref sa, .int 0])), (sa, .inl (cS, 9, .inr (.inr (.inr (.inr (va_up (va_up (va_up (va_up (va_up (va_up (va_up (va_up (va_up (fun _ => none) 0 (some s0)) 1 (some s1)) 2 (some s2)) 3 (some s3)) 4 (some s4)) 5 (some s5)) 6 (some s6)) 7 (some s7)) 8 (some s8))))))), (s2, .inr (12, [.int 3, .int 3, .ref mf, .int 1, .int 0, .int 900, .int 0, .int 0]))]) [0, 1, 2, 3, 4, 5, 6, 7] (by decide) rfl
  have hKc := hK.sub (tys' := [(cS, .object RX8)]) [0] rfl
  have hFc := va_free (wc := [(x, .inr (15, [.ref sh, .ref tl, .ref tw, .int 0])), (tl, .inr (3, [.int 0, .ref (z 0), .int 0])), (sh, .inr (13, [.ref rg, .ref dk, .ref hd, .ref lg, .ref pl, .ref pr, .int 0, .int 0, .int 0, .int 0, .int 0, .int 0, .int 0, .int 0, .int 0, .int 0, .int 0])), (dk, .inr (4, [.ref w0, .ref w1, .ref ol, .int 0, .int 0, .int 0, .int 0])), (ol, .inr (3, [.int 0, .ref (z 0), .int 0])), (rg, .inr (11, [.ref mf, .ref mm, .ref mz, .ref ma, .ref sa, .int 0])), (sa, .inl (cS, 9, .inr (.inr (.inr (.inr (va_up (va_up (va_up (va_up (va_up (va_up (va_up (va_up (va_up (fun _ => none) 0 (some s0)) 1 (some s1)) 2 (some s2)) 3 (some s3)) 4 (some s4)) 5 (some s5)) 6 (some s6)) 7 (some s7)) 8 (some s8))))))), (s2, .inr (12, [.int 3, .int 3, .ref mf, .int 1, .int 0, .int 900, .int 0, .int 0]))]) hD hS hA [0, 1, 2, 3, 4, 5, 6, 7] rfl
  refine va_calli (va_runV (As := [.int 115, .int 2, .int p2]) (rest := [.int 0, .ref ou]) ⟨hx, hb, hml, hown, hts⟩ (k_x_order_s2 l dC dI z zK zV sh rg mf mm mz ma sa s0 s1 s2 s3 s4 s5 s6 s7 s8 dk w0 w1 ol hd lg pl pr cS x tl tw p2 s.heap.size (hg0)) (cwV 3 hts gL_order_X11_order rfl rfl rfl (by decide +kernel) ⟨Nat.le_of_ble_eq_true rfl, Nat.le_of_ble_eq_true rfl⟩) ⟨kP_blind, va_recv hKc hPc (ci := 15) (q0 := 0) rfl rfl, kP_go hPc hKc hDc hFc hM hS⟩ rfl rfl hl.1 rfl (lv_room (Nat.le_of_ble_eq_true rfl)) dL_order_7 ⟨Nat.le_of_ble_eq_true rfl, Nat.le_of_ble_eq_true rfl⟩) hS (fun q _ h => hFc q h) hFc (fun r1 u t H1 locs ht hvm hw hB hz1 hk1 hS => ?_)
  obtain ⟨hP, hD, hK⟩ := kJ (wr := [(ou, .inl (co, 1, .inr (.inl of_)))]) (w1 := []) (t1 := []) hP hD hK [0, 1, 2, 3, 4, 5, 6, 7] [8] rfl rfl (by decide) (by decide) hk1 hFc ht hvm hB
  generalize H1 = H at hP hS ⊢
  have hP : va_P (dC, dI) vwCl [(ou, .inl (co, 1, .inr (.inl of_)))] H := hP
  have hD : va_D A [(ou, .inl (co, 1, .inr (.inl of_)))] := hD
  have hK : va_K (dC, dI) vwCl [(cS, .object RX8), (co, .long)] s := hK
  obtain rfl : 0 = r1 := hw
  refine lv_i2l (v := 0) hx hb dL_order_10 (by decide +kernel) ?_
  refine va_last hx hb hK hP hD hS 0 1 rfl rfl (pk_in 0 1 (by decide) rfl) dL_order_11 (fun H locs hP hD hS => ?_)
  have hP : va_P (dC, dI) vwCl [(ou, .inl (co, 1, .inr (.inl (vp_updL of_ 0 0))))] H := hP
  have hD : va_D A [(ou, .inl (co, 1, .inr (.inl (vp_updL of_ 0 0))))] := hD
  refine lv_goto (tgt := 23) hx hb dL_order_12 (by decide) ?_
  refine lv_iconst (v := 0) hx hb dL_order_23 (by decide) ?_
  refine W.widen (k := 4) (n := 31) (Nat.le_of_ble_eq_true rfl) (Nat.le_of_ble_eq_true rfl) ?_
  exact W.iret (v := 0) hx hb hr (fun t ht hW => ⟨⟨0, (), rfl, rfl, kB_end (w9 := [(ou, .inl (co, 1, .inr (.inl (vp_updL of_ 0 0))))]) (t9 := []) hP hK hD [0] [] rfl (by decide) rfl rfl t ht hW⟩, hS.F ht⟩) hS.2.2 dL_order_24
abbrev wd_k_l_order_s3 (z : Nat → Nat) (sh : Nat) (rg : Nat) (mf : Nat) (mm : Nat) (mz : Nat) (ma : Nat) (sa : Nat) (s0 : Nat) (s1 : Nat) (s2 : Nat) (s3 : Nat) (s4 : Nat) (s5 : Nat) (s6 : Nat) (s7 : Nat) (s8 : Nat) (dk : Nat) (w0 : Nat) (w1 : Nat) (ol : Nat) (hd : Nat) (lg : Nat) (pl : Nat) (pr : Nat) (cS : ClassId) (x : Nat) (tl : Nat) (tw : Nat) (p2 : Int32) (ou : Nat) (co : ClassId) (of_ : Nat → Int64) : va_W := [(x, .inr (15, [.ref sh, .ref tl, .ref tw, .int 0])), (tl, .inr (3, [.int 0, .ref (z 0), .int 0])), (sh, .inr (13, [.ref rg, .ref dk, .ref hd, .ref lg, .ref pl, .ref pr, .int 0, .int 0, .int 0, .int 0, .int 0, .int 0, .int 0, .int 0, .int 0, .int 0, .int 0])), (dk, .inr (4, [.ref w0, .ref w1, .ref ol, .int 0, .int 0, .int 0, .int 0])), (ol, .inr (3, [.int 0, .ref (z 0), .int 0])), (rg, .inr (11, [.ref mf, .ref mm, .ref mz, .ref ma, .ref sa, .int 0])), (sa, .inl (cS, 9, .inr (.inr (.inr (.inr (va_up (va_up (va_up (va_up (va_up (va_up (va_up (va_up (va_up (fun _ => none) 0 (some s0)) 1 (some s1)) 2 (some s2)) 3 (some s3)) 4 (some s4)) 5 (some s5)) 6 (some s6)) 7 (some s7)) 8 (some s8))))))), (s3, .inr (12, [.int 10, .int 8, .ref mm, .int 1, .int 0, .int 900, .int 0, .int 0])), (ou, .inl (co, 1, .inr (.inl of_)))]
set_option maxHeartbeats 4000000 in
set_option maxRecDepth 100000 in
theorem k_l_order_s3 (l : Launch) (dC : Nat → ClassId) (dI : Nat → Nat → Nat) (z zK zV : Nat → Nat) (sh : Nat) (rg : Nat) (mf : Nat) (mm : Nat) (mz : Nat) (ma : Nat) (sa : Nat) (s0 : Nat) (s1 : Nat) (s2 : Nat) (s3 : Nat) (s4 : Nat) (s5 : Nat) (s6 : Nat) (s7 : Nat) (s8 : Nat) (dk : Nat) (w0 : Nat) (w1 : Nat) (ol : Nat) (hd : Nat) (lg : Nat) (pl : Nat) (pr : Nat) (cS : ClassId) (x : Nat) (tl : Nat) (tw : Nat) (p2 : Int32) (ou : Nat) (co : ClassId) (of_ : Nat → Int64) (sz : Nat) (hg0 : (0 : Int32) ≤ p2 ∧ p2 ≤ 2) : Met l yL_order wsL_order ({ frames := 9, cells := 4, slots := 31, locals := 191 }) (kP dC dI z zK zV [.ref x, .int 115, .int 3, .int p2, .ref ou] sz (wd_k_l_order_s3 z sh rg mf mm mz ma sa s0 s1 s2 s3 s4 s5 s6 s7 s8 dk w0 w1 ol hd lg pl pr cS x tl tw p2 ou co of_) [(cS, .object RX8), (co, .long)]) (va_Qi (fun (r : Int32) (_ : Unit) => 0 = r) (fun _ t => kB (dC, dI) (va_A (wd_k_l_order_s3 z sh rg mf mm mz ma sa s0 s1 s2 s3 s4 s5 s6 s7 s8 dk w0 w1 ol hd lg pl pr cS x tl tw p2 ou co of_) sz) [(ou, .inl (co, 1, .inr (.inl (vp_updL of_ 0 0))))] [] t) (va_A (wd_k_l_order_s3 z sh rg mf mm mz ma sa s0 s1 s2 s3 s4 s5 s6 s7 s8 dk w0 w1 ol hd lg pl pr cS x tl tw p2 ou co of_) sz)) 4 31 (va_A (wd_k_l_order_s3 z sh rg mf mm mz ma sa s0 s1 s2 s3 s4 s5 s6 s7 s8 dk w0 w1 ol hd lg pl pr cS x tl tw p2 ou co of_) sz) := by
  refine va_MetW (hh := [(0, 12, 15, 13), (0, 12, 19, 27)]) (cc := cL_order) (maxL := 6) (ret := (some .int)) (by decide) rfl ?_
  intro p e s m args below meth c s₁ B hml hv
  obtain ⟨rfl, hsz, hP, hK, hD0, hM⟩ := hv
  have hx := B.exec
  have hb := B.bytes
  have hr := B.returns
  have hts := atoms_spec (ws := wsL_order) B.pre
  have hown : s.vm.findClass RL = some m.cls := findClass_of_methodNamed B.named
  have hlocks := B.notSynchronized
  have htab := vx_table (x := yL_order) B (hts _ List.mem_cons_self)
  subst hsz
  have hD := hD0.self (sz := s.heap.size)
  generalize hAe : va_A (wd_k_l_order_s3 z sh rg mf mm mz ma sa s0 s1 s2 s3 s4 s5 s6 s7 s8 dk w0 w1 ol hd lg pl pr cS x tl tw p2 ou co of_) s.heap.size = A at hD hM ⊢
  have hA : ∀ q : Nat, s.heap.size ≤ q → A q := fun q h => by rw [← hAe]; exact Or.inr h
  have hS : va_S A s.heap s.heap [] := va_S.rf
  have hP : va_P (dC, dI) vwCl [(x, .inr (15, [.ref sh, .ref tl, .ref tw, .int 0])), (tl, .inr (3, [.int 0, .ref (z 0), .int 0])), (sh, .inr (13, [.ref rg, .ref dk, .ref hd, .ref lg, .ref pl, .ref pr, .int 0, .int 0, .int 0, .int 0, .int 0, .int 0, .int 0, .int 0, .int 0, .int 0, .int 0])), (dk, .inr (4, [.ref w0, .ref w1, .ref ol, .int 0, .int 0, .int 0, .int 0])), (ol, .inr (3, [.int 0, .ref (z 0), .int 0])), (rg, .inr (11, [.ref mf, .ref mm, .ref mz, .ref ma, .ref sa, .int 0])), (sa, .inl (cS, 9, .inr (.inr (.inr (.inr (va_up (va_up (va_up (va_up (va_up (va_up (va_up (va_up (va_up (fun _ => none) 0 (some s0)) 1 (some s1)) 2 (some s2)) 3 (some s3)) 4 (some s4)) 5 (some s5)) 6 (some s6)) 7 (some s7)) 8 (some s8))))))), (s3, .inr (12, [.int 10, .int 8, .ref mm, .int 1, .int 0, .int 900, .int 0, .int 0])), (ou, .inl (co, 1, .inr (.inl of_)))] s.heap := hP
  have hD : va_D A [(x, .inr (15, [.ref sh, .ref tl, .ref tw, .int 0])), (tl, .inr (3, [.int 0, .ref (z 0), .int 0])), (sh, .inr (13, [.ref rg, .ref dk, .ref hd, .ref lg, .ref pl, .ref pr, .int 0, .int 0, .int 0, .int 0, .int 0, .int 0, .int 0, .int 0, .int 0, .int 0, .int 0])), (dk, .inr (4, [.ref w0, .ref w1, .ref ol, .int 0, .int 0, .int 0, .int 0])), (ol, .inr (3, [.int 0, .ref (z 0), .int 0])), (rg, .inr (11, [.ref mf, .ref mm, .ref mz, .ref ma, .ref sa, .int 0])), (sa, .inl (cS, 9, .inr (.inr (.inr (.inr (va_up (va_up (va_up (va_up (va_up (va_up (va_up (va_up (va_up (fun _ => none) 0 (some s0)) 1 (some s1)) 2 (some s2)) 3 (some s3)) 4 (some s4)) 5 (some s5)) 6 (some s6)) 7 (some s7)) 8 (some s8))))))), (s3, .inr (12, [.int 10, .int 8, .ref mm, .int 1, .int 0, .int 900, .int 0, .int 0])), (ou, .inl (co, 1, .inr (.inl of_)))] := hD
  have hl := lv_entry ([.ref x, .int 115, .int 3, .int p2, .ref ou]) (n := 6) (Nat.le_of_ble_eq_true rfl)
  rw [lg_entry_eq]
  generalize (lg_sl ([.ref x, .int 115, .int 3, .int p2, .ref ou]) ++ List.replicate (6 - (lg_sl ([.ref x, .int 115, .int 3, .int p2, .ref ou])).length) Slot.unset).toArray = ls at hl ⊢
  have hl : lv_has ls 6 [(0, .ref x), (1, .int 115), (2, .int 3), (3, .int p2), (4, .ref ou)] := hl
  refine lv_aload hx hb dL_order_0 (lv_at hl 4 rfl) ?_
  refine lv_iconst (v := 0) hx hb dL_order_2 (by decide) ?_
  refine lv_aload_n hx hb dL_order_3 rfl (lv_at hl 0 rfl) ?_
  refine lv_iload_n hx hb dL_order_4 rfl (lv_at hl 1 rfl) ?_
  refine lv_iload_n hx hb dL_order_5 rfl (lv_at hl 2 rfl) ?_
  refine lv_iload_n hx hb dL_order_6 rfl (lv_at hl 3 rfl) ?_
  have hPc := hP.sub (ws' := [(x, .inr (15, [.ref sh, .ref tl, .ref tw, .int 0])), (tl, .inr (3, [.int 0, .ref (z 0), .int 0])), (sh, .inr (13, [.ref rg, .ref dk, .ref hd, .ref lg, .ref pl, .ref pr, .int 0, .int 0, .int 0, .int 0, .int 0, .int 0, .int 0, .int 0, .int 0, .int 0, .int 0])), (dk, .inr (4, [.ref w0, .ref w1, .ref ol, .int 0, .int 0, .int 0, .int 0])), (ol, .inr (3, [.int 0, .ref (z 0), .int 0])), (rg, .inr (11, [.ref mf, .ref mm, .ref mz, .ref ma, .ref sa, .int 0])), (sa, .inl (cS, 9, .inr (.inr (.inr (.inr (va_up (va_up (va_up (va_up (va_up (va_up (va_up (va_up (va_up (fun _ => none) 0 (some s0)) 1 (some s1)) 2 (some s2)) 3 (some s3)) 4 (some s4)) 5 (some s5)) 6 (some s6)) 7 (some s7)) 8 (some s8))))))), (s3, .inr (12, [.int 10, .int 8, .ref mm, .int 1, .int 0, .int 900, .int 0, .int 0]))]) [0, 1, 2, 3, 4, 5, 6, 7] rfl
  have hDc := hD.sub (ws' := [(x, .inr (15, [.ref sh, .ref tl, .ref tw, .int 0])), (tl, .inr (3, [.int 0, .ref (z 0), .int 0])), (sh, .inr (13, [.ref rg, .ref dk, .ref hd, .ref lg, .ref pl, .ref pr, .int 0, .int 0, .int 0, .int 0, .int 0, .int 0, .int 0, .int 0, .int 0, .int 0, .int 0])), (dk, .inr (4, [.ref w0, .ref w1, .ref ol, .int 0, .int 0, .int 0, .int 0])), (ol, .inr (3, [.int 0, .ref (z 0), .int 0])), (rg, .inr (11, [.ref mf, .ref mm, .ref mz, .ref ma, .ref sa, .int 0])), (sa, .inl (cS, 9, .inr (.inr (.inr (.inr (va_up (va_up (va_up (va_up (va_up (va_up (va_up (va_up (va_up (fun _ => none) 0 (some s0)) 1 (some s1)) 2 (some s2)) 3 (some s3)) 4 (some s4)) 5 (some s5)) 6 (some s6)) 7 (some s7)) 8 (some s8))))))), (s3, .inr (12, [.int 10, .int 8, .ref mm, .int 1, .int 0, .int 900, .int 0, .int 0]))]) [0, 1, 2, 3, 4, 5, 6, 7] (by decide) rfl
  have hKc := hK.sub (tys' := [(cS, .object RX8)]) [0] rfl
  have hFc := va_free (wc := [(x, .inr (15, [.ref sh, .ref tl, .ref tw, .int 0])), (tl, .inr (3, [.int 0, .ref (z 0), .int 0])), (sh, .inr (13, [.ref rg, .ref dk, .ref hd, .ref lg, .ref pl, .ref pr, .int 0, .int 0, .int 0, .int 0, .int 0, .int 0, .int 0, .int 0, .int 0, .int 0, .int 0])), (dk, .inr (4, [.ref w0, .ref w1, .ref ol, .int 0, .int 0, .int 0, .int 0])), (ol, .inr (3, [.int 0, .ref (z 0), .int 0])), (rg, .inr (11, [.ref mf, .ref mm, .ref mz, .ref ma, .ref sa, .int 0])), (sa, .inl (cS, 9, .inr (.inr (.inr (.inr (va_up (va_up (va_up (va_up (va_up (va_up (va_up (va_up (va_up (fun _ => none) 0 (some s0)) 1 (some s1)) 2 (some s2)) 3 (some s3)) 4 (some s4)) 5 (some s5)) 6 (some s6)) 7 (some s7)) 8 (some s8))))))), (s3, .inr (12, [.int 10, .int 8, .ref mm, .int 1, .int 0, .int 900, .int 0, .int 0]))]) hD hS hA [0, 1, 2, 3, 4, 5, 6, 7] rfl
  refine va_calli (va_runV (As := [.int 115, .int 3, .int p2]) (rest := [.int 0, .ref ou]) ⟨hx, hb, hml, hown, hts⟩ (k_x_order_s3 l dC dI z zK zV sh rg mf mm mz ma sa s0 s1 s2 s3 s4 s5 s6 s7 s8 dk w0 w1 ol hd lg pl pr cS x tl tw p2 s.heap.size (hg0)) (cwV 3 hts gL_order_X11_order rfl rfl rfl (by decide +kernel) ⟨Nat.le_of_ble_eq_true rfl, Nat.le_of_ble_eq_true rfl⟩) ⟨kP_blind, va_recv hKc hPc (ci := 15) (q0 := 0) rfl rfl, kP_go hPc hKc hDc hFc hM hS⟩ rfl rfl hl.1 rfl (lv_room (Nat.le_of_ble_eq_true rfl)) dL_order_7 ⟨Nat.le_of_ble_eq_true rfl, Nat.le_of_ble_eq_true rfl⟩) hS (fun q _ h => hFc q h) hFc (fun r1 u t H1 locs ht hvm hw hB hz1 hk1 hS => ?_)
  obtain ⟨hP, hD, hK⟩ := kJ (wr := [(ou, .inl (co, 1, .inr (.inl of_)))]) (w1 := []) (t1 := []) hP hD hK [0, 1, 2, 3, 4, 5, 6, 7] [8] rfl rfl (by decide) (by decide) hk1 hFc ht hvm hB
  generalize H1 = H at hP hS ⊢
  have hP : va_P (dC, dI) vwCl [(ou, .inl (co, 1, .inr (.inl of_)))] H := hP
  have hD : va_D A [(ou, .inl (co, 1, .inr (.inl of_)))] := hD
  have hK : va_K (dC, dI) vwCl [(cS, .object RX8), (co, .long)] s := hK
  obtain rfl : 0 = r1 := hw
  refine lv_i2l (v := 0) hx hb dL_order_10 (by decide +kernel) ?_
  refine va_last hx hb hK hP hD hS 0 1 rfl rfl (pk_in 0 1 (by decide) rfl) dL_order_11 (fun H locs hP hD hS => ?_)
  have hP : va_P (dC, dI) vwCl [(ou, .inl (co, 1, .inr (.inl (vp_updL of_ 0 0))))] H := hP
  have hD : va_D A [(ou, .inl (co, 1, .inr (.inl (vp_updL of_ 0 0))))] := hD
  refine lv_goto (tgt := 23) hx hb dL_order_12 (by decide) ?_
  refine lv_iconst (v := 0) hx hb dL_order_23 (by decide) ?_
  refine W.widen (k := 4) (n := 31) (Nat.le_of_ble_eq_true rfl) (Nat.le_of_ble_eq_true rfl) ?_
  exact W.iret (v := 0) hx hb hr (fun t ht hW => ⟨⟨0, (), rfl, rfl, kB_end (w9 := [(ou, .inl (co, 1, .inr (.inl (vp_updL of_ 0 0))))]) (t9 := []) hP hK hD [0] [] rfl (by decide) rfl rfl t ht hW⟩, hS.F ht⟩) hS.2.2 dL_order_24
abbrev wd_k_l_order_s4 (z : Nat → Nat) (sh : Nat) (rg : Nat) (mf : Nat) (mm : Nat) (mz : Nat) (ma : Nat) (sa : Nat) (s0 : Nat) (s1 : Nat) (s2 : Nat) (s3 : Nat) (s4 : Nat) (s5 : Nat) (s6 : Nat) (s7 : Nat) (s8 : Nat) (dk : Nat) (w0 : Nat) (w1 : Nat) (ol : Nat) (hd : Nat) (lg : Nat) (pl : Nat) (pr : Nat) (cS : ClassId) (x : Nat) (tl : Nat) (tw : Nat) (p2 : Int32) (ou : Nat) (co : ClassId) (of_ : Nat → Int64) : va_W := [(x, .inr (15, [.ref sh, .ref tl, .ref tw, .int 0])), (tl, .inr (3, [.int 0, .ref (z 0), .int 0])), (sh, .inr (13, [.ref rg, .ref dk, .ref hd, .ref lg, .ref pl, .ref pr, .int 0, .int 0, .int 0, .int 0, .int 0, .int 0, .int 0, .int 0, .int 0, .int 0, .int 0])), (dk, .inr (4, [.ref w0, .ref w1, .ref ol, .int 0, .int 0, .int 0, .int 0])), (ol, .inr (3, [.int 0, .ref (z 0), .int 0])), (rg, .inr (11, [.ref mf, .ref mm, .ref mz, .ref ma, .ref sa, .int 0])), (sa, .inl (cS, 9, .inr (.inr (.inr (.inr (va_up (va_up (va_up (va_up (va_up (va_up (va_up (va_up (va_up (fun _ => none) 0 (some s0)) 1 (some s1)) 2 (some s2)) 3 (some s3)) 4 (some s4)) 5 (some s5)) 6 (some s6)) 7 (some s7)) 8 (some s8))))))), (s4, .inr (12, [.int 9, .int 6, .ref mm, .int 1, .int 0, .int 900, .int 0, .int 0])), (ou, .inl (co, 1, .inr (.inl of_)))]
set_option maxHeartbeats 4000000 in
set_option maxRecDepth 100000 in
theorem k_l_order_s4 (l : Launch) (dC : Nat → ClassId) (dI : Nat → Nat → Nat) (z zK zV : Nat → Nat) (sh : Nat) (rg : Nat) (mf : Nat) (mm : Nat) (mz : Nat) (ma : Nat) (sa : Nat) (s0 : Nat) (s1 : Nat) (s2 : Nat) (s3 : Nat) (s4 : Nat) (s5 : Nat) (s6 : Nat) (s7 : Nat) (s8 : Nat) (dk : Nat) (w0 : Nat) (w1 : Nat) (ol : Nat) (hd : Nat) (lg : Nat) (pl : Nat) (pr : Nat) (cS : ClassId) (x : Nat) (tl : Nat) (tw : Nat) (p2 : Int32) (ou : Nat) (co : ClassId) (of_ : Nat → Int64) (sz : Nat) (hg0 : (0 : Int32) ≤ p2 ∧ p2 ≤ 2) : Met l yL_order wsL_order ({ frames := 9, cells := 4, slots := 31, locals := 191 }) (kP dC dI z zK zV [.ref x, .int 115, .int 4, .int p2, .ref ou] sz (wd_k_l_order_s4 z sh rg mf mm mz ma sa s0 s1 s2 s3 s4 s5 s6 s7 s8 dk w0 w1 ol hd lg pl pr cS x tl tw p2 ou co of_) [(cS, .object RX8), (co, .long)]) (va_Qi (fun (r : Int32) (_ : Unit) => 0 = r) (fun _ t => kB (dC, dI) (va_A (wd_k_l_order_s4 z sh rg mf mm mz ma sa s0 s1 s2 s3 s4 s5 s6 s7 s8 dk w0 w1 ol hd lg pl pr cS x tl tw p2 ou co of_) sz) [(ou, .inl (co, 1, .inr (.inl (vp_updL of_ 0 0))))] [] t) (va_A (wd_k_l_order_s4 z sh rg mf mm mz ma sa s0 s1 s2 s3 s4 s5 s6 s7 s8 dk w0 w1 ol hd lg pl pr cS x tl tw p2 ou co of_) sz)) 4 31 (va_A (wd_k_l_order_s4 z sh rg mf mm mz ma sa s0 s1 s2 s3 s4 s5 s6 s7 s8 dk w0 w1 ol hd lg pl pr cS x tl tw p2 ou co of_) sz) := by
  refine va_MetW (hh := [(0, 12, 15, 13), (0, 12, 19, 27)]) (cc := cL_order) (maxL := 6) (ret := (some .int)) (by decide) rfl ?_
  intro p e s m args below meth c s₁ B hml hv
  obtain ⟨rfl, hsz, hP, hK, hD0, hM⟩ := hv
  have hx := B.exec
  have hb := B.bytes
  have hr := B.returns
  have hts := atoms_spec (ws := wsL_order) B.pre
  have hown : s.vm.findClass RL = some m.cls := findClass_of_methodNamed B.named
  have hlocks := B.notSynchronized
  have htab := vx_table (x := yL_order) B (hts _ List.mem_cons_self)
  subst hsz
  have hD := hD0.self (sz := s.heap.size)
  generalize hAe : va_A (wd_k_l_order_s4 z sh rg mf mm mz ma sa s0 s1 s2 s3 s4 s5 s6 s7 s8 dk w0 w1 ol hd lg pl pr cS x tl tw p2 ou co of_) s.heap.size = A at hD hM ⊢
  have hA : ∀ q : Nat, s.heap.size ≤ q → A q := fun q h => by rw [← hAe]; exact Or.inr h
  have hS : va_S A s.heap s.heap [] := va_S.rf
  have hP : va_P (dC, dI) vwCl [(x, .inr (15, [.ref sh, .ref tl, .ref tw, .int 0])), (tl, .inr (3, [.int 0, .ref (z 0), .int 0])), (sh, .inr (13, [.ref rg, .ref dk, .ref hd, .ref lg, .ref pl, .ref pr, .int 0, .int 0, .int 0, .int 0, .int 0, .int 0, .int 0, .int 0, .int 0, .int 0, .int 0])), (dk, .inr (4, [.ref w0, .ref w1, .ref ol, .int 0, .int 0, .int 0, .int 0])), (ol, .inr (3, [.int 0, .ref (z 0), .int 0])), (rg, .inr (11, [.ref mf, .ref mm, .ref mz, .ref ma, .ref sa, .int 0])), (sa, .inl (cS, 9, .inr (.inr (.inr (.inr (va_up (va_up (va_up (va_up (va_up (va_up (va_up (va_up (va_up (fun _ => none) 0 (some s0)) 1 (some s1)) 2 (some s2)) 3 (some s3)) 4 (some s4)) 5 (some s5)) 6 (some s6)) 7 (some s7)) 8 (some s8))))))), (s4, .inr (12, [.int 9, .int 6, .ref mm, .int 1, .int 0, .int 900, .int 0, .int 0])), (ou, .inl (co, 1, .inr (.inl of_)))] s.heap := hP
  have hD : va_D A [(x, .inr (15, [.ref sh, .ref tl, .ref tw, .int 0])), (tl, .inr (3, [.int 0, .ref (z 0), .int 0])), (sh, .inr (13, [.ref rg, .ref dk, .ref hd, .ref lg, .ref pl, .ref pr, .int 0, .int 0, .int 0, .int 0, .int 0, .int 0, .int 0, .int 0, .int 0, .int 0, .int 0])), (dk, .inr (4, [.ref w0, .ref w1, .ref ol, .int 0, .int 0, .int 0, .int 0])), (ol, .inr (3, [.int 0, .ref (z 0), .int 0])), (rg, .inr (11, [.ref mf, .ref mm, .ref mz, .ref ma, .ref sa, .int 0])), (sa, .inl (cS, 9, .inr (.inr (.inr (.inr (va_up (va_up (va_up (va_up (va_up (va_up (va_up (va_up (va_up (fun _ => none) 0 (some s0)) 1 (some s1)) 2 (some s2)) 3 (some s3)) 4 (some s4)) 5 (some s5)) 6 (some s6)) 7 (some s7)) 8 (some s8))))))), (s4, .inr (12, [.int 9, .int 6, .ref mm, .int 1, .int 0, .int 900, .int 0, .int 0])), (ou, .inl (co, 1, .inr (.inl of_)))] := hD
  have hl := lv_entry ([.ref x, .int 115, .int 4, .int p2, .ref ou]) (n := 6) (Nat.le_of_ble_eq_true rfl)
  rw [lg_entry_eq]
  generalize (lg_sl ([.ref x, .int 115, .int 4, .int p2, .ref ou]) ++ List.replicate (6 - (lg_sl ([.ref x, .int 115, .int 4, .int p2, .ref ou])).length) Slot.unset).toArray = ls at hl ⊢
  have hl : lv_has ls 6 [(0, .ref x), (1, .int 115), (2, .int 4), (3, .int p2), (4, .ref ou)] := hl
  refine lv_aload hx hb dL_order_0 (lv_at hl 4 rfl) ?_
  refine lv_iconst (v := 0) hx hb dL_order_2 (by decide) ?_
  refine lv_aload_n hx hb dL_order_3 rfl (lv_at hl 0 rfl) ?_
  refine lv_iload_n hx hb dL_order_4 rfl (lv_at hl 1 rfl) ?_
  refine lv_iload_n hx hb dL_order_5 rfl (lv_at hl 2 rfl) ?_
  refine lv_iload_n hx hb dL_order_6 rfl (lv_at hl 3 rfl) ?_
  have hPc := hP.sub (ws' := [(x, .inr (15, [.ref sh, .ref tl, .ref tw, .int 0])), (tl, .inr (3, [.int 0, .ref (z 0), .int 0])), (sh, .inr (13, [.ref rg, .ref dk, .ref hd, .ref lg, .ref pl, .ref pr, .int 0, .int 0, .int 0, .int 0, .int 0, .int 0, .int 0, .int 0, .int 0, .int 0, .int 0])), (dk, .inr (4, [.ref w0, .ref w1, .ref ol, .int 0, .int 0, .int 0, .int 0])), (ol, .inr (3, [.int 0, .ref (z 0), .int 0])), (rg, .inr (11, [.ref mf, .ref mm, .ref mz, .ref ma, .ref sa, .int 0])), (sa, .inl (cS, 9, .inr (.inr (.inr (.inr (va_up (va_up (va_up (va_up (va_up (va_up (va_up (va_up (va_up (fun _ => none) 0 (some s0)) 1 (some s1)) 2 (some s2)) 3 (some s3)) 4 (some s4)) 5 (some s5)) 6 (some s6)) 7 (some s7)) 8 (some s8))))))), (s4, .inr (12, [.int 9, .int 6, .ref mm, .int 1, .int 0, .int 900, .int 0, .int 0]))]) [0, 1, 2, 3, 4, 5, 6, 7] rfl
  have hDc := hD.sub (ws' := [(x, .inr (15, [.ref sh, .ref tl, .ref tw, .int 0])), (tl, .inr (3, [.int 0, .ref (z 0), .int 0])), (sh, .inr (13, [.ref rg, .ref dk, .ref hd, .ref lg, .ref pl, .ref pr, .int 0, .int 0, .int 0, .int 0, .int 0, .int 0, .int 0, .int 0, .int 0, .int 0, .int 0])), (dk, .inr (4, [.ref w0, .ref w1, .ref ol, .int 0, .int 0, .int 0, .int 0])), (ol, .inr (3, [.int 0, .ref (z 0), .int 0])), (rg, .inr (11, [.ref mf, .ref mm, .ref mz, .ref ma, .ref sa, .int 0])), (sa, .inl (cS, 9, .inr (.inr (.inr (.inr (va_up (va_up (va_up (va_up (va_up (va_up (va_up (va_up (va_up (fun _ => none) 0 (some s0)) 1 (some s1)) 2 (some s2)) 3 (some s3)) 4 (some s4)) 5 (some s5)) 6 (some s6)) 7 (some s7)) 8 (some s8))))))), (s4, .inr (12, [.int 9, .int 6, .ref mm, .int 1, .int 0, .int 900, .int 0, .int 0]))]) [0, 1, 2, 3, 4, 5, 6, 7] (by decide) rfl
  have hKc := hK.sub (tys' := [(cS, .object RX8)]) [0] rfl
  have hFc := va_free (wc := [(x, .inr (15, [.ref sh, .ref tl, .ref tw, .int 0])), (tl, .inr (3, [.int 0, .ref (z 0), .int 0])), (sh, .inr (13, [.ref rg, .ref dk, .ref hd, .ref lg, .ref pl, .ref pr, .int 0, .int 0, .int 0, .int 0, .int 0, .int 0, .int 0, .int 0, .int 0, .int 0, .int 0])), (dk, .inr (4, [.ref w0, .ref w1, .ref ol, .int 0, .int 0, .int 0, .int 0])), (ol, .inr (3, [.int 0, .ref (z 0), .int 0])), (rg, .inr (11, [.ref mf, .ref mm, .ref mz, .ref ma, .ref sa, .int 0])), (sa, .inl (cS, 9, .inr (.inr (.inr (.inr (va_up (va_up (va_up (va_up (va_up (va_up (va_up (va_up (va_up (fun _ => none) 0 (some s0)) 1 (some s1)) 2 (some s2)) 3 (some s3)) 4 (some s4)) 5 (some s5)) 6 (some s6)) 7 (some s7)) 8 (some s8))))))), (s4, .inr (12, [.int 9, .int 6, .ref mm, .int 1, .int 0, .int 900, .int 0, .int 0]))]) hD hS hA [0, 1, 2, 3, 4, 5, 6, 7] rfl
  refine va_calli (va_runV (As := [.int 115, .int 4, .int p2]) (rest := [.int 0, .ref ou]) ⟨hx, hb, hml, hown, hts⟩ (k_x_order_s4 l dC dI z zK zV sh rg mf mm mz ma sa s0 s1 s2 s3 s4 s5 s6 s7 s8 dk w0 w1 ol hd lg pl pr cS x tl tw p2 s.heap.size (hg0)) (cwV 3 hts gL_order_X11_order rfl rfl rfl (by decide +kernel) ⟨Nat.le_of_ble_eq_true rfl, Nat.le_of_ble_eq_true rfl⟩) ⟨kP_blind, va_recv hKc hPc (ci := 15) (q0 := 0) rfl rfl, kP_go hPc hKc hDc hFc hM hS⟩ rfl rfl hl.1 rfl (lv_room (Nat.le_of_ble_eq_true rfl)) dL_order_7 ⟨Nat.le_of_ble_eq_true rfl, Nat.le_of_ble_eq_true rfl⟩) hS (fun q _ h => hFc q h) hFc (fun r1 u t H1 locs ht hvm hw hB hz1 hk1 hS => ?_)
  obtain ⟨hP, hD, hK⟩ := kJ (wr := [(ou, .inl (co, 1, .inr (.inl of_)))]) (w1 := []) (t1 := []) hP hD hK [0, 1, 2, 3, 4, 5, 6, 7] [8] rfl rfl (by decide) (by decide) hk1 hFc ht hvm hB
  generalize H1 = H at hP hS ⊢
  have hP : va_P (dC, dI) vwCl [(ou, .inl (co, 1, .inr (.inl of_)))] H := hP
  have hD : va_D A [(ou, .inl (co, 1, .inr (.inl of_)))] := hD
  have hK : va_K (dC, dI) vwCl [(cS, .object RX8), (co, .long)] s := hK
  obtain rfl : 0 = r1 := hw
  refine lv_i2l (v := 0) hx hb dL_order_10 (by decide +kernel) ?_
  refine va_last hx hb hK hP hD hS 0 1 rfl rfl (pk_in 0 1 (by decide) rfl) dL_order_11 (fun H locs hP hD hS => ?_)
  have hP : va_P (dC, dI) vwCl [(ou, .inl (co, 1, .inr (.inl (vp_updL of_ 0 0))))] H := hP
  have hD : va_D A [(ou, .inl (co, 1, .inr (.inl (vp_updL of_ 0 0))))] := hD
  refine lv_goto (tgt := 23) hx hb dL_order_12 (by decide) ?_
  refine lv_iconst (v := 0) hx hb dL_order_23 (by decide) ?_
  refine W.widen (k := 4) (n := 31) (Nat.le_of_ble_eq_true rfl) (Nat.le_of_ble_eq_true rfl) ?_
  exact W.iret (v := 0) hx hb hr (fun t ht hW => ⟨⟨0, (), rfl, rfl, kB_end (w9 := [(ou, .inl (co, 1, .inr (.inl (vp_updL of_ 0 0))))]) (t9 := []) hP hK hD [0] [] rfl (by decide) rfl rfl t ht hW⟩, hS.F ht⟩) hS.2.2 dL_order_24
abbrev wd_k_l_order_s5 (z : Nat → Nat) (sh : Nat) (rg : Nat) (mf : Nat) (mm : Nat) (mz : Nat) (ma : Nat) (sa : Nat) (s0 : Nat) (s1 : Nat) (s2 : Nat) (s3 : Nat) (s4 : Nat) (s5 : Nat) (s6 : Nat) (s7 : Nat) (s8 : Nat) (dk : Nat) (w0 : Nat) (w1 : Nat) (ol : Nat) (hd : Nat) (lg : Nat) (pl : Nat) (pr : Nat) (cS : ClassId) (x : Nat) (tl : Nat) (tw : Nat) (p2 : Int32) (ou : Nat) (co : ClassId) (of_ : Nat → Int64) : va_W := [(x, .inr (15, [.ref sh, .ref tl, .ref tw, .int 0])), (tl, .inr (3, [.int 0, .ref (z 0), .int 0])), (sh, .inr (13, [.ref rg, .ref dk, .ref hd, .ref lg, .ref pl, .ref pr, .int 0, .int 0, .int 0, .int 0, .int 0, .int 0, .int 0, .int 0, .int 0, .int 0, .int 0])), (dk, .inr (4, [.ref w0, .ref w1, .ref ol, .int 0, .int 0, .int 0, .int 0])), (ol, .inr (3, [.int 0, .ref (z 0), .int 0])), (rg, .inr (11, [.ref mf, .ref mm, .ref mz, .ref ma, .ref sa, .int 0])), (sa, .inl (cS, 9, .inr (.inr (.inr (.inr (va_up (va_up (va_up (va_up (va_up (va_up (va_up (va_up (va_up (fun _ => none) 0 (some s0)) 1 (some s1)) 2 (some s2)) 3 (some s3)) 4 (some s4)) 5 (some s5)) 6 (some s6)) 7 (some s7)) 8 (some s8))))))), (s5, .inr (12, [.int 4, .int 3, .ref mm, .int 1, .int 0, .int 900, .int 0, .int 0])), (ou, .inl (co, 1, .inr (.inl of_)))]
set_option maxHeartbeats 4000000 in
set_option maxRecDepth 100000 in
theorem k_l_order_s5 (l : Launch) (dC : Nat → ClassId) (dI : Nat → Nat → Nat) (z zK zV : Nat → Nat) (sh : Nat) (rg : Nat) (mf : Nat) (mm : Nat) (mz : Nat) (ma : Nat) (sa : Nat) (s0 : Nat) (s1 : Nat) (s2 : Nat) (s3 : Nat) (s4 : Nat) (s5 : Nat) (s6 : Nat) (s7 : Nat) (s8 : Nat) (dk : Nat) (w0 : Nat) (w1 : Nat) (ol : Nat) (hd : Nat) (lg : Nat) (pl : Nat) (pr : Nat) (cS : ClassId) (x : Nat) (tl : Nat) (tw : Nat) (p2 : Int32) (ou : Nat) (co : ClassId) (of_ : Nat → Int64) (sz : Nat) (hg0 : (0 : Int32) ≤ p2 ∧ p2 ≤ 2) : Met l yL_order wsL_order ({ frames := 9, cells := 4, slots := 31, locals := 191 }) (kP dC dI z zK zV [.ref x, .int 115, .int 5, .int p2, .ref ou] sz (wd_k_l_order_s5 z sh rg mf mm mz ma sa s0 s1 s2 s3 s4 s5 s6 s7 s8 dk w0 w1 ol hd lg pl pr cS x tl tw p2 ou co of_) [(cS, .object RX8), (co, .long)]) (va_Qi (fun (r : Int32) (_ : Unit) => 0 = r) (fun _ t => kB (dC, dI) (va_A (wd_k_l_order_s5 z sh rg mf mm mz ma sa s0 s1 s2 s3 s4 s5 s6 s7 s8 dk w0 w1 ol hd lg pl pr cS x tl tw p2 ou co of_) sz) [(ou, .inl (co, 1, .inr (.inl (vp_updL of_ 0 0))))] [] t) (va_A (wd_k_l_order_s5 z sh rg mf mm mz ma sa s0 s1 s2 s3 s4 s5 s6 s7 s8 dk w0 w1 ol hd lg pl pr cS x tl tw p2 ou co of_) sz)) 4 31 (va_A (wd_k_l_order_s5 z sh rg mf mm mz ma sa s0 s1 s2 s3 s4 s5 s6 s7 s8 dk w0 w1 ol hd lg pl pr cS x tl tw p2 ou co of_) sz) := by
  refine va_MetW (hh := [(0, 12, 15, 13), (0, 12, 19, 27)]) (cc := cL_order) (maxL := 6) (ret := (some .int)) (by decide) rfl ?_
  intro p e s m args below meth c s₁ B hml hv
  obtain ⟨rfl, hsz, hP, hK, hD0, hM⟩ := hv
  have hx := B.exec
  have hb := B.bytes
  have hr := B.returns
  have hts := atoms_spec (ws := wsL_order) B.pre
  have hown : s.vm.findClass RL = some m.cls := findClass_of_methodNamed B.named
  have hlocks := B.notSynchronized
  have htab := vx_table (x := yL_order) B (hts _ List.mem_cons_self)
  subst hsz
  have hD := hD0.self (sz := s.heap.size)
  generalize hAe : va_A (wd_k_l_order_s5 z sh rg mf mm mz ma sa s0 s1 s2 s3 s4 s5 s6 s7 s8 dk w0 w1 ol hd lg pl pr cS x tl tw p2 ou co of_) s.heap.size = A at hD hM ⊢
  have hA : ∀ q : Nat, s.heap.size ≤ q → A q := fun q h => by rw [← hAe]; exact Or.inr h
  have hS : va_S A s.heap s.heap [] := va_S.rf
  have hP : va_P (dC, dI) vwCl [(x, .inr (15, [.ref sh, .ref tl, .ref tw, .int 0])), (tl, .inr (3, [.int 0, .ref (z 0), .int 0])), (sh, .inr (13, [.ref rg, .ref dk, .ref hd, .ref lg, .ref pl, .ref pr, .int 0, .int 0, .int 0, .int 0, .int 0, .int 0, .int 0, .int 0, .int 0, .int 0, .int 0])), (dk, .inr (4, [.ref w0, .ref w1, .ref ol, .int 0, .int 0, .int 0, .int 0])), (ol, .inr (3, [.int 0, .ref (z 0), .int 0])), (rg, .inr (11, [.ref mf, .ref mm, .ref mz, .ref ma, .ref sa, .int 0])), (sa, .inl (cS, 9, .inr (.inr (.inr (.inr (va_up (va_up (va_up (va_up (va_up (va_up (va_up (va_up (va_up (fun _ => none) 0 (some s0)) 1 (some s1)) 2 (some s2)) 3 (some s3)) 4 (some s4)) 5 (some s5)) 6 (some s6)) 7 (some s7)) 8 (some s8))))))), (s5, .inr (12, [.int 4, .int 3, .ref mm, .int 1, .int 0, .int 900, .int 0, .int 0])), (ou, .inl (co, 1, .inr (.inl of_)))] s.heap := hP
  have hD : va_D A [(x, .inr (15, [.ref sh, .ref tl, .ref tw, .int 0])), (tl, .inr (3, [.int 0, .ref (z 0), .int 0])), (sh, .inr (13, [.ref rg, .ref dk, .ref hd, .ref lg, .ref pl, .ref pr, .int 0, .int 0, .int 0, .int 0, .int 0, .int 0, .int 0, .int 0, .int 0, .int 0, .int 0])), (dk, .inr (4, [.ref w0, .ref w1, .ref ol, .int 0, .int 0, .int 0, .int 0])), (ol, .inr (3, [.int 0, .ref (z 0), .int 0])), (rg, .inr (11, [.ref mf, .ref mm, .ref mz, .ref ma, .ref sa, .int 0])), (sa, .inl (cS, 9, .inr (.inr (.inr (.inr (va_up (va_up (va_up (va_up (va_up (va_up (va_up (va_up (va_up (fun _ => none) 0 (some s0)) 1 (some s1)) 2 (some s2)) 3 (some s3)) 4 (some s4)) 5 (some s5)) 6 (some s6)) 7 (some s7)) 8 (some s8))))))), (s5, .inr (12, [.int 4, .int 3, .ref mm, .int 1, .int 0, .int 900, .int 0, .int 0])), (ou, .inl (co, 1, .inr (.inl of_)))] := hD
  have hl := lv_entry ([.ref x, .int 115, .int 5, .int p2, .ref ou]) (n := 6) (Nat.le_of_ble_eq_true rfl)
  rw [lg_entry_eq]
  generalize (lg_sl ([.ref x, .int 115, .int 5, .int p2, .ref ou]) ++ List.replicate (6 - (lg_sl ([.ref x, .int 115, .int 5, .int p2, .ref ou])).length) Slot.unset).toArray = ls at hl ⊢
  have hl : lv_has ls 6 [(0, .ref x), (1, .int 115), (2, .int 5), (3, .int p2), (4, .ref ou)] := hl
  refine lv_aload hx hb dL_order_0 (lv_at hl 4 rfl) ?_
  refine lv_iconst (v := 0) hx hb dL_order_2 (by decide) ?_
  refine lv_aload_n hx hb dL_order_3 rfl (lv_at hl 0 rfl) ?_
  refine lv_iload_n hx hb dL_order_4 rfl (lv_at hl 1 rfl) ?_
  refine lv_iload_n hx hb dL_order_5 rfl (lv_at hl 2 rfl) ?_
  refine lv_iload_n hx hb dL_order_6 rfl (lv_at hl 3 rfl) ?_
  have hPc := hP.sub (ws' := [(x, .inr (15, [.ref sh, .ref tl, .ref tw, .int 0])), (tl, .inr (3, [.int 0, .ref (z 0), .int 0])), (sh, .inr (13, [.ref rg, .ref dk, .ref hd, .ref lg, .ref pl, .ref pr, .int 0, .int 0, .int 0, .int 0, .int 0, .int 0, .int 0, .int 0, .int 0, .int 0, .int 0])), (dk, .inr (4, [.ref w0, .ref w1, .ref ol, .int 0, .int 0, .int 0, .int 0])), (ol, .inr (3, [.int 0, .ref (z 0), .int 0])), (rg, .inr (11, [.ref mf, .ref mm, .ref mz, .ref ma, .ref sa, .int 0])), (sa, .inl (cS, 9, .inr (.inr (.inr (.inr (va_up (va_up (va_up (va_up (va_up (va_up (va_up (va_up (va_up (fun _ => none) 0 (some s0)) 1 (some s1)) 2 (some s2)) 3 (some s3)) 4 (some s4)) 5 (some s5)) 6 (some s6)) 7 (some s7)) 8 (some s8))))))), (s5, .inr (12, [.int 4, .int 3, .ref mm, .int 1, .int 0, .int 900, .int 0, .int 0]))]) [0, 1, 2, 3, 4, 5, 6, 7] rfl
  have hDc := hD.sub (ws' := [(x, .inr (15, [.ref sh, .ref tl, .ref tw, .int 0])), (tl, .inr (3, [.int 0, .ref (z 0), .int 0])), (sh, .inr (13, [.ref rg, .ref dk, .ref hd, .ref lg, .ref pl, .ref pr, .int 0, .int 0, .int 0, .int 0, .int 0, .int 0, .int 0, .int 0, .int 0, .int 0, .int 0])), (dk, .inr (4, [.ref w0, .ref w1, .ref ol, .int 0, .int 0, .int 0, .int 0])), (ol, .inr (3, [.int 0, .ref (z 0), .int 0])), (rg, .inr (11, [.ref mf, .ref mm, .ref mz, .ref ma, .ref sa, .int 0])), (sa, .inl (cS, 9, .inr (.inr (.inr (.inr (va_up (va_up (va_up (va_up (va_up (va_up (va_up (va_up (va_up (fun _ => none) 0 (some s0)) 1 (some s1)) 2 (some s2)) 3 (some s3)) 4 (some s4)) 5 (some s5)) 6 (some s6)) 7 (some s7)) 8 (some s8))))))), (s5, .inr (12, [.int 4, .int 3, .ref mm, .int 1, .int 0, .int 900, .int 0, .int 0]))]) [0, 1, 2, 3, 4, 5, 6, 7] (by decide) rfl
  have hKc := hK.sub (tys' := [(cS, .object RX8)]) [0] rfl
  have hFc := va_free (wc := [(x, .inr (15, [.ref sh, .ref tl, .ref tw, .int 0])), (tl, .inr (3, [.int 0, .ref (z 0), .int 0])), (sh, .inr (13, [.ref rg, .ref dk, .ref hd, .ref lg, .ref pl, .ref pr, .int 0, .int 0, .int 0, .int 0, .int 0, .int 0, .int 0, .int 0, .int 0, .int 0, .int 0])), (dk, .inr (4, [.ref w0, .ref w1, .ref ol, .int 0, .int 0, .int 0, .int 0])), (ol, .inr (3, [.int 0, .ref (z 0), .int 0])), (rg, .inr (11, [.ref mf, .ref mm, .ref mz, .ref ma, .ref sa, .int 0])), (sa, .inl (cS, 9, .inr (.inr (.inr (.inr (va_up (va_up (va_up (va_up (va_up (va_up (va_up (va_up (va_up (fun _ => none) 0 (some s0)) 1 (some s1)) 2 (some s2)) 3 (some s3)) 4 (some s4)) 5 (some s5)) 6 (some s6)) 7 (some s7)) 8 (some s8))))))), (s5, .inr (12, [.int 4, .int 3, .ref mm, .int 1, .int 0, .int 900, .int 0, .int 0]))]) hD hS hA [0, 1, 2, 3, 4, 5, 6, 7] rfl
  refine va_calli (va_runV (As := [.int 115, .int 5, .int p2]) (rest := [.int 0, .ref ou]) ⟨hx, hb, hml, hown, hts⟩ (k_x_order_s5 l dC dI z zK zV sh rg mf mm mz ma sa s0 s1 s2 s3 s4 s5 s6 s7 s8 dk w0 w1 ol hd lg pl pr cS x tl tw p2 s.heap.size (hg0)) (cwV 3 hts gL_order_X11_order rfl rfl rfl (by decide +kernel) ⟨Nat.le_of_ble_eq_true rfl, Nat.le_of_ble_eq_true rfl⟩) ⟨kP_blind, va_recv hKc hPc (ci := 15) (q0 := 0) rfl rfl, kP_go hPc hKc hDc hFc hM hS⟩ rfl rfl hl.1 rfl (lv_room (Nat.le_of_ble_eq_true rfl)) dL_order_7 ⟨Nat.le_of_ble_eq_true rfl, Nat.le_of_ble_eq_true rfl⟩) hS (fun q _ h => hFc q h) hFc (fun r1 u t H1 locs ht hvm hw hB hz1 hk1 hS => ?_)
  obtain ⟨hP, hD, hK⟩ := kJ (wr := [(ou, .inl (co, 1, .inr (.inl of_)))]) (w1 := []) (t1 := []) hP hD hK [0, 1, 2, 3, 4, 5, 6, 7] [8] rfl rfl (by decide) (by decide) hk1 hFc ht hvm hB
  generalize H1 = H at hP hS ⊢
  have hP : va_P (dC, dI) vwCl [(ou, .inl (co, 1, .inr (.inl of_)))] H := hP
  have hD : va_D A [(ou, .inl (co, 1, .inr (.inl of_)))] := hD
  have hK : va_K (dC, dI) vwCl [(cS, .object RX8), (co, .long)] s := hK
  obtain rfl : 0 = r1 := hw
  refine lv_i2l (v := 0) hx hb dL_order_10 (by decide +kernel) ?_
  refine va_last hx hb hK hP hD hS 0 1 rfl rfl (pk_in 0 1 (by decide) rfl) dL_order_11 (fun H locs hP hD hS => ?_)
  have hP : va_P (dC, dI) vwCl [(ou, .inl (co, 1, .inr (.inl (vp_updL of_ 0 0))))] H := hP
  have hD : va_D A [(ou, .inl (co, 1, .inr (.inl (vp_updL of_ 0 0))))] := hD
  refine lv_goto (tgt := 23) hx hb dL_order_12 (by decide) ?_
  refine lv_iconst (v := 0) hx hb dL_order_23 (by decide) ?_
  refine W.widen (k := 4) (n := 31) (Nat.le_of_ble_eq_true rfl) (Nat.le_of_ble_eq_true rfl) ?_
  exact W.iret (v := 0) hx hb hr (fun t ht hW => ⟨⟨0, (), rfl, rfl, kB_end (w9 := [(ou, .inl (co, 1, .inr (.inl (vp_updL of_ 0 0))))]) (t9 := []) hP hK hD [0] [] rfl (by decide) rfl rfl t ht hW⟩, hS.F ht⟩) hS.2.2 dL_order_24
abbrev wd_k_l_order_s6 (z : Nat → Nat) (sh : Nat) (rg : Nat) (mf : Nat) (mm : Nat) (mz : Nat) (ma : Nat) (sa : Nat) (s0 : Nat) (s1 : Nat) (s2 : Nat) (s3 : Nat) (s4 : Nat) (s5 : Nat) (s6 : Nat) (s7 : Nat) (s8 : Nat) (dk : Nat) (w0 : Nat) (w1 : Nat) (ol : Nat) (hd : Nat) (lg : Nat) (pl : Nat) (pr : Nat) (cS : ClassId) (x : Nat) (tl : Nat) (tw : Nat) (p2 : Int32) (ou : Nat) (co : ClassId) (of_ : Nat → Int64) : va_W := [(x, .inr (15, [.ref sh, .ref tl, .ref tw, .int 0])), (tl, .inr (3, [.int 0, .ref (z 0), .int 0])), (sh, .inr (13, [.ref rg, .ref dk, .ref hd, .ref lg, .ref pl, .ref pr, .int 0, .int 0, .int 0, .int 0, .int 0, .int 0, .int 0, .int 0, .int 0, .int 0, .int 0])), (dk, .inr (4, [.ref w0, .ref w1, .ref ol, .int 0, .int 0, .int 0, .int 0])), (ol, .inr (3, [.int 0, .ref (z 0), .int 0])), (rg, .inr (11, [.ref mf, .ref mm, .ref mz, .ref ma, .ref sa, .int 0])), (sa, .inl (cS, 9, .inr (.inr (.inr (.inr (va_up (va_up (va_up (va_up (va_up (va_up (va_up (va_up (va_up (fun _ => none) 0 (some s0)) 1 (some s1)) 2 (some s2)) 3 (some s3)) 4 (some s4)) 5 (some s5)) 6 (some s6)) 7 (some s7)) 8 (some s8))))))), (s6, .inr (12, [.int 5, .int 4, .ref mz, .int 1, .int 0, .int 900, .int 0, .int 0])), (ou, .inl (co, 1, .inr (.inl of_)))]
set_option maxHeartbeats 4000000 in
set_option maxRecDepth 100000 in
theorem k_l_order_s6 (l : Launch) (dC : Nat → ClassId) (dI : Nat → Nat → Nat) (z zK zV : Nat → Nat) (sh : Nat) (rg : Nat) (mf : Nat) (mm : Nat) (mz : Nat) (ma : Nat) (sa : Nat) (s0 : Nat) (s1 : Nat) (s2 : Nat) (s3 : Nat) (s4 : Nat) (s5 : Nat) (s6 : Nat) (s7 : Nat) (s8 : Nat) (dk : Nat) (w0 : Nat) (w1 : Nat) (ol : Nat) (hd : Nat) (lg : Nat) (pl : Nat) (pr : Nat) (cS : ClassId) (x : Nat) (tl : Nat) (tw : Nat) (p2 : Int32) (ou : Nat) (co : ClassId) (of_ : Nat → Int64) (sz : Nat) (hg0 : (0 : Int32) ≤ p2 ∧ p2 ≤ 2) : Met l yL_order wsL_order ({ frames := 9, cells := 4, slots := 31, locals := 191 }) (kP dC dI z zK zV [.ref x, .int 115, .int 6, .int p2, .ref ou] sz (wd_k_l_order_s6 z sh rg mf mm mz ma sa s0 s1 s2 s3 s4 s5 s6 s7 s8 dk w0 w1 ol hd lg pl pr cS x tl tw p2 ou co of_) [(cS, .object RX8), (co, .long)]) (va_Qi (fun (r : Int32) (_ : Unit) => 0 = r) (fun _ t => kB (dC, dI) (va_A (wd_k_l_order_s6 z sh rg mf mm mz ma sa s0 s1 s2 s3 s4 s5 s6 s7 s8 dk w0 w1 ol hd lg pl pr cS x tl tw p2 ou co of_) sz) [(ou, .inl (co, 1, .inr (.inl (vp_updL of_ 0 0))))] [] t) (va_A (wd_k_l_order_s6 z sh rg mf mm mz ma sa s0 s1 s2 s3 s4 s5 s6 s7 s8 dk w0 w1 ol hd lg pl pr cS x tl tw p2 ou co of_) sz)) 4 31 (va_A (wd_k_l_order_s6 z sh rg mf mm mz ma sa s0 s1 s2 s3 s4 s5 s6 s7 s8 dk w0 w1 ol hd lg pl pr cS x tl tw p2 ou co of_) sz) := by
  refine va_MetW (hh := [(0, 12, 15, 13), (0, 12, 19, 27)]) (cc := cL_order) (maxL := 6) (ret := (some .int)) (by decide) rfl ?_
  intro p e s m args below meth c s₁ B hml hv
  obtain ⟨rfl, hsz, hP, hK, hD0, hM⟩ := hv
  have hx := B.exec
  have hb := B.bytes
  have hr := B.returns
  have hts := atoms_spec (ws := wsL_order) B.pre
  have hown : s.vm.findClass RL = some m.cls := findClass_of_methodNamed B.named
  have hlocks := B.notSynchronized
  have htab := vx_table (x := yL_order) B (hts _ List.mem_cons_self)
  subst hsz
  have hD := hD0.self (sz := s.heap.size)
  generalize hAe : va_A (wd_k_l_order_s6 z sh rg mf mm mz ma sa s0 s1 s2 s3 s4 s5 s6 s7 s8 dk w0 w1 ol hd lg pl pr cS x tl tw p2 ou co of_) s.heap.size = A at hD hM ⊢
  have hA : ∀ q : Nat, s.heap.size ≤ q → A q := fun q h => by rw [← hAe]; exact Or.inr h
  have hS : va_S A s.heap s.heap [] := va_S.rf
  have hP : va_P (dC, dI) vwCl [(x, .inr (15, [.ref sh, .ref tl, .ref tw, .int 0])), (tl, .inr (3, [.int 0, .ref (z 0), .int 0])), (sh, .inr (13, [.ref rg, .ref dk, .ref hd, .ref lg, .ref pl, .ref pr, .int 0, .int 0, .int 0, .int 0, .int 0, .int 0, .int 0, .int 0, .int 0, .int 0, .int 0])), (dk, .inr (4, [.ref w0, .ref w1, .ref ol, .int 0, .int 0, .int 0, .int 0])), (ol, .inr (3, [.int 0, .ref (z 0), .int 0])), (rg, .inr (11, [.ref mf, .ref mm, .ref mz, .ref ma, .ref sa, .int 0])), (sa, .inl (cS, 9, .inr (.inr (.inr (.inr (va_up (va_up (va_up (va_up (va_up (va_up (va_up (va_up (va_up (fun _ => none) 0 (some s0)) 1 (some s1)) 2 (some s2)) 3 (some s3)) 4 (some s4)) 5 (some s5)) 6 (some s6)) 7 (some s7)) 8 (some s8))))))), (s6, .inr (12, [.int 5, .int 4, .ref mz, .int 1, .int 0, .int 900, .int 0, .int 0])), (ou, .inl (co, 1, .inr (.inl of_)))] s.heap := hP
  have hD : va_D A [(x, .inr (15, [.ref sh, .ref tl, .ref tw, .int 0])), (tl, .inr (3, [.int 0, .ref (z 0), .int 0])), (sh, .inr (13, [.ref rg, .ref dk, .ref hd, .ref lg, .ref pl, .ref pr, .int 0, .int 0, .int 0, .int 0, .int 0, .int 0, .int 0, .int 0, .int 0, .int 0, .int 0])), (dk, .inr (4, [.ref w0, .ref w1, .ref ol, .int 0, .int 0, .int 0, .int 0])), (ol, .inr (3, [.int 0, .ref (z 0), .int 0])), (rg, .inr (11, [.ref mf, .ref mm, .ref mz, .ref ma, .ref sa, .int 0])), (sa, .inl (cS, 9, .inr (.inr (.inr (.inr (va_up (va_up (va_up (va_up (va_up (va_up (va_up (va_up (va_up (fun _ => none) 0 (some s0)) 1 (some s1)) 2 (some s2)) 3 (some s3)) 4 (some s4)) 5 (some s5)) 6 (some s6)) 7 (some s7)) 8 (some s8))))))), (s6, .inr (12, [.int 5, .int 4, .ref mz, .int 1, .int 0, .int 900, .int 0, .int 0])), (ou, .inl (co, 1, .inr (.inl of_)))] := hD
  have hl := lv_entry ([.ref x, .int 115, .int 6, .int p2, .ref ou]) (n := 6) (Nat.le_of_ble_eq_true rfl)
  rw [lg_entry_eq]
  generalize (lg_sl ([.ref x, .int 115, .int 6, .int p2, .ref ou]) ++ List.replicate (6 - (lg_sl ([.ref x, .int 115, .int 6, .int p2, .ref ou])).length) Slot.unset).toArray = ls at hl ⊢
  have hl : lv_has ls 6 [(0, .ref x), (1, .int 115), (2, .int 6), (3, .int p2), (4, .ref ou)] := hl
  refine lv_aload hx hb dL_order_0 (lv_at hl 4 rfl) ?_
  refine lv_iconst (v := 0) hx hb dL_order_2 (by decide) ?_
  refine lv_aload_n hx hb dL_order_3 rfl (lv_at hl 0 rfl) ?_
  refine lv_iload_n hx hb dL_order_4 rfl (lv_at hl 1 rfl) ?_
  refine lv_iload_n hx hb dL_order_5 rfl (lv_at hl 2 rfl) ?_
  refine lv_iload_n hx hb dL_order_6 rfl (lv_at hl 3 rfl) ?_
  have hPc := hP.sub (ws' := [(x, .inr (15, [.ref sh, .ref tl, .ref tw, .int 0])), (tl, .inr (3, [.int 0, .ref (z 0), .int 0])), (sh, .inr (13, [.ref rg, .ref dk, .ref hd, .ref lg, .ref pl, .ref pr, .int 0, .int 0, .int 0, .int 0, .int 0, .int 0, .int 0, .int 0, .int 0, .int 0, .int 0])), (dk, .inr (4, [.ref w0, .ref w1, .ref ol, .int 0, .int 0, .int 0, .int 0])), (ol, .inr (3, [.int 0, .ref (z 0), .int 0])), (rg, .inr (11, [.ref mf, .ref mm, .ref mz, .ref ma, .ref sa, .int 0])), (sa, .inl (cS, 9, .inr (.inr (.inr (.inr (va_up (va_up (va_up (va_up (va_up (va_up (va_up (va_up (va_up (fun _ => none) 0 (some s0)) 1 (some s1)) 2 (some s2)) 3 (some s3)) 4 (some s4)) 5 (some s5)) 6 (some s6)) 7 (some s7)) 8 (some s8))))))), (s6, .inr (12, [.int 5, .int 4, .ref mz, .int 1, .int 0, .int 900, .int 0, .int 0]))]) [0, 1, 2, 3, 4, 5, 6, 7] rfl
  have hDc := hD.sub (ws' := [(x, .inr (15, [.ref sh, .ref tl, .ref tw, .int 0])), (tl, .inr (3, [.int 0, .ref (z 0), .int 0])), (sh, .inr (13, [.ref rg, .ref dk, .ref hd, .ref lg, .ref pl, .ref pr, .int 0, .int 0, .int 0, .int 0, .int 0, .int 0, .int 0, .int 0, .int 0, .int 0, .int 0])), (dk, .inr (4, [.ref w0, .ref w1, .ref ol, .int 0, .int 0, .int 0, .int 0])), (ol, .inr (3, [.int 0, .ref (z 0), .int 0])), (rg, .inr (11, [.ref mf, .ref mm, .ref mz, .ref ma, .ref sa, .int 0])), (sa, .inl (cS, 9, .inr (.inr (.inr (.inr (va_up (va_up (va_up (va_up (va_up (va_up (va_up (va_up (va_up (fun _ => none) 0 (some s0)) 1 (some s1)) 2 (some s2)) 3 (some s3)) 4 (some s4)) 5 (some s5)) 6 (some s6)) 7 (some s7)) 8 (some s8))))))), (s6, .inr (12, [.int 5, .int 4, .ref mz, .int 1, .int 0, .int 900, .int 0, .int 0]))]) [0, 1, 2, 3, 4, 5, 6, 7] (by decide) rfl
  have hKc := hK.sub (tys' := [(cS, .object RX8)]) [0] rfl
  have hFc := va_free (wc := [(x, .inr (15, [.ref sh, .ref tl, .ref tw, .int 0])), (tl, .inr (3, [.int 0, .ref (z 0), .int 0])), (sh, .inr (13, [.ref rg, .ref dk, .ref hd, .ref lg, .ref pl, .ref pr, .int 0, .int 0, .int 0, .int 0, .int 0, .int 0, .int 0, .int 0, .int 0, .int 0, .int 0])), (dk, .inr (4, [.ref w0, .ref w1, .ref ol, .int 0, .int 0, .int 0, .int 0])), (ol, .inr (3, [.int 0, .ref (z 0), .int 0])), (rg, .inr (11, [.ref mf, .ref mm, .ref mz, .ref ma, .ref sa, .int 0])), (sa, .inl (cS, 9, .inr (.inr (.inr (.inr (va_up (va_up (va_up (va_up (va_up (va_up (va_up (va_up (va_up (fun _ => none) 0 (some s0)) 1 (some s1)) 2 (some s2)) 3 (some s3)) 4 (some s4)) 5 (some s5)) 6 (some s6)) 7 (some s7)) 8 (some s8))))))), (s6, .inr (12, [.int 5, .int 4, .ref mz, .int 1, .int 0, .int 900, .int 0, .int 0]))]) hD hS hA [0, 1, 2, 3, 4, 5, 6, 7] rfl
  refine va_calli (va_runV (As := [.int 115, .int 6, .int p2]) (rest := [.int 0, .ref ou]) ⟨hx, hb, hml, hown, hts⟩ (k_x_order_s6 l dC dI z zK zV sh rg mf mm mz ma sa s0 s1 s2 s3 s4 s5 s6 s7 s8 dk w0 w1 ol hd lg pl pr cS x tl tw p2 s.heap.size (hg0)) (cwV 3 hts gL_order_X11_order rfl rfl rfl (by decide +kernel) ⟨Nat.le_of_ble_eq_true rfl, Nat.le_of_ble_eq_true rfl⟩) ⟨kP_blind, va_recv hKc hPc (ci := 15) (q0 := 0) rfl rfl, kP_go hPc hKc hDc hFc hM hS⟩ rfl rfl hl.1 rfl (lv_room (Nat.le_of_ble_eq_true rfl)) dL_order_7 ⟨Nat.le_of_ble_eq_true rfl, Nat.le_of_ble_eq_true rfl⟩) hS (fun q _ h => hFc q h) hFc (fun r1 u t H1 locs ht hvm hw hB hz1 hk1 hS => ?_)
  obtain ⟨hP, hD, hK⟩ := kJ (wr := [(ou, .inl (co, 1, .inr (.inl of_)))]) (w1 := []) (t1 := []) hP hD hK [0, 1, 2, 3, 4, 5, 6, 7] [8] rfl rfl (by decide) (by decide) hk1 hFc ht hvm hB
  generalize H1 = H at hP hS ⊢
  have hP : va_P (dC, dI) vwCl [(ou, .inl (co, 1, .inr (.inl of_)))] H := hP
  have hD : va_D A [(ou, .inl (co, 1, .inr (.inl of_)))] := hD
  have hK : va_K (dC, dI) vwCl [(cS, .object RX8), (co, .long)] s := hK
  obtain rfl : 0 = r1 := hw
  refine lv_i2l (v := 0) hx hb dL_order_10 (by decide +kernel) ?_
  refine va_last hx hb hK hP hD hS 0 1 rfl rfl (pk_in 0 1 (by decide) rfl) dL_order_11 (fun H locs hP hD hS => ?_)
  have hP : va_P (dC, dI) vwCl [(ou, .inl (co, 1, .inr (.inl (vp_updL of_ 0 0))))] H := hP
  have hD : va_D A [(ou, .inl (co, 1, .inr (.inl (vp_updL of_ 0 0))))] := hD
  refine lv_goto (tgt := 23) hx hb dL_order_12 (by decide) ?_
  refine lv_iconst (v := 0) hx hb dL_order_23 (by decide) ?_
  refine W.widen (k := 4) (n := 31) (Nat.le_of_ble_eq_true rfl) (Nat.le_of_ble_eq_true rfl) ?_
  exact W.iret (v := 0) hx hb hr (fun t ht hW => ⟨⟨0, (), rfl, rfl, kB_end (w9 := [(ou, .inl (co, 1, .inr (.inl (vp_updL of_ 0 0))))]) (t9 := []) hP hK hD [0] [] rfl (by decide) rfl rfl t ht hW⟩, hS.F ht⟩) hS.2.2 dL_order_24
abbrev wd_k_l_order_s7 (z : Nat → Nat) (sh : Nat) (rg : Nat) (mf : Nat) (mm : Nat) (mz : Nat) (ma : Nat) (sa : Nat) (s0 : Nat) (s1 : Nat) (s2 : Nat) (s3 : Nat) (s4 : Nat) (s5 : Nat) (s6 : Nat) (s7 : Nat) (s8 : Nat) (dk : Nat) (w0 : Nat) (w1 : Nat) (ol : Nat) (hd : Nat) (lg : Nat) (pl : Nat) (pr : Nat) (cS : ClassId) (x : Nat) (tl : Nat) (tw : Nat) (p2 : Int32) (ou : Nat) (co : ClassId) (of_ : Nat → Int64) : va_W := [(x, .inr (15, [.ref sh, .ref tl, .ref tw, .int 0])), (tl, .inr (3, [.int 0, .ref (z 0), .int 0])), (sh, .inr (13, [.ref rg, .ref dk, .ref hd, .ref lg, .ref pl, .ref pr, .int 0, .int 0, .int 0, .int 0, .int 0, .int 0, .int 0, .int 0, .int 0, .int 0, .int 0])), (dk, .inr (4, [.ref w0, .ref w1, .ref ol, .int 0, .int 0, .int 0, .int 0])), (ol, .inr (3, [.int 0, .ref (z 0), .int 0])), (rg, .inr (11, [.ref mf, .ref mm, .ref mz, .ref ma, .ref sa, .int 0])), (sa, .inl (cS, 9, .inr (.inr (.inr (.inr (va_up (va_up (va_up (va_up (va_up (va_up (va_up (va_up (va_up (fun _ => none) 0 (some s0)) 1 (some s1)) 2 (some s2)) 3 (some s3)) 4 (some s4)) 5 (some s5)) 6 (some s6)) 7 (some s7)) 8 (some s8))))))), (s7, .inr (12, [.int 4, .int 3, .ref mf, .int 0, .int 0, .int 900, .int 0, .int 0])), (ou, .inl (co, 1, .inr (.inl of_)))]
set_option maxHeartbeats 4000000 in
set_option maxRecDepth 100000 in
theorem k_l_order_s7 (l : Launch) (dC : Nat → ClassId) (dI : Nat → Nat → Nat) (z zK zV : Nat → Nat) (sh : Nat) (rg : Nat) (mf : Nat) (mm : Nat) (mz : Nat) (ma : Nat) (sa : Nat) (s0 : Nat) (s1 : Nat) (s2 : Nat) (s3 : Nat) (s4 : Nat) (s5 : Nat) (s6 : Nat) (s7 : Nat) (s8 : Nat) (dk : Nat) (w0 : Nat) (w1 : Nat) (ol : Nat) (hd : Nat) (lg : Nat) (pl : Nat) (pr : Nat) (cS : ClassId) (x : Nat) (tl : Nat) (tw : Nat) (p2 : Int32) (ou : Nat) (co : ClassId) (of_ : Nat → Int64) (sz : Nat) (hg0 : (0 : Int32) ≤ p2 ∧ p2 ≤ 2) : Met l yL_order wsL_order ({ frames := 9, cells := 4, slots := 31, locals := 191 }) (kP dC dI z zK zV [.ref x, .int 115, .int 7, .int p2, .ref ou] sz (wd_k_l_order_s7 z sh rg mf mm mz ma sa s0 s1 s2 s3 s4 s5 s6 s7 s8 dk w0 w1 ol hd lg pl pr cS x tl tw p2 ou co of_) [(cS, .object RX8), (co, .long)]) (va_Qi (fun (r : Int32) (_ : Unit) => 0 = r) (fun _ t => kB (dC, dI) (va_A (wd_k_l_order_s7 z sh rg mf mm mz ma sa s0 s1 s2 s3 s4 s5 s6 s7 s8 dk w0 w1 ol hd lg pl pr cS x tl tw p2 ou co of_) sz) [(ou, .inl (co, 1, .inr (.inl (vp_updL of_ 0 0))))] [] t) (va_A (wd_k_l_order_s7 z sh rg mf mm mz ma sa s0 s1 s2 s3 s4 s5 s6 s7 s8 dk w0 w1 ol hd lg pl pr cS x tl tw p2 ou co of_) sz)) 4 31 (va_A (wd_k_l_order_s7 z sh rg mf mm mz ma sa s0 s1 s2 s3 s4 s5 s6 s7 s8 dk w0 w1 ol hd lg pl pr cS x tl tw p2 ou co of_) sz) := by
  refine va_MetW (hh := [(0, 12, 15, 13), (0, 12, 19, 27)]) (cc := cL_order) (maxL := 6) (ret := (some .int)) (by decide) rfl ?_
  intro p e s m args below meth c s₁ B hml hv
  obtain ⟨rfl, hsz, hP, hK, hD0, hM⟩ := hv
  have hx := B.exec
  have hb := B.bytes
  have hr := B.returns
  have hts := atoms_spec (ws := wsL_order) B.pre
  have hown : s.vm.findClass RL = some m.cls := findClass_of_methodNamed B.named
  have hlocks := B.notSynchronized
  have htab := vx_table (x := yL_order) B (hts _ List.mem_cons_self)
  subst hsz
  have hD := hD0.self (sz := s.heap.size)
  generalize hAe : va_A (wd_k_l_order_s7 z sh rg mf mm mz ma sa s0 s1 s2 s3 s4 s5 s6 s7 s8 dk w0 w1 ol hd lg pl pr cS x tl tw p2 ou co of_) s.heap.size = A at hD hM ⊢
  have hA : ∀ q : Nat, s.heap.size ≤ q → A q := fun q h => by rw [← hAe]; exact Or.inr h
  have hS : va_S A s.heap s.heap [] := va_S.rf
  have hP : va_P (dC, dI) vwCl [(x, .inr (15, [.ref sh, .ref tl, .ref tw, .int 0])), (tl, .inr (3, [.int 0, .ref (z 0), .int 0])), (sh, .inr (13, [.ref rg, .ref dk, .ref hd, .ref lg, .ref pl, .ref pr, .int 0, .int 0, .int 0, .int 0, .int 0, .int 0, .int 0, .int 0, .int 0, .int 0, .int 0])), (dk, .inr (4, [.ref w0, .ref w1, .ref ol, .int 0, .int 0, .int 0, .int 0])), (ol, .inr (3, [.int 0, .ref (z 0), .int 0])), (rg, .inr (11, [.ref mf, .ref mm, .ref mz, .ref ma, .ref sa, .int 0])), (sa, .inl (cS, 9, .inr (.inr (.inr (.inr (va_up (va_up (va_up (va_up (va_up (va_up (va_up (va_up (va_up (fun _ => none) 0 (some s0)) 1 (some s1)) 2 (some s2)) 3 (some s3)) 4 (some s4)) 5 (some s5)) 6 (some s6)) 7 (some s7)) 8 (some s8))))))), (s7, .inr (12, [.int 4, .int 3, .ref mf, .int 0, .int 0, .int 900, .int 0, .int 0])), (ou, .inl (co, 1, .inr (.inl of_)))] s.heap := hP
  have hD : va_D A [(x, .inr (15, [.ref sh, .ref tl, .ref tw, .int 0])), (tl, .inr (3, [.int 0, .ref (z 0), .int 0])), (sh, .inr (13, [.ref rg, .ref dk, .ref hd, .ref lg, .ref pl, .ref pr, .int 0, .int 0, .int 0, .int 0, .int 0, .int 0, .int 0, .int 0, .int 0, .int 0, .int 0])), (dk, .inr (4, [.ref w0, .ref w1, .ref ol, .int 0, .int 0, .int 0, .int 0])), (ol, .inr (3, [.int 0, .ref (z 0), .int 0])), (rg, .inr (11, [.ref mf, .ref mm, .ref mz, .ref ma, .ref sa, .int 0])), (sa, .inl (cS, 9, .inr (.inr (.inr (.inr (va_up (va_up (va_up (va_up (va_up (va_up (va_up (va_up (va_up (fun _ => none) 0 (some s0)) 1 (some s1)) 2 (some s2)) 3 (some s3)) 4 (some s4)) 5 (some s5)) 6 (some s6)) 7 (some s7)) 8 (some s8))))))), (s7, .inr (12, [.int 4, .int 3, .ref mf, .int 0, .int 0, .int 900, .int 0, .int 0])), (ou, .inl (co, 1, .inr (.inl of_)))] := hD
  have hl := lv_entry ([.ref x, .int 115, .int 7, .int p2, .ref ou]) (n := 6) (Nat.le_of_ble_eq_true rfl)
  rw [lg_entry_eq]
  generalize (lg_sl ([.ref x, .int 115, .int 7, .int p2, .ref ou]) ++ List.replicate (6 - (lg_sl ([.ref x, .int 115, .int 7, .int p2, .ref ou])).length) Slot.unset).toArray = ls at hl ⊢
  have hl : lv_has ls 6 [(0, .ref x), (1, .int 115), (2, .int 7), (3, .int p2), (4, .ref ou)] := hl
  refine lv_aload hx hb dL_order_0 (lv_at hl 4 rfl) ?_
  refine lv_iconst (v := 0) hx hb dL_order_2 (by decide) ?_
  refine lv_aload_n hx hb dL_order_3 rfl (lv_at hl 0 rfl) ?_
  refine lv_iload_n hx hb dL_order_4 rfl (lv_at hl 1 rfl) ?_
  refine lv_iload_n hx hb dL_order_5 rfl (lv_at hl 2 rfl) ?_
  refine lv_iload_n hx hb dL_order_6 rfl (lv_at hl 3 rfl) ?_
  have hPc := hP.sub (ws' := [(x, .inr (15, [.ref sh, .ref tl, .ref tw, .int 0])), (tl, .inr (3, [.int 0, .ref (z 0), .int 0])), (sh, .inr (13, [.ref rg, .ref dk, .ref hd, .ref lg, .ref pl, .ref pr, .int 0, .int 0, .int 0, .int 0, .int 0, .int 0, .int 0, .int 0, .int 0, .int 0, .int 0])), (dk, .inr (4, [.ref w0, .ref w1, .ref ol, .int 0, .int 0, .int 0, .int 0])), (ol, .inr (3, [.int 0, .ref (z 0), .int 0])), (rg, .inr (11, [.ref mf, .ref mm, .ref mz, .ref ma, .ref sa, .int 0])), (sa, .inl (cS, 9, .inr (.inr (.inr (.inr (va_up (va_up (va_up (va_up (va_up (va_up (va_up (va_up (va_up (fun _ => none) 0 (some s0)) 1 (some s1)) 2 (some s2)) 3 (some s3)) 4 (some s4)) 5 (some s5)) 6 (some s6)) 7 (some s7)) 8 (some s8))))))), (s7, .inr (12, [.int 4, .int 3, .ref mf, .int 0, .int 0, .int 900, .int 0, .int 0]))]) [0, 1, 2, 3, 4, 5, 6, 7] rfl
  have hDc := hD.sub (ws' := [(x, .inr (15, [.ref sh, .ref tl, .ref tw, .int 0])), (tl, .inr (3, [.int 0, .ref (z 0), .int 0])), (sh, .inr (13, [.ref rg, .ref dk, .ref hd, .ref lg, .ref pl, .ref pr, .int 0, .int 0, .int 0, .int 0, .int 0, .int 0, .int 0, .int 0, .int 0, .int 0, .int 0])), (dk, .inr (4, [.ref w0, .ref w1, .ref ol, .int 0, .int 0, .int 0, .int 0])), (ol, .inr (3, [.int 0, .ref (z 0), .int 0])), (rg, .inr (11, [.ref mf, .ref mm, .ref mz, .ref ma, .ref sa, .int 0])), (sa, .inl (cS, 9, .inr (.inr (.inr (.inr (va_up (va_up (va_up (va_up (va_up (va_up (va_up (va_up (va_up (fun _ => none) 0 (some s0)) 1 (some s1)) 2 (some s2)) 3 (some s3)) 4 (some s4)) 5 (some s5)) 6 (some s6)) 7 (some s7)) 8 (some s8))))))), (s7, .inr (12, [.int 4, .int 3, .ref mf, .int 0, .int 0, .int 900, .int 0, .int 0]))]) [0, 1, 2, 3, 4, 5, 6, 7] (by decide) rfl
  have hKc := hK.sub (tys' := [(cS, .object RX8)]) [0] rfl
  have hFc := va_free (wc := [(x, .inr (15, [.ref sh, .ref tl, .ref tw, .int 0])), (tl, .inr (3, [.int 0, .ref (z 0), .int 0])), (sh, .inr (13, [.ref rg, .ref dk, .ref hd, .ref lg, .ref pl, .ref pr, .int 0, .int 0, .int 0, .int 0, .int 0, .int 0, .int 0, .int 0, .int 0, .int 0, .int 0])), (dk, .inr (4, [.ref w0, .ref w1, .ref ol, .int 0, .int 0, .int 0, .int 0])), (ol, .inr (3, [.int 0, .ref (z 0), .int 0])), (rg, .inr (11, [.ref mf, .ref mm, .ref mz, .ref ma, .ref sa, .int 0])), (sa, .inl (cS, 9, .inr (.inr (.inr (.inr (va_up (va_up (va_up (va_up (va_up (va_up (va_up (va_up (va_up (fun _ => none) 0 (some s0)) 1 (some s1)) 2 (some s2)) 3 (some s3)) 4 (some s4)) 5 (some s5)) 6 (some s6)) 7 (some s7)) 8 (some s8))))))), (s7, .inr (12, [.int 4, .int 3, .ref mf, .int 0, .int 0, .int 900, .int 0, .int 0]))]) hD hS hA [0, 1, 2, 3, 4, 5, 6, 7] rfl
  refine va_calli (va_runV (As := [.int 115, .int 7, .int p2]) (rest := [.int 0, .ref ou]) ⟨hx, hb, hml, hown, hts⟩ (k_x_order_s7 l dC dI z zK zV sh rg mf mm mz ma sa s0 s1 s2 s3 s4 s5 s6 s7 s8 dk w0 w1 ol hd lg pl pr cS x tl tw p2 s.heap.size (hg0)) (cwV 3 hts gL_order_X11_order rfl rfl rfl (by decide +kernel) ⟨Nat.le_of_ble_eq_true rfl, Nat.le_of_ble_eq_true rfl⟩) ⟨kP_blind, va_recv hKc hPc (ci := 15) (q0 := 0) rfl rfl, kP_go hPc hKc hDc hFc hM hS⟩ rfl rfl hl.1 rfl (lv_room (Nat.le_of_ble_eq_true rfl)) dL_order_7 ⟨Nat.le_of_ble_eq_true rfl, Nat.le_of_ble_eq_true rfl⟩) hS (fun q _ h => hFc q h) hFc (fun r1 u t H1 locs ht hvm hw hB hz1 hk1 hS => ?_)
  obtain ⟨hP, hD, hK⟩ := kJ (wr := [(ou, .inl (co, 1, .inr (.inl of_)))]) (w1 := []) (t1 := []) hP hD hK [0, 1, 2, 3, 4, 5, 6, 7] [8] rfl rfl (by decide) (by decide) hk1 hFc ht hvm hB
  generalize H1 = H at hP hS ⊢
  have hP : va_P (dC, dI) vwCl [(ou, .inl (co, 1, .inr (.inl of_)))] H := hP
  have hD : va_D A [(ou, .inl (co, 1, .inr (.inl of_)))] := hD
  have hK : va_K (dC, dI) vwCl [(cS, .object RX8), (co, .long)] s := hK
  obtain rfl : 0 = r1 := hw
  refine lv_i2l (v := 0) hx hb dL_order_10 (by decide +kernel) ?_
  refine va_last hx hb hK hP hD hS 0 1 rfl rfl (pk_in 0 1 (by decide) rfl) dL_order_11 (fun H locs hP hD hS => ?_)
  have hP : va_P (dC, dI) vwCl [(ou, .inl (co, 1, .inr (.inl (vp_updL of_ 0 0))))] H := hP
  have hD : va_D A [(ou, .inl (co, 1, .inr (.inl (vp_updL of_ 0 0))))] := hD
  refine lv_goto (tgt := 23) hx hb dL_order_12 (by decide) ?_
  refine lv_iconst (v := 0) hx hb dL_order_23 (by decide) ?_
  refine W.widen (k := 4) (n := 31) (Nat.le_of_ble_eq_true rfl) (Nat.le_of_ble_eq_true rfl) ?_
  exact W.iret (v := 0) hx hb hr (fun t ht hW => ⟨⟨0, (), rfl, rfl, kB_end (w9 := [(ou, .inl (co, 1, .inr (.inl (vp_updL of_ 0 0))))]) (t9 := []) hP hK hD [0] [] rfl (by decide) rfl rfl t ht hW⟩, hS.F ht⟩) hS.2.2 dL_order_24
abbrev wd_k_l_order_s8 (z : Nat → Nat) (sh : Nat) (rg : Nat) (mf : Nat) (mm : Nat) (mz : Nat) (ma : Nat) (sa : Nat) (s0 : Nat) (s1 : Nat) (s2 : Nat) (s3 : Nat) (s4 : Nat) (s5 : Nat) (s6 : Nat) (s7 : Nat) (s8 : Nat) (dk : Nat) (w0 : Nat) (w1 : Nat) (ol : Nat) (hd : Nat) (lg : Nat) (pl : Nat) (pr : Nat) (cS : ClassId) (x : Nat) (tl : Nat) (tw : Nat) (p2 : Int32) (ou : Nat) (co : ClassId) (of_ : Nat → Int64) : va_W := [(x, .inr (15, [.ref sh, .ref tl, .ref tw, .int 0])), (tl, .inr (3, [.int 0, .ref (z 0), .int 0])), (sh, .inr (13, [.ref rg, .ref dk, .ref hd, .ref lg, .ref pl, .ref pr, .int 0, .int 0, .int 0, .int 0, .int 0, .int 0, .int 0, .int 0, .int 0, .int 0, .int 0])), (dk, .inr (4, [.ref w0, .ref w1, .ref ol, .int 0, .int 0, .int 0, .int 0])), (ol, .inr (3, [.int 0, .ref (z 0), .int 0])), (rg, .inr (11, [.ref mf, .ref mm, .ref mz, .ref ma, .ref sa, .int 0])), (sa, .inl (cS, 9, .inr (.inr (.inr (.inr (va_up (va_up (va_up (va_up (va_up (va_up (va_up (va_up (va_up (fun _ => none) 0 (some s0)) 1 (some s1)) 2 (some s2)) 3 (some s3)) 4 (some s4)) 5 (some s5)) 6 (some s6)) 7 (some s7)) 8 (some s8))))))), (s8, .inr (12, [.int 6, .int 4, .ref mz, .int 0, .int 0, .int 900, .int 0, .int 0])), (ou, .inl (co, 1, .inr (.inl of_)))]
set_option maxHeartbeats 4000000 in
set_option maxRecDepth 100000 in
theorem k_l_order_s8 (l : Launch) (dC : Nat → ClassId) (dI : Nat → Nat → Nat) (z zK zV : Nat → Nat) (sh : Nat) (rg : Nat) (mf : Nat) (mm : Nat) (mz : Nat) (ma : Nat) (sa : Nat) (s0 : Nat) (s1 : Nat) (s2 : Nat) (s3 : Nat) (s4 : Nat) (s5 : Nat) (s6 : Nat) (s7 : Nat) (s8 : Nat) (dk : Nat) (w0 : Nat) (w1 : Nat) (ol : Nat) (hd : Nat) (lg : Nat) (pl : Nat) (pr : Nat) (cS : ClassId) (x : Nat) (tl : Nat) (tw : Nat) (p2 : Int32) (ou : Nat) (co : ClassId) (of_ : Nat → Int64) (sz : Nat) (hg0 : (0 : Int32) ≤ p2 ∧ p2 ≤ 2) : Met l yL_order wsL_order ({ frames := 9, cells := 4, slots := 31, locals := 191 }) (kP dC dI z zK zV [.ref x, .int 115, .int 8, .int p2, .ref ou] sz (wd_k_l_order_s8 z sh rg mf mm mz ma sa s0 s1 s2 s3 s4 s5 s6 s7 s8 dk w0 w1 ol hd lg pl pr cS x tl tw p2 ou co of_) [(cS, .object RX8), (co, .long)]) (va_Qi (fun (r : Int32) (_ : Unit) => 0 = r) (fun _ t => kB (dC, dI) (va_A (wd_k_l_order_s8 z sh rg mf mm mz ma sa s0 s1 s2 s3 s4 s5 s6 s7 s8 dk w0 w1 ol hd lg pl pr cS x tl tw p2 ou co of_) sz) [(ou, .inl (co, 1, .inr (.inl (vp_updL of_ 0 0))))] [] t) (va_A (wd_k_l_order_s8 z sh rg mf mm mz ma sa s0 s1 s2 s3 s4 s5 s6 s7 s8 dk w0 w1 ol hd lg pl pr cS x tl tw p2 ou co of_) sz)) 4 31 (va_A (wd_k_l_order_s8 z sh rg mf mm mz ma sa s0 s1 s2 s3 s4 s5 s6 s7 s8 dk w0 w1 ol hd lg pl pr cS x tl tw p2 ou co of_) sz) := by
  refine va_MetW (hh := [(0, 12, 15, 13), (0, 12, 19, 27)]) (cc := cL_order) (maxL := 6) (ret := (some .int)) (by decide) rfl ?_
  intro p e s m args below meth c s₁ B hml hv
  obtain ⟨rfl, hsz, hP, hK, hD0, hM⟩ := hv
  have hx := B.exec
  have hb := B.bytes
  have hr := B.returns
  have hts := atoms_spec (ws := wsL_order) B.pre
  have hown : s.vm.findClass RL = some m.cls := findClass_of_methodNamed B.named
  have hlocks := B.notSynchronized
  have htab := vx_table (x := yL_order) B (hts _ List.mem_cons_self)
  subst hsz
  have hD := hD0.self (sz := s.heap.size)
  generalize hAe : va_A (wd_k_l_order_s8 z sh rg mf mm mz ma sa s0 s1 s2 s3 s4 s5 s6 s7 s8 dk w0 w1 ol hd lg pl pr cS x tl tw p2 ou co of_) s.heap.size = A at hD hM ⊢
  have hA : ∀ q : Nat, s.heap.size ≤ q → A q := fun q h => by rw [← hAe]; exact Or.inr h
  have hS : va_S A s.heap s.heap [] := va_S.rf
  have hP : va_P (dC, dI) vwCl [(x, .inr (15, [.ref sh, .ref tl, .ref tw, .int 0])), (tl, .inr (3, [.int 0, .ref (z 0), .int 0])), (sh, .inr (13, [.ref rg, .ref dk, .ref hd, .ref lg, .ref pl, .ref pr, .int 0, .int 0, .int 0, .int 0, .int 0, .int 0, .int 0, .int 0, .int 0, .int 0, .int 0])), (dk, .inr (4, [.ref w0, .ref w1, .ref ol, .int 0, .int 0, .int 0, .int 0])), (ol, .inr (3, [.int 0, .ref (z 0), .int 0])), (rg, .inr (11, [.ref mf, .ref mm, .ref mz, .ref ma, .ref sa, .int 0])), (sa, .inl (cS, 9, .inr (.inr (.inr (.inr (va_up (va_up (va_up (va_up (va_up (va_up (va_up (va_up (va_up (fun _ => none) 0 (some s0)) 1 (some s1)) 2 (some s2)) 3 (some s3)) 4 (some s4)) 5 (some s5)) 6 (some s6)) 7 (some s7)) 8 (some s8))))))), (s8, .inr (12, [.int 6, .int 4, .ref mz, .int 0, .int 0, .int 900, .int 0, .int 0])), (ou, .inl (co, 1, .inr (.inl of_)))] s.heap := hP
  have hD : va_D A [(x, .inr (15, [.ref sh, .ref tl, .ref tw, .int 0])), (tl, .inr (3, [.int 0, .ref (z 0), .int 0])), (sh, .inr (13, [.ref rg, .ref dk, .ref hd, .ref lg, .ref pl, .ref pr, .int 0, .int 0, .int 0, .int 0, .int 0, .int 0, .int 0, .int 0, .int 0, .int 0, .int 0])), (dk, .inr (4, [.ref w0, .ref w1, .ref ol, .int 0, .int 0, .int 0, .int 0])), (ol, .inr (3, [.int 0, .ref (z 0), .int 0])), (rg, .inr (11, [.ref mf, .ref mm, .ref mz, .ref ma, .ref sa, .int 0])), (sa, .inl (cS, 9, .inr (.inr (.inr (.inr (va_up (va_up (va_up (va_up (va_up (va_up (va_up (va_up (va_up (fun _ => none) 0 (some s0)) 1 (some s1)) 2 (some s2)) 3 (some s3)) 4 (some s4)) 5 (some s5)) 6 (some s6)) 7 (some s7)) 8 (some s8))))))), (s8, .inr (12, [.int 6, .int 4, .ref mz, .int 0, .int 0, .int 900, .int 0, .int 0])), (ou, .inl (co, 1, .inr (.inl of_)))] := hD
  have hl := lv_entry ([.ref x, .int 115, .int 8, .int p2, .ref ou]) (n := 6) (Nat.le_of_ble_eq_true rfl)
  rw [lg_entry_eq]
  generalize (lg_sl ([.ref x, .int 115, .int 8, .int p2, .ref ou]) ++ List.replicate (6 - (lg_sl ([.ref x, .int 115, .int 8, .int p2, .ref ou])).length) Slot.unset).toArray = ls at hl ⊢
  have hl : lv_has ls 6 [(0, .ref x), (1, .int 115), (2, .int 8), (3, .int p2), (4, .ref ou)] := hl
  refine lv_aload hx hb dL_order_0 (lv_at hl 4 rfl) ?_
  refine lv_iconst (v := 0) hx hb dL_order_2 (by decide) ?_
  refine lv_aload_n hx hb dL_order_3 rfl (lv_at hl 0 rfl) ?_
  refine lv_iload_n hx hb dL_order_4 rfl (lv_at hl 1 rfl) ?_
  refine lv_iload_n hx hb dL_order_5 rfl (lv_at hl 2 rfl) ?_
  refine lv_iload_n hx hb dL_order_6 rfl (lv_at hl 3 rfl) ?_
  have hPc := hP.sub (ws' := [(x, .inr (15, [.ref sh, .ref tl, .ref tw, .int 0])), (tl, .inr (3, [.int 0, .ref (z 0), .int 0])), (sh, .inr (13, [.ref rg, .ref dk, .ref hd, .ref lg, .ref pl, .ref pr, .int 0, .int 0, .int 0, .int 0, .int 0, .int 0, .int 0, .int 0, .int 0, .int 0, .int 0])), (dk, .inr (4, [.ref w0, .ref w1, .ref ol, .int 0, .int 0, .int 0, .int 0])), (ol, .inr (3, [.int 0, .ref (z 0), .int 0])), (rg, .inr (11, [.ref mf, .ref mm, .ref mz, .ref ma, .ref sa, .int 0])), (sa, .inl (cS, 9, .inr (.inr (.inr (.inr (va_up (va_up (va_up (va_up (va_up (va_up (va_up (va_up (va_up (fun _ => none) 0 (some s0)) 1 (some s1)) 2 (some s2)) 3 (some s3)) 4 (some s4)) 5 (some s5)) 6 (some s6)) 7 (some s7)) 8 (some s8))))))), (s8, .inr (12, [.int 6, .int 4, .ref mz, .int 0, .int 0, .int 900, .int 0, .int 0]))]) [0, 1, 2, 3, 4, 5, 6, 7] rfl
  have hDc := hD.sub (ws' := [(x, .inr (15, [.ref sh, .ref tl, .ref tw, .int 0])), (tl, .inr (3, [.int 0, .ref (z 0), .int 0])), (sh, .inr (13, [.ref rg, .ref dk, .ref hd, .ref lg, .ref pl, .ref pr, .int 0, .int 0, .int 0, .int 0, .int 0, .int 0, .int 0, .int 0, .int 0, .int 0, .int 0])), (dk, .inr (4, [.ref w0, .ref w1, .ref ol, .int 0, .int 0, .int 0, .int 0])), (ol, .inr (3, [.int 0, .ref (z 0), .int 0])), (rg, .inr (11, [.ref mf, .ref mm, .ref mz, .ref ma, .ref sa, .int 0])), (sa, .inl (cS, 9, .inr (.inr (.inr (.inr (va_up (va_up (va_up (va_up (va_up (va_up (va_up (va_up (va_up (fun _ => none) 0 (some s0)) 1 (some s1)) 2 (some s2)) 3 (some s3)) 4 (some s4)) 5 (some s5)) 6 (some s6)) 7 (some s7)) 8 (some s8))))))), (s8, .inr (12, [.int 6, .int 4, .ref mz, .int 0, .int 0, .int 900, .int 0, .int 0]))]) [0, 1, 2, 3, 4, 5, 6, 7] (by decide) rfl
  have hKc := hK.sub (tys' := [(cS, .object RX8)]) [0] rfl
  have hFc := va_free (wc := [(x, .inr (15, [.ref sh, .ref tl, .ref tw, .int 0])), (tl, .inr (3, [.int 0, .ref (z 0), .int 0])), (sh, .inr (13, [.ref rg, .ref dk, .ref hd, .ref lg, .ref pl, .ref pr, .int 0, .int 0, .int 0, .int 0, .int 0, .int 0, .int 0, .int 0, .int 0, .int 0, .int 0])), (dk, .inr (4, [.ref w0, .ref w1, .ref ol, .int 0, .int 0, .int 0, .int 0])), (ol, .inr (3, [.int 0, .ref (z 0), .int 0])), (rg, .inr (11, [.ref mf, .ref mm, .ref mz, .ref ma, .ref sa, .int 0])), (sa, .inl (cS, 9, .inr (.inr (.inr (.inr (va_up (va_up (va_up (va_up (va_up (va_up (va_up (va_up (va_up (fun _ => none) 0 (some s0)) 1 (some s1)) 2 (some s2)) 3 (some s3)) 4 (some s4)) 5 (some s5)) 6 (some s6)) 7 (some s7)) 8 (some s8))))))), (s8, .inr (12, [.int 6, .int 4, .ref mz, .int 0, .int 0, .int 900, .int 0, .int 0]))]) hD hS hA [0, 1, 2, 3, 4, 5, 6, 7] rfl
  refine va_calli (va_runV (As := [.int 115, .int 8, .int p2]) (rest := [.int 0, .ref ou]) ⟨hx, hb, hml, hown, hts⟩ (k_x_order_s8 l dC dI z zK zV sh rg mf mm mz ma sa s0 s1 s2 s3 s4 s5 s6 s7 s8 dk w0 w1 ol hd lg pl pr cS x tl tw p2 s.heap.size (hg0)) (cwV 3 hts gL_order_X11_order rfl rfl rfl (by decide +kernel) ⟨Nat.le_of_ble_eq_true rfl, Nat.le_of_ble_eq_true rfl⟩) ⟨kP_blind, va_recv hKc hPc (ci := 15) (q0 := 0) rfl rfl, kP_go hPc hKc hDc hFc hM hS⟩ rfl rfl hl.1 rfl (lv_room (Nat.le_of_ble_eq_true rfl)) dL_order_7 ⟨Nat.le_of_ble_eq_true rfl, Nat.le_of_ble_eq_true rfl⟩) hS (fun q _ h => hFc q h) hFc (fun r1 u t H1 locs ht hvm hw hB hz1 hk1 hS => ?_)
  obtain ⟨hP, hD, hK⟩ := kJ (wr := [(ou, .inl (co, 1, .inr (.inl of_)))]) (w1 := []) (t1 := []) hP hD hK [0, 1, 2, 3, 4, 5, 6, 7] [8] rfl rfl (by decide) (by decide) hk1 hFc ht hvm hB
  generalize H1 = H at hP hS ⊢
  have hP : va_P (dC, dI) vwCl [(ou, .inl (co, 1, .inr (.inl of_)))] H := hP
  have hD : va_D A [(ou, .inl (co, 1, .inr (.inl of_)))] := hD
  have hK : va_K (dC, dI) vwCl [(cS, .object RX8), (co, .long)] s := hK
  obtain rfl : 0 = r1 := hw
  refine lv_i2l (v := 0) hx hb dL_order_10 (by decide +kernel) ?_
  refine va_last hx hb hK hP hD hS 0 1 rfl rfl (pk_in 0 1 (by decide) rfl) dL_order_11 (fun H locs hP hD hS => ?_)
  have hP : va_P (dC, dI) vwCl [(ou, .inl (co, 1, .inr (.inl (vp_updL of_ 0 0))))] H := hP
  have hD : va_D A [(ou, .inl (co, 1, .inr (.inl (vp_updL of_ 0 0))))] := hD
  refine lv_goto (tgt := 23) hx hb dL_order_12 (by decide) ?_
  refine lv_iconst (v := 0) hx hb dL_order_23 (by decide) ?_
  refine W.widen (k := 4) (n := 31) (Nat.le_of_ble_eq_true rfl) (Nat.le_of_ble_eq_true rfl) ?_
  exact W.iret (v := 0) hx hb hr (fun t ht hW => ⟨⟨0, (), rfl, rfl, kB_end (w9 := [(ou, .inl (co, 1, .inr (.inl (vp_updL of_ 0 0))))]) (t9 := []) hP hK hD [0] [] rfl (by decide) rfl rfl t ht hW⟩, hS.F ht⟩) hS.2.2 dL_order_24
abbrev wd_k_l_order_m (z : Nat → Nat) (sh : Nat) (rg : Nat) (mf : Nat) (mm : Nat) (mz : Nat) (ma : Nat) (sa : Nat) (dk : Nat) (w0 : Nat) (w1 : Nat) (ol : Nat) (hd : Nat) (lg : Nat) (pl : Nat) (pr : Nat) (x : Nat) (tl : Nat) (tw : Nat) (p1 : Int32) (ou : Nat) (co : ClassId) (of_ : Nat → Int64) : va_W := [(x, .inr (15, [.ref sh, .ref tl, .ref tw, .int 0])), (tl, .inr (3, [.int 0, .ref (z 0), .int 0])), (sh, .inr (13, [.ref rg, .ref dk, .ref hd, .ref lg, .ref pl, .ref pr, .int 0, .int 0, .int 0, .int 0, .int 0, .int 0, .int 0, .int 0, .int 0, .int 0, .int 0])), (dk, .inr (4, [.ref w0, .ref w1, .ref ol, .int 0, .int 0, .int 0, .int 0])), (ol, .inr (3, [.int 0, .ref (z 0), .int 0])), (rg, .inr (11, [.ref mf, .ref mm, .ref mz, .ref ma, .ref sa, .int 0])), (ou, .inl (co, 1, .inr (.inl of_)))]
set_option maxHeartbeats 4000000 in
set_option maxRecDepth 100000 in
theorem k_l_order_m (l : Launch) (dC : Nat → ClassId) (dI : Nat → Nat → Nat) (z zK zV : Nat → Nat) (sh : Nat) (rg : Nat) (mf : Nat) (mm : Nat) (mz : Nat) (ma : Nat) (sa : Nat) (dk : Nat) (w0 : Nat) (w1 : Nat) (ol : Nat) (hd : Nat) (lg : Nat) (pl : Nat) (pr : Nat) (x : Nat) (tl : Nat) (tw : Nat) (p1 : Int32) (ou : Nat) (co : ClassId) (of_ : Nat → Int64) (sz : Nat) (hg0 : (0 : Int32) ≤ p1 ∧ p1 ≤ 8) : Met l yL_order wsL_order ({ frames := 9, cells := 4, slots := 31, locals := 191 }) (kP dC dI z zK zV [.ref x, .int 109, .int p1, .int 0, .ref ou] sz (wd_k_l_order_m z sh rg mf mm mz ma sa dk w0 w1 ol hd lg pl pr x tl tw p1 ou co of_) [(co, .long)]) (va_Qi (fun (r : Int32) (_ : Unit) => 0 = r) (fun _ t => kB (dC, dI) (va_A (wd_k_l_order_m z sh rg mf mm mz ma sa dk w0 w1 ol hd lg pl pr x tl tw p1 ou co of_) sz) [(ou, .inl (co, 1, .inr (.inl (vp_updL of_ 0 0))))] [] t) (va_A (wd_k_l_order_m z sh rg mf mm mz ma sa dk w0 w1 ol hd lg pl pr x tl tw p1 ou co of_) sz)) 4 31 (va_A (wd_k_l_order_m z sh rg mf mm mz ma sa dk w0 w1 ol hd lg pl pr x tl tw p1 ou co of_) sz) := by
  refine va_MetW (hh := [(0, 12, 15, 13), (0, 12, 19, 27)]) (cc := cL_order) (maxL := 6) (ret := (some .int)) (by decide) rfl ?_
  intro p e s m args below meth c s₁ B hml hv
  obtain ⟨rfl, hsz, hP, hK, hD0, hM⟩ := hv
  have hx := B.exec
  have hb := B.bytes
  have hr := B.returns
  have hts := atoms_spec (ws := wsL_order) B.pre
  have hown : s.vm.findClass RL = some m.cls := findClass_of_methodNamed B.named
  have hlocks := B.notSynchronized
  have htab := vx_table (x := yL_order) B (hts _ List.mem_cons_self)
  subst hsz
  have hD := hD0.self (sz := s.heap.size)
  generalize hAe : va_A (wd_k_l_order_m z sh rg mf mm mz ma sa dk w0 w1 ol hd lg pl pr x tl tw p1 ou co of_) s.heap.size = A at hD hM ⊢
  have hA : ∀ q : Nat, s.heap.size ≤ q → A q := fun q h => by rw [← hAe]; exact Or.inr h
  have hS : va_S A s.heap s.heap [] := va_S.rf
  have hP : va_P (dC, dI) vwCl [(x, .inr (15, [.ref sh, .ref tl, .ref tw, .int 0])), (tl, .inr (3, [.int 0, .ref (z 0), .int 0])), (sh, .inr (13, [.ref rg, .ref dk, .ref hd, .ref lg, .ref pl, .ref pr, .int 0, .int 0, .int 0, .int 0, .int 0, .int 0, .int 0, .int 0, .int 0, .int 0, .int 0])), (dk, .inr (4, [.ref w0, .ref w1, .ref ol, .int 0, .int 0, .int 0, .int 0])), (ol, .inr (3, [.int 0, .ref (z 0), .int 0])), (rg, .inr (11, [.ref mf, .ref mm, .ref mz, .ref ma, .ref sa, .int 0])), (ou, .inl (co, 1, .inr (.inl of_)))] s.heap := hP
  have hD : va_D A [(x, .inr (15, [.ref sh, .ref tl, .ref tw, .int 0])), (tl, .inr (3, [.int 0, .ref (z 0), .int 0])), (sh, .inr (13, [.ref rg, .ref dk, .ref hd, .ref lg, .ref pl, .ref pr, .int 0, .int 0, .int 0, .int 0, .int 0, .int 0, .int 0, .int 0, .int 0, .int 0, .int 0])), (dk, .inr (4, [.ref w0, .ref w1, .ref ol, .int 0, .int 0, .int 0, .int 0])), (ol, .inr (3, [.int 0, .ref (z 0), .int 0])), (rg, .inr (11, [.ref mf, .ref mm, .ref mz, .ref ma, .ref sa, .int 0])), (ou, .inl (co, 1, .inr (.inl of_)))] := hD
  have hl := lv_entry ([.ref x, .int 109, .int p1, .int 0, .ref ou]) (n := 6) (Nat.le_of_ble_eq_true rfl)
  rw [lg_entry_eq]
  generalize (lg_sl ([.ref x, .int 109, .int p1, .int 0, .ref ou]) ++ List.replicate (6 - (lg_sl ([.ref x, .int 109, .int p1, .int 0, .ref ou])).length) Slot.unset).toArray = ls at hl ⊢
  have hl : lv_has ls 6 [(0, .ref x), (1, .int 109), (2, .int p1), (3, .int 0), (4, .ref ou)] := hl
  refine lv_aload hx hb dL_order_0 (lv_at hl 4 rfl) ?_
  refine lv_iconst (v := 0) hx hb dL_order_2 (by decide) ?_
  refine lv_aload_n hx hb dL_order_3 rfl (lv_at hl 0 rfl) ?_
  refine lv_iload_n hx hb dL_order_4 rfl (lv_at hl 1 rfl) ?_
  refine lv_iload_n hx hb dL_order_5 rfl (lv_at hl 2 rfl) ?_
  refine lv_iload_n hx hb dL_order_6 rfl (lv_at hl 3 rfl) ?_
  have hPc := hP.sub (ws' := [(x, .inr (15, [.ref sh, .ref tl, .ref tw, .int 0])), (tl, .inr (3, [.int 0, .ref (z 0), .int 0])), (sh, .inr (13, [.ref rg, .ref dk, .ref hd, .ref lg, .ref pl, .ref pr, .int 0, .int 0, .int 0, .int 0, .int 0, .int 0, .int 0, .int 0, .int 0, .int 0, .int 0])), (dk, .inr (4, [.ref w0, .ref w1, .ref ol, .int 0, .int 0, .int 0, .int 0])), (ol, .inr (3, [.int 0, .ref (z 0), .int 0])), (rg, .inr (11, [.ref mf, .ref mm, .ref mz, .ref ma, .ref sa, .int 0]))]) [0, 1, 2, 3, 4, 5] rfl
  have hDc := hD.sub (ws' := [(x, .inr (15, [.ref sh, .ref tl, .ref tw, .int 0])), (tl, .inr (3, [.int 0, .ref (z 0), .int 0])), (sh, .inr (13, [.ref rg, .ref dk, .ref hd, .ref lg, .ref pl, .ref pr, .int 0, .int 0, .int 0, .int 0, .int 0, .int 0, .int 0, .int 0, .int 0, .int 0, .int 0])), (dk, .inr (4, [.ref w0, .ref w1, .ref ol, .int 0, .int 0, .int 0, .int 0])), (ol, .inr (3, [.int 0, .ref (z 0), .int 0])), (rg, .inr (11, [.ref mf, .ref mm, .ref mz, .ref ma, .ref sa, .int 0]))]) [0, 1, 2, 3, 4, 5] (by decide) rfl
  have hKc := hK.sub (tys' := []) [] rfl
  have hFc := va_free (wc := [(x, .inr (15, [.ref sh, .ref tl, .ref tw, .int 0])), (tl, .inr (3, [.int 0, .ref (z 0), .int 0])), (sh, .inr (13, [.ref rg, .ref dk, .ref hd, .ref lg, .ref pl, .ref pr, .int 0, .int 0, .int 0, .int 0, .int 0, .int 0, .int 0, .int 0, .int 0, .int 0, .int 0])), (dk, .inr (4, [.ref w0, .ref w1, .ref ol, .int 0, .int 0, .int 0, .int 0])), (ol, .inr (3, [.int 0, .ref (z 0), .int 0])), (rg, .inr (11, [.ref mf, .ref mm, .ref mz, .ref ma, .ref sa, .int 0]))]) hD hS hA [0, 1, 2, 3, 4, 5] rfl
  refine va_calli (va_runV (As := [.int 109, .int p1, .int 0]) (rest := [.int 0, .ref ou]) ⟨hx, hb, hml, hown, hts⟩ (k_x_order_m l dC dI z zK zV sh rg mf mm mz ma sa dk w0 w1 ol hd lg pl pr x tl tw p1 s.heap.size (hg0)) (cwV 3 hts gL_order_X11_order rfl rfl rfl (by decide +kernel) ⟨Nat.le_of_ble_eq_true rfl, Nat.le_of_ble_eq_true rfl⟩) ⟨kP_blind, va_recv hKc hPc (ci := 15) (q0 := 0) rfl rfl, kP_go hPc hKc hDc hFc hM hS⟩ rfl rfl hl.1 rfl (lv_room (Nat.le_of_ble_eq_true rfl)) dL_order_7 ⟨Nat.le_of_ble_eq_true rfl, Nat.le_of_ble_eq_true rfl⟩) hS (fun q _ h => hFc q h) hFc (fun r1 u t H1 locs ht hvm hw hB hz1 hk1 hS => ?_)
  obtain ⟨hP, hD, hK⟩ := kJ (wr := [(ou, .inl (co, 1, .inr (.inl of_)))]) (w1 := []) (t1 := []) hP hD hK [0, 1, 2, 3, 4, 5] [6] rfl rfl (by decide) (by decide) hk1 hFc ht hvm hB
  generalize H1 = H at hP hS ⊢
  have hP : va_P (dC, dI) vwCl [(ou, .inl (co, 1, .inr (.inl of_)))] H := hP
  have hD : va_D A [(ou, .inl (co, 1, .inr (.inl of_)))] := hD
  have hK : va_K (dC, dI) vwCl [(co, .long)] s := hK
  obtain rfl : 0 = r1 := hw
  refine lv_i2l (v := 0) hx hb dL_order_10 (by decide +kernel) ?_
  refine va_last hx hb hK hP hD hS 0 0 rfl rfl (pk_in 0 1 (by decide) rfl) dL_order_11 (fun H locs hP hD hS => ?_)
  have hP : va_P (dC, dI) vwCl [(ou, .inl (co, 1, .inr (.inl (vp_updL of_ 0 0))))] H := hP
  have hD : va_D A [(ou, .inl (co, 1, .inr (.inl (vp_updL of_ 0 0))))] := hD
  refine lv_goto (tgt := 23) hx hb dL_order_12 (by decide) ?_
  refine lv_iconst (v := 0) hx hb dL_order_23 (by decide) ?_
  refine W.widen (k := 4) (n := 31) (Nat.le_of_ble_eq_true rfl) (Nat.le_of_ble_eq_true rfl) ?_
  exact W.iret (v := 0) hx hb hr (fun t ht hW => ⟨⟨0, (), rfl, rfl, kB_end (w9 := [(ou, .inl (co, 1, .inr (.inl (vp_updL of_ 0 0))))]) (t9 := []) hP hK hD [0] [] rfl (by decide) rfl rfl t ht hW⟩, hS.F ht⟩) hS.2.2 dL_order_24
abbrev wd_k_l_order_b (z : Nat → Nat) (sh : Nat) (rg : Nat) (mf : Nat) (mm : Nat) (mz : Nat) (ma : Nat) (sa : Nat) (dk : Nat) (w0 : Nat) (w1 : Nat) (ol : Nat) (hd : Nat) (lg : Nat) (pl : Nat) (pr : Nat) (x : Nat) (tl : Nat) (tw : Nat) (p1 : Int32) (p2 : Int32) (ou : Nat) (co : ClassId) (of_ : Nat → Int64) : va_W := [(x, .inr (15, [.ref sh, .ref tl, .ref tw, .int 0])), (tl, .inr (3, [.int 0, .ref (z 0), .int 0])), (sh, .inr (13, [.ref rg, .ref dk, .ref hd, .ref lg, .ref pl, .ref pr, .int 0, .int 0, .int 0, .int 0, .int 0, .int 0, .int 0, .int 0, .int 0, .int 0, .int 0])), (dk, .inr (4, [.ref w0, .ref w1, .ref ol, .int 0, .int 0, .int 0, .int 0])), (ol, .inr (3, [.int 0, .ref (z 0), .int 0])), (rg, .inr (11, [.ref mf, .ref mm, .ref mz, .ref ma, .ref sa, .int 0])), (ou, .inl (co, 1, .inr (.inl of_)))]
set_option maxHeartbeats 4000000 in
set_option maxRecDepth 100000 in
theorem k_l_order_b (l : Launch) (dC : Nat → ClassId) (dI : Nat → Nat → Nat) (z zK zV : Nat → Nat) (sh : Nat) (rg : Nat) (mf : Nat) (mm : Nat) (mz : Nat) (ma : Nat) (sa : Nat) (dk : Nat) (w0 : Nat) (w1 : Nat) (ol : Nat) (hd : Nat) (lg : Nat) (pl : Nat) (pr : Nat) (x : Nat) (tl : Nat) (tw : Nat) (p1 : Int32) (p2 : Int32) (ou : Nat) (co : ClassId) (of_ : Nat → Int64) (sz : Nat) (hg0 : ((0 : Int32) ≤ p1 ∧ p1 ≤ 2) ∧ (-4 : Int32) ≤ p2 ∧ p2 ≤ 4) : Met l yL_order wsL_order ({ frames := 9, cells := 4, slots := 31, locals := 191 }) (kP dC dI z zK zV [.ref x, .int 98, .int p1, .int p2, .ref ou] sz (wd_k_l_order_b z sh rg mf mm mz ma sa dk w0 w1 ol hd lg pl pr x tl tw p1 p2 ou co of_) [(co, .long)]) (va_Qi (fun (r : Int32) (_ : Unit) => 0 = r) (fun _ t => kB (dC, dI) (va_A (wd_k_l_order_b z sh rg mf mm mz ma sa dk w0 w1 ol hd lg pl pr x tl tw p1 p2 ou co of_) sz) [(ou, .inl (co, 1, .inr (.inl (vp_updL of_ 0 0))))] [] t) (va_A (wd_k_l_order_b z sh rg mf mm mz ma sa dk w0 w1 ol hd lg pl pr x tl tw p1 p2 ou co of_) sz)) 4 31 (va_A (wd_k_l_order_b z sh rg mf mm mz ma sa dk w0 w1 ol hd lg pl pr x tl tw p1 p2 ou co of_) sz) := by
  refine va_MetW (hh := [(0, 12, 15, 13), (0, 12, 19, 27)]) (cc := cL_order) (maxL := 6) (ret := (some .int)) (by decide) rfl ?_
  intro p e s m args below meth c s₁ B hml hv
  obtain ⟨rfl, hsz, hP, hK, hD0, hM⟩ := hv
  have hx := B.exec
  have hb := B.bytes
  have hr := B.returns
  have hts := atoms_spec (ws := wsL_order) B.pre
  have hown : s.vm.findClass RL = some m.cls := findClass_of_methodNamed B.named
  have hlocks := B.notSynchronized
  have htab := vx_table (x := yL_order) B (hts _ List.mem_cons_self)
  subst hsz
  have hD := hD0.self (sz := s.heap.size)
  generalize hAe : va_A (wd_k_l_order_b z sh rg mf mm mz ma sa dk w0 w1 ol hd lg pl pr x tl tw p1 p2 ou co of_) s.heap.size = A at hD hM ⊢
  have hA : ∀ q : Nat, s.heap.size ≤ q → A q := fun q h => by rw [← hAe]; exact Or.inr h
  have hS : va_S A s.heap s.heap [] := va_S.rf
  have hP : va_P (dC, dI) vwCl [(x, .inr (15, [.ref sh, .ref tl, .ref tw, .int 0])), (tl, .inr (3, [.int 0, .ref (z 0), .int 0])), (sh, .inr (13, [.ref rg, .ref dk, .ref hd, .ref lg, .ref pl, .ref pr, .int 0, .int 0, .int 0, .int 0, .int 0, .int 0, .int 0, .int 0, .int 0, .int 0, .int 0])), (dk, .inr (4, [.ref w0, .ref w1, .ref ol, .int 0, .int 0, .int 0, .int 0])), (ol, .inr (3, [.int 0, .ref (z 0), .int 0])), (rg, .inr (11, [.ref mf, .ref mm, .ref mz, .ref ma, .ref sa, .int 0])), (ou, .inl (co, 1, .inr (.inl of_)))] s.heap := hP
  have hD : va_D A [(x, .inr (15, [.ref sh, .ref tl, .ref tw, .int 0])), (tl, .inr (3, [.int 0, .ref (z 0), .int 0])), (sh, .inr (13, [.ref rg, .ref dk, .ref hd, .ref lg, .ref pl, .ref pr, .int 0, .int 0, .int 0, .int 0, .int 0, .int 0, .int 0, .int 0, .int 0, .int 0, .int 0])), (dk, .inr (4, [.ref w0, .ref w1, .ref ol, .int 0, .int 0, .int 0, .int 0])), (ol, .inr (3, [.int 0, .ref (z 0), .int 0])), (rg, .inr (11, [.ref mf, .ref mm, .ref mz, .ref ma, .ref sa, .int 0])), (ou, .inl (co, 1, .inr (.inl of_)))] := hD
  have hl := lv_entry ([.ref x, .int 98, .int p1, .int p2, .ref ou]) (n := 6) (Nat.le_of_ble_eq_true rfl)
  rw [lg_entry_eq]
  generalize (lg_sl ([.ref x, .int 98, .int p1, .int p2, .ref ou]) ++ List.replicate (6 - (lg_sl ([.ref x, .int 98, .int p1, .int p2, .ref ou])).length) Slot.unset).toArray = ls at hl ⊢
  have hl : lv_has ls 6 [(0, .ref x), (1, .int 98), (2, .int p1), (3, .int p2), (4, .ref ou)] := hl
  refine lv_aload hx hb dL_order_0 (lv_at hl 4 rfl) ?_
  refine lv_iconst (v := 0) hx hb dL_order_2 (by decide) ?_
  refine lv_aload_n hx hb dL_order_3 rfl (lv_at hl 0 rfl) ?_
  refine lv_iload_n hx hb dL_order_4 rfl (lv_at hl 1 rfl) ?_
  refine lv_iload_n hx hb dL_order_5 rfl (lv_at hl 2 rfl) ?_
  refine lv_iload_n hx hb dL_order_6 rfl (lv_at hl 3 rfl) ?_
  have hPc := hP.sub (ws' := [(x, .inr (15, [.ref sh, .ref tl, .ref tw, .int 0])), (tl, .inr (3, [.int 0, .ref (z 0), .int 0])), (sh, .inr (13, [.ref rg, .ref dk, .ref hd, .ref lg, .ref pl, .ref pr, .int 0, .int 0, .int 0, .int 0, .int 0, .int 0, .int 0, .int 0, .int 0, .int 0, .int 0])), (dk, .inr (4, [.ref w0, .ref w1, .ref ol, .int 0, .int 0, .int 0, .int 0])), (ol, .inr (3, [.int 0, .ref (z 0), .int 0])), (rg, .inr (11, [.ref mf, .ref mm, .ref mz, .ref ma, .ref sa, .int 0]))]) [0, 1, 2, 3, 4, 5] rfl
  have hDc := hD.sub (ws' := [(x, .inr (15, [.ref sh, .ref tl, .ref tw, .int 0])), (tl, .inr (3, [.int 0, .ref (z 0), .int 0])), (sh, .inr (13, [.ref rg, .ref dk, .ref hd, .ref lg, .ref pl, .ref pr, .int 0, .int 0, .int 0, .int 0, .int 0, .int 0, .int 0, .int 0, .int 0, .int 0, .int 0])), (dk, .inr (4, [.ref w0, .ref w1, .ref ol, .int 0, .int 0, .int 0, .int 0])), (ol, .inr (3, [.int 0, .ref (z 0), .int 0])), (rg, .inr (11, [.ref mf, .ref mm, .ref mz, .ref ma, .ref sa, .int 0]))]) [0, 1, 2, 3, 4, 5] (by decide) rfl
  have hKc := hK.sub (tys' := []) [] rfl
  have hFc := va_free (wc := [(x, .inr (15, [.ref sh, .ref tl, .ref tw, .int 0])), (tl, .inr (3, [.int 0, .ref (z 0), .int 0])), (sh, .inr (13, [.ref rg, .ref dk, .ref hd, .ref lg, .ref pl, .ref pr, .int 0, .int 0, .int 0, .int 0, .int 0, .int 0, .int 0, .int 0, .int 0, .int 0, .int 0])), (dk, .inr (4, [.ref w0, .ref w1, .ref ol, .int 0, .int 0, .int 0, .int 0])), (ol, .inr (3, [.int 0, .ref (z 0), .int 0])), (rg, .inr (11, [.ref mf, .ref mm, .ref mz, .ref ma, .ref sa, .int 0]))]) hD hS hA [0, 1, 2, 3, 4, 5] rfl
  refine va_calli (va_runV (As := [.int 98, .int p1, .int p2]) (rest := [.int 0, .ref ou]) ⟨hx, hb, hml, hown, hts⟩ (k_x_order_b l dC dI z zK zV sh rg mf mm mz ma sa dk w0 w1 ol hd lg pl pr x tl tw p1 p2 s.heap.size (hg0)) (cwV 3 hts gL_order_X11_order rfl rfl rfl (by decide +kernel) ⟨Nat.le_of_ble_eq_true rfl, Nat.le_of_ble_eq_true rfl⟩) ⟨kP_blind, va_recv hKc hPc (ci := 15) (q0 := 0) rfl rfl, kP_go hPc hKc hDc hFc hM hS⟩ rfl rfl hl.1 rfl (lv_room (Nat.le_of_ble_eq_true rfl)) dL_order_7 ⟨Nat.le_of_ble_eq_true rfl, Nat.le_of_ble_eq_true rfl⟩) hS (fun q _ h => hFc q h) hFc (fun r1 u t H1 locs ht hvm hw hB hz1 hk1 hS => ?_)
  obtain ⟨hP, hD, hK⟩ := kJ (wr := [(ou, .inl (co, 1, .inr (.inl of_)))]) (w1 := []) (t1 := []) hP hD hK [0, 1, 2, 3, 4, 5] [6] rfl rfl (by decide) (by decide) hk1 hFc ht hvm hB
  generalize H1 = H at hP hS ⊢
  have hP : va_P (dC, dI) vwCl [(ou, .inl (co, 1, .inr (.inl of_)))] H := hP
  have hD : va_D A [(ou, .inl (co, 1, .inr (.inl of_)))] := hD
  have hK : va_K (dC, dI) vwCl [(co, .long)] s := hK
  obtain rfl : 0 = r1 := hw
  refine lv_i2l (v := 0) hx hb dL_order_10 (by decide +kernel) ?_
  refine va_last hx hb hK hP hD hS 0 0 rfl rfl (pk_in 0 1 (by decide) rfl) dL_order_11 (fun H locs hP hD hS => ?_)
  have hP : va_P (dC, dI) vwCl [(ou, .inl (co, 1, .inr (.inl (vp_updL of_ 0 0))))] H := hP
  have hD : va_D A [(ou, .inl (co, 1, .inr (.inl (vp_updL of_ 0 0))))] := hD
  refine lv_goto (tgt := 23) hx hb dL_order_12 (by decide) ?_
  refine lv_iconst (v := 0) hx hb dL_order_23 (by decide) ?_
  refine W.widen (k := 4) (n := 31) (Nat.le_of_ble_eq_true rfl) (Nat.le_of_ble_eq_true rfl) ?_
  exact W.iret (v := 0) hx hb hr (fun t ht hW => ⟨⟨0, (), rfl, rfl, kB_end (w9 := [(ou, .inl (co, 1, .inr (.inl (vp_updL of_ 0 0))))]) (t9 := []) hP hK hD [0] [] rfl (by decide) rfl rfl t ht hW⟩, hS.F ht⟩) hS.2.2 dL_order_24
abbrev wd_k_l_order_r (z : Nat → Nat) (sh : Nat) (rg : Nat) (mf : Nat) (mm : Nat) (mz : Nat) (ma : Nat) (sa : Nat) (dk : Nat) (w0 : Nat) (w1 : Nat) (ol : Nat) (hd : Nat) (lg : Nat) (pl : Nat) (pr : Nat) (x : Nat) (tl : Nat) (tw : Nat) (p1 : Int32) (ou : Nat) (co : ClassId) (of_ : Nat → Int64) : va_W := [(x, .inr (15, [.ref sh, .ref tl, .ref tw, .int 0])), (tl, .inr (3, [.int 0, .ref (z 0), .int 0])), (sh, .inr (13, [.ref rg, .ref dk, .ref hd, .ref lg, .ref pl, .ref pr, .int 0, .int 0, .int 0, .int 0, .int 0, .int 0, .int 0, .int 0, .int 0, .int 0, .int 0])), (dk, .inr (4, [.ref w0, .ref w1, .ref ol, .int 0, .int 0, .int 0, .int 0])), (ol, .inr (3, [.int 0, .ref (z 0), .int 0])), (rg, .inr (11, [.ref mf, .ref mm, .ref mz, .ref ma, .ref sa, .int 0])), (ou, .inl (co, 1, .inr (.inl of_)))]
set_option maxHeartbeats 4000000 in
set_option maxRecDepth 100000 in
theorem k_l_order_r (l : Launch) (dC : Nat → ClassId) (dI : Nat → Nat → Nat) (z zK zV : Nat → Nat) (sh : Nat) (rg : Nat) (mf : Nat) (mm : Nat) (mz : Nat) (ma : Nat) (sa : Nat) (dk : Nat) (w0 : Nat) (w1 : Nat) (ol : Nat) (hd : Nat) (lg : Nat) (pl : Nat) (pr : Nat) (x : Nat) (tl : Nat) (tw : Nat) (p1 : Int32) (ou : Nat) (co : ClassId) (of_ : Nat → Int64) (sz : Nat) (hg0 : (0 : Int32) ≤ p1 ∧ p1 ≤ 2) : Met l yL_order wsL_order ({ frames := 9, cells := 4, slots := 31, locals := 191 }) (kP dC dI z zK zV [.ref x, .int 114, .int p1, .int 0, .ref ou] sz (wd_k_l_order_r z sh rg mf mm mz ma sa dk w0 w1 ol hd lg pl pr x tl tw p1 ou co of_) [(co, .long)]) (va_Qi (fun (r : Int32) (_ : Unit) => 0 = r) (fun _ t => kB (dC, dI) (va_A (wd_k_l_order_r z sh rg mf mm mz ma sa dk w0 w1 ol hd lg pl pr x tl tw p1 ou co of_) sz) [(ou, .inl (co, 1, .inr (.inl (vp_updL of_ 0 0))))] [] t) (va_A (wd_k_l_order_r z sh rg mf mm mz ma sa dk w0 w1 ol hd lg pl pr x tl tw p1 ou co of_) sz)) 4 31 (va_A (wd_k_l_order_r z sh rg mf mm mz ma sa dk w0 w1 ol hd lg pl pr x tl tw p1 ou co of_) sz) := by
  refine va_MetW (hh := [(0, 12, 15, 13), (0, 12, 19, 27)]) (cc := cL_order) (maxL := 6) (ret := (some .int)) (by decide) rfl ?_
  intro p e s m args below meth c s₁ B hml hv
  obtain ⟨rfl, hsz, hP, hK, hD0, hM⟩ := hv
  have hx := B.exec
  have hb := B.bytes
  have hr := B.returns
  have hts := atoms_spec (ws := wsL_order) B.pre
  have hown : s.vm.findClass RL = some m.cls := findClass_of_methodNamed B.named
  have hlocks := B.notSynchronized
  have htab := vx_table (x := yL_order) B (hts _ List.mem_cons_self)
  subst hsz
  have hD := hD0.self (sz := s.heap.size)
  generalize hAe : va_A (wd_k_l_order_r z sh rg mf mm mz ma sa dk w0 w1 ol hd lg pl pr x tl tw p1 ou co of_) s.heap.size = A at hD hM ⊢
  have hA : ∀ q : Nat, s.heap.size ≤ q → A q := fun q h => by rw [← hAe]; exact Or.inr h
  have hS : va_S A s.heap s.heap [] := va_S.rf
  have hP : va_P (dC, dI) vwCl [(x, .inr (15, [.ref sh, .ref tl, .ref tw, .int 0])), (tl, .inr (3, [.int 0, .ref (z 0), .int 0])), (sh, .inr (13, [.ref rg, .ref dk, .ref hd, .ref lg, .ref pl, .ref pr, .int 0, .int 0, .int 0, .int 0, .int 0, .int 0, .int 0, .int 0, .int 0, .int 0, .int 0])), (dk, .inr (4, [.ref w0, .ref w1, .ref ol, .int 0, .int 0, .int 0, .int 0])), (ol, .inr (3, [.int 0, .ref (z 0), .int 0])), (rg, .inr (11, [.ref mf, .ref mm, .ref mz, .ref ma, .ref sa, .int 0])), (ou, .inl (co, 1, .inr (.inl of_)))] s.heap := hP
  have hD : va_D A [(x, .inr (15, [.ref sh, .ref tl, .ref tw, .int 0])), (tl, .inr (3, [.int 0, .ref (z 0), .int 0])), (sh, .inr (13, [.ref rg, .ref dk, .ref hd, .ref lg, .ref pl, .ref pr, .int 0, .int 0, .int 0, .int 0, .int 0, .int 0, .int 0, .int 0, .int 0, .int 0, .int 0])), (dk, .inr (4, [.ref w0, .ref w1, .ref ol, .int 0, .int 0, .int 0, .int 0])), (ol, .inr (3, [.int 0, .ref (z 0), .int 0])), (rg, .inr (11, [.ref mf, .ref mm, .ref mz, .ref ma, .ref sa, .int 0])), (ou, .inl (co, 1, .inr (.inl of_)))] := hD
  have hl := lv_entry ([.ref x, .int 114, .int p1, .int 0, .ref ou]) (n := 6) (Nat.le_of_ble_eq_true rfl)
  rw [lg_entry_eq]
  generalize (lg_sl ([.ref x, .int 114, .int p1, .int 0, .ref ou]) ++ List.replicate (6 - (lg_sl ([.ref x, .int 114, .int p1, .int 0, .ref ou])).length) Slot.unset).toArray = ls at hl ⊢
  have hl : lv_has ls 6 [(0, .ref x), (1, .int 114), (2, .int p1), (3, .int 0), (4, .ref ou)] := hl
  refine lv_aload hx hb dL_order_0 (lv_at hl 4 rfl) ?_
  refine lv_iconst (v := 0) hx hb dL_order_2 (by decide) ?_
  refine lv_aload_n hx hb dL_order_3 rfl (lv_at hl 0 rfl) ?_
  refine lv_iload_n hx hb dL_order_4 rfl (lv_at hl 1 rfl) ?_
  refine lv_iload_n hx hb dL_order_5 rfl (lv_at hl 2 rfl) ?_
  refine lv_iload_n hx hb dL_order_6 rfl (lv_at hl 3 rfl) ?_
  have hPc := hP.sub (ws' := [(x, .inr (15, [.ref sh, .ref tl, .ref tw, .int 0])), (tl, .inr (3, [.int 0, .ref (z 0), .int 0])), (sh, .inr (13, [.ref rg, .ref dk, .ref hd, .ref lg, .ref pl, .ref pr, .int 0, .int 0, .int 0, .int 0, .int 0, .int 0, .int 0, .int 0, .int 0, .int 0, .int 0])), (dk, .inr (4, [.ref w0, .ref w1, .ref ol, .int 0, .int 0, .int 0, .int 0])), (ol, .inr (3, [.int 0, .ref (z 0), .int 0])), (rg, .inr (11, [.ref mf, .ref mm, .ref mz, .ref ma, .ref sa, .int 0]))]) [0, 1, 2, 3, 4, 5] rfl
  have hDc := hD.sub (ws' := [(x, .inr (15, [.ref sh, .ref tl, .ref tw, .int 0])), (tl, .inr (3, [.int 0, .ref (z 0), .int 0])), (sh, .inr (13, [.ref rg, .ref dk, .ref hd, .ref lg, .ref pl, .ref pr, .int 0, .int 0, .int 0, .int 0, .int 0, .int 0, .int 0, .int 0, .int 0, .int 0, .int 0])), (dk, .inr (4, [.ref w0, .ref w1, .ref ol, .int 0, .int 0, .int 0, .int 0])), (ol, .inr (3, [.int 0, .ref (z 0), .int 0])), (rg, .inr (11, [.ref mf, .ref mm, .ref mz, .ref ma, .ref sa, .int 0]))]) [0, 1, 2, 3, 4, 5] (by decide) rfl
  have hKc := hK.sub (tys' := []) [] rfl
  have hFc := va_free (wc := [(x, .inr (15, [.ref sh, .ref tl, .ref tw, .int 0])), (tl, .inr (3, [.int 0, .ref (z 0), .int 0])), (sh, .inr (13, [.ref rg, .ref dk, .ref hd, .ref lg, .ref pl, .ref pr, .int 0, .int 0, .int 0, .int 0, .int 0, .int 0, .int 0, .int 0, .int 0, .int 0, .int 0])), (dk, .inr (4, [.ref w0, .ref w1, .ref ol, .int 0, .int 0, .int 0, .int 0])), (ol, .inr (3, [.int 0, .ref (z 0), .int 0])), (rg, .inr (11, [.ref mf, .ref mm, .ref mz, .ref ma, .ref sa, .int 0]))]) hD hS hA [0, 1, 2, 3, 4, 5] rfl
  refine va_calli (va_runV (As := [.int 114, .int p1, .int 0]) (rest := [.int 0, .ref ou]) ⟨hx, hb, hml, hown, hts⟩ (k_x_order_r l dC dI z zK zV sh rg mf mm mz ma sa dk w0 w1 ol hd lg pl pr x tl tw p1 s.heap.size (hg0)) (cwV 3 hts gL_order_X11_order rfl rfl rfl (by decide +kernel) ⟨Nat.le_of_ble_eq_true rfl, Nat.le_of_ble_eq_true rfl⟩) ⟨kP_blind, va_recv hKc hPc (ci := 15) (q0 := 0) rfl rfl, kP_go hPc hKc hDc hFc hM hS⟩ rfl rfl hl.1 rfl (lv_room (Nat.le_of_ble_eq_true rfl)) dL_order_7 ⟨Nat.le_of_ble_eq_true rfl, Nat.le_of_ble_eq_true rfl⟩) hS (fun q _ h => hFc q h) hFc (fun r1 u t H1 locs ht hvm hw hB hz1 hk1 hS => ?_)
  obtain ⟨hP, hD, hK⟩ := kJ (wr := [(ou, .inl (co, 1, .inr (.inl of_)))]) (w1 := []) (t1 := []) hP hD hK [0, 1, 2, 3, 4, 5] [6] rfl rfl (by decide) (by decide) hk1 hFc ht hvm hB
  generalize H1 = H at hP hS ⊢
  have hP : va_P (dC, dI) vwCl [(ou, .inl (co, 1, .inr (.inl of_)))] H := hP
  have hD : va_D A [(ou, .inl (co, 1, .inr (.inl of_)))] := hD
  have hK : va_K (dC, dI) vwCl [(co, .long)] s := hK
  obtain rfl : 0 = r1 := hw
  refine lv_i2l (v := 0) hx hb dL_order_10 (by decide +kernel) ?_
  refine va_last hx hb hK hP hD hS 0 0 rfl rfl (pk_in 0 1 (by decide) rfl) dL_order_11 (fun H locs hP hD hS => ?_)
  have hP : va_P (dC, dI) vwCl [(ou, .inl (co, 1, .inr (.inl (vp_updL of_ 0 0))))] H := hP
  have hD : va_D A [(ou, .inl (co, 1, .inr (.inl (vp_updL of_ 0 0))))] := hD
  refine lv_goto (tgt := 23) hx hb dL_order_12 (by decide) ?_
  refine lv_iconst (v := 0) hx hb dL_order_23 (by decide) ?_
  refine W.widen (k := 4) (n := 31) (Nat.le_of_ble_eq_true rfl) (Nat.le_of_ble_eq_true rfl) ?_
  exact W.iret (v := 0) hx hb hr (fun t ht hW => ⟨⟨0, (), rfl, rfl, kB_end (w9 := [(ou, .inl (co, 1, .inr (.inl (vp_updL of_ 0 0))))]) (t9 := []) hP hK hD [0] [] rfl (by decide) rfl rfl t ht hW⟩, hS.F ht⟩) hS.2.2 dL_order_24
abbrev wd_k_l_order_bad (z : Nat → Nat) (sh : Nat) (rg : Nat) (dk : Nat) (hd : Nat) (lg : Nat) (pl : Nat) (pr : Nat) (x : Nat) (tl : Nat) (tw : Nat) (p0 : Int32) (p1 : Int32) (p2 : Int32) (ou : Nat) (co : ClassId) (of_ : Nat → Int64) : va_W := [(x, .inr (15, [.ref sh, .ref tl, .ref tw, .int 0])), (sh, .inr (13, [.ref rg, .ref dk, .ref hd, .ref lg, .ref pl, .ref pr, .int 0, .int 0, .int 0, .int 0, .int 0, .int 0, .int 0, .int 0, .int 0, .int 0, .int 0])), (ou, .inl (co, 1, .inr (.inl of_)))]
set_option maxHeartbeats 4000000 in
set_option maxRecDepth 100000 in
theorem k_l_order_bad (l : Launch) (dC : Nat → ClassId) (dI : Nat → Nat → Nat) (z zK zV : Nat → Nat) (sh : Nat) (rg : Nat) (dk : Nat) (hd : Nat) (lg : Nat) (pl : Nat) (pr : Nat) (x : Nat) (tl : Nat) (tw : Nat) (p0 : Int32) (p1 : Int32) (p2 : Int32) (ou : Nat) (co : ClassId) (of_ : Nat → Int64) (sz : Nat) (hst : l.stackTraces = false) (hb0 : ¬ kO p0 p1 p2) : Met l yL_order wsL_order ({ frames := 7, cells := 1, slots := 6, locals := 105 }) (kP dC dI z zK zV [.ref x, .int p0, .int p1, .int p2, .ref ou] sz (wd_k_l_order_bad z sh rg dk hd lg pl pr x tl tw p0 p1 p2 ou co of_) [(co, .long)]) (va_Qi (fun (r : Int32) (_ : Unit) => 1 = r) (fun _ t => kB (dC, dI) (va_A (wd_k_l_order_bad z sh rg dk hd lg pl pr x tl tw p0 p1 p2 ou co of_) sz) [] [] t) (va_A (wd_k_l_order_bad z sh rg dk hd lg pl pr x tl tw p0 p1 p2 ou co of_) sz)) 1 6 (va_A (wd_k_l_order_bad z sh rg dk hd lg pl pr x tl tw p0 p1 p2 ou co of_) sz) := by
  refine va_MetW (hh := [(0, 12, 15, 13), (0, 12, 19, 27)]) (cc := cL_order) (maxL := 6) (ret := (some .int)) (by decide) rfl ?_
  intro p e s m args below meth c s₁ B hml hv
  obtain ⟨rfl, hsz, hP, hK, hD0, hM⟩ := hv
  have hx := B.exec
  have hb := B.bytes
  have hr := B.returns
  have hts := atoms_spec (ws := wsL_order) B.pre
  have hown : s.vm.findClass RL = some m.cls := findClass_of_methodNamed B.named
  have hlocks := B.notSynchronized
  have htab := vx_table (x := yL_order) B (hts _ List.mem_cons_self)
  subst hsz
  have hD := hD0.self (sz := s.heap.size)
  generalize hAe : va_A (wd_k_l_order_bad z sh rg dk hd lg pl pr x tl tw p0 p1 p2 ou co of_) s.heap.size = A at hD hM ⊢
  have hA : ∀ q : Nat, s.heap.size ≤ q → A q := fun q h => by rw [← hAe]; exact Or.inr h
  have hS : va_S A s.heap s.heap [] := va_S.rf
  have hP : va_P (dC, dI) vwCl [(x, .inr (15, [.ref sh, .ref tl, .ref tw, .int 0])), (sh, .inr (13, [.ref rg, .ref dk, .ref hd, .ref lg, .ref pl, .ref pr, .int 0, .int 0, .int 0, .int 0, .int 0, .int 0, .int 0, .int 0, .int 0, .int 0, .int 0])), (ou, .inl (co, 1, .inr (.inl of_)))] s.heap := hP
  have hD : va_D A [(x, .inr (15, [.ref sh, .ref tl, .ref tw, .int 0])), (sh, .inr (13, [.ref rg, .ref dk, .ref hd, .ref lg, .ref pl, .ref pr, .int 0, .int 0, .int 0, .int 0, .int 0, .int 0, .int 0, .int 0, .int 0, .int 0, .int 0])), (ou, .inl (co, 1, .inr (.inl of_)))] := hD
  have hl := lv_entry ([.ref x, .int p0, .int p1, .int p2, .ref ou]) (n := 6) (Nat.le_of_ble_eq_true rfl)
  rw [lg_entry_eq]
  generalize (lg_sl ([.ref x, .int p0, .int p1, .int p2, .ref ou]) ++ List.replicate (6 - (lg_sl ([.ref x, .int p0, .int p1, .int p2, .ref ou])).length) Slot.unset).toArray = ls at hl ⊢
  have hl : lv_has ls 6 [(0, .ref x), (1, .int p0), (2, .int p1), (3, .int p2), (4, .ref ou)] := hl
  refine lv_aload hx hb dL_order_0 (lv_at hl 4 rfl) ?_
  refine lv_iconst (v := 0) hx hb dL_order_2 (by decide) ?_
  refine lv_aload_n hx hb dL_order_3 rfl (lv_at hl 0 rfl) ?_
  refine lv_iload_n hx hb dL_order_4 rfl (lv_at hl 1 rfl) ?_
  refine lv_iload_n hx hb dL_order_5 rfl (lv_at hl 2 rfl) ?_
  refine lv_iload_n hx hb dL_order_6 rfl (lv_at hl 3 rfl) ?_
  have hPc := hP.sub (ws' := [(x, .inr (15, [.ref sh, .ref tl, .ref tw, .int 0])), (sh, .inr (13, [.ref rg, .ref dk, .ref hd, .ref lg, .ref pl, .ref pr, .int 0, .int 0, .int 0, .int 0, .int 0, .int 0, .int 0, .int 0, .int 0, .int 0, .int 0]))]) [0, 1] rfl
  have hDc := hD.sub (ws' := [(x, .inr (15, [.ref sh, .ref tl, .ref tw, .int 0])), (sh, .inr (13, [.ref rg, .ref dk, .ref hd, .ref lg, .ref pl, .ref pr, .int 0, .int 0, .int 0, .int 0, .int 0, .int 0, .int 0, .int 0, .int 0, .int 0, .int 0]))]) [0, 1] (by decide) rfl
  have hKc := hK.sub (tys' := []) [] rfl
  have hFc := va_free (wc := [(x, .inr (15, [.ref sh, .ref tl, .ref tw, .int 0])), (sh, .inr (13, [.ref rg, .ref dk, .ref hd, .ref lg, .ref pl, .ref pr, .int 0, .int 0, .int 0, .int 0, .int 0, .int 0, .int 0, .int 0, .int 0, .int 0, .int 0]))]) hD hS hA [0, 1] rfl
  refine vx_calli (vx_runV (As := [.int p0, .int p1, .int p2]) (rest := [.int 0, .ref ou]) ⟨hx, hb, hml, hown, hts⟩ (k_x_order_bad l dC dI z zK zV sh rg dk hd lg pl pr x tl tw p0 p1 p2 s.heap.size hst (hb0)) (cwV 3 hts gL_order_X11_order rfl rfl rfl (by decide +kernel) ⟨Nat.le_of_ble_eq_true rfl, Nat.le_of_ble_eq_true rfl⟩) ⟨kP_blind, va_recv hKc hPc (ci := 15) (q0 := 0) rfl rfl, kP_go hPc hKc hDc hFc hM hS⟩ rfl rfl hl.1 rfl (lv_room (Nat.le_of_ble_eq_true rfl)) dL_order_7 ⟨Nat.le_of_ble_eq_true rfl, Nat.le_of_ble_eq_true rfl⟩) hS (fun q _ h => hFc q h) hFc (fun q _ h => hFc q h) (fun E ce q9 u t H1 locs ht hvm hpx hbx hz1 hk1 hS hcell hcv hcl => ?_) (fun r1 u t H1 locs ht hvm hw hB hz1 hk1 hS => ?_)
  · skip
    obtain rfl : "java/lang/IllegalArgumentException" = E := hbx
    obtain ⟨hP, hD, hK⟩ := kJ (wr := [(ou, .inl (co, 1, .inr (.inl of_)))]) (w1 := []) (t1 := []) hP hD hK [0, 1] [2] rfl rfl (by decide) (by decide) hk1 hFc ht hvm (kB_nil t (va_K.moved hvm (hK.sub (tys' := []) [] rfl)))
    generalize H1 = H at hP hS hcell ⊢
    have hP : va_P (dC, dI) vwCl [(ou, .inl (co, 1, .inr (.inl of_)))] H := hP
    have hD : va_D A [(ou, .inl (co, 1, .inr (.inl of_)))] := hD
    have hK : va_K (dC, dI) vwCl [(co, .long)] s := hK
    refine vx_catch hown [] ⟨0, 12, 15, 13⟩ _ (htab.trans rfl) (fun z hz => absurd hz List.not_mem_nil) rfl (by decide) (hts (.classLink RL 13 "java/lang/IllegalArgumentException") (by decide +kernel)) (va_Nw.use rfl (hM.2.2.2.2.2.2.2.2.2.1 _ (List.mem_of_getElem? (i := 0) rfl))) hcell hcv hcl ?_
    refine lv_astore (lv' := [(5, .ref q9), (0, .ref x), (1, .int p0), (2, .int p1), (3, .int p2), (4, .ref ou)]) hx hb dL_order_15 hl (by decide) rfl (fun ls hl => ?_)
    refine lv_iconst (v := 1) hx hb dL_order_17 (by decide) ?_
    refine W.widen (k := 1) (n := 6) (Nat.le_of_ble_eq_true rfl) (Nat.le_of_ble_eq_true rfl) ?_
    exact W.iret (v := 1) hx hb hr (fun t ht hW => ⟨⟨1, (), rfl, rfl, kB_end (w9 := []) (t9 := []) hP hK hD [] [] rfl (by decide) rfl rfl t ht hW⟩, hS.F ht⟩) hS.2.2 dL_order_18
  · skip
    exact hw.elim
abbrev wd_k_l_belay (z : Nat → Nat) (sh : Nat) (rg : Nat) (dk : Nat) (w0 : Nat) (w1 : Nat) (ol : Nat) (hd : Nat) (lg : Nat) (pl : Nat) (pr : Nat) (x : Nat) (tl : Nat) (tw : Nat) (p0 : Int32) (ou : Nat) (co : ClassId) (of_ : Nat → Int64) : va_W := [(x, .inr (15, [.ref sh, .ref tl, .ref tw, .int 0])), (sh, .inr (13, [.ref rg, .ref dk, .ref hd, .ref lg, .ref pl, .ref pr, .int 0, .int 0, .int 0, .int 0, .int 0, .int 0, .int 0, .int 0, .int 0, .int 0, .int 0])), (dk, .inr (4, [.ref w0, .ref w1, .ref ol, .int 0, .int 0, .int 0, .int 0])), (ol, .inr (3, [.int 0, .ref (z 0), .int 0])), (ou, .inl (co, 1, .inr (.inl of_)))]
set_option maxHeartbeats 4000000 in
set_option maxRecDepth 100000 in
theorem k_l_belay (l : Launch) (dC : Nat → ClassId) (dI : Nat → Nat → Nat) (z zK zV : Nat → Nat) (sh : Nat) (rg : Nat) (dk : Nat) (w0 : Nat) (w1 : Nat) (ol : Nat) (hd : Nat) (lg : Nat) (pl : Nat) (pr : Nat) (x : Nat) (tl : Nat) (tw : Nat) (p0 : Int32) (ou : Nat) (co : ClassId) (of_ : Nat → Int64) (sz : Nat) (hst : l.stackTraces = false)  : Met l yL_belay wsL_belay ({ frames := 7, cells := 1, slots := 6, locals := 104 }) (kP dC dI z zK zV [.ref x, .int p0, .ref ou] sz (wd_k_l_belay z sh rg dk w0 w1 ol hd lg pl pr x tl tw p0 ou co of_) [(co, .long)]) (va_Qi (fun (r : Int32) (_ : Unit) => 1 = r) (fun _ t => kB (dC, dI) (va_A (wd_k_l_belay z sh rg dk w0 w1 ol hd lg pl pr x tl tw p0 ou co of_) sz) [] [] t) (va_A (wd_k_l_belay z sh rg dk w0 w1 ol hd lg pl pr x tl tw p0 ou co of_) sz)) 1 6 (va_A (wd_k_l_belay z sh rg dk w0 w1 ol hd lg pl pr x tl tw p0 ou co of_) sz) := by
  refine va_MetW (hh := [(0, 9, 12, 32), (0, 9, 15, 34)]) (cc := cL_belay) (maxL := 4) (ret := (some .int)) (by decide) rfl ?_
  intro p e s m args below meth c s₁ B hml hv
  obtain ⟨rfl, hsz, hP, hK, hD0, hM⟩ := hv
  have hx := B.exec
  have hb := B.bytes
  have hr := B.returns
  have hts := atoms_spec (ws := wsL_belay) B.pre
  have hown : s.vm.findClass RL = some m.cls := findClass_of_methodNamed B.named
  have hlocks := B.notSynchronized
  have htab := vx_table (x := yL_belay) B (hts _ List.mem_cons_self)
  subst hsz
  have hD := hD0.self (sz := s.heap.size)
  generalize hAe : va_A (wd_k_l_belay z sh rg dk w0 w1 ol hd lg pl pr x tl tw p0 ou co of_) s.heap.size = A at hD hM ⊢
  have hA : ∀ q : Nat, s.heap.size ≤ q → A q := fun q h => by rw [← hAe]; exact Or.inr h
  have hS : va_S A s.heap s.heap [] := va_S.rf
  have hP : va_P (dC, dI) vwCl [(x, .inr (15, [.ref sh, .ref tl, .ref tw, .int 0])), (sh, .inr (13, [.ref rg, .ref dk, .ref hd, .ref lg, .ref pl, .ref pr, .int 0, .int 0, .int 0, .int 0, .int 0, .int 0, .int 0, .int 0, .int 0, .int 0, .int 0])), (dk, .inr (4, [.ref w0, .ref w1, .ref ol, .int 0, .int 0, .int 0, .int 0])), (ol, .inr (3, [.int 0, .ref (z 0), .int 0])), (ou, .inl (co, 1, .inr (.inl of_)))] s.heap := hP
  have hD : va_D A [(x, .inr (15, [.ref sh, .ref tl, .ref tw, .int 0])), (sh, .inr (13, [.ref rg, .ref dk, .ref hd, .ref lg, .ref pl, .ref pr, .int 0, .int 0, .int 0, .int 0, .int 0, .int 0, .int 0, .int 0, .int 0, .int 0, .int 0])), (dk, .inr (4, [.ref w0, .ref w1, .ref ol, .int 0, .int 0, .int 0, .int 0])), (ol, .inr (3, [.int 0, .ref (z 0), .int 0])), (ou, .inl (co, 1, .inr (.inl of_)))] := hD
  have hl := lv_entry ([.ref x, .int p0, .ref ou]) (n := 4) (Nat.le_of_ble_eq_true rfl)
  rw [lg_entry_eq]
  generalize (lg_sl ([.ref x, .int p0, .ref ou]) ++ List.replicate (4 - (lg_sl ([.ref x, .int p0, .ref ou])).length) Slot.unset).toArray = ls at hl ⊢
  have hl : lv_has ls 4 [(0, .ref x), (1, .int p0), (2, .ref ou)] := hl
  refine lv_aload_n hx hb dL_belay_0 rfl (lv_at hl 2 rfl) ?_
  refine lv_iconst (v := 0) hx hb dL_belay_1 (by decide) ?_
  refine lv_aload_n hx hb dL_belay_2 rfl (lv_at hl 0 rfl) ?_
  refine lv_iload_n hx hb dL_belay_3 rfl (lv_at hl 1 rfl) ?_
  have hPc := hP.sub (ws' := [(x, .inr (15, [.ref sh, .ref tl, .ref tw, .int 0])), (sh, .inr (13, [.ref rg, .ref dk, .ref hd, .ref lg, .ref pl, .ref pr, .int 0, .int 0, .int 0, .int 0, .int 0, .int 0, .int 0, .int 0, .int 0, .int 0, .int 0])), (dk, .inr (4, [.ref w0, .ref w1, .ref ol, .int 0, .int 0, .int 0, .int 0])), (ol, .inr (3, [.int 0, .ref (z 0), .int 0]))]) [0, 1, 2, 3] rfl
  have hDc := hD.sub (ws' := [(x, .inr (15, [.ref sh, .ref tl, .ref tw, .int 0])), (sh, .inr (13, [.ref rg, .ref dk, .ref hd, .ref lg, .ref pl, .ref pr, .int 0, .int 0, .int 0, .int 0, .int 0, .int 0, .int 0, .int 0, .int 0, .int 0, .int 0])), (dk, .inr (4, [.ref w0, .ref w1, .ref ol, .int 0, .int 0, .int 0, .int 0])), (ol, .inr (3, [.int 0, .ref (z 0), .int 0]))]) [0, 1, 2, 3] (by decide) rfl
  have hKc := hK.sub (tys' := []) [] rfl
  have hFc := va_free (wc := [(x, .inr (15, [.ref sh, .ref tl, .ref tw, .int 0])), (sh, .inr (13, [.ref rg, .ref dk, .ref hd, .ref lg, .ref pl, .ref pr, .int 0, .int 0, .int 0, .int 0, .int 0, .int 0, .int 0, .int 0, .int 0, .int 0, .int 0])), (dk, .inr (4, [.ref w0, .ref w1, .ref ol, .int 0, .int 0, .int 0, .int 0])), (ol, .inr (3, [.int 0, .ref (z 0), .int 0]))]) hD hS hA [0, 1, 2, 3] rfl
  refine vx_calli (vx_runV (As := [.int p0]) (rest := [.int 0, .ref ou]) ⟨hx, hb, hml, hown, hts⟩ (k_x_belay l dC dI z zK zV sh rg dk w0 w1 ol hd lg pl pr x tl tw p0 s.heap.size hst) (cwV 1 hts gL_belay_X11_belay rfl rfl rfl (by decide +kernel) ⟨Nat.le_of_ble_eq_true rfl, Nat.le_of_ble_eq_true rfl⟩) ⟨kP_blind, va_recv hKc hPc (ci := 15) (q0 := 0) rfl rfl, kP_go hPc hKc hDc hFc hM hS⟩ rfl rfl hl.1 rfl (lv_room (Nat.le_of_ble_eq_true rfl)) dL_belay_4 ⟨Nat.le_of_ble_eq_true rfl, Nat.le_of_ble_eq_true rfl⟩) hS (fun q _ h => hFc q h) hFc (fun q _ h => hFc q h) (fun E ce q9 u t H1 locs ht hvm hpx hbx hz1 hk1 hS hcell hcv hcl => ?_) (fun r1 u t H1 locs ht hvm hw hB hz1 hk1 hS => ?_)
  · skip
    obtain rfl : "java/lang/IndexOutOfBoundsException" = E := hbx
    obtain ⟨hP, hD, hK⟩ := kJ (wr := [(ou, .inl (co, 1, .inr (.inl of_)))]) (w1 := []) (t1 := []) hP hD hK [0, 1, 2, 3] [4] rfl rfl (by decide) (by decide) hk1 hFc ht hvm (kB_nil t (va_K.moved hvm (hK.sub (tys' := []) [] rfl)))
    generalize H1 = H at hP hS hcell ⊢
    have hP : va_P (dC, dI) vwCl [(ou, .inl (co, 1, .inr (.inl of_)))] H := hP
    have hD : va_D A [(ou, .inl (co, 1, .inr (.inl of_)))] := hD
    have hK : va_K (dC, dI) vwCl [(co, .long)] s := hK
    refine vx_catch hown [] ⟨0, 9, 12, 32⟩ _ (htab.trans rfl) (fun z hz => absurd hz List.not_mem_nil) rfl (by decide) (hts (.classLink RL 32 "java/lang/IndexOutOfBoundsException") (by decide +kernel)) (va_Nw.use rfl (hM.2.2.2.2.2.2.2.2.2.1 _ (List.mem_of_getElem? (i := 1) rfl))) hcell hcv hcl ?_
    refine lv_astore_n (lv' := [(3, .ref q9), (0, .ref x), (1, .int p0), (2, .ref ou)]) hx hb dL_belay_12 rfl hl (by decide) rfl (fun ls hl => ?_)
    refine lv_iconst (v := 1) hx hb dL_belay_13 (by decide) ?_
    refine W.widen (k := 1) (n := 6) (Nat.le_of_ble_eq_true rfl) (Nat.le_of_ble_eq_true rfl) ?_
    exact W.iret (v := 1) hx hb hr (fun t ht hW => ⟨⟨1, (), rfl, rfl, kB_end (w9 := []) (t9 := []) hP hK hD [] [] rfl (by decide) rfl rfl t ht hW⟩, hS.F ht⟩) hS.2.2 dL_belay_14
  · skip
    exact hw.elim
abbrev wd_k_l_state (z : Nat → Nat) (sh : Nat) (rg : Nat) (dk : Nat) (w0 : Nat) (w1 : Nat) (ol : Nat) (hd : Nat) (lg : Nat) (pl : Nat) (pr : Nat) (x : Nat) (tl : Nat) (tw : Nat) (p0 : Int32) (ou : Nat) (co : ClassId) (of_ : Nat → Int64) : va_W := [(x, .inr (15, [.ref sh, .ref tl, .ref tw, .int 0])), (sh, .inr (13, [.ref rg, .ref dk, .ref hd, .ref lg, .ref pl, .ref pr, .int 0, .int 0, .int 0, .int 0, .int 0, .int 0, .int 0, .int 0, .int 0, .int 0, .int 0])), (dk, .inr (4, [.ref w0, .ref w1, .ref ol, .int 0, .int 0, .int 0, .int 0])), (ol, .inr (3, [.int 0, .ref (z 0), .int 0])), (ou, .inl (co, 1, .inr (.inl of_)))]
set_option maxHeartbeats 4000000 in
set_option maxRecDepth 100000 in
theorem k_l_state (l : Launch) (dC : Nat → ClassId) (dI : Nat → Nat → Nat) (z zK zV : Nat → Nat) (sh : Nat) (rg : Nat) (dk : Nat) (w0 : Nat) (w1 : Nat) (ol : Nat) (hd : Nat) (lg : Nat) (pl : Nat) (pr : Nat) (x : Nat) (tl : Nat) (tw : Nat) (p0 : Int32) (ou : Nat) (co : ClassId) (of_ : Nat → Int64) (sz : Nat) (hst : l.stackTraces = false)  : Met l yL_state wsL_state ({ frames := 7, cells := 1, slots := 6, locals := 104 }) (kP dC dI z zK zV [.ref x, .int p0, .ref ou] sz (wd_k_l_state z sh rg dk w0 w1 ol hd lg pl pr x tl tw p0 ou co of_) [(co, .long)]) (va_Qi (fun (r : Int32) (_ : Unit) => 1 = r) (fun _ t => kB (dC, dI) (va_A (wd_k_l_state z sh rg dk w0 w1 ol hd lg pl pr x tl tw p0 ou co of_) sz) [] [] t) (va_A (wd_k_l_state z sh rg dk w0 w1 ol hd lg pl pr x tl tw p0 ou co of_) sz)) 1 6 (va_A (wd_k_l_state z sh rg dk w0 w1 ol hd lg pl pr x tl tw p0 ou co of_) sz) := by
  refine va_MetW (hh := [(0, 9, 12, 32)]) (cc := cL_state) (maxL := 4) (ret := (some .int)) (by decide) rfl ?_
  intro p e s m args below meth c s₁ B hml hv
  obtain ⟨rfl, hsz, hP, hK, hD0, hM⟩ := hv
  have hx := B.exec
  have hb := B.bytes
  have hr := B.returns
  have hts := atoms_spec (ws := wsL_state) B.pre
  have hown : s.vm.findClass RL = some m.cls := findClass_of_methodNamed B.named
  have hlocks := B.notSynchronized
  have htab := vx_table (x := yL_state) B (hts _ List.mem_cons_self)
  subst hsz
  have hD := hD0.self (sz := s.heap.size)
  generalize hAe : va_A (wd_k_l_state z sh rg dk w0 w1 ol hd lg pl pr x tl tw p0 ou co of_) s.heap.size = A at hD hM ⊢
  have hA : ∀ q : Nat, s.heap.size ≤ q → A q := fun q h => by rw [← hAe]; exact Or.inr h
  have hS : va_S A s.heap s.heap [] := va_S.rf
  have hP : va_P (dC, dI) vwCl [(x, .inr (15, [.ref sh, .ref tl, .ref tw, .int 0])), (sh, .inr (13, [.ref rg, .ref dk, .ref hd, .ref lg, .ref pl, .ref pr, .int 0, .int 0, .int 0, .int 0, .int 0, .int 0, .int 0, .int 0, .int 0, .int 0, .int 0])), (dk, .inr (4, [.ref w0, .ref w1, .ref ol, .int 0, .int 0, .int 0, .int 0])), (ol, .inr (3, [.int 0, .ref (z 0), .int 0])), (ou, .inl (co, 1, .inr (.inl of_)))] s.heap := hP
  have hD : va_D A [(x, .inr (15, [.ref sh, .ref tl, .ref tw, .int 0])), (sh, .inr (13, [.ref rg, .ref dk, .ref hd, .ref lg, .ref pl, .ref pr, .int 0, .int 0, .int 0, .int 0, .int 0, .int 0, .int 0, .int 0, .int 0, .int 0, .int 0])), (dk, .inr (4, [.ref w0, .ref w1, .ref ol, .int 0, .int 0, .int 0, .int 0])), (ol, .inr (3, [.int 0, .ref (z 0), .int 0])), (ou, .inl (co, 1, .inr (.inl of_)))] := hD
  have hl := lv_entry ([.ref x, .int p0, .ref ou]) (n := 4) (Nat.le_of_ble_eq_true rfl)
  rw [lg_entry_eq]
  generalize (lg_sl ([.ref x, .int p0, .ref ou]) ++ List.replicate (4 - (lg_sl ([.ref x, .int p0, .ref ou])).length) Slot.unset).toArray = ls at hl ⊢
  have hl : lv_has ls 4 [(0, .ref x), (1, .int p0), (2, .ref ou)] := hl
  refine lv_aload_n hx hb dL_state_0 rfl (lv_at hl 2 rfl) ?_
  refine lv_iconst (v := 0) hx hb dL_state_1 (by decide) ?_
  refine lv_aload_n hx hb dL_state_2 rfl (lv_at hl 0 rfl) ?_
  refine lv_iload_n hx hb dL_state_3 rfl (lv_at hl 1 rfl) ?_
  have hPc := hP.sub (ws' := [(x, .inr (15, [.ref sh, .ref tl, .ref tw, .int 0])), (sh, .inr (13, [.ref rg, .ref dk, .ref hd, .ref lg, .ref pl, .ref pr, .int 0, .int 0, .int 0, .int 0, .int 0, .int 0, .int 0, .int 0, .int 0, .int 0, .int 0])), (dk, .inr (4, [.ref w0, .ref w1, .ref ol, .int 0, .int 0, .int 0, .int 0])), (ol, .inr (3, [.int 0, .ref (z 0), .int 0]))]) [0, 1, 2, 3] rfl
  have hDc := hD.sub (ws' := [(x, .inr (15, [.ref sh, .ref tl, .ref tw, .int 0])), (sh, .inr (13, [.ref rg, .ref dk, .ref hd, .ref lg, .ref pl, .ref pr, .int 0, .int 0, .int 0, .int 0, .int 0, .int 0, .int 0, .int 0, .int 0, .int 0, .int 0])), (dk, .inr (4, [.ref w0, .ref w1, .ref ol, .int 0, .int 0, .int 0, .int 0])), (ol, .inr (3, [.int 0, .ref (z 0), .int 0]))]) [0, 1, 2, 3] (by decide) rfl
  have hKc := hK.sub (tys' := []) [] rfl
  have hFc := va_free (wc := [(x, .inr (15, [.ref sh, .ref tl, .ref tw, .int 0])), (sh, .inr (13, [.ref rg, .ref dk, .ref hd, .ref lg, .ref pl, .ref pr, .int 0, .int 0, .int 0, .int 0, .int 0, .int 0, .int 0, .int 0, .int 0, .int 0, .int 0])), (dk, .inr (4, [.ref w0, .ref w1, .ref ol, .int 0, .int 0, .int 0, .int 0])), (ol, .inr (3, [.int 0, .ref (z 0), .int 0]))]) hD hS hA [0, 1, 2, 3] rfl
  refine vx_calli (vx_runV (As := [.int p0]) (rest := [.int 0, .ref ou]) ⟨hx, hb, hml, hown, hts⟩ (k_x_state l dC dI z zK zV sh rg dk w0 w1 ol hd lg pl pr x tl tw p0 s.heap.size hst) (cwV 1 hts gL_state_X11_state rfl rfl rfl (by decide +kernel) ⟨Nat.le_of_ble_eq_true rfl, Nat.le_of_ble_eq_true rfl⟩) ⟨kP_blind, va_recv hKc hPc (ci := 15) (q0 := 0) rfl rfl, kP_go hPc hKc hDc hFc hM hS⟩ rfl rfl hl.1 rfl (lv_room (Nat.le_of_ble_eq_true rfl)) dL_state_4 ⟨Nat.le_of_ble_eq_true rfl, Nat.le_of_ble_eq_true rfl⟩) hS (fun q _ h => hFc q h) hFc (fun q _ h => hFc q h) (fun E ce q9 u t H1 locs ht hvm hpx hbx hz1 hk1 hS hcell hcv hcl => ?_) (fun r1 u t H1 locs ht hvm hw hB hz1 hk1 hS => ?_)
  · skip
    obtain rfl : "java/lang/IndexOutOfBoundsException" = E := hbx
    obtain ⟨hP, hD, hK⟩ := kJ (wr := [(ou, .inl (co, 1, .inr (.inl of_)))]) (w1 := []) (t1 := []) hP hD hK [0, 1, 2, 3] [4] rfl rfl (by decide) (by decide) hk1 hFc ht hvm (kB_nil t (va_K.moved hvm (hK.sub (tys' := []) [] rfl)))
    generalize H1 = H at hP hS hcell ⊢
    have hP : va_P (dC, dI) vwCl [(ou, .inl (co, 1, .inr (.inl of_)))] H := hP
    have hD : va_D A [(ou, .inl (co, 1, .inr (.inl of_)))] := hD
    have hK : va_K (dC, dI) vwCl [(co, .long)] s := hK
    refine vx_catch hown [] ⟨0, 9, 12, 32⟩ _ (htab.trans rfl) (fun z hz => absurd hz List.not_mem_nil) rfl (by decide) (hts (.classLink RL 32 "java/lang/IndexOutOfBoundsException") (by decide +kernel)) (va_Nw.use rfl (hM.2.2.2.2.2.2.2.2.2.1 _ (List.mem_of_getElem? (i := 1) rfl))) hcell hcv hcl ?_
    refine lv_astore_n (lv' := [(3, .ref q9), (0, .ref x), (1, .int p0), (2, .ref ou)]) hx hb dL_state_12 rfl hl (by decide) rfl (fun ls hl => ?_)
    refine lv_iconst (v := 1) hx hb dL_state_13 (by decide) ?_
    refine W.widen (k := 1) (n := 6) (Nat.le_of_ble_eq_true rfl) (Nat.le_of_ble_eq_true rfl) ?_
    exact W.iret (v := 1) hx hb hr (fun t ht hW => ⟨⟨1, (), rfl, rfl, kB_end (w9 := []) (t9 := []) hP hK hD [] [] rfl (by decide) rfl rfl t ht hW⟩, hS.F ht⟩) hS.2.2 dL_state_14
  · skip
    exact hw.elim
abbrev wd_k_l_left (z : Nat → Nat) (sh : Nat) (rg : Nat) (dk : Nat) (hd : Nat) (hu : Nat) (hy : Nat) (lg : Nat) (pl : Nat) (pr : Nat) (x : Nat) (tl : Nat) (tw : Nat) (p0 : Int32) (ou : Nat) (co : ClassId) (of_ : Nat → Int64) : va_W := [(x, .inr (15, [.ref sh, .ref tl, .ref tw, .int 0])), (sh, .inr (13, [.ref rg, .ref dk, .ref hd, .ref lg, .ref pl, .ref pr, .int 0, .int 0, .int 0, .int 0, .int 0, .int 0, .int 0, .int 0, .int 0, .int 0, .int 0])), (hd, .inr (6, [.ref hu, .ref hy, .int 0])), (ou, .inl (co, 1, .inr (.inl of_)))]
set_option maxHeartbeats 4000000 in
set_option maxRecDepth 100000 in
theorem k_l_left (l : Launch) (dC : Nat → ClassId) (dI : Nat → Nat → Nat) (z zK zV : Nat → Nat) (sh : Nat) (rg : Nat) (dk : Nat) (hd : Nat) (hu : Nat) (hy : Nat) (lg : Nat) (pl : Nat) (pr : Nat) (x : Nat) (tl : Nat) (tw : Nat) (p0 : Int32) (ou : Nat) (co : ClassId) (of_ : Nat → Int64) (sz : Nat) (hst : l.stackTraces = false)  : Met l yL_left wsL_left ({ frames := 7, cells := 1, slots := 6, locals := 103 }) (kP dC dI z zK zV [.ref x, .int p0, .ref ou] sz (wd_k_l_left z sh rg dk hd hu hy lg pl pr x tl tw p0 ou co of_) [(co, .long)]) (va_Qi (fun (r : Int32) (_ : Unit) => 1 = r) (fun _ t => kB (dC, dI) (va_A (wd_k_l_left z sh rg dk hd hu hy lg pl pr x tl tw p0 ou co of_) sz) [] [] t) (va_A (wd_k_l_left z sh rg dk hd hu hy lg pl pr x tl tw p0 ou co of_) sz)) 1 6 (va_A (wd_k_l_left z sh rg dk hd hu hy lg pl pr x tl tw p0 ou co of_) sz) := by
  refine va_MetW (hh := [(0, 9, 12, 32)]) (cc := cL_left) (maxL := 4) (ret := (some .int)) (by decide) rfl ?_
  intro p e s m args below meth c s₁ B hml hv
  obtain ⟨rfl, hsz, hP, hK, hD0, hM⟩ := hv
  have hx := B.exec
  have hb := B.bytes
  have hr := B.returns
  have hts := atoms_spec (ws := wsL_left) B.pre
  have hown : s.vm.findClass RL = some m.cls := findClass_of_methodNamed B.named
  have hlocks := B.notSynchronized
  have htab := vx_table (x := yL_left) B (hts _ List.mem_cons_self)
  subst hsz
  have hD := hD0.self (sz := s.heap.size)
  generalize hAe : va_A (wd_k_l_left z sh rg dk hd hu hy lg pl pr x tl tw p0 ou co of_) s.heap.size = A at hD hM ⊢
  have hA : ∀ q : Nat, s.heap.size ≤ q → A q := fun q h => by rw [← hAe]; exact Or.inr h
  have hS : va_S A s.heap s.heap [] := va_S.rf
  have hP : va_P (dC, dI) vwCl [(x, .inr (15, [.ref sh, .ref tl, .ref tw, .int 0])), (sh, .inr (13, [.ref rg, .ref dk, .ref hd, .ref lg, .ref pl, .ref pr, .int 0, .int 0, .int 0, .int 0, .int 0, .int 0, .int 0, .int 0, .int 0, .int 0, .int 0])), (hd, .inr (6, [.ref hu, .ref hy, .int 0])), (ou, .inl (co, 1, .inr (.inl of_)))] s.heap := hP
  have hD : va_D A [(x, .inr (15, [.ref sh, .ref tl, .ref tw, .int 0])), (sh, .inr (13, [.ref rg, .ref dk, .ref hd, .ref lg, .ref pl, .ref pr, .int 0, .int 0, .int 0, .int 0, .int 0, .int 0, .int 0, .int 0, .int 0, .int 0, .int 0])), (hd, .inr (6, [.ref hu, .ref hy, .int 0])), (ou, .inl (co, 1, .inr (.inl of_)))] := hD
  have hl := lv_entry ([.ref x, .int p0, .ref ou]) (n := 4) (Nat.le_of_ble_eq_true rfl)
  rw [lg_entry_eq]
  generalize (lg_sl ([.ref x, .int p0, .ref ou]) ++ List.replicate (4 - (lg_sl ([.ref x, .int p0, .ref ou])).length) Slot.unset).toArray = ls at hl ⊢
  have hl : lv_has ls 4 [(0, .ref x), (1, .int p0), (2, .ref ou)] := hl
  refine lv_aload_n hx hb dL_left_0 rfl (lv_at hl 2 rfl) ?_
  refine lv_iconst (v := 0) hx hb dL_left_1 (by decide) ?_
  refine lv_aload_n hx hb dL_left_2 rfl (lv_at hl 0 rfl) ?_
  refine lv_iload_n hx hb dL_left_3 rfl (lv_at hl 1 rfl) ?_
  have hPc := hP.sub (ws' := [(x, .inr (15, [.ref sh, .ref tl, .ref tw, .int 0])), (sh, .inr (13, [.ref rg, .ref dk, .ref hd, .ref lg, .ref pl, .ref pr, .int 0, .int 0, .int 0, .int 0, .int 0, .int 0, .int 0, .int 0, .int 0, .int 0, .int 0])), (hd, .inr (6, [.ref hu, .ref hy, .int 0]))]) [0, 1, 2] rfl
  have hDc := hD.sub (ws' := [(x, .inr (15, [.ref sh, .ref tl, .ref tw, .int 0])), (sh, .inr (13, [.ref rg, .ref dk, .ref hd, .ref lg, .ref pl, .ref pr, .int 0, .int 0, .int 0, .int 0, .int 0, .int 0, .int 0, .int 0, .int 0, .int 0, .int 0])), (hd, .inr (6, [.ref hu, .ref hy, .int 0]))]) [0, 1, 2] (by decide) rfl
  have hKc := hK.sub (tys' := []) [] rfl
  have hFc := va_free (wc := [(x, .inr (15, [.ref sh, .ref tl, .ref tw, .int 0])), (sh, .inr (13, [.ref rg, .ref dk, .ref hd, .ref lg, .ref pl, .ref pr, .int 0, .int 0, .int 0, .int 0, .int 0, .int 0, .int 0, .int 0, .int 0, .int 0, .int 0])), (hd, .inr (6, [.ref hu, .ref hy, .int 0]))]) hD hS hA [0, 1, 2] rfl
  refine vx_calli (vx_runV (As := [.int p0]) (rest := [.int 0, .ref ou]) ⟨hx, hb, hml, hown, hts⟩ (k_x_left l dC dI z zK zV sh rg dk hd hu hy lg pl pr x tl tw p0 s.heap.size hst) (cwV 1 hts gL_left_X11_left rfl rfl rfl (by decide +kernel) ⟨Nat.le_of_ble_eq_true rfl, Nat.le_of_ble_eq_true rfl⟩) ⟨kP_blind, va_recv hKc hPc (ci := 15) (q0 := 0) rfl rfl, kP_go hPc hKc hDc hFc hM hS⟩ rfl rfl hl.1 rfl (lv_room (Nat.le_of_ble_eq_true rfl)) dL_left_4 ⟨Nat.le_of_ble_eq_true rfl, Nat.le_of_ble_eq_true rfl⟩) hS (fun q _ h => hFc q h) hFc (fun q _ h => hFc q h) (fun E ce q9 u t H1 locs ht hvm hpx hbx hz1 hk1 hS hcell hcv hcl => ?_) (fun r1 u t H1 locs ht hvm hw hB hz1 hk1 hS => ?_)
  · skip
    obtain rfl : "java/lang/IndexOutOfBoundsException" = E := hbx
    obtain ⟨hP, hD, hK⟩ := kJ (wr := [(ou, .inl (co, 1, .inr (.inl of_)))]) (w1 := []) (t1 := []) hP hD hK [0, 1, 2] [3] rfl rfl (by decide) (by decide) hk1 hFc ht hvm (kB_nil t (va_K.moved hvm (hK.sub (tys' := []) [] rfl)))
    generalize H1 = H at hP hS hcell ⊢
    have hP : va_P (dC, dI) vwCl [(ou, .inl (co, 1, .inr (.inl of_)))] H := hP
    have hD : va_D A [(ou, .inl (co, 1, .inr (.inl of_)))] := hD
    have hK : va_K (dC, dI) vwCl [(co, .long)] s := hK
    refine vx_catch hown [] ⟨0, 9, 12, 32⟩ _ (htab.trans rfl) (fun z hz => absurd hz List.not_mem_nil) rfl (by decide) (hts (.classLink RL 32 "java/lang/IndexOutOfBoundsException") (by decide +kernel)) (va_Nw.use rfl (hM.2.2.2.2.2.2.2.2.2.1 _ (List.mem_of_getElem? (i := 1) rfl))) hcell hcv hcl ?_
    refine lv_astore_n (lv' := [(3, .ref q9), (0, .ref x), (1, .int p0), (2, .ref ou)]) hx hb dL_left_12 rfl hl (by decide) rfl (fun ls hl => ?_)
    refine lv_iconst (v := 1) hx hb dL_left_13 (by decide) ?_
    refine W.widen (k := 1) (n := 6) (Nat.le_of_ble_eq_true rfl) (Nat.le_of_ble_eq_true rfl) ?_
    exact W.iret (v := 1) hx hb hr (fun t ht hW => ⟨⟨1, (), rfl, rfl, kB_end (w9 := []) (t9 := []) hP hK hD [] [] rfl (by decide) rfl rfl t ht hW⟩, hS.F ht⟩) hS.2.2 dL_left_14
  · skip
    exact hw.elim
abbrev wd_k_l_line (z : Nat → Nat) (sh : Nat) (rg : Nat) (dk : Nat) (hd : Nat) (lg : Nat) (ll : Nat) (lm : Nat) (pl : Nat) (pr : Nat) (x : Nat) (tl : Nat) (tw : Nat) (p0 : Int32) (ou : Nat) (co : ClassId) (of_ : Nat → Int64) : va_W := [(x, .inr (15, [.ref sh, .ref tl, .ref tw, .int 0])), (sh, .inr (13, [.ref rg, .ref dk, .ref hd, .ref lg, .ref pl, .ref pr, .int 0, .int 0, .int 0, .int 0, .int 0, .int 0, .int 0, .int 0, .int 0, .int 0, .int 0])), (lg, .inr (7, [.ref ll, .ref lm, .int 0, .int 0])), (ou, .inl (co, 1, .inr (.inl of_)))]
set_option maxHeartbeats 4000000 in
set_option maxRecDepth 100000 in
theorem k_l_line (l : Launch) (dC : Nat → ClassId) (dI : Nat → Nat → Nat) (z zK zV : Nat → Nat) (sh : Nat) (rg : Nat) (dk : Nat) (hd : Nat) (lg : Nat) (ll : Nat) (lm : Nat) (pl : Nat) (pr : Nat) (x : Nat) (tl : Nat) (tw : Nat) (p0 : Int32) (ou : Nat) (co : ClassId) (of_ : Nat → Int64) (sz : Nat) (hst : l.stackTraces = false)  : Met l yL_line wsL_line ({ frames := 7, cells := 1, slots := 6, locals := 103 }) (kP dC dI z zK zV [.ref x, .int p0, .ref ou] sz (wd_k_l_line z sh rg dk hd lg ll lm pl pr x tl tw p0 ou co of_) [(co, .long)]) (va_Qi (fun (r : Int32) (_ : Unit) => 1 = r) (fun _ t => kB (dC, dI) (va_A (wd_k_l_line z sh rg dk hd lg ll lm pl pr x tl tw p0 ou co of_) sz) [] [] t) (va_A (wd_k_l_line z sh rg dk hd lg ll lm pl pr x tl tw p0 ou co of_) sz)) 1 6 (va_A (wd_k_l_line z sh rg dk hd lg ll lm pl pr x tl tw p0 ou co of_) sz) := by
  refine va_MetW (hh := [(0, 9, 12, 32)]) (cc := cL_line) (maxL := 4) (ret := (some .int)) (by decide) rfl ?_
  intro p e s m args below meth c s₁ B hml hv
  obtain ⟨rfl, hsz, hP, hK, hD0, hM⟩ := hv
  have hx := B.exec
  have hb := B.bytes
  have hr := B.returns
  have hts := atoms_spec (ws := wsL_line) B.pre
  have hown : s.vm.findClass RL = some m.cls := findClass_of_methodNamed B.named
  have hlocks := B.notSynchronized
  have htab := vx_table (x := yL_line) B (hts _ List.mem_cons_self)
  subst hsz
  have hD := hD0.self (sz := s.heap.size)
  generalize hAe : va_A (wd_k_l_line z sh rg dk hd lg ll lm pl pr x tl tw p0 ou co of_) s.heap.size = A at hD hM ⊢
  have hA : ∀ q : Nat, s.heap.size ≤ q → A q := fun q h => by rw [← hAe]; exact Or.inr h
  have hS : va_S A s.heap s.heap [] := va_S.rf
  have hP : va_P (dC, dI) vwCl [(x, .inr (15, [.ref sh, .ref tl, .ref tw, .int 0])), (sh, .inr (13, [.ref rg, .ref dk, .ref hd, .ref lg, .ref pl, .ref pr, .int 0, .int 0, .int 0, .int 0, .int 0, .int 0, .int 0, .int 0, .int 0, .int 0, .int 0])), (lg, .inr (7, [.ref ll, .ref lm, .int 0, .int 0])), (ou, .inl (co, 1, .inr (.inl of_)))] s.heap := hP
  have hD : va_D A [(x, .inr (15, [.ref sh, .ref tl, .ref tw, .int 0])), (sh, .inr (13, [.ref rg, .ref dk, .ref hd, .ref lg, .ref pl, .ref pr, .int 0, .int 0, .int 0, .int 0, .int 0, .int 0, .int 0, .int 0, .int 0, .int 0, .int 0])), (lg, .inr (7, [.ref ll, .ref lm, .int 0, .int 0])), (ou, .inl (co, 1, .inr (.inl of_)))] := hD
  have hl := lv_entry ([.ref x, .int p0, .ref ou]) (n := 4) (Nat.le_of_ble_eq_true rfl)
  rw [lg_entry_eq]
  generalize (lg_sl ([.ref x, .int p0, .ref ou]) ++ List.replicate (4 - (lg_sl ([.ref x, .int p0, .ref ou])).length) Slot.unset).toArray = ls at hl ⊢
  have hl : lv_has ls 4 [(0, .ref x), (1, .int p0), (2, .ref ou)] := hl
  refine lv_aload_n hx hb dL_line_0 rfl (lv_at hl 2 rfl) ?_
  refine lv_iconst (v := 0) hx hb dL_line_1 (by decide) ?_
  refine lv_aload_n hx hb dL_line_2 rfl (lv_at hl 0 rfl) ?_
  refine lv_iload_n hx hb dL_line_3 rfl (lv_at hl 1 rfl) ?_
  have hPc := hP.sub (ws' := [(x, .inr (15, [.ref sh, .ref tl, .ref tw, .int 0])), (sh, .inr (13, [.ref rg, .ref dk, .ref hd, .ref lg, .ref pl, .ref pr, .int 0, .int 0, .int 0, .int 0, .int 0, .int 0, .int 0, .int 0, .int 0, .int 0, .int 0])), (lg, .inr (7, [.ref ll, .ref lm, .int 0, .int 0]))]) [0, 1, 2] rfl
  have hDc := hD.sub (ws' := [(x, .inr (15, [.ref sh, .ref tl, .ref tw, .int 0])), (sh, .inr (13, [.ref rg, .ref dk, .ref hd, .ref lg, .ref pl, .ref pr, .int 0, .int 0, .int 0, .int 0, .int 0, .int 0, .int 0, .int 0, .int 0, .int 0, .int 0])), (lg, .inr (7, [.ref ll, .ref lm, .int 0, .int 0]))]) [0, 1, 2] (by decide) rfl
  have hKc := hK.sub (tys' := []) [] rfl
  have hFc := va_free (wc := [(x, .inr (15, [.ref sh, .ref tl, .ref tw, .int 0])), (sh, .inr (13, [.ref rg, .ref dk, .ref hd, .ref lg, .ref pl, .ref pr, .int 0, .int 0, .int 0, .int 0, .int 0, .int 0, .int 0, .int 0, .int 0, .int 0, .int 0])), (lg, .inr (7, [.ref ll, .ref lm, .int 0, .int 0]))]) hD hS hA [0, 1, 2] rfl
  refine vx_calli (vx_runV (As := [.int p0]) (rest := [.int 0, .ref ou]) ⟨hx, hb, hml, hown, hts⟩ (k_x_line l dC dI z zK zV sh rg dk hd lg ll lm pl pr x tl tw p0 s.heap.size hst) (cwV 1 hts gL_line_X11_line rfl rfl rfl (by decide +kernel) ⟨Nat.le_of_ble_eq_true rfl, Nat.le_of_ble_eq_true rfl⟩) ⟨kP_blind, va_recv hKc hPc (ci := 15) (q0 := 0) rfl rfl, kP_go hPc hKc hDc hFc hM hS⟩ rfl rfl hl.1 rfl (lv_room (Nat.le_of_ble_eq_true rfl)) dL_line_4 ⟨Nat.le_of_ble_eq_true rfl, Nat.le_of_ble_eq_true rfl⟩) hS (fun q _ h => hFc q h) hFc (fun q _ h => hFc q h) (fun E ce q9 u t H1 locs ht hvm hpx hbx hz1 hk1 hS hcell hcv hcl => ?_) (fun r1 u t H1 locs ht hvm hw hB hz1 hk1 hS => ?_)
  · skip
    obtain rfl : "java/lang/IndexOutOfBoundsException" = E := hbx
    obtain ⟨hP, hD, hK⟩ := kJ (wr := [(ou, .inl (co, 1, .inr (.inl of_)))]) (w1 := []) (t1 := []) hP hD hK [0, 1, 2] [3] rfl rfl (by decide) (by decide) hk1 hFc ht hvm (kB_nil t (va_K.moved hvm (hK.sub (tys' := []) [] rfl)))
    generalize H1 = H at hP hS hcell ⊢
    have hP : va_P (dC, dI) vwCl [(ou, .inl (co, 1, .inr (.inl of_)))] H := hP
    have hD : va_D A [(ou, .inl (co, 1, .inr (.inl of_)))] := hD
    have hK : va_K (dC, dI) vwCl [(co, .long)] s := hK
    refine vx_catch hown [] ⟨0, 9, 12, 32⟩ _ (htab.trans rfl) (fun z hz => absurd hz List.not_mem_nil) rfl (by decide) (hts (.classLink RL 32 "java/lang/IndexOutOfBoundsException") (by decide +kernel)) (va_Nw.use rfl (hM.2.2.2.2.2.2.2.2.2.1 _ (List.mem_of_getElem? (i := 1) rfl))) hcell hcv hcl ?_
    refine lv_astore_n (lv' := [(3, .ref q9), (0, .ref x), (1, .int p0), (2, .ref ou)]) hx hb dL_line_12 rfl hl (by decide) rfl (fun ls hl => ?_)
    refine lv_iconst (v := 1) hx hb dL_line_13 (by decide) ?_
    refine W.widen (k := 1) (n := 6) (Nat.le_of_ble_eq_true rfl) (Nat.le_of_ble_eq_true rfl) ?_
    exact W.iret (v := 1) hx hb hr (fun t ht hW => ⟨⟨1, (), rfl, rfl, kB_end (w9 := []) (t9 := []) hP hK hD [] [] rfl (by decide) rfl rfl t ht hW⟩, hS.F ht⟩) hS.2.2 dL_line_14
  · skip
    exact hw.elim
abbrev wd_k_l_lineMinute (z : Nat → Nat) (sh : Nat) (rg : Nat) (dk : Nat) (hd : Nat) (lg : Nat) (ll : Nat) (lm : Nat) (pl : Nat) (pr : Nat) (x : Nat) (tl : Nat) (tw : Nat) (p0 : Int32) (ou : Nat) (co : ClassId) (of_ : Nat → Int64) : va_W := [(x, .inr (15, [.ref sh, .ref tl, .ref tw, .int 0])), (sh, .inr (13, [.ref rg, .ref dk, .ref hd, .ref lg, .ref pl, .ref pr, .int 0, .int 0, .int 0, .int 0, .int 0, .int 0, .int 0, .int 0, .int 0, .int 0, .int 0])), (lg, .inr (7, [.ref ll, .ref lm, .int 0, .int 0])), (ou, .inl (co, 1, .inr (.inl of_)))]
set_option maxHeartbeats 4000000 in
set_option maxRecDepth 100000 in
theorem k_l_lineMinute (l : Launch) (dC : Nat → ClassId) (dI : Nat → Nat → Nat) (z zK zV : Nat → Nat) (sh : Nat) (rg : Nat) (dk : Nat) (hd : Nat) (lg : Nat) (ll : Nat) (lm : Nat) (pl : Nat) (pr : Nat) (x : Nat) (tl : Nat) (tw : Nat) (p0 : Int32) (ou : Nat) (co : ClassId) (of_ : Nat → Int64) (sz : Nat) (hst : l.stackTraces = false)  : Met l yL_lineMinute wsL_lineMinute ({ frames := 7, cells := 1, slots := 6, locals := 103 }) (kP dC dI z zK zV [.ref x, .int p0, .ref ou] sz (wd_k_l_lineMinute z sh rg dk hd lg ll lm pl pr x tl tw p0 ou co of_) [(co, .long)]) (va_Qi (fun (r : Int32) (_ : Unit) => 1 = r) (fun _ t => kB (dC, dI) (va_A (wd_k_l_lineMinute z sh rg dk hd lg ll lm pl pr x tl tw p0 ou co of_) sz) [] [] t) (va_A (wd_k_l_lineMinute z sh rg dk hd lg ll lm pl pr x tl tw p0 ou co of_) sz)) 1 6 (va_A (wd_k_l_lineMinute z sh rg dk hd lg ll lm pl pr x tl tw p0 ou co of_) sz) := by
  refine va_MetW (hh := [(0, 9, 12, 32)]) (cc := cL_lineMinute) (maxL := 4) (ret := (some .int)) (by decide) rfl ?_
  intro p e s m args below meth c s₁ B hml hv
  obtain ⟨rfl, hsz, hP, hK, hD0, hM⟩ := hv
  have hx := B.exec
  have hb := B.bytes
  have hr := B.returns
  have hts := atoms_spec (ws := wsL_lineMinute) B.pre
  have hown : s.vm.findClass RL = some m.cls := findClass_of_methodNamed B.named
  have hlocks := B.notSynchronized
  have htab := vx_table (x := yL_lineMinute) B (hts _ List.mem_cons_self)
  subst hsz
  have hD := hD0.self (sz := s.heap.size)
  generalize hAe : va_A (wd_k_l_lineMinute z sh rg dk hd lg ll lm pl pr x tl tw p0 ou co of_) s.heap.size = A at hD hM ⊢
  have hA : ∀ q : Nat, s.heap.size ≤ q → A q := fun q h => by rw [← hAe]; exact Or.inr h
  have hS : va_S A s.heap s.heap [] := va_S.rf
  have hP : va_P (dC, dI) vwCl [(x, .inr (15, [.ref sh, .ref tl, .ref tw, .int 0])), (sh, .inr (13, [.ref rg, .ref dk, .ref hd, .ref lg, .ref pl, .ref pr, .int 0, .int 0, .int 0, .int 0, .int 0, .int 0, .int 0, .int 0, .int 0, .int 0, .int 0])), (lg, .inr (7, [.ref ll, .ref lm, .int 0, .int 0])), (ou, .inl (co, 1, .inr (.inl of_)))] s.heap := hP
  have hD : va_D A [(x, .inr (15, [.ref sh, .ref tl, .ref tw, .int 0])), (sh, .inr (13, [.ref rg, .ref dk, .ref hd, .ref lg, .ref pl, .ref pr, .int 0, .int 0, .int 0, .int 0, .int 0, .int 0, .int 0, .int 0, .int 0, .int 0, .int 0])), (lg, .inr (7, [.ref ll, .ref lm, .int 0, .int 0])), (ou, .inl (co, 1, .inr (.inl of_)))] := hD
  have hl := lv_entry ([.ref x, .int p0, .ref ou]) (n := 4) (Nat.le_of_ble_eq_true rfl)
  rw [lg_entry_eq]
  generalize (lg_sl ([.ref x, .int p0, .ref ou]) ++ List.replicate (4 - (lg_sl ([.ref x, .int p0, .ref ou])).length) Slot.unset).toArray = ls at hl ⊢
  have hl : lv_has ls 4 [(0, .ref x), (1, .int p0), (2, .ref ou)] := hl
  refine lv_aload_n hx hb dL_lineMinute_0 rfl (lv_at hl 2 rfl) ?_
  refine lv_iconst (v := 0) hx hb dL_lineMinute_1 (by decide) ?_
  refine lv_aload_n hx hb dL_lineMinute_2 rfl (lv_at hl 0 rfl) ?_
  refine lv_iload_n hx hb dL_lineMinute_3 rfl (lv_at hl 1 rfl) ?_
  have hPc := hP.sub (ws' := [(x, .inr (15, [.ref sh, .ref tl, .ref tw, .int 0])), (sh, .inr (13, [.ref rg, .ref dk, .ref hd, .ref lg, .ref pl, .ref pr, .int 0, .int 0, .int 0, .int 0, .int 0, .int 0, .int 0, .int 0, .int 0, .int 0, .int 0])), (lg, .inr (7, [.ref ll, .ref lm, .int 0, .int 0]))]) [0, 1, 2] rfl
  have hDc := hD.sub (ws' := [(x, .inr (15, [.ref sh, .ref tl, .ref tw, .int 0])), (sh, .inr (13, [.ref rg, .ref dk, .ref hd, .ref lg, .ref pl, .ref pr, .int 0, .int 0, .int 0, .int 0, .int 0, .int 0, .int 0, .int 0, .int 0, .int 0, .int 0])), (lg, .inr (7, [.ref ll, .ref lm, .int 0, .int 0]))]) [0, 1, 2] (by decide) rfl
  have hKc := hK.sub (tys' := []) [] rfl
  have hFc := va_free (wc := [(x, .inr (15, [.ref sh, .ref tl, .ref tw, .int 0])), (sh, .inr (13, [.ref rg, .ref dk, .ref hd, .ref lg, .ref pl, .ref pr, .int 0, .int 0, .int 0, .int 0, .int 0, .int 0, .int 0, .int 0, .int 0, .int 0, .int 0])), (lg, .inr (7, [.ref ll, .ref lm, .int 0, .int 0]))]) hD hS hA [0, 1, 2] rfl
  refine vx_calli (vx_runV (As := [.int p0]) (rest := [.int 0, .ref ou]) ⟨hx, hb, hml, hown, hts⟩ (k_x_lineMinute l dC dI z zK zV sh rg dk hd lg ll lm pl pr x tl tw p0 s.heap.size hst) (cwV 1 hts gL_lineMinute_X11_lineMinute rfl rfl rfl (by decide +kernel) ⟨Nat.le_of_ble_eq_true rfl, Nat.le_of_ble_eq_true rfl⟩) ⟨kP_blind, va_recv hKc hPc (ci := 15) (q0 := 0) rfl rfl, kP_go hPc hKc hDc hFc hM hS⟩ rfl rfl hl.1 rfl (lv_room (Nat.le_of_ble_eq_true rfl)) dL_lineMinute_4 ⟨Nat.le_of_ble_eq_true rfl, Nat.le_of_ble_eq_true rfl⟩) hS (fun q _ h => hFc q h) hFc (fun q _ h => hFc q h) (fun E ce q9 u t H1 locs ht hvm hpx hbx hz1 hk1 hS hcell hcv hcl => ?_) (fun r1 u t H1 locs ht hvm hw hB hz1 hk1 hS => ?_)
  · skip
    obtain rfl : "java/lang/IndexOutOfBoundsException" = E := hbx
    obtain ⟨hP, hD, hK⟩ := kJ (wr := [(ou, .inl (co, 1, .inr (.inl of_)))]) (w1 := []) (t1 := []) hP hD hK [0, 1, 2] [3] rfl rfl (by decide) (by decide) hk1 hFc ht hvm (kB_nil t (va_K.moved hvm (hK.sub (tys' := []) [] rfl)))
    generalize H1 = H at hP hS hcell ⊢
    have hP : va_P (dC, dI) vwCl [(ou, .inl (co, 1, .inr (.inl of_)))] H := hP
    have hD : va_D A [(ou, .inl (co, 1, .inr (.inl of_)))] := hD
    have hK : va_K (dC, dI) vwCl [(co, .long)] s := hK
    refine vx_catch hown [] ⟨0, 9, 12, 32⟩ _ (htab.trans rfl) (fun z hz => absurd hz List.not_mem_nil) rfl (by decide) (hts (.classLink RL 32 "java/lang/IndexOutOfBoundsException") (by decide +kernel)) (va_Nw.use rfl (hM.2.2.2.2.2.2.2.2.2.1 _ (List.mem_of_getElem? (i := 1) rfl))) hcell hcv hcl ?_
    refine lv_astore_n (lv' := [(3, .ref q9), (0, .ref x), (1, .int p0), (2, .ref ou)]) hx hb dL_lineMinute_12 rfl hl (by decide) rfl (fun ls hl => ?_)
    refine lv_iconst (v := 1) hx hb dL_lineMinute_13 (by decide) ?_
    refine W.widen (k := 1) (n := 6) (Nat.le_of_ble_eq_true rfl) (Nat.le_of_ble_eq_true rfl) ?_
    exact W.iret (v := 1) hx hb hr (fun t ht hW => ⟨⟨1, (), rfl, rfl, kB_end (w9 := []) (t9 := []) hP hK hD [] [] rfl (by decide) rfl rfl t ht hW⟩, hS.F ht⟩) hS.2.2 dL_lineMinute_14
  · skip
    exact hw.elim
abbrev wd_k_l_tired0 (z : Nat → Nat) (sh : Nat) (rg : Nat) (dk : Nat) (w0 : Nat) (w1 : Nat) (ol : Nat) (hd : Nat) (lg : Nat) (pl : Nat) (pr : Nat) (x : Nat) (tl : Nat) (tw : Nat) (ou : Nat) (co : ClassId) (of_ : Nat → Int64) : va_W := [(x, .inr (15, [.ref sh, .ref tl, .ref tw, .int 0])), (sh, .inr (13, [.ref rg, .ref dk, .ref hd, .ref lg, .ref pl, .ref pr, .int 0, .int 0, .int 0, .int 0, .int 0, .int 0, .int 0, .int 0, .int 0, .int 0, .int 0])), (dk, .inr (4, [.ref w0, .ref w1, .ref ol, .int 0, .int 0, .int 0, .int 0])), (w0, .inr (14, [.int 0, .int 0])), (w1, .inr (14, [.int 0, .int 0])), (ou, .inl (co, 1, .inr (.inl of_)))]
set_option maxHeartbeats 4000000 in
set_option maxRecDepth 100000 in
theorem k_l_tired0 (l : Launch) (dC : Nat → ClassId) (dI : Nat → Nat → Nat) (z zK zV : Nat → Nat) (sh : Nat) (rg : Nat) (dk : Nat) (w0 : Nat) (w1 : Nat) (ol : Nat) (hd : Nat) (lg : Nat) (pl : Nat) (pr : Nat) (x : Nat) (tl : Nat) (tw : Nat) (ou : Nat) (co : ClassId) (of_ : Nat → Int64) (sz : Nat)  : Met l yL_tired wsL_tired ({ frames := 2, cells := 0, slots := 0, locals := 43 }) (kP dC dI z zK zV [.ref x, .int 0, .ref ou] sz (wd_k_l_tired0 z sh rg dk w0 w1 ol hd lg pl pr x tl tw ou co of_) [(co, .long)]) (va_Qi (fun (r : Int32) (_ : Unit) => 0 = r) (fun _ t => kB (dC, dI) (va_A (wd_k_l_tired0 z sh rg dk w0 w1 ol hd lg pl pr x tl tw ou co of_) sz) [(ou, .inl (co, 1, .inr (.inl (vp_updL of_ 0 0))))] [] t) (va_A (wd_k_l_tired0 z sh rg dk w0 w1 ol hd lg pl pr x tl tw ou co of_) sz)) 0 0 (va_A (wd_k_l_tired0 z sh rg dk w0 w1 ol hd lg pl pr x tl tw ou co of_) sz) := by
  refine va_MetW (hh := [(0, 9, 12, 32)]) (cc := cL_tired) (maxL := 4) (ret := (some .int)) (by decide) rfl ?_
  intro p e s m args below meth c s₁ B hml hv
  obtain ⟨rfl, hsz, hP, hK, hD0, hM⟩ := hv
  have hx := B.exec
  have hb := B.bytes
  have hr := B.returns
  have hts := atoms_spec (ws := wsL_tired) B.pre
  have hown : s.vm.findClass RL = some m.cls := findClass_of_methodNamed B.named
  have hlocks := B.notSynchronized
  have htab := vx_table (x := yL_tired) B (hts _ List.mem_cons_self)
  subst hsz
  have hD := hD0.self (sz := s.heap.size)
  generalize hAe : va_A (wd_k_l_tired0 z sh rg dk w0 w1 ol hd lg pl pr x tl tw ou co of_) s.heap.size = A at hD hM ⊢
  have hA : ∀ q : Nat, s.heap.size ≤ q → A q := fun q h => by rw [← hAe]; exact Or.inr h
  have hS : va_S A s.heap s.heap [] := va_S.rf
  have hP : va_P (dC, dI) vwCl [(x, .inr (15, [.ref sh, .ref tl, .ref tw, .int 0])), (sh, .inr (13, [.ref rg, .ref dk, .ref hd, .ref lg, .ref pl, .ref pr, .int 0, .int 0, .int 0, .int 0, .int 0, .int 0, .int 0, .int 0, .int 0, .int 0, .int 0])), (dk, .inr (4, [.ref w0, .ref w1, .ref ol, .int 0, .int 0, .int 0, .int 0])), (w0, .inr (14, [.int 0, .int 0])), (w1, .inr (14, [.int 0, .int 0])), (ou, .inl (co, 1, .inr (.inl of_)))] s.heap := hP
  have hD : va_D A [(x, .inr (15, [.ref sh, .ref tl, .ref tw, .int 0])), (sh, .inr (13, [.ref rg, .ref dk, .ref hd, .ref lg, .ref pl, .ref pr, .int 0, .int 0, .int 0, .int 0, .int 0, .int 0, .int 0, .int 0, .int 0, .int 0, .int 0])), (dk, .inr (4, [.ref w0, .ref w1, .ref ol, .int 0, .int 0, .int 0, .int 0])), (w0, .inr (14, [.int 0, .int 0])), (w1, .inr (14, [.int 0, .int 0])), (ou, .inl (co, 1, .inr (.inl of_)))] := hD
  have hl := lv_entry ([.ref x, .int 0, .ref ou]) (n := 4) (Nat.le_of_ble_eq_true rfl)
  rw [lg_entry_eq]
  generalize (lg_sl ([.ref x, .int 0, .ref ou]) ++ List.replicate (4 - (lg_sl ([.ref x, .int 0, .ref ou])).length) Slot.unset).toArray = ls at hl ⊢
  have hl : lv_has ls 4 [(0, .ref x), (1, .int 0), (2, .ref ou)] := hl
  refine lv_aload_n hx hb dL_tired_0 rfl (lv_at hl 2 rfl) ?_
  refine lv_iconst (v := 0) hx hb dL_tired_1 (by decide) ?_
  refine lv_aload_n hx hb dL_tired_2 rfl (lv_at hl 0 rfl) ?_
  refine lv_iload_n hx hb dL_tired_3 rfl (lv_at hl 1 rfl) ?_
  have hPc := hP.sub (ws' := [(x, .inr (15, [.ref sh, .ref tl, .ref tw, .int 0])), (sh, .inr (13, [.ref rg, .ref dk, .ref hd, .ref lg, .ref pl, .ref pr, .int 0, .int 0, .int 0, .int 0, .int 0, .int 0, .int 0, .int 0, .int 0, .int 0, .int 0])), (dk, .inr (4, [.ref w0, .ref w1, .ref ol, .int 0, .int 0, .int 0, .int 0])), (w0, .inr (14, [.int 0, .int 0])), (w1, .inr (14, [.int 0, .int 0]))]) [0, 1, 2, 3, 4] rfl
  have hDc := hD.sub (ws' := [(x, .inr (15, [.ref sh, .ref tl, .ref tw, .int 0])), (sh, .inr (13, [.ref rg, .ref dk, .ref hd, .ref lg, .ref pl, .ref pr, .int 0, .int 0, .int 0, .int 0, .int 0, .int 0, .int 0, .int 0, .int 0, .int 0, .int 0])), (dk, .inr (4, [.ref w0, .ref w1, .ref ol, .int 0, .int 0, .int 0, .int 0])), (w0, .inr (14, [.int 0, .int 0])), (w1, .inr (14, [.int 0, .int 0]))]) [0, 1, 2, 3, 4] (by decide) rfl
  have hKc := hK.sub (tys' := []) [] rfl
  have hFc := va_free (wc := [(x, .inr (15, [.ref sh, .ref tl, .ref tw, .int 0])), (sh, .inr (13, [.ref rg, .ref dk, .ref hd, .ref lg, .ref pl, .ref pr, .int 0, .int 0, .int 0, .int 0, .int 0, .int 0, .int 0, .int 0, .int 0, .int 0, .int 0])), (dk, .inr (4, [.ref w0, .ref w1, .ref ol, .int 0, .int 0, .int 0, .int 0])), (w0, .inr (14, [.int 0, .int 0])), (w1, .inr (14, [.int 0, .int 0]))]) hD hS hA [0, 1, 2, 3, 4] rfl
  refine va_calli (va_runV (As := [.int 0]) (rest := [.int 0, .ref ou]) ⟨hx, hb, hml, hown, hts⟩ (k_x_tired0 l dC dI z zK zV sh rg dk w0 w1 ol hd lg pl pr x tl tw s.heap.size) (cwV 1 hts gL_tired_X11_tired rfl rfl rfl (by decide +kernel) ⟨Nat.le_of_ble_eq_true rfl, Nat.le_of_ble_eq_true rfl⟩) ⟨kP_blind, va_recv hKc hPc (ci := 15) (q0 := 0) rfl rfl, kP_go hPc hKc hDc hFc hM hS⟩ rfl rfl hl.1 rfl (lv_room (Nat.le_of_ble_eq_true rfl)) dL_tired_4 ⟨Nat.le_of_ble_eq_true rfl, Nat.le_of_ble_eq_true rfl⟩) hS (fun q _ h => hFc q h) hFc (fun r1 u t H1 locs ht hvm hw hB hz1 hk1 hS => ?_)
  obtain ⟨hP, hD, hK⟩ := kJ (wr := [(ou, .inl (co, 1, .inr (.inl of_)))]) (w1 := []) (t1 := []) hP hD hK [0, 1, 2, 3, 4] [5] rfl rfl (by decide) (by decide) hk1 hFc ht hvm hB
  generalize H1 = H at hP hS ⊢
  have hP : va_P (dC, dI) vwCl [(ou, .inl (co, 1, .inr (.inl of_)))] H := hP
  have hD : va_D A [(ou, .inl (co, 1, .inr (.inl of_)))] := hD
  have hK : va_K (dC, dI) vwCl [(co, .long)] s := hK
  obtain rfl : 0 = r1 := hw
  refine lv_i2l (v := 0) hx hb dL_tired_7 (by decide +kernel) ?_
  refine va_last hx hb hK hP hD hS 0 0 rfl rfl (pk_in 0 1 (by decide) rfl) dL_tired_8 (fun H locs hP hD hS => ?_)
  have hP : va_P (dC, dI) vwCl [(ou, .inl (co, 1, .inr (.inl (vp_updL of_ 0 0))))] H := hP
  have hD : va_D A [(ou, .inl (co, 1, .inr (.inl (vp_updL of_ 0 0))))] := hD
  refine lv_goto (tgt := 15) hx hb dL_tired_9 (by decide) ?_
  refine lv_iconst (v := 0) hx hb dL_tired_15 (by decide) ?_
  exact W.iret (v := 0) hx hb hr (fun t ht hW => ⟨⟨0, (), rfl, rfl, kB_end (w9 := [(ou, .inl (co, 1, .inr (.inl (vp_updL of_ 0 0))))]) (t9 := []) hP hK hD [0] [] rfl (by decide) rfl rfl t ht hW⟩, hS.F ht⟩) hS.2.2 dL_tired_16
abbrev wd_k_l_tired1 (z : Nat → Nat) (sh : Nat) (rg : Nat) (dk : Nat) (w0 : Nat) (w1 : Nat) (ol : Nat) (hd : Nat) (lg : Nat) (pl : Nat) (pr : Nat) (x : Nat) (tl : Nat) (tw : Nat) (ou : Nat) (co : ClassId) (of_ : Nat → Int64) : va_W := [(x, .inr (15, [.ref sh, .ref tl, .ref tw, .int 0])), (sh, .inr (13, [.ref rg, .ref dk, .ref hd, .ref lg, .ref pl, .ref pr, .int 0, .int 0, .int 0, .int 0, .int 0, .int 0, .int 0, .int 0, .int 0, .int 0, .int 0])), (dk, .inr (4, [.ref w0, .ref w1, .ref ol, .int 0, .int 0, .int 0, .int 0])), (w0, .inr (14, [.int 0, .int 0])), (w1, .inr (14, [.int 0, .int 0])), (ou, .inl (co, 1, .inr (.inl of_)))]
set_option maxHeartbeats 4000000 in
set_option maxRecDepth 100000 in
theorem k_l_tired1 (l : Launch) (dC : Nat → ClassId) (dI : Nat → Nat → Nat) (z zK zV : Nat → Nat) (sh : Nat) (rg : Nat) (dk : Nat) (w0 : Nat) (w1 : Nat) (ol : Nat) (hd : Nat) (lg : Nat) (pl : Nat) (pr : Nat) (x : Nat) (tl : Nat) (tw : Nat) (ou : Nat) (co : ClassId) (of_ : Nat → Int64) (sz : Nat)  : Met l yL_tired wsL_tired ({ frames := 2, cells := 0, slots := 0, locals := 43 }) (kP dC dI z zK zV [.ref x, .int 1, .ref ou] sz (wd_k_l_tired1 z sh rg dk w0 w1 ol hd lg pl pr x tl tw ou co of_) [(co, .long)]) (va_Qi (fun (r : Int32) (_ : Unit) => 0 = r) (fun _ t => kB (dC, dI) (va_A (wd_k_l_tired1 z sh rg dk w0 w1 ol hd lg pl pr x tl tw ou co of_) sz) [(ou, .inl (co, 1, .inr (.inl (vp_updL of_ 0 0))))] [] t) (va_A (wd_k_l_tired1 z sh rg dk w0 w1 ol hd lg pl pr x tl tw ou co of_) sz)) 0 0 (va_A (wd_k_l_tired1 z sh rg dk w0 w1 ol hd lg pl pr x tl tw ou co of_) sz) := by
  refine va_MetW (hh := [(0, 9, 12, 32)]) (cc := cL_tired) (maxL := 4) (ret := (some .int)) (by decide) rfl ?_
  intro p e s m args below meth c s₁ B hml hv
  obtain ⟨rfl, hsz, hP, hK, hD0, hM⟩ := hv
  have hx := B.exec
  have hb := B.bytes
  have hr := B.returns
  have hts := atoms_spec (ws := wsL_tired) B.pre
  have hown : s.vm.findClass RL = some m.cls := findClass_of_methodNamed B.named
  have hlocks := B.notSynchronized
  have htab := vx_table (x := yL_tired) B (hts _ List.mem_cons_self)
  subst hsz
  have hD := hD0.self (sz := s.heap.size)
  generalize hAe : va_A (wd_k_l_tired1 z sh rg dk w0 w1 ol hd lg pl pr x tl tw ou co of_) s.heap.size = A at hD hM ⊢
  have hA : ∀ q : Nat, s.heap.size ≤ q → A q := fun q h => by rw [← hAe]; exact Or.inr h
  have hS : va_S A s.heap s.heap [] := va_S.rf
  have hP : va_P (dC, dI) vwCl [(x, .inr (15, [.ref sh, .ref tl, .ref tw, .int 0])), (sh, .inr (13, [.ref rg, .ref dk, .ref hd, .ref lg, .ref pl, .ref pr, .int 0, .int 0, .int 0, .int 0, .int 0, .int 0, .int 0, .int 0, .int 0, .int 0, .int 0])), (dk, .inr (4, [.ref w0, .ref w1, .ref ol, .int 0, .int 0, .int 0, .int 0])), (w0, .inr (14, [.int 0, .int 0])), (w1, .inr (14, [.int 0, .int 0])), (ou, .inl (co, 1, .inr (.inl of_)))] s.heap := hP
  have hD : va_D A [(x, .inr (15, [.ref sh, .ref tl, .ref tw, .int 0])), (sh, .inr (13, [.ref rg, .ref dk, .ref hd, .ref lg, .ref pl, .ref pr, .int 0, .int 0, .int 0, .int 0, .int 0, .int 0, .int 0, .int 0, .int 0, .int 0, .int 0])), (dk, .inr (4, [.ref w0, .ref w1, .ref ol, .int 0, .int 0, .int 0, .int 0])), (w0, .inr (14, [.int 0, .int 0])), (w1, .inr (14, [.int 0, .int 0])), (ou, .inl (co, 1, .inr (.inl of_)))] := hD
  have hl := lv_entry ([.ref x, .int 1, .ref ou]) (n := 4) (Nat.le_of_ble_eq_true rfl)
  rw [lg_entry_eq]
  generalize (lg_sl ([.ref x, .int 1, .ref ou]) ++ List.replicate (4 - (lg_sl ([.ref x, .int 1, .ref ou])).length) Slot.unset).toArray = ls at hl ⊢
  have hl : lv_has ls 4 [(0, .ref x), (1, .int 1), (2, .ref ou)] := hl
  refine lv_aload_n hx hb dL_tired_0 rfl (lv_at hl 2 rfl) ?_
  refine lv_iconst (v := 0) hx hb dL_tired_1 (by decide) ?_
  refine lv_aload_n hx hb dL_tired_2 rfl (lv_at hl 0 rfl) ?_
  refine lv_iload_n hx hb dL_tired_3 rfl (lv_at hl 1 rfl) ?_
  have hPc := hP.sub (ws' := [(x, .inr (15, [.ref sh, .ref tl, .ref tw, .int 0])), (sh, .inr (13, [.ref rg, .ref dk, .ref hd, .ref lg, .ref pl, .ref pr, .int 0, .int 0, .int 0, .int 0, .int 0, .int 0, .int 0, .int 0, .int 0, .int 0, .int 0])), (dk, .inr (4, [.ref w0, .ref w1, .ref ol, .int 0, .int 0, .int 0, .int 0])), (w0, .inr (14, [.int 0, .int 0])), (w1, .inr (14, [.int 0, .int 0]))]) [0, 1, 2, 3, 4] rfl
  have hDc := hD.sub (ws' := [(x, .inr (15, [.ref sh, .ref tl, .ref tw, .int 0])), (sh, .inr (13, [.ref rg, .ref dk, .ref hd, .ref lg, .ref pl, .ref pr, .int 0, .int 0, .int 0, .int 0, .int 0, .int 0, .int 0, .int 0, .int 0, .int 0, .int 0])), (dk, .inr (4, [.ref w0, .ref w1, .ref ol, .int 0, .int 0, .int 0, .int 0])), (w0, .inr (14, [.int 0, .int 0])), (w1, .inr (14, [.int 0, .int 0]))]) [0, 1, 2, 3, 4] (by decide) rfl
  have hKc := hK.sub (tys' := []) [] rfl
  have hFc := va_free (wc := [(x, .inr (15, [.ref sh, .ref tl, .ref tw, .int 0])), (sh, .inr (13, [.ref rg, .ref dk, .ref hd, .ref lg, .ref pl, .ref pr, .int 0, .int 0, .int 0, .int 0, .int 0, .int 0, .int 0, .int 0, .int 0, .int 0, .int 0])), (dk, .inr (4, [.ref w0, .ref w1, .ref ol, .int 0, .int 0, .int 0, .int 0])), (w0, .inr (14, [.int 0, .int 0])), (w1, .inr (14, [.int 0, .int 0]))]) hD hS hA [0, 1, 2, 3, 4] rfl
  refine va_calli (va_runV (As := [.int 1]) (rest := [.int 0, .ref ou]) ⟨hx, hb, hml, hown, hts⟩ (k_x_tired1 l dC dI z zK zV sh rg dk w0 w1 ol hd lg pl pr x tl tw s.heap.size) (cwV 1 hts gL_tired_X11_tired rfl rfl rfl (by decide +kernel) ⟨Nat.le_of_ble_eq_true rfl, Nat.le_of_ble_eq_true rfl⟩) ⟨kP_blind, va_recv hKc hPc (ci := 15) (q0 := 0) rfl rfl, kP_go hPc hKc hDc hFc hM hS⟩ rfl rfl hl.1 rfl (lv_room (Nat.le_of_ble_eq_true rfl)) dL_tired_4 ⟨Nat.le_of_ble_eq_true rfl, Nat.le_of_ble_eq_true rfl⟩) hS (fun q _ h => hFc q h) hFc (fun r1 u t H1 locs ht hvm hw hB hz1 hk1 hS => ?_)
  obtain ⟨hP, hD, hK⟩ := kJ (wr := [(ou, .inl (co, 1, .inr (.inl of_)))]) (w1 := []) (t1 := []) hP hD hK [0, 1, 2, 3, 4] [5] rfl rfl (by decide) (by decide) hk1 hFc ht hvm hB
  generalize H1 = H at hP hS ⊢
  have hP : va_P (dC, dI) vwCl [(ou, .inl (co, 1, .inr (.inl of_)))] H := hP
  have hD : va_D A [(ou, .inl (co, 1, .inr (.inl of_)))] := hD
  have hK : va_K (dC, dI) vwCl [(co, .long)] s := hK
  obtain rfl : 0 = r1 := hw
  refine lv_i2l (v := 0) hx hb dL_tired_7 (by decide +kernel) ?_
  refine va_last hx hb hK hP hD hS 0 0 rfl rfl (pk_in 0 1 (by decide) rfl) dL_tired_8 (fun H locs hP hD hS => ?_)
  have hP : va_P (dC, dI) vwCl [(ou, .inl (co, 1, .inr (.inl (vp_updL of_ 0 0))))] H := hP
  have hD : va_D A [(ou, .inl (co, 1, .inr (.inl (vp_updL of_ 0 0))))] := hD
  refine lv_goto (tgt := 15) hx hb dL_tired_9 (by decide) ?_
  refine lv_iconst (v := 0) hx hb dL_tired_15 (by decide) ?_
  exact W.iret (v := 0) hx hb hr (fun t ht hW => ⟨⟨0, (), rfl, rfl, kB_end (w9 := [(ou, .inl (co, 1, .inr (.inl (vp_updL of_ 0 0))))]) (t9 := []) hP hK hD [0] [] rfl (by decide) rfl rfl t ht hW⟩, hS.F ht⟩) hS.2.2 dL_tired_16
abbrev wd_k_l_tired_bad (z : Nat → Nat) (sh : Nat) (rg : Nat) (dk : Nat) (w0 : Nat) (w1 : Nat) (ol : Nat) (hd : Nat) (lg : Nat) (pl : Nat) (pr : Nat) (x : Nat) (tl : Nat) (tw : Nat) (p0 : Int32) (ou : Nat) (co : ClassId) (of_ : Nat → Int64) : va_W := [(x, .inr (15, [.ref sh, .ref tl, .ref tw, .int 0])), (sh, .inr (13, [.ref rg, .ref dk, .ref hd, .ref lg, .ref pl, .ref pr, .int 0, .int 0, .int 0, .int 0, .int 0, .int 0, .int 0, .int 0, .int 0, .int 0, .int 0])), (dk, .inr (4, [.ref w0, .ref w1, .ref ol, .int 0, .int 0, .int 0, .int 0])), (w0, .inr (14, [.int 0, .int 0])), (w1, .inr (14, [.int 0, .int 0])), (ou, .inl (co, 1, .inr (.inl of_)))]
set_option maxHeartbeats 4000000 in
set_option maxRecDepth 100000 in
theorem k_l_tired_bad (l : Launch) (dC : Nat → ClassId) (dI : Nat → Nat → Nat) (z zK zV : Nat → Nat) (sh : Nat) (rg : Nat) (dk : Nat) (w0 : Nat) (w1 : Nat) (ol : Nat) (hd : Nat) (lg : Nat) (pl : Nat) (pr : Nat) (x : Nat) (tl : Nat) (tw : Nat) (p0 : Int32) (ou : Nat) (co : ClassId) (of_ : Nat → Int64) (sz : Nat) (hst : l.stackTraces = false) (hb0 : ¬ ((0 : Int32) ≤ p0 ∧ p0 ≤ 1)) : Met l yL_tired wsL_tired ({ frames := 7, cells := 1, slots := 6, locals := 103 }) (kP dC dI z zK zV [.ref x, .int p0, .ref ou] sz (wd_k_l_tired_bad z sh rg dk w0 w1 ol hd lg pl pr x tl tw p0 ou co of_) [(co, .long)]) (va_Qi (fun (r : Int32) (_ : Unit) => 1 = r) (fun _ t => kB (dC, dI) (va_A (wd_k_l_tired_bad z sh rg dk w0 w1 ol hd lg pl pr x tl tw p0 ou co of_) sz) [] [] t) (va_A (wd_k_l_tired_bad z sh rg dk w0 w1 ol hd lg pl pr x tl tw p0 ou co of_) sz)) 1 6 (va_A (wd_k_l_tired_bad z sh rg dk w0 w1 ol hd lg pl pr x tl tw p0 ou co of_) sz) := by
  refine va_MetW (hh := [(0, 9, 12, 32)]) (cc := cL_tired) (maxL := 4) (ret := (some .int)) (by decide) rfl ?_
  intro p e s m args below meth c s₁ B hml hv
  obtain ⟨rfl, hsz, hP, hK, hD0, hM⟩ := hv
  have hx := B.exec
  have hb := B.bytes
  have hr := B.returns
  have hts := atoms_spec (ws := wsL_tired) B.pre
  have hown : s.vm.findClass RL = some m.cls := findClass_of_methodNamed B.named
  have hlocks := B.notSynchronized
  have htab := vx_table (x := yL_tired) B (hts _ List.mem_cons_self)
  subst hsz
  have hD := hD0.self (sz := s.heap.size)
  generalize hAe : va_A (wd_k_l_tired_bad z sh rg dk w0 w1 ol hd lg pl pr x tl tw p0 ou co of_) s.heap.size = A at hD hM ⊢
  have hA : ∀ q : Nat, s.heap.size ≤ q → A q := fun q h => by rw [← hAe]; exact Or.inr h
  have hS : va_S A s.heap s.heap [] := va_S.rf
  have hP : va_P (dC, dI) vwCl [(x, .inr (15, [.ref sh, .ref tl, .ref tw, .int 0])), (sh, .inr (13, [.ref rg, .ref dk, .ref hd, .ref lg, .ref pl, .ref pr, .int 0, .int 0, .int 0, .int 0, .int 0, .int 0, .int 0, .int 0, .int 0, .int 0, .int 0])), (dk, .inr (4, [.ref w0, .ref w1, .ref ol, .int 0, .int 0, .int 0, .int 0])), (w0, .inr (14, [.int 0, .int 0])), (w1, .inr (14, [.int 0, .int 0])), (ou, .inl (co, 1, .inr (.inl of_)))] s.heap := hP
  have hD : va_D A [(x, .inr (15, [.ref sh, .ref tl, .ref tw, .int 0])), (sh, .inr (13, [.ref rg, .ref dk, .ref hd, .ref lg, .ref pl, .ref pr, .int 0, .int 0, .int 0, .int 0, .int 0, .int 0, .int 0, .int 0, .int 0, .int 0, .int 0])), (dk, .inr (4, [.ref w0, .ref w1, .ref ol, .int 0, .int 0, .int 0, .int 0])), (w0, .inr (14, [.int 0, .int 0])), (w1, .inr (14, [.int 0, .int 0])), (ou, .inl (co, 1, .inr (.inl of_)))] := hD
  have hl := lv_entry ([.ref x, .int p0, .ref ou]) (n := 4) (Nat.le_of_ble_eq_true rfl)
  rw [lg_entry_eq]
  generalize (lg_sl ([.ref x, .int p0, .ref ou]) ++ List.replicate (4 - (lg_sl ([.ref x, .int p0, .ref ou])).length) Slot.unset).toArray = ls at hl ⊢
  have hl : lv_has ls 4 [(0, .ref x), (1, .int p0), (2, .ref ou)] := hl
  refine lv_aload_n hx hb dL_tired_0 rfl (lv_at hl 2 rfl) ?_
  refine lv_iconst (v := 0) hx hb dL_tired_1 (by decide) ?_
  refine lv_aload_n hx hb dL_tired_2 rfl (lv_at hl 0 rfl) ?_
  refine lv_iload_n hx hb dL_tired_3 rfl (lv_at hl 1 rfl) ?_
  have hPc := hP.sub (ws' := [(x, .inr (15, [.ref sh, .ref tl, .ref tw, .int 0])), (sh, .inr (13, [.ref rg, .ref dk, .ref hd, .ref lg, .ref pl, .ref pr, .int 0, .int 0, .int 0, .int 0, .int 0, .int 0, .int 0, .int 0, .int 0, .int 0, .int 0])), (dk, .inr (4, [.ref w0, .ref w1, .ref ol, .int 0, .int 0, .int 0, .int 0])), (w0, .inr (14, [.int 0, .int 0])), (w1, .inr (14, [.int 0, .int 0]))]) [0, 1, 2, 3, 4] rfl
  have hDc := hD.sub (ws' := [(x, .inr (15, [.ref sh, .ref tl, .ref tw, .int 0])), (sh, .inr (13, [.ref rg, .ref dk, .ref hd, .ref lg, .ref pl, .ref pr, .int 0, .int 0, .int 0, .int 0, .int 0, .int 0, .int 0, .int 0, .int 0, .int 0, .int 0])), (dk, .inr (4, [.ref w0, .ref w1, .ref ol, .int 0, .int 0, .int 0, .int 0])), (w0, .inr (14, [.int 0, .int 0])), (w1, .inr (14, [.int 0, .int 0]))]) [0, 1, 2, 3, 4] (by decide) rfl
  have hKc := hK.sub (tys' := []) [] rfl
  have hFc := va_free (wc := [(x, .inr (15, [.ref sh, .ref tl, .ref tw, .int 0])), (sh, .inr (13, [.ref rg, .ref dk, .ref hd, .ref lg, .ref pl, .ref pr, .int 0, .int 0, .int 0, .int 0, .int 0, .int 0, .int 0, .int 0, .int 0, .int 0, .int 0])), (dk, .inr (4, [.ref w0, .ref w1, .ref ol, .int 0, .int 0, .int 0, .int 0])), (w0, .inr (14, [.int 0, .int 0])), (w1, .inr (14, [.int 0, .int 0]))]) hD hS hA [0, 1, 2, 3, 4] rfl
  refine vx_calli (vx_runV (As := [.int p0]) (rest := [.int 0, .ref ou]) ⟨hx, hb, hml, hown, hts⟩ (k_x_tired_bad l dC dI z zK zV sh rg dk w0 w1 ol hd lg pl pr x tl tw p0 s.heap.size hst (hb0)) (cwV 1 hts gL_tired_X11_tired rfl rfl rfl (by decide +kernel) ⟨Nat.le_of_ble_eq_true rfl, Nat.le_of_ble_eq_true rfl⟩) ⟨kP_blind, va_recv hKc hPc (ci := 15) (q0 := 0) rfl rfl, kP_go hPc hKc hDc hFc hM hS⟩ rfl rfl hl.1 rfl (lv_room (Nat.le_of_ble_eq_true rfl)) dL_tired_4 ⟨Nat.le_of_ble_eq_true rfl, Nat.le_of_ble_eq_true rfl⟩) hS (fun q _ h => hFc q h) hFc (fun q _ h => hFc q h) (fun E ce q9 u t H1 locs ht hvm hpx hbx hz1 hk1 hS hcell hcv hcl => ?_) (fun r1 u t H1 locs ht hvm hw hB hz1 hk1 hS => ?_)
  · skip
    obtain rfl : "java/lang/IndexOutOfBoundsException" = E := hbx
    obtain ⟨hP, hD, hK⟩ := kJ (wr := [(ou, .inl (co, 1, .inr (.inl of_)))]) (w1 := []) (t1 := []) hP hD hK [0, 1, 2, 3, 4] [5] rfl rfl (by decide) (by decide) hk1 hFc ht hvm (kB_nil t (va_K.moved hvm (hK.sub (tys' := []) [] rfl)))
    generalize H1 = H at hP hS hcell ⊢
    have hP : va_P (dC, dI) vwCl [(ou, .inl (co, 1, .inr (.inl of_)))] H := hP
    have hD : va_D A [(ou, .inl (co, 1, .inr (.inl of_)))] := hD
    have hK : va_K (dC, dI) vwCl [(co, .long)] s := hK
    refine vx_catch hown [] ⟨0, 9, 12, 32⟩ _ (htab.trans rfl) (fun z hz => absurd hz List.not_mem_nil) rfl (by decide) (hts (.classLink RL 32 "java/lang/IndexOutOfBoundsException") (by decide +kernel)) (va_Nw.use rfl (hM.2.2.2.2.2.2.2.2.2.1 _ (List.mem_of_getElem? (i := 1) rfl))) hcell hcv hcl ?_
    refine lv_astore_n (lv' := [(3, .ref q9), (0, .ref x), (1, .int p0), (2, .ref ou)]) hx hb dL_tired_12 rfl hl (by decide) rfl (fun ls hl => ?_)
    refine lv_iconst (v := 1) hx hb dL_tired_13 (by decide) ?_
    refine W.widen (k := 1) (n := 6) (Nat.le_of_ble_eq_true rfl) (Nat.le_of_ble_eq_true rfl) ?_
    exact W.iret (v := 1) hx hb hr (fun t ht hW => ⟨⟨1, (), rfl, rfl, kB_end (w9 := []) (t9 := []) hP hK hD [] [] rfl (by decide) rfl rfl t ht hW⟩, hS.F ht⟩) hS.2.2 dL_tired_14
  · skip
    exact hw.elim
abbrev wd_k_l_sick0 (z : Nat → Nat) (sh : Nat) (rg : Nat) (dk : Nat) (w0 : Nat) (w1 : Nat) (ol : Nat) (hd : Nat) (lg : Nat) (pl : Nat) (pr : Nat) (x : Nat) (tl : Nat) (tw : Nat) (ou : Nat) (co : ClassId) (of_ : Nat → Int64) : va_W := [(x, .inr (15, [.ref sh, .ref tl, .ref tw, .int 0])), (sh, .inr (13, [.ref rg, .ref dk, .ref hd, .ref lg, .ref pl, .ref pr, .int 0, .int 0, .int 0, .int 0, .int 0, .int 0, .int 0, .int 0, .int 0, .int 0, .int 0])), (dk, .inr (4, [.ref w0, .ref w1, .ref ol, .int 0, .int 0, .int 0, .int 0])), (w0, .inr (14, [.int 0, .int 0])), (w1, .inr (14, [.int 0, .int 0])), (ou, .inl (co, 1, .inr (.inl of_)))]
set_option maxHeartbeats 4000000 in
set_option maxRecDepth 100000 in
theorem k_l_sick0 (l : Launch) (dC : Nat → ClassId) (dI : Nat → Nat → Nat) (z zK zV : Nat → Nat) (sh : Nat) (rg : Nat) (dk : Nat) (w0 : Nat) (w1 : Nat) (ol : Nat) (hd : Nat) (lg : Nat) (pl : Nat) (pr : Nat) (x : Nat) (tl : Nat) (tw : Nat) (ou : Nat) (co : ClassId) (of_ : Nat → Int64) (sz : Nat)  : Met l yL_sick wsL_sick ({ frames := 2, cells := 0, slots := 0, locals := 43 }) (kP dC dI z zK zV [.ref x, .int 0, .ref ou] sz (wd_k_l_sick0 z sh rg dk w0 w1 ol hd lg pl pr x tl tw ou co of_) [(co, .long)]) (va_Qi (fun (r : Int32) (_ : Unit) => 0 = r) (fun _ t => kB (dC, dI) (va_A (wd_k_l_sick0 z sh rg dk w0 w1 ol hd lg pl pr x tl tw ou co of_) sz) [(ou, .inl (co, 1, .inr (.inl (vp_updL of_ 0 0))))] [] t) (va_A (wd_k_l_sick0 z sh rg dk w0 w1 ol hd lg pl pr x tl tw ou co of_) sz)) 0 0 (va_A (wd_k_l_sick0 z sh rg dk w0 w1 ol hd lg pl pr x tl tw ou co of_) sz) := by
  refine va_MetW (hh := [(0, 9, 12, 32)]) (cc := cL_sick) (maxL := 4) (ret := (some .int)) (by decide) rfl ?_
  intro p e s m args below meth c s₁ B hml hv
  obtain ⟨rfl, hsz, hP, hK, hD0, hM⟩ := hv
  have hx := B.exec
  have hb := B.bytes
  have hr := B.returns
  have hts := atoms_spec (ws := wsL_sick) B.pre
  have hown : s.vm.findClass RL = some m.cls := findClass_of_methodNamed B.named
  have hlocks := B.notSynchronized
  have htab := vx_table (x := yL_sick) B (hts _ List.mem_cons_self)
  subst hsz
  have hD := hD0.self (sz := s.heap.size)
  generalize hAe : va_A (wd_k_l_sick0 z sh rg dk w0 w1 ol hd lg pl pr x tl tw ou co of_) s.heap.size = A at hD hM ⊢
  have hA : ∀ q : Nat, s.heap.size ≤ q → A q := fun q h => by rw [← hAe]; exact Or.inr h
  have hS : va_S A s.heap s.heap [] := va_S.rf
  have hP : va_P (dC, dI) vwCl [(x, .inr (15, [.ref sh, .ref tl, .ref tw, .int 0])), (sh, .inr (13, [.ref rg, .ref dk, .ref hd, .ref lg, .ref pl, .ref pr, .int 0, .int 0, .int 0, .int 0, .int 0, .int 0, .int 0, .int 0, .int 0, .int 0, .int 0])), (dk, .inr (4, [.ref w0, .ref w1, .ref ol, .int 0, .int 0, .int 0, .int 0])), (w0, .inr (14, [.int 0, .int 0])), (w1, .inr (14, [.int 0, .int 0])), (ou, .inl (co, 1, .inr (.inl of_)))] s.heap := hP
  have hD : va_D A [(x, .inr (15, [.ref sh, .ref tl, .ref tw, .int 0])), (sh, .inr (13, [.ref rg, .ref dk, .ref hd, .ref lg, .ref pl, .ref pr, .int 0, .int 0, .int 0, .int 0, .int 0, .int 0, .int 0, .int 0, .int 0, .int 0, .int 0])), (dk, .inr (4, [.ref w0, .ref w1, .ref ol, .int 0, .int 0, .int 0, .int 0])), (w0, .inr (14, [.int 0, .int 0])), (w1, .inr (14, [.int 0, .int 0])), (ou, .inl (co, 1, .inr (.inl of_)))] := hD
  have hl := lv_entry ([.ref x, .int 0, .ref ou]) (n := 4) (Nat.le_of_ble_eq_true rfl)
  rw [lg_entry_eq]
  generalize (lg_sl ([.ref x, .int 0, .ref ou]) ++ List.replicate (4 - (lg_sl ([.ref x, .int 0, .ref ou])).length) Slot.unset).toArray = ls at hl ⊢
  have hl : lv_has ls 4 [(0, .ref x), (1, .int 0), (2, .ref ou)] := hl
  refine lv_aload_n hx hb dL_sick_0 rfl (lv_at hl 2 rfl) ?_
  refine lv_iconst (v := 0) hx hb dL_sick_1 (by decide) ?_
  refine lv_aload_n hx hb dL_sick_2 rfl (lv_at hl 0 rfl) ?_
  refine lv_iload_n hx hb dL_sick_3 rfl (lv_at hl 1 rfl) ?_
  have hPc := hP.sub (ws' := [(x, .inr (15, [.ref sh, .ref tl, .ref tw, .int 0])), (sh, .inr (13, [.ref rg, .ref dk, .ref hd, .ref lg, .ref pl, .ref pr, .int 0, .int 0, .int 0, .int 0, .int 0, .int 0, .int 0, .int 0, .int 0, .int 0, .int 0])), (dk, .inr (4, [.ref w0, .ref w1, .ref ol, .int 0, .int 0, .int 0, .int 0])), (w0, .inr (14, [.int 0, .int 0])), (w1, .inr (14, [.int 0, .int 0]))]) [0, 1, 2, 3, 4] rfl
  have hDc := hD.sub (ws' := [(x, .inr (15, [.ref sh, .ref tl, .ref tw, .int 0])), (sh, .inr (13, [.ref rg, .ref dk, .ref hd, .ref lg, .ref pl, .ref pr, .int 0, .int 0, .int 0, .int 0, .int 0, .int 0, .int 0, .int 0, .int 0, .int 0, .int 0])), (dk, .inr (4, [.ref w0, .ref w1, .ref ol, .int 0, .int 0, .int 0, .int 0])), (w0, .inr (14, [.int 0, .int 0])), (w1, .inr (14, [.int 0, .int 0]))]) [0, 1, 2, 3, 4] (by decide) rfl
  have hKc := hK.sub (tys' := []) [] rfl
  have hFc := va_free (wc := [(x, .inr (15, [.ref sh, .ref tl, .ref tw, .int 0])), (sh, .inr (13, [.ref rg, .ref dk, .ref hd, .ref lg, .ref pl, .ref pr, .int 0, .int 0, .int 0, .int 0, .int 0, .int 0, .int 0, .int 0, .int 0, .int 0, .int 0])), (dk, .inr (4, [.ref w0, .ref w1, .ref ol, .int 0, .int 0, .int 0, .int 0])), (w0, .inr (14, [.int 0, .int 0])), (w1, .inr (14, [.int 0, .int 0]))]) hD hS hA [0, 1, 2, 3, 4] rfl
  refine va_calli (va_runV (As := [.int 0]) (rest := [.int 0, .ref ou]) ⟨hx, hb, hml, hown, hts⟩ (k_x_sick0 l dC dI z zK zV sh rg dk w0 w1 ol hd lg pl pr x tl tw s.heap.size) (cwV 1 hts gL_sick_X11_sick rfl rfl rfl (by decide +kernel) ⟨Nat.le_of_ble_eq_true rfl, Nat.le_of_ble_eq_true rfl⟩) ⟨kP_blind, va_recv hKc hPc (ci := 15) (q0 := 0) rfl rfl, kP_go hPc hKc hDc hFc hM hS⟩ rfl rfl hl.1 rfl (lv_room (Nat.le_of_ble_eq_true rfl)) dL_sick_4 ⟨Nat.le_of_ble_eq_true rfl, Nat.le_of_ble_eq_true rfl⟩) hS (fun q _ h => hFc q h) hFc (fun r1 u t H1 locs ht hvm hw hB hz1 hk1 hS => ?_)
  obtain ⟨hP, hD, hK⟩ := kJ (wr := [(ou, .inl (co, 1, .inr (.inl of_)))]) (w1 := []) (t1 := []) hP hD hK [0, 1, 2, 3, 4] [5] rfl rfl (by decide) (by decide) hk1 hFc ht hvm hB
  generalize H1 = H at hP hS ⊢
  have hP : va_P (dC, dI) vwCl [(ou, .inl (co, 1, .inr (.inl of_)))] H := hP
  have hD : va_D A [(ou, .inl (co, 1, .inr (.inl of_)))] := hD
  have hK : va_K (dC, dI) vwCl [(co, .long)] s := hK
  obtain rfl : 0 = r1 := hw
  refine lv_i2l (v := 0) hx hb dL_sick_7 (by decide +kernel) ?_
  refine va_last hx hb hK hP hD hS 0 0 rfl rfl (pk_in 0 1 (by decide) rfl) dL_sick_8 (fun H locs hP hD hS => ?_)
  have hP : va_P (dC, dI) vwCl [(ou, .inl (co, 1, .inr (.inl (vp_updL of_ 0 0))))] H := hP
  have hD : va_D A [(ou, .inl (co, 1, .inr (.inl (vp_updL of_ 0 0))))] := hD
  refine lv_goto (tgt := 15) hx hb dL_sick_9 (by decide) ?_
  refine lv_iconst (v := 0) hx hb dL_sick_15 (by decide) ?_
  exact W.iret (v := 0) hx hb hr (fun t ht hW => ⟨⟨0, (), rfl, rfl, kB_end (w9 := [(ou, .inl (co, 1, .inr (.inl (vp_updL of_ 0 0))))]) (t9 := []) hP hK hD [0] [] rfl (by decide) rfl rfl t ht hW⟩, hS.F ht⟩) hS.2.2 dL_sick_16
abbrev wd_k_l_sick1 (z : Nat → Nat) (sh : Nat) (rg : Nat) (dk : Nat) (w0 : Nat) (w1 : Nat) (ol : Nat) (hd : Nat) (lg : Nat) (pl : Nat) (pr : Nat) (x : Nat) (tl : Nat) (tw : Nat) (ou : Nat) (co : ClassId) (of_ : Nat → Int64) : va_W := [(x, .inr (15, [.ref sh, .ref tl, .ref tw, .int 0])), (sh, .inr (13, [.ref rg, .ref dk, .ref hd, .ref lg, .ref pl, .ref pr, .int 0, .int 0, .int 0, .int 0, .int 0, .int 0, .int 0, .int 0, .int 0, .int 0, .int 0])), (dk, .inr (4, [.ref w0, .ref w1, .ref ol, .int 0, .int 0, .int 0, .int 0])), (w0, .inr (14, [.int 0, .int 0])), (w1, .inr (14, [.int 0, .int 0])), (ou, .inl (co, 1, .inr (.inl of_)))]
set_option maxHeartbeats 4000000 in
set_option maxRecDepth 100000 in
theorem k_l_sick1 (l : Launch) (dC : Nat → ClassId) (dI : Nat → Nat → Nat) (z zK zV : Nat → Nat) (sh : Nat) (rg : Nat) (dk : Nat) (w0 : Nat) (w1 : Nat) (ol : Nat) (hd : Nat) (lg : Nat) (pl : Nat) (pr : Nat) (x : Nat) (tl : Nat) (tw : Nat) (ou : Nat) (co : ClassId) (of_ : Nat → Int64) (sz : Nat)  : Met l yL_sick wsL_sick ({ frames := 2, cells := 0, slots := 0, locals := 43 }) (kP dC dI z zK zV [.ref x, .int 1, .ref ou] sz (wd_k_l_sick1 z sh rg dk w0 w1 ol hd lg pl pr x tl tw ou co of_) [(co, .long)]) (va_Qi (fun (r : Int32) (_ : Unit) => 0 = r) (fun _ t => kB (dC, dI) (va_A (wd_k_l_sick1 z sh rg dk w0 w1 ol hd lg pl pr x tl tw ou co of_) sz) [(ou, .inl (co, 1, .inr (.inl (vp_updL of_ 0 0))))] [] t) (va_A (wd_k_l_sick1 z sh rg dk w0 w1 ol hd lg pl pr x tl tw ou co of_) sz)) 0 0 (va_A (wd_k_l_sick1 z sh rg dk w0 w1 ol hd lg pl pr x tl tw ou co of_) sz) := by
  refine va_MetW (hh := [(0, 9, 12, 32)]) (cc := cL_sick) (maxL := 4) (ret := (some .int)) (by decide) rfl ?_
  intro p e s m args below meth c s₁ B hml hv
  obtain ⟨rfl, hsz, hP, hK, hD0, hM⟩ := hv
  have hx := B.exec
  have hb := B.bytes
  have hr := B.returns
  have hts := atoms_spec (ws := wsL_sick) B.pre
  have hown : s.vm.findClass RL = some m.cls := findClass_of_methodNamed B.named
  have hlocks := B.notSynchronized
  have htab := vx_table (x := yL_sick) B (hts _ List.mem_cons_self)
  subst hsz
  have hD := hD0.self (sz := s.heap.size)
  generalize hAe : va_A (wd_k_l_sick1 z sh rg dk w0 w1 ol hd lg pl pr x tl tw ou co of_) s.heap.size = A at hD hM ⊢
  have hA : ∀ q : Nat, s.heap.size ≤ q → A q := fun q h => by rw [← hAe]; exact Or.inr h
  have hS : va_S A s.heap s.heap [] := va_S.rf
  have hP : va_P (dC, dI) vwCl [(x, .inr (15, [.ref sh, .ref tl, .ref tw, .int 0])), (sh, .inr (13, [.ref rg, .ref dk, .ref hd, .ref lg, .ref pl, .ref pr, .int 0, .int 0, .int 0, .int 0, .int 0, .int 0, .int 0, .int 0, .int 0, .int 0, .int 0])), (dk, .inr (4, [.ref w0, .ref w1, .ref ol, .int 0, .int 0, .int 0, .int 0])), (w0, .inr (14, [.int 0, .int 0])), (w1, .inr (14, [.int 0, .int 0])), (ou, .inl (co, 1, .inr (.inl of_)))] s.heap := hP
  have hD : va_D A [(x, .inr (15, [.ref sh, .ref tl, .ref tw, .int 0])), (sh, .inr (13, [.ref rg, .ref dk, .ref hd, .ref lg, .ref pl, .ref pr, .int 0, .int 0, .int 0, .int 0, .int 0, .int 0, .int 0, .int 0, .int 0, .int 0, .int 0])), (dk, .inr (4, [.ref w0, .ref w1, .ref ol, .int 0, .int 0, .int 0, .int 0])), (w0, .inr (14, [.int 0, .int 0])), (w1, .inr (14, [.int 0, .int 0])), (ou, .inl (co, 1, .inr (.inl of_)))] := hD
  have hl := lv_entry ([.ref x, .int 1, .ref ou]) (n := 4) (Nat.le_of_ble_eq_true rfl)
  rw [lg_entry_eq]
  generalize (lg_sl ([.ref x, .int 1, .ref ou]) ++ List.replicate (4 - (lg_sl ([.ref x, .int 1, .ref ou])).length) Slot.unset).toArray = ls at hl ⊢
  have hl : lv_has ls 4 [(0, .ref x), (1, .int 1), (2, .ref ou)] := hl
  refine lv_aload_n hx hb dL_sick_0 rfl (lv_at hl 2 rfl) ?_
  refine lv_iconst (v := 0) hx hb dL_sick_1 (by decide) ?_
  refine lv_aload_n hx hb dL_sick_2 rfl (lv_at hl 0 rfl) ?_
  refine lv_iload_n hx hb dL_sick_3 rfl (lv_at hl 1 rfl) ?_
  have hPc := hP.sub (ws' := [(x, .inr (15, [.ref sh, .ref tl, .ref tw, .int 0])), (sh, .inr (13, [.ref rg, .ref dk, .ref hd, .ref lg, .ref pl, .ref pr, .int 0, .int 0, .int 0, .int 0, .int 0, .int 0, .int 0, .int 0, .int 0, .int 0, .int 0])), (dk, .inr (4, [.ref w0, .ref w1, .ref ol, .int 0, .int 0, .int 0, .int 0])), (w0, .inr (14, [.int 0, .int 0])), (w1, .inr (14, [.int 0, .int 0]))]) [0, 1, 2, 3, 4] rfl
  have hDc := hD.sub (ws' := [(x, .inr (15, [.ref sh, .ref tl, .ref tw, .int 0])), (sh, .inr (13, [.ref rg, .ref dk, .ref hd, .ref lg, .ref pl, .ref pr, .int 0, .int 0, .int 0, .int 0, .int 0, .int 0, .int 0, .int 0, .int 0, .int 0, .int 0])), (dk, .inr (4, [.ref w0, .ref w1, .ref ol, .int 0, .int 0, .int 0, .int 0])), (w0, .inr (14, [.int 0, .int 0])), (w1, .inr (14, [.int 0, .int 0]))]) [0, 1, 2, 3, 4] (by decide) rfl
  have hKc := hK.sub (tys' := []) [] rfl
  have hFc := va_free (wc := [(x, .inr (15, [.ref sh, .ref tl, .ref tw, .int 0])), (sh, .inr (13, [.ref rg, .ref dk, .ref hd, .ref lg, .ref pl, .ref pr, .int 0, .int 0, .int 0, .int 0, .int 0, .int 0, .int 0, .int 0, .int 0, .int 0, .int 0])), (dk, .inr (4, [.ref w0, .ref w1, .ref ol, .int 0, .int 0, .int 0, .int 0])), (w0, .inr (14, [.int 0, .int 0])), (w1, .inr (14, [.int 0, .int 0]))]) hD hS hA [0, 1, 2, 3, 4] rfl
  refine va_calli (va_runV (As := [.int 1]) (rest := [.int 0, .ref ou]) ⟨hx, hb, hml, hown, hts⟩ (k_x_sick1 l dC dI z zK zV sh rg dk w0 w1 ol hd lg pl pr x tl tw s.heap.size) (cwV 1 hts gL_sick_X11_sick rfl rfl rfl (by decide +kernel) ⟨Nat.le_of_ble_eq_true rfl, Nat.le_of_ble_eq_true rfl⟩) ⟨kP_blind, va_recv hKc hPc (ci := 15) (q0 := 0) rfl rfl, kP_go hPc hKc hDc hFc hM hS⟩ rfl rfl hl.1 rfl (lv_room (Nat.le_of_ble_eq_true rfl)) dL_sick_4 ⟨Nat.le_of_ble_eq_true rfl, Nat.le_of_ble_eq_true rfl⟩) hS (fun q _ h => hFc q h) hFc (fun r1 u t H1 locs ht hvm hw hB hz1 hk1 hS => ?_)
  obtain ⟨hP, hD, hK⟩ := kJ (wr := [(ou, .inl (co, 1, .inr (.inl of_)))]) (w1 := []) (t1 := []) hP hD hK [0, 1, 2, 3, 4] [5] rfl rfl (by decide) (by decide) hk1 hFc ht hvm hB
  generalize H1 = H at hP hS ⊢
  have hP : va_P (dC, dI) vwCl [(ou, .inl (co, 1, .inr (.inl of_)))] H := hP
  have hD : va_D A [(ou, .inl (co, 1, .inr (.inl of_)))] := hD
  have hK : va_K (dC, dI) vwCl [(co, .long)] s := hK
  obtain rfl : 0 = r1 := hw
  refine lv_i2l (v := 0) hx hb dL_sick_7 (by decide +kernel) ?_
  refine va_last hx hb hK hP hD hS 0 0 rfl rfl (pk_in 0 1 (by decide) rfl) dL_sick_8 (fun H locs hP hD hS => ?_)
  have hP : va_P (dC, dI) vwCl [(ou, .inl (co, 1, .inr (.inl (vp_updL of_ 0 0))))] H := hP
  have hD : va_D A [(ou, .inl (co, 1, .inr (.inl (vp_updL of_ 0 0))))] := hD
  refine lv_goto (tgt := 15) hx hb dL_sick_9 (by decide) ?_
  refine lv_iconst (v := 0) hx hb dL_sick_15 (by decide) ?_
  exact W.iret (v := 0) hx hb hr (fun t ht hW => ⟨⟨0, (), rfl, rfl, kB_end (w9 := [(ou, .inl (co, 1, .inr (.inl (vp_updL of_ 0 0))))]) (t9 := []) hP hK hD [0] [] rfl (by decide) rfl rfl t ht hW⟩, hS.F ht⟩) hS.2.2 dL_sick_16
abbrev wd_k_l_sick_bad (z : Nat → Nat) (sh : Nat) (rg : Nat) (dk : Nat) (w0 : Nat) (w1 : Nat) (ol : Nat) (hd : Nat) (lg : Nat) (pl : Nat) (pr : Nat) (x : Nat) (tl : Nat) (tw : Nat) (p0 : Int32) (ou : Nat) (co : ClassId) (of_ : Nat → Int64) : va_W := [(x, .inr (15, [.ref sh, .ref tl, .ref tw, .int 0])), (sh, .inr (13, [.ref rg, .ref dk, .ref hd, .ref lg, .ref pl, .ref pr, .int 0, .int 0, .int 0, .int 0, .int 0, .int 0, .int 0, .int 0, .int 0, .int 0, .int 0])), (dk, .inr (4, [.ref w0, .ref w1, .ref ol, .int 0, .int 0, .int 0, .int 0])), (w0, .inr (14, [.int 0, .int 0])), (w1, .inr (14, [.int 0, .int 0])), (ou, .inl (co, 1, .inr (.inl of_)))]
set_option maxHeartbeats 4000000 in
set_option maxRecDepth 100000 in
theorem k_l_sick_bad (l : Launch) (dC : Nat → ClassId) (dI : Nat → Nat → Nat) (z zK zV : Nat → Nat) (sh : Nat) (rg : Nat) (dk : Nat) (w0 : Nat) (w1 : Nat) (ol : Nat) (hd : Nat) (lg : Nat) (pl : Nat) (pr : Nat) (x : Nat) (tl : Nat) (tw : Nat) (p0 : Int32) (ou : Nat) (co : ClassId) (of_ : Nat → Int64) (sz : Nat) (hst : l.stackTraces = false) (hb0 : ¬ ((0 : Int32) ≤ p0 ∧ p0 ≤ 1)) : Met l yL_sick wsL_sick ({ frames := 7, cells := 1, slots := 6, locals := 103 }) (kP dC dI z zK zV [.ref x, .int p0, .ref ou] sz (wd_k_l_sick_bad z sh rg dk w0 w1 ol hd lg pl pr x tl tw p0 ou co of_) [(co, .long)]) (va_Qi (fun (r : Int32) (_ : Unit) => 1 = r) (fun _ t => kB (dC, dI) (va_A (wd_k_l_sick_bad z sh rg dk w0 w1 ol hd lg pl pr x tl tw p0 ou co of_) sz) [] [] t) (va_A (wd_k_l_sick_bad z sh rg dk w0 w1 ol hd lg pl pr x tl tw p0 ou co of_) sz)) 1 6 (va_A (wd_k_l_sick_bad z sh rg dk w0 w1 ol hd lg pl pr x tl tw p0 ou co of_) sz) := by
  refine va_MetW (hh := [(0, 9, 12, 32)]) (cc := cL_sick) (maxL := 4) (ret := (some .int)) (by decide) rfl ?_
  intro p e s m args below meth c s₁ B hml hv
  obtain ⟨rfl, hsz, hP, hK, hD0, hM⟩ := hv
  have hx := B.exec
  have hb := B.bytes
  have hr := B.returns
  have hts := atoms_spec (ws := wsL_sick) B.pre
  have hown : s.vm.findClass RL = some m.cls := findClass_of_methodNamed B.named
  have hlocks := B.notSynchronized
  have htab := vx_table (x := yL_sick) B (hts _ List.mem_cons_self)
  subst hsz
  have hD := hD0.self (sz := s.heap.size)
  generalize hAe : va_A (wd_k_l_sick_bad z sh rg dk w0 w1 ol hd lg pl pr x tl tw p0 ou co of_) s.heap.size = A at hD hM ⊢
  have hA : ∀ q : Nat, s.heap.size ≤ q → A q := fun q h => by rw [← hAe]; exact Or.inr h
  have hS : va_S A s.heap s.heap [] := va_S.rf
  have hP : va_P (dC, dI) vwCl [(x, .inr (15, [.ref sh, .ref tl, .ref tw, .int 0])), (sh, .inr (13, [.ref rg, .ref dk, .ref hd, .ref lg, .ref pl, .ref pr, .int 0, .int 0, .int 0, .int 0, .int 0, .int 0, .int 0, .int 0, .int 0, .int 0, .int 0])), (dk, .inr (4, [.ref w0, .ref w1, .ref ol, .int 0, .int 0, .int 0, .int 0])), (w0, .inr (14, [.int 0, .int 0])), (w1, .inr (14, [.int 0, .int 0])), (ou, .inl (co, 1, .inr (.inl of_)))] s.heap := hP
  have hD : va_D A [(x, .inr (15, [.ref sh, .ref tl, .ref tw, .int 0])), (sh, .inr (13, [.ref rg, .ref dk, .ref hd, .ref lg, .ref pl, .ref pr, .int 0, .int 0, .int 0, .int 0, .int 0, .int 0, .int 0, .int 0, .int 0, .int 0, .int 0])), (dk, .inr (4, [.ref w0, .ref w1, .ref ol, .int 0, .int 0, .int 0, .int 0])), (w0, .inr (14, [.int 0, .int 0])), (w1, .inr (14, [.int 0, .int 0])), (ou, .inl (co, 1, .inr (.inl of_)))] := hD
  have hl := lv_entry ([.ref x, .int p0, .ref ou]) (n := 4) (Nat.le_of_ble_eq_true rfl)
  rw [lg_entry_eq]
  generalize (lg_sl ([.ref x, .int p0, .ref ou]) ++ List.replicate (4 - (lg_sl ([.ref x, .int p0, .ref ou])).length) Slot.unset).toArray = ls at hl ⊢
  have hl : lv_has ls 4 [(0, .ref x), (1, .int p0), (2, .ref ou)] := hl
  refine lv_aload_n hx hb dL_sick_0 rfl (lv_at hl 2 rfl) ?_
  refine lv_iconst (v := 0) hx hb dL_sick_1 (by decide) ?_
  refine lv_aload_n hx hb dL_sick_2 rfl (lv_at hl 0 rfl) ?_
  refine lv_iload_n hx hb dL_sick_3 rfl (lv_at hl 1 rfl) ?_
  have hPc := hP.sub (ws' := [(x, .inr (15, [.ref sh, .ref tl, .ref tw, .int 0])), (sh, .inr (13, [.ref rg, .ref dk, .ref hd, .ref lg, .ref pl, .ref pr, .int 0, .int 0, .int 0, .int 0, .int 0, .int 0, .int 0, .int 0, .int 0, .int 0, .int 0])), (dk, .inr (4, [.ref w0, .ref w1, .ref ol, .int 0, .int 0, .int 0, .int 0])), (w0, .inr (14, [.int 0, .int 0])), (w1, .inr (14, [.int 0, .int 0]))]) [0, 1, 2, 3, 4] rfl
  have hDc := hD.sub (ws' := [(x, .inr (15, [.ref sh, .ref tl, .ref tw, .int 0])), (sh, .inr (13, [.ref rg, .ref dk, .ref hd, .ref lg, .ref pl, .ref pr, .int 0, .int 0, .int 0, .int 0, .int 0, .int 0, .int 0, .int 0, .int 0, .int 0, .int 0])), (dk, .inr (4, [.ref w0, .ref w1, .ref ol, .int 0, .int 0, .int 0, .int 0])), (w0, .inr (14, [.int 0, .int 0])), (w1, .inr (14, [.int 0, .int 0]))]) [0, 1, 2, 3, 4] (by decide) rfl
  have hKc := hK.sub (tys' := []) [] rfl
  have hFc := va_free (wc := [(x, .inr (15, [.ref sh, .ref tl, .ref tw, .int 0])), (sh, .inr (13, [.ref rg, .ref dk, .ref hd, .ref lg, .ref pl, .ref pr, .int 0, .int 0, .int 0, .int 0, .int 0, .int 0, .int 0, .int 0, .int 0, .int 0, .int 0])), (dk, .inr (4, [.ref w0, .ref w1, .ref ol, .int 0, .int 0, .int 0, .int 0])), (w0, .inr (14, [.int 0, .int 0])), (w1, .inr (14, [.int 0, .int 0]))]) hD hS hA [0, 1, 2, 3, 4] rfl
  refine vx_calli (vx_runV (As := [.int p0]) (rest := [.int 0, .ref ou]) ⟨hx, hb, hml, hown, hts⟩ (k_x_sick_bad l dC dI z zK zV sh rg dk w0 w1 ol hd lg pl pr x tl tw p0 s.heap.size hst (hb0)) (cwV 1 hts gL_sick_X11_sick rfl rfl rfl (by decide +kernel) ⟨Nat.le_of_ble_eq_true rfl, Nat.le_of_ble_eq_true rfl⟩) ⟨kP_blind, va_recv hKc hPc (ci := 15) (q0 := 0) rfl rfl, kP_go hPc hKc hDc hFc hM hS⟩ rfl rfl hl.1 rfl (lv_room (Nat.le_of_ble_eq_true rfl)) dL_sick_4 ⟨Nat.le_of_ble_eq_true rfl, Nat.le_of_ble_eq_true rfl⟩) hS (fun q _ h => hFc q h) hFc (fun q _ h => hFc q h) (fun E ce q9 u t H1 locs ht hvm hpx hbx hz1 hk1 hS hcell hcv hcl => ?_) (fun r1 u t H1 locs ht hvm hw hB hz1 hk1 hS => ?_)
  · skip
    obtain rfl : "java/lang/IndexOutOfBoundsException" = E := hbx
    obtain ⟨hP, hD, hK⟩ := kJ (wr := [(ou, .inl (co, 1, .inr (.inl of_)))]) (w1 := []) (t1 := []) hP hD hK [0, 1, 2, 3, 4] [5] rfl rfl (by decide) (by decide) hk1 hFc ht hvm (kB_nil t (va_K.moved hvm (hK.sub (tys' := []) [] rfl)))
    generalize H1 = H at hP hS hcell ⊢
    have hP : va_P (dC, dI) vwCl [(ou, .inl (co, 1, .inr (.inl of_)))] H := hP
    have hD : va_D A [(ou, .inl (co, 1, .inr (.inl of_)))] := hD
    have hK : va_K (dC, dI) vwCl [(co, .long)] s := hK
    refine vx_catch hown [] ⟨0, 9, 12, 32⟩ _ (htab.trans rfl) (fun z hz => absurd hz List.not_mem_nil) rfl (by decide) (hts (.classLink RL 32 "java/lang/IndexOutOfBoundsException") (by decide +kernel)) (va_Nw.use rfl (hM.2.2.2.2.2.2.2.2.2.1 _ (List.mem_of_getElem? (i := 1) rfl))) hcell hcv hcl ?_
    refine lv_astore_n (lv' := [(3, .ref q9), (0, .ref x), (1, .int p0), (2, .ref ou)]) hx hb dL_sick_12 rfl hl (by decide) rfl (fun ls hl => ?_)
    refine lv_iconst (v := 1) hx hb dL_sick_13 (by decide) ?_
    refine W.widen (k := 1) (n := 6) (Nat.le_of_ble_eq_true rfl) (Nat.le_of_ble_eq_true rfl) ?_
    exact W.iret (v := 1) hx hb hr (fun t ht hW => ⟨⟨1, (), rfl, rfl, kB_end (w9 := []) (t9 := []) hP hK hD [] [] rfl (by decide) rfl rfl t ht hW⟩, hS.F ht⟩) hS.2.2 dL_sick_14
  · skip
    exact hw.elim
abbrev wd_k_l_stow0 (z : Nat → Nat) (sh : Nat) (rg : Nat) (dk : Nat) (hd : Nat) (hu : Nat) (hy : Nat) (lg : Nat) (pl : Nat) (pr : Nat) (cU : ClassId) (cW : ClassId) (x : Nat) (tl : Nat) (tw : Nat) (p0 : Int32) (ou : Nat) (co : ClassId) (of_ : Nat → Int64) : va_W := [(x, .inr (15, [.ref sh, .ref tl, .ref tw, .int 0])), (tl, .inr (3, [.int 0, .ref (z 0), .int 0])), (sh, .inr (13, [.ref rg, .ref dk, .ref hd, .ref lg, .ref pl, .ref pr, .int 0, .int 0, .int 0, .int 0, .int 0, .int 0, .int 0, .int 0, .int 0, .int 0, .int 0])), (hd, .inr (6, [.ref hu, .ref hy, .int 0])), (hu, .inl (cU, 20, .inl (fun _ => 0))), (hy, .inl (cW, 20, .inl (fun _ => 0))), (ou, .inl (co, 1, .inr (.inl of_)))]
set_option maxHeartbeats 4000000 in
set_option maxRecDepth 100000 in
theorem k_l_stow0 (l : Launch) (dC : Nat → ClassId) (dI : Nat → Nat → Nat) (z zK zV : Nat → Nat) (sh : Nat) (rg : Nat) (dk : Nat) (hd : Nat) (hu : Nat) (hy : Nat) (lg : Nat) (pl : Nat) (pr : Nat) (cU : ClassId) (cW : ClassId) (x : Nat) (tl : Nat) (tw : Nat) (p0 : Int32) (ou : Nat) (co : ClassId) (of_ : Nat → Int64) (sz : Nat) (hst : l.stackTraces = false) (hg0 : (1 : Int32) ≤ p0 ∧ p0 ≤ 500) : Met l yL_stow wsL_stow ({ frames := 7, cells := 2, slots := 14, locals := 148 }) (kP dC dI z zK zV [.ref x, .int 0, .int p0, .ref ou] sz (wd_k_l_stow0 z sh rg dk hd hu hy lg pl pr cU cW x tl tw p0 ou co of_) [(cU, .int), (cW, .boolean), (co, .long)]) (va_Qi (fun (r : Int32) (_ : Unit) => True) (fun _ t => ∃ (uf1 : Nat → Int64), kB (dC, dI) (va_A (wd_k_l_stow0 z sh rg dk hd hu hy lg pl pr cU cW x tl tw p0 ou co of_) sz) [(ou, .inl (co, 1, .inr (.inl uf1)))] [] t) (va_A (wd_k_l_stow0 z sh rg dk hd hu hy lg pl pr cU cW x tl tw p0 ou co of_) sz)) 2 14 (va_A (wd_k_l_stow0 z sh rg dk hd hu hy lg pl pr cU cW x tl tw p0 ou co of_) sz) := by
  refine va_MetW (hh := [(0, 10, 13, 13), (0, 10, 17, 27)]) (cc := cL_stow) (maxL := 5) (ret := (some .int)) (by decide) rfl ?_
  intro p e s m args below meth c s₁ B hml hv
  obtain ⟨rfl, hsz, hP, hK, hD0, hM⟩ := hv
  have hx := B.exec
  have hb := B.bytes
  have hr := B.returns
  have hts := atoms_spec (ws := wsL_stow) B.pre
  have hown : s.vm.findClass RL = some m.cls := findClass_of_methodNamed B.named
  have hlocks := B.notSynchronized
  have htab := vx_table (x := yL_stow) B (hts _ List.mem_cons_self)
  subst hsz
  have hD := hD0.self (sz := s.heap.size)
  generalize hAe : va_A (wd_k_l_stow0 z sh rg dk hd hu hy lg pl pr cU cW x tl tw p0 ou co of_) s.heap.size = A at hD hM ⊢
  have hA : ∀ q : Nat, s.heap.size ≤ q → A q := fun q h => by rw [← hAe]; exact Or.inr h
  have hS : va_S A s.heap s.heap [] := va_S.rf
  have hP : va_P (dC, dI) vwCl [(x, .inr (15, [.ref sh, .ref tl, .ref tw, .int 0])), (tl, .inr (3, [.int 0, .ref (z 0), .int 0])), (sh, .inr (13, [.ref rg, .ref dk, .ref hd, .ref lg, .ref pl, .ref pr, .int 0, .int 0, .int 0, .int 0, .int 0, .int 0, .int 0, .int 0, .int 0, .int 0, .int 0])), (hd, .inr (6, [.ref hu, .ref hy, .int 0])), (hu, .inl (cU, 20, .inl (fun _ => 0))), (hy, .inl (cW, 20, .inl (fun _ => 0))), (ou, .inl (co, 1, .inr (.inl of_)))] s.heap := hP
  have hD : va_D A [(x, .inr (15, [.ref sh, .ref tl, .ref tw, .int 0])), (tl, .inr (3, [.int 0, .ref (z 0), .int 0])), (sh, .inr (13, [.ref rg, .ref dk, .ref hd, .ref lg, .ref pl, .ref pr, .int 0, .int 0, .int 0, .int 0, .int 0, .int 0, .int 0, .int 0, .int 0, .int 0, .int 0])), (hd, .inr (6, [.ref hu, .ref hy, .int 0])), (hu, .inl (cU, 20, .inl (fun _ => 0))), (hy, .inl (cW, 20, .inl (fun _ => 0))), (ou, .inl (co, 1, .inr (.inl of_)))] := hD
  have hl := lv_entry ([.ref x, .int 0, .int p0, .ref ou]) (n := 5) (Nat.le_of_ble_eq_true rfl)
  rw [lg_entry_eq]
  generalize (lg_sl ([.ref x, .int 0, .int p0, .ref ou]) ++ List.replicate (5 - (lg_sl ([.ref x, .int 0, .int p0, .ref ou])).length) Slot.unset).toArray = ls at hl ⊢
  have hl : lv_has ls 5 [(0, .ref x), (1, .int 0), (2, .int p0), (3, .ref ou)] := hl
  refine lv_aload_n hx hb dL_stow_0 rfl (lv_at hl 3 rfl) ?_
  refine lv_iconst (v := 0) hx hb dL_stow_1 (by decide) ?_
  refine lv_aload_n hx hb dL_stow_2 rfl (lv_at hl 0 rfl) ?_
  refine lv_iload_n hx hb dL_stow_3 rfl (lv_at hl 1 rfl) ?_
  refine lv_iload_n hx hb dL_stow_4 rfl (lv_at hl 2 rfl) ?_
  have hPc := hP.sub (ws' := [(x, .inr (15, [.ref sh, .ref tl, .ref tw, .int 0])), (tl, .inr (3, [.int 0, .ref (z 0), .int 0])), (sh, .inr (13, [.ref rg, .ref dk, .ref hd, .ref lg, .ref pl, .ref pr, .int 0, .int 0, .int 0, .int 0, .int 0, .int 0, .int 0, .int 0, .int 0, .int 0, .int 0])), (hd, .inr (6, [.ref hu, .ref hy, .int 0])), (hu, .inl (cU, 20, .inl (fun _ => 0))), (hy, .inl (cW, 20, .inl (fun _ => 0)))]) [0, 1, 2, 3, 4, 5] rfl
  have hDc := hD.sub (ws' := [(x, .inr (15, [.ref sh, .ref tl, .ref tw, .int 0])), (tl, .inr (3, [.int 0, .ref (z 0), .int 0])), (sh, .inr (13, [.ref rg, .ref dk, .ref hd, .ref lg, .ref pl, .ref pr, .int 0, .int 0, .int 0, .int 0, .int 0, .int 0, .int 0, .int 0, .int 0, .int 0, .int 0])), (hd, .inr (6, [.ref hu, .ref hy, .int 0])), (hu, .inl (cU, 20, .inl (fun _ => 0))), (hy, .inl (cW, 20, .inl (fun _ => 0)))]) [0, 1, 2, 3, 4, 5] (by decide) rfl
  have hKc := hK.sub (tys' := [(cU, .int), (cW, .boolean)]) [0, 1] rfl
  have hFc := va_free (wc := [(x, .inr (15, [.ref sh, .ref tl, .ref tw, .int 0])), (tl, .inr (3, [.int 0, .ref (z 0), .int 0])), (sh, .inr (13, [.ref rg, .ref dk, .ref hd, .ref lg, .ref pl, .ref pr, .int 0, .int 0, .int 0, .int 0, .int 0, .int 0, .int 0, .int 0, .int 0, .int 0, .int 0])), (hd, .inr (6, [.ref hu, .ref hy, .int 0])), (hu, .inl (cU, 20, .inl (fun _ => 0))), (hy, .inl (cW, 20, .inl (fun _ => 0)))]) hD hS hA [0, 1, 2, 3, 4, 5] rfl
  refine vx_calli (vx_runV (As := [.int 0, .int p0]) (rest := [.int 0, .ref ou]) ⟨hx, hb, hml, hown, hts⟩ (k_x_stow0 l dC dI z zK zV sh rg dk hd hu hy lg pl pr cU cW x tl tw p0 s.heap.size hst (hg0)) (cwV 2 hts gL_stow_X11_stow rfl rfl rfl (by decide +kernel) ⟨Nat.le_of_ble_eq_true rfl, Nat.le_of_ble_eq_true rfl⟩) ⟨kP_blind, va_recv hKc hPc (ci := 15) (q0 := 0) rfl rfl, kP_go hPc hKc hDc hFc hM hS⟩ rfl rfl hl.1 rfl (lv_room (Nat.le_of_ble_eq_true rfl)) dL_stow_5 ⟨Nat.le_of_ble_eq_true rfl, Nat.le_of_ble_eq_true rfl⟩) hS (fun q _ h => hFc q h) hFc (fun q _ h => hFc q h) (fun E ce q9 u t H1 locs ht hvm hpx hbx hz1 hk1 hS hcell hcv hcl => ?_) (fun r1 u t H1 locs ht hvm hw hB hz1 hk1 hS => ?_)
  · skip
    obtain rfl : "java/lang/IllegalArgumentException" = E := hbx
    obtain ⟨hP, hD, hK⟩ := kJ (wr := [(ou, .inl (co, 1, .inr (.inl of_)))]) (w1 := []) (t1 := []) hP hD hK [0, 1, 2, 3, 4, 5] [6] rfl rfl (by decide) (by decide) hk1 hFc ht hvm (kB_nil t (va_K.moved hvm (hK.sub (tys' := []) [] rfl)))
    generalize H1 = H at hP hS hcell ⊢
    have hP : va_P (dC, dI) vwCl [(ou, .inl (co, 1, .inr (.inl of_)))] H := hP
    have hD : va_D A [(ou, .inl (co, 1, .inr (.inl of_)))] := hD
    have hK : va_K (dC, dI) vwCl [(cU, .int), (cW, .boolean), (co, .long)] s := hK
    refine vx_catch hown [] ⟨0, 10, 13, 13⟩ _ (htab.trans rfl) (fun z hz => absurd hz List.not_mem_nil) rfl (by decide) (hts (.classLink RL 13 "java/lang/IllegalArgumentException") (by decide +kernel)) (va_Nw.use rfl (hM.2.2.2.2.2.2.2.2.2.1 _ (List.mem_of_getElem? (i := 0) rfl))) hcell hcv hcl ?_
    refine lv_astore (lv' := [(4, .ref q9), (0, .ref x), (1, .int 0), (2, .int p0), (3, .ref ou)]) hx hb dL_stow_13 hl (by decide) rfl (fun ls hl => ?_)
    refine lv_iconst (v := 1) hx hb dL_stow_15 (by decide) ?_
    refine W.widen (k := 2) (n := 14) (Nat.le_of_ble_eq_true rfl) (Nat.le_of_ble_eq_true rfl) ?_
    exact W.iret (v := 1) hx hb hr (fun t ht hW => ⟨⟨1, (), rfl, trivial, ⟨of_, kB_end (w9 := [(ou, .inl (co, 1, .inr (.inl of_)))]) (t9 := []) hP hK hD [0] [] rfl (by decide) rfl rfl t ht hW⟩⟩, hS.F ht⟩) hS.2.2 dL_stow_16
  · skip
    obtain ⟨hP, hD, hK⟩ := kJ (wr := [(ou, .inl (co, 1, .inr (.inl of_)))]) (w1 := []) (t1 := []) hP hD hK [0, 1, 2, 3, 4, 5] [6] rfl rfl (by decide) (by decide) hk1 hFc ht hvm (kB_nil t (va_K.moved hvm (hK.sub (tys' := []) [] rfl)))
    generalize H1 = H at hP hS ⊢
    have hP : va_P (dC, dI) vwCl [(ou, .inl (co, 1, .inr (.inl of_)))] H := hP
    have hD : va_D A [(ou, .inl (co, 1, .inr (.inl of_)))] := hD
    have hK : va_K (dC, dI) vwCl [(cU, .int), (cW, .boolean), (co, .long)] s := hK
    obtain ⟨hw, rfl⟩ := hw
    refine lv_i2l (v := 1) hx hb dL_stow_8 (by decide +kernel) ?_
    refine va_last hx hb hK hP hD hS 0 2 rfl rfl (pk_in 0 1 (by decide) rfl) dL_stow_9 (fun H locs hP hD hS => ?_)
    have hP : va_P (dC, dI) vwCl [(ou, .inl (co, 1, .inr (.inl (vp_updL of_ 0 1))))] H := hP
    have hD : va_D A [(ou, .inl (co, 1, .inr (.inl (vp_updL of_ 0 1))))] := hD
    refine lv_goto (tgt := 21) hx hb dL_stow_10 (by decide) ?_
    refine lv_iconst (v := 0) hx hb dL_stow_21 (by decide) ?_
    refine W.widen (k := 2) (n := 14) (Nat.le_of_ble_eq_true rfl) (Nat.le_of_ble_eq_true rfl) ?_
    exact W.iret (v := 0) hx hb hr (fun t ht hW => ⟨⟨0, (), rfl, trivial, ⟨(vp_updL of_ 0 1), kB_end (w9 := [(ou, .inl (co, 1, .inr (.inl (vp_updL of_ 0 1))))]) (t9 := []) hP hK hD [0] [] rfl (by decide) rfl rfl t ht hW⟩⟩, hS.F ht⟩) hS.2.2 dL_stow_22
abbrev wd_k_l_stow1 (z : Nat → Nat) (sh : Nat) (rg : Nat) (dk : Nat) (hd : Nat) (hu : Nat) (hy : Nat) (lg : Nat) (pl : Nat) (pr : Nat) (cU : ClassId) (cW : ClassId) (x : Nat) (tl : Nat) (tw : Nat) (p0 : Int32) (ou : Nat) (co : ClassId) (of_ : Nat → Int64) : va_W := [(x, .inr (15, [.ref sh, .ref tl, .ref tw, .int 0])), (tl, .inr (3, [.int 0, .ref (z 0), .int 0])), (sh, .inr (13, [.ref rg, .ref dk, .ref hd, .ref lg, .ref pl, .ref pr, .int 0, .int 0, .int 0, .int 0, .int 0, .int 0, .int 0, .int 0, .int 0, .int 0, .int 0])), (hd, .inr (6, [.ref hu, .ref hy, .int 0])), (hu, .inl (cU, 20, .inl (fun _ => 0))), (hy, .inl (cW, 20, .inl (fun _ => 0))), (ou, .inl (co, 1, .inr (.inl of_)))]
set_option maxHeartbeats 4000000 in
set_option maxRecDepth 100000 in
theorem k_l_stow1 (l : Launch) (dC : Nat → ClassId) (dI : Nat → Nat → Nat) (z zK zV : Nat → Nat) (sh : Nat) (rg : Nat) (dk : Nat) (hd : Nat) (hu : Nat) (hy : Nat) (lg : Nat) (pl : Nat) (pr : Nat) (cU : ClassId) (cW : ClassId) (x : Nat) (tl : Nat) (tw : Nat) (p0 : Int32) (ou : Nat) (co : ClassId) (of_ : Nat → Int64) (sz : Nat) (hst : l.stackTraces = false) (hg0 : (1 : Int32) ≤ p0 ∧ p0 ≤ 500) : Met l yL_stow wsL_stow ({ frames := 7, cells := 2, slots := 14, locals := 148 }) (kP dC dI z zK zV [.ref x, .int 1, .int p0, .ref ou] sz (wd_k_l_stow1 z sh rg dk hd hu hy lg pl pr cU cW x tl tw p0 ou co of_) [(cU, .int), (cW, .boolean), (co, .long)]) (va_Qi (fun (r : Int32) (_ : Unit) => True) (fun _ t => ∃ (uf1 : Nat → Int64), kB (dC, dI) (va_A (wd_k_l_stow1 z sh rg dk hd hu hy lg pl pr cU cW x tl tw p0 ou co of_) sz) [(ou, .inl (co, 1, .inr (.inl uf1)))] [] t) (va_A (wd_k_l_stow1 z sh rg dk hd hu hy lg pl pr cU cW x tl tw p0 ou co of_) sz)) 2 14 (va_A (wd_k_l_stow1 z sh rg dk hd hu hy lg pl pr cU cW x tl tw p0 ou co of_) sz) := by
  refine va_MetW (hh := [(0, 10, 13, 13), (0, 10, 17, 27)]) (cc := cL_stow) (maxL := 5) (ret := (some .int)) (by decide) rfl ?_
  intro p e s m args below meth c s₁ B hml hv
  obtain ⟨rfl, hsz, hP, hK, hD0, hM⟩ := hv
  have hx := B.exec
  have hb := B.bytes
  have hr := B.returns
  have hts := atoms_spec (ws := wsL_stow) B.pre
  have hown : s.vm.findClass RL = some m.cls := findClass_of_methodNamed B.named
  have hlocks := B.notSynchronized
  have htab := vx_table (x := yL_stow) B (hts _ List.mem_cons_self)
  subst hsz
  have hD := hD0.self (sz := s.heap.size)
  generalize hAe : va_A (wd_k_l_stow1 z sh rg dk hd hu hy lg pl pr cU cW x tl tw p0 ou co of_) s.heap.size = A at hD hM ⊢
  have hA : ∀ q : Nat, s.heap.size ≤ q → A q := fun q h => by rw [← hAe]; exact Or.inr h
  have hS : va_S A s.heap s.heap [] := va_S.rf
  have hP : va_P (dC, dI) vwCl [(x, .inr (15, [.ref sh, .ref tl, .ref tw, .int 0])), (tl, .inr (3, [.int 0, .ref (z 0), .int 0])), (sh, .inr (13, [.ref rg, .ref dk, .ref hd, .ref lg, .ref pl, .ref pr, .int 0, .int 0, .int 0, .int 0, .int 0, .int 0, .int 0, .int 0, .int 0, .int 0, .int 0])), (hd, .inr (6, [.ref hu, .ref hy, .int 0])), (hu, .inl (cU, 20, .inl (fun _ => 0))), (hy, .inl (cW, 20, .inl (fun _ => 0))), (ou, .inl (co, 1, .inr (.inl of_)))] s.heap := hP
  have hD : va_D A [(x, .inr (15, [.ref sh, .ref tl, .ref tw, .int 0])), (tl, .inr (3, [.int 0, .ref (z 0), .int 0])), (sh, .inr (13, [.ref rg, .ref dk, .ref hd, .ref lg, .ref pl, .ref pr, .int 0, .int 0, .int 0, .int 0, .int 0, .int 0, .int 0, .int 0, .int 0, .int 0, .int 0])), (hd, .inr (6, [.ref hu, .ref hy, .int 0])), (hu, .inl (cU, 20, .inl (fun _ => 0))), (hy, .inl (cW, 20, .inl (fun _ => 0))), (ou, .inl (co, 1, .inr (.inl of_)))] := hD
  have hl := lv_entry ([.ref x, .int 1, .int p0, .ref ou]) (n := 5) (Nat.le_of_ble_eq_true rfl)
  rw [lg_entry_eq]
  generalize (lg_sl ([.ref x, .int 1, .int p0, .ref ou]) ++ List.replicate (5 - (lg_sl ([.ref x, .int 1, .int p0, .ref ou])).length) Slot.unset).toArray = ls at hl ⊢
  have hl : lv_has ls 5 [(0, .ref x), (1, .int 1), (2, .int p0), (3, .ref ou)] := hl
  refine lv_aload_n hx hb dL_stow_0 rfl (lv_at hl 3 rfl) ?_
  refine lv_iconst (v := 0) hx hb dL_stow_1 (by decide) ?_
  refine lv_aload_n hx hb dL_stow_2 rfl (lv_at hl 0 rfl) ?_
  refine lv_iload_n hx hb dL_stow_3 rfl (lv_at hl 1 rfl) ?_
  refine lv_iload_n hx hb dL_stow_4 rfl (lv_at hl 2 rfl) ?_
  have hPc := hP.sub (ws' := [(x, .inr (15, [.ref sh, .ref tl, .ref tw, .int 0])), (tl, .inr (3, [.int 0, .ref (z 0), .int 0])), (sh, .inr (13, [.ref rg, .ref dk, .ref hd, .ref lg, .ref pl, .ref pr, .int 0, .int 0, .int 0, .int 0, .int 0, .int 0, .int 0, .int 0, .int 0, .int 0, .int 0])), (hd, .inr (6, [.ref hu, .ref hy, .int 0])), (hu, .inl (cU, 20, .inl (fun _ => 0))), (hy, .inl (cW, 20, .inl (fun _ => 0)))]) [0, 1, 2, 3, 4, 5] rfl
  have hDc := hD.sub (ws' := [(x, .inr (15, [.ref sh, .ref tl, .ref tw, .int 0])), (tl, .inr (3, [.int 0, .ref (z 0), .int 0])), (sh, .inr (13, [.ref rg, .ref dk, .ref hd, .ref lg, .ref pl, .ref pr, .int 0, .int 0, .int 0, .int 0, .int 0, .int 0, .int 0, .int 0, .int 0, .int 0, .int 0])), (hd, .inr (6, [.ref hu, .ref hy, .int 0])), (hu, .inl (cU, 20, .inl (fun _ => 0))), (hy, .inl (cW, 20, .inl (fun _ => 0)))]) [0, 1, 2, 3, 4, 5] (by decide) rfl
  have hKc := hK.sub (tys' := [(cU, .int), (cW, .boolean)]) [0, 1] rfl
  have hFc := va_free (wc := [(x, .inr (15, [.ref sh, .ref tl, .ref tw, .int 0])), (tl, .inr (3, [.int 0, .ref (z 0), .int 0])), (sh, .inr (13, [.ref rg, .ref dk, .ref hd, .ref lg, .ref pl, .ref pr, .int 0, .int 0, .int 0, .int 0, .int 0, .int 0, .int 0, .int 0, .int 0, .int 0, .int 0])), (hd, .inr (6, [.ref hu, .ref hy, .int 0])), (hu, .inl (cU, 20, .inl (fun _ => 0))), (hy, .inl (cW, 20, .inl (fun _ => 0)))]) hD hS hA [0, 1, 2, 3, 4, 5] rfl
  refine vx_calli (vx_runV (As := [.int 1, .int p0]) (rest := [.int 0, .ref ou]) ⟨hx, hb, hml, hown, hts⟩ (k_x_stow1 l dC dI z zK zV sh rg dk hd hu hy lg pl pr cU cW x tl tw p0 s.heap.size hst (hg0)) (cwV 2 hts gL_stow_X11_stow rfl rfl rfl (by decide +kernel) ⟨Nat.le_of_ble_eq_true rfl, Nat.le_of_ble_eq_true rfl⟩) ⟨kP_blind, va_recv hKc hPc (ci := 15) (q0 := 0) rfl rfl, kP_go hPc hKc hDc hFc hM hS⟩ rfl rfl hl.1 rfl (lv_room (Nat.le_of_ble_eq_true rfl)) dL_stow_5 ⟨Nat.le_of_ble_eq_true rfl, Nat.le_of_ble_eq_true rfl⟩) hS (fun q _ h => hFc q h) hFc (fun q _ h => hFc q h) (fun E ce q9 u t H1 locs ht hvm hpx hbx hz1 hk1 hS hcell hcv hcl => ?_) (fun r1 u t H1 locs ht hvm hw hB hz1 hk1 hS => ?_)
  · skip
    obtain rfl : "java/lang/IllegalArgumentException" = E := hbx
    obtain ⟨hP, hD, hK⟩ := kJ (wr := [(ou, .inl (co, 1, .inr (.inl of_)))]) (w1 := []) (t1 := []) hP hD hK [0, 1, 2, 3, 4, 5] [6] rfl rfl (by decide) (by decide) hk1 hFc ht hvm (kB_nil t (va_K.moved hvm (hK.sub (tys' := []) [] rfl)))
    generalize H1 = H at hP hS hcell ⊢
    have hP : va_P (dC, dI) vwCl [(ou, .inl (co, 1, .inr (.inl of_)))] H := hP
    have hD : va_D A [(ou, .inl (co, 1, .inr (.inl of_)))] := hD
    have hK : va_K (dC, dI) vwCl [(cU, .int), (cW, .boolean), (co, .long)] s := hK
    refine vx_catch hown [] ⟨0, 10, 13, 13⟩ _ (htab.trans rfl) (fun z hz => absurd hz List.not_mem_nil) rfl (by decide) (hts (.classLink RL 13 "java/lang/IllegalArgumentException") (by decide +kernel)) (va_Nw.use rfl (hM.2.2.2.2.2.2.2.2.2.1 _ (List.mem_of_getElem? (i := 0) rfl))) hcell hcv hcl ?_
    refine lv_astore (lv' := [(4, .ref q9), (0, .ref x), (1, .int 1), (2, .int p0), (3, .ref ou)]) hx hb dL_stow_13 hl (by decide) rfl (fun ls hl => ?_)
    refine lv_iconst (v := 1) hx hb dL_stow_15 (by decide) ?_
    refine W.widen (k := 2) (n := 14) (Nat.le_of_ble_eq_true rfl) (Nat.le_of_ble_eq_true rfl) ?_
    exact W.iret (v := 1) hx hb hr (fun t ht hW => ⟨⟨1, (), rfl, trivial, ⟨of_, kB_end (w9 := [(ou, .inl (co, 1, .inr (.inl of_)))]) (t9 := []) hP hK hD [0] [] rfl (by decide) rfl rfl t ht hW⟩⟩, hS.F ht⟩) hS.2.2 dL_stow_16
  · skip
    obtain ⟨hP, hD, hK⟩ := kJ (wr := [(ou, .inl (co, 1, .inr (.inl of_)))]) (w1 := []) (t1 := []) hP hD hK [0, 1, 2, 3, 4, 5] [6] rfl rfl (by decide) (by decide) hk1 hFc ht hvm (kB_nil t (va_K.moved hvm (hK.sub (tys' := []) [] rfl)))
    generalize H1 = H at hP hS ⊢
    have hP : va_P (dC, dI) vwCl [(ou, .inl (co, 1, .inr (.inl of_)))] H := hP
    have hD : va_D A [(ou, .inl (co, 1, .inr (.inl of_)))] := hD
    have hK : va_K (dC, dI) vwCl [(cU, .int), (cW, .boolean), (co, .long)] s := hK
    obtain ⟨hw, rfl⟩ := hw
    refine lv_i2l (v := 1) hx hb dL_stow_8 (by decide +kernel) ?_
    refine va_last hx hb hK hP hD hS 0 2 rfl rfl (pk_in 0 1 (by decide) rfl) dL_stow_9 (fun H locs hP hD hS => ?_)
    have hP : va_P (dC, dI) vwCl [(ou, .inl (co, 1, .inr (.inl (vp_updL of_ 0 1))))] H := hP
    have hD : va_D A [(ou, .inl (co, 1, .inr (.inl (vp_updL of_ 0 1))))] := hD
    refine lv_goto (tgt := 21) hx hb dL_stow_10 (by decide) ?_
    refine lv_iconst (v := 0) hx hb dL_stow_21 (by decide) ?_
    refine W.widen (k := 2) (n := 14) (Nat.le_of_ble_eq_true rfl) (Nat.le_of_ble_eq_true rfl) ?_
    exact W.iret (v := 0) hx hb hr (fun t ht hW => ⟨⟨0, (), rfl, trivial, ⟨(vp_updL of_ 0 1), kB_end (w9 := [(ou, .inl (co, 1, .inr (.inl (vp_updL of_ 0 1))))]) (t9 := []) hP hK hD [0] [] rfl (by decide) rfl rfl t ht hW⟩⟩, hS.F ht⟩) hS.2.2 dL_stow_22
abbrev wd_k_l_stow_bad (z : Nat → Nat) (sh : Nat) (rg : Nat) (dk : Nat) (hd : Nat) (lg : Nat) (pl : Nat) (pr : Nat) (x : Nat) (tl : Nat) (tw : Nat) (p0 : Int32) (p1 : Int32) (ou : Nat) (co : ClassId) (of_ : Nat → Int64) : va_W := [(x, .inr (15, [.ref sh, .ref tl, .ref tw, .int 0])), (sh, .inr (13, [.ref rg, .ref dk, .ref hd, .ref lg, .ref pl, .ref pr, .int 0, .int 0, .int 0, .int 0, .int 0, .int 0, .int 0, .int 0, .int 0, .int 0, .int 0])), (ou, .inl (co, 1, .inr (.inl of_)))]
set_option maxHeartbeats 4000000 in
set_option maxRecDepth 100000 in
theorem k_l_stow_bad (l : Launch) (dC : Nat → ClassId) (dI : Nat → Nat → Nat) (z zK zV : Nat → Nat) (sh : Nat) (rg : Nat) (dk : Nat) (hd : Nat) (lg : Nat) (pl : Nat) (pr : Nat) (x : Nat) (tl : Nat) (tw : Nat) (p0 : Int32) (p1 : Int32) (ou : Nat) (co : ClassId) (of_ : Nat → Int64) (sz : Nat) (hst : l.stackTraces = false) (hb0 : ¬ ((1 : Int32) ≤ p0 ∧ p0 ≤ 500)) : Met l yL_stow wsL_stow ({ frames := 7, cells := 1, slots := 6, locals := 104 }) (kP dC dI z zK zV [.ref x, .int p1, .int p0, .ref ou] sz (wd_k_l_stow_bad z sh rg dk hd lg pl pr x tl tw p0 p1 ou co of_) [(co, .long)]) (va_Qi (fun (r : Int32) (_ : Unit) => 1 = r) (fun _ t => kB (dC, dI) (va_A (wd_k_l_stow_bad z sh rg dk hd lg pl pr x tl tw p0 p1 ou co of_) sz) [] [] t) (va_A (wd_k_l_stow_bad z sh rg dk hd lg pl pr x tl tw p0 p1 ou co of_) sz)) 1 6 (va_A (wd_k_l_stow_bad z sh rg dk hd lg pl pr x tl tw p0 p1 ou co of_) sz) := by
  refine va_MetW (hh := [(0, 10, 13, 13), (0, 10, 17, 27)]) (cc := cL_stow) (maxL := 5) (ret := (some .int)) (by decide) rfl ?_
  intro p e s m args below meth c s₁ B hml hv
  obtain ⟨rfl, hsz, hP, hK, hD0, hM⟩ := hv
  have hx := B.exec
  have hb := B.bytes
  have hr := B.returns
  have hts := atoms_spec (ws := wsL_stow) B.pre
  have hown : s.vm.findClass RL = some m.cls := findClass_of_methodNamed B.named
  have hlocks := B.notSynchronized
  have htab := vx_table (x := yL_stow) B (hts _ List.mem_cons_self)
  subst hsz
  have hD := hD0.self (sz := s.heap.size)
  generalize hAe : va_A (wd_k_l_stow_bad z sh rg dk hd lg pl pr x tl tw p0 p1 ou co of_) s.heap.size = A at hD hM ⊢
  have hA : ∀ q : Nat, s.heap.size ≤ q → A q := fun q h => by rw [← hAe]; exact Or.inr h
  have hS : va_S A s.heap s.heap [] := va_S.rf
  have hP : va_P (dC, dI) vwCl [(x, .inr (15, [.ref sh, .ref tl, .ref tw, .int 0])), (sh, .inr (13, [.ref rg, .ref dk, .ref hd, .ref lg, .ref pl, .ref pr, .int 0, .int 0, .int 0, .int 0, .int 0, .int 0, .int 0, .int 0, .int 0, .int 0, .int 0])), (ou, .inl (co, 1, .inr (.inl of_)))] s.heap := hP
  have hD : va_D A [(x, .inr (15, [.ref sh, .ref tl, .ref tw, .int 0])), (sh, .inr (13, [.ref rg, .ref dk, .ref hd, .ref lg, .ref pl, .ref pr, .int 0, .int 0, .int 0, .int 0, .int 0, .int 0, .int 0, .int 0, .int 0, .int 0, .int 0])), (ou, .inl (co, 1, .inr (.inl of_)))] := hD
  have hl := lv_entry ([.ref x, .int p1, .int p0, .ref ou]) (n := 5) (Nat.le_of_ble_eq_true rfl)
  rw [lg_entry_eq]
  generalize (lg_sl ([.ref x, .int p1, .int p0, .ref ou]) ++ List.replicate (5 - (lg_sl ([.ref x, .int p1, .int p0, .ref ou])).length) Slot.unset).toArray = ls at hl ⊢
  have hl : lv_has ls 5 [(0, .ref x), (1, .int p1), (2, .int p0), (3, .ref ou)] := hl
  refine lv_aload_n hx hb dL_stow_0 rfl (lv_at hl 3 rfl) ?_
  refine lv_iconst (v := 0) hx hb dL_stow_1 (by decide) ?_
  refine lv_aload_n hx hb dL_stow_2 rfl (lv_at hl 0 rfl) ?_
  refine lv_iload_n hx hb dL_stow_3 rfl (lv_at hl 1 rfl) ?_
  refine lv_iload_n hx hb dL_stow_4 rfl (lv_at hl 2 rfl) ?_
  have hPc := hP.sub (ws' := [(x, .inr (15, [.ref sh, .ref tl, .ref tw, .int 0])), (sh, .inr (13, [.ref rg, .ref dk, .ref hd, .ref lg, .ref pl, .ref pr, .int 0, .int 0, .int 0, .int 0, .int 0, .int 0, .int 0, .int 0, .int 0, .int 0, .int 0]))]) [0, 1] rfl
  have hDc := hD.sub (ws' := [(x, .inr (15, [.ref sh, .ref tl, .ref tw, .int 0])), (sh, .inr (13, [.ref rg, .ref dk, .ref hd, .ref lg, .ref pl, .ref pr, .int 0, .int 0, .int 0, .int 0, .int 0, .int 0, .int 0, .int 0, .int 0, .int 0, .int 0]))]) [0, 1] (by decide) rfl
  have hKc := hK.sub (tys' := []) [] rfl
  have hFc := va_free (wc := [(x, .inr (15, [.ref sh, .ref tl, .ref tw, .int 0])), (sh, .inr (13, [.ref rg, .ref dk, .ref hd, .ref lg, .ref pl, .ref pr, .int 0, .int 0, .int 0, .int 0, .int 0, .int 0, .int 0, .int 0, .int 0, .int 0, .int 0]))]) hD hS hA [0, 1] rfl
  refine vx_calli (vx_runV (As := [.int p1, .int p0]) (rest := [.int 0, .ref ou]) ⟨hx, hb, hml, hown, hts⟩ (k_x_stow_bad l dC dI z zK zV sh rg dk hd lg pl pr x tl tw p0 p1 s.heap.size hst (hb0)) (cwV 2 hts gL_stow_X11_stow rfl rfl rfl (by decide +kernel) ⟨Nat.le_of_ble_eq_true rfl, Nat.le_of_ble_eq_true rfl⟩) ⟨kP_blind, va_recv hKc hPc (ci := 15) (q0 := 0) rfl rfl, kP_go hPc hKc hDc hFc hM hS⟩ rfl rfl hl.1 rfl (lv_room (Nat.le_of_ble_eq_true rfl)) dL_stow_5 ⟨Nat.le_of_ble_eq_true rfl, Nat.le_of_ble_eq_true rfl⟩) hS (fun q _ h => hFc q h) hFc (fun q _ h => hFc q h) (fun E ce q9 u t H1 locs ht hvm hpx hbx hz1 hk1 hS hcell hcv hcl => ?_) (fun r1 u t H1 locs ht hvm hw hB hz1 hk1 hS => ?_)
  · skip
    obtain rfl : "java/lang/IllegalArgumentException" = E := hbx
    obtain ⟨hP, hD, hK⟩ := kJ (wr := [(ou, .inl (co, 1, .inr (.inl of_)))]) (w1 := []) (t1 := []) hP hD hK [0, 1] [2] rfl rfl (by decide) (by decide) hk1 hFc ht hvm (kB_nil t (va_K.moved hvm (hK.sub (tys' := []) [] rfl)))
    generalize H1 = H at hP hS hcell ⊢
    have hP : va_P (dC, dI) vwCl [(ou, .inl (co, 1, .inr (.inl of_)))] H := hP
    have hD : va_D A [(ou, .inl (co, 1, .inr (.inl of_)))] := hD
    have hK : va_K (dC, dI) vwCl [(co, .long)] s := hK
    refine vx_catch hown [] ⟨0, 10, 13, 13⟩ _ (htab.trans rfl) (fun z hz => absurd hz List.not_mem_nil) rfl (by decide) (hts (.classLink RL 13 "java/lang/IllegalArgumentException") (by decide +kernel)) (va_Nw.use rfl (hM.2.2.2.2.2.2.2.2.2.1 _ (List.mem_of_getElem? (i := 0) rfl))) hcell hcv hcl ?_
    refine lv_astore (lv' := [(4, .ref q9), (0, .ref x), (1, .int p1), (2, .int p0), (3, .ref ou)]) hx hb dL_stow_13 hl (by decide) rfl (fun ls hl => ?_)
    refine lv_iconst (v := 1) hx hb dL_stow_15 (by decide) ?_
    refine W.widen (k := 1) (n := 6) (Nat.le_of_ble_eq_true rfl) (Nat.le_of_ble_eq_true rfl) ?_
    exact W.iret (v := 1) hx hb hr (fun t ht hW => ⟨⟨1, (), rfl, rfl, kB_end (w9 := []) (t9 := []) hP hK hD [] [] rfl (by decide) rfl rfl t ht hW⟩, hS.F ht⟩) hS.2.2 dL_stow_16
  · skip
    exact hw.elim
abbrev wd_k_l_sail (z : Nat → Nat) (sh : Nat) (rg : Nat) (mf : Nat) (mm : Nat) (mz : Nat) (ma : Nat) (sa : Nat) (s0 : Nat) (s1 : Nat) (s2 : Nat) (s3 : Nat) (s4 : Nat) (s5 : Nat) (s6 : Nat) (s7 : Nat) (s8 : Nat) (dk : Nat) (w0 : Nat) (w1 : Nat) (ol : Nat) (hd : Nat) (hu : Nat) (hy : Nat) (lg : Nat) (ll : Nat) (lm : Nat) (pl : Nat) (pr : Nat) (cM : ClassId) (cS : ClassId) (cU : ClassId) (cW : ClassId) (x : Nat) (tl : Nat) (tw : Nat) (N : Nat) (ou : Nat) (co : ClassId) (of_ : Nat → Int64) : va_W := [(x, .inr (15, [.ref sh, .ref tl, .ref tw, .int 0])), (tl, .inr (3, [.int 0, .ref (z 0), .int 0])), (sh, .inr (13, [.ref rg, .ref dk, .ref hd, .ref lg, .ref pl, .ref pr, .int 0, .int 0, .int 0, .int 0, .int 0, .int 0, .int 0, .int 0, .int 0, .int 0, .int 0])), (rg, .inr (11, [.ref mf, .ref mm, .ref mz, .ref ma, .ref sa, .int 0])), (mf, .inr (8, [.int 0, .int 0, .int 0])), (mm, .inr (8, [.int 0, .int 0, .int 0])), (mz, .inr (8, [.int 0, .int 0, .int 0])), (ma, .inl (cM, 3, .inr (.inr (.inr (.inr (va_up (va_up (va_up (fun _ => none) 0 (some mf)) 1 (some mm)) 2 (some mz))))))), (sa, .inl (cS, 9, .inr (.inr (.inr (.inr (va_up (va_up (va_up (va_up (va_up (va_up (va_up (va_up (va_up (fun _ => none) 0 (some s0)) 1 (some s1)) 2 (some s2)) 3 (some s3)) 4 (some s4)) 5 (some s5)) 6 (some s6)) 7 (some s7)) 8 (some s8))))))), (s0, .inr (12, [.int 8, .int 6, .ref mf, .int 1, .int 0, .int 900, .int 0, .int 0])), (s1, .inr (12, [.int 7, .int 5, .ref mf, .int 1, .int 0, .int 900, .int 0, .int 0])), (s2, .inr (12, [.int 3, .int 3, .ref mf, .int 1, .int 0, .int 900, .int 0, .int 0])), (s3, .inr (12, [.int 10, .int 8, .ref mm, .int 1, .int 0, .int 900, .int 0, .int 0])), (s4, .inr (12, [.int 9, .int 6, .ref mm, .int 1, .int 0, .int 900, .int 0, .int 0])), (s5, .inr (12, [.int 4, .int 3, .ref mm, .int 1, .int 0, .int 900, .int 0, .int 0])), (s6, .inr (12, [.int 5, .int 4, .ref mz, .int 1, .int 0, .int 900, .int 0, .int 0])), (s7, .inr (12, [.int 4, .int 3, .ref mf, .int 0, .int 0, .int 900, .int 0, .int 0])), (s8, .inr (12, [.int 6, .int 4, .ref mz, .int 0, .int 0, .int 900, .int 0, .int 0])), (dk, .inr (4, [.ref w0, .ref w1, .ref ol, .int 0, .int 0, .int 0, .int 0])), (w0, .inr (14, [.int 0, .int 0])), (w1, .inr (14, [.int 0, .int 0])), (ol, .inr (3, [.int 0, .ref (z 0), .int 0])), (hd, .inr (6, [.ref hu, .ref hy, .int 0])), (hu, .inl (cU, 20, .inl (fun _ => 0))), (hy, .inl (cW, 20, .inl (fun _ => 0))), (lg, .inr (7, [.ref ll, .ref lm, .int 0, .int 0])), (pl, .inr (10, [.long 0, .long 0])), (pr, .inr (10, [.long 0, .long 0])), (ou, .inl (co, 1, .inr (.inl of_)))]
set_option maxHeartbeats 4000000 in
set_option maxRecDepth 100000 in
theorem k_l_sail (l : Launch) (dC : Nat → ClassId) (dI : Nat → Nat → Nat) (z zK zV : Nat → Nat) (sh : Nat) (rg : Nat) (mf : Nat) (mm : Nat) (mz : Nat) (ma : Nat) (sa : Nat) (s0 : Nat) (s1 : Nat) (s2 : Nat) (s3 : Nat) (s4 : Nat) (s5 : Nat) (s6 : Nat) (s7 : Nat) (s8 : Nat) (dk : Nat) (w0 : Nat) (w1 : Nat) (ol : Nat) (hd : Nat) (hu : Nat) (hy : Nat) (lg : Nat) (ll : Nat) (lm : Nat) (pl : Nat) (pr : Nat) (cM : ClassId) (cS : ClassId) (cU : ClassId) (cW : ClassId) (x : Nat) (tl : Nat) (tw : Nat) (N : Nat) (ou : Nat) (co : ClassId) (of_ : Nat → Int64) (sz : Nat) (hN : N ≤ 1500) (hN1 : 1 ≤ N) : Met l yL_sail wsL_sail ({ frames := 7, cells := 2, slots := 14, locals := 150 }) (kP dC dI z zK zV [.ref x, .int (nI N), .ref ou] sz (wd_k_l_sail z sh rg mf mm mz ma sa s0 s1 s2 s3 s4 s5 s6 s7 s8 dk w0 w1 ol hd hu hy lg ll lm pl pr cM cS cU cW x tl tw N ou co of_) [(cM, .object RX4), (cS, .object RX8), (cU, .int), (cW, .boolean), (co, .long)]) (va_Qi (fun (r : Int32) (_ : Unit) => 0 = r) (fun _ t => kB (dC, dI) (va_A (wd_k_l_sail z sh rg mf mm mz ma sa s0 s1 s2 s3 s4 s5 s6 s7 s8 dk w0 w1 ol hd hu hy lg ll lm pl pr cM cS cU cW x tl tw N ou co of_) sz) [(ou, .inl (co, 1, .inr (.inl (vp_updL of_ 0 (nI N).toInt64))))] [] t) (va_A (wd_k_l_sail z sh rg mf mm mz ma sa s0 s1 s2 s3 s4 s5 s6 s7 s8 dk w0 w1 ol hd hu hy lg ll lm pl pr cM cS cU cW x tl tw N ou co of_) sz)) 2 14 (va_A (wd_k_l_sail z sh rg mf mm mz ma sa s0 s1 s2 s3 s4 s5 s6 s7 s8 dk w0 w1 ol hd hu hy lg ll lm pl pr cM cS cU cW x tl tw N ou co of_) sz) := by
  refine va_MetW (hh := [(0, 9, 12, 13)]) (cc := cL_sail) (maxL := 4) (ret := (some .int)) (by decide) rfl ?_
  intro p e s m args below meth c s₁ B hml hv
  obtain ⟨rfl, hsz, hP, hK, hD0, hM⟩ := hv
  have hx := B.exec
  have hb := B.bytes
  have hr := B.returns
  have hts := atoms_spec (ws := wsL_sail) B.pre
  have hown : s.vm.findClass RL = some m.cls := findClass_of_methodNamed B.named
  have hlocks := B.notSynchronized
  have htab := vx_table (x := yL_sail) B (hts _ List.mem_cons_self)
  subst hsz
  have hD := hD0.self (sz := s.heap.size)
  generalize hAe : va_A (wd_k_l_sail z sh rg mf mm mz ma sa s0 s1 s2 s3 s4 s5 s6 s7 s8 dk w0 w1 ol hd hu hy lg ll lm pl pr cM cS cU cW x tl tw N ou co of_) s.heap.size = A at hD hM ⊢
  have hA : ∀ q : Nat, s.heap.size ≤ q → A q := fun q h => by rw [← hAe]; exact Or.inr h
  have hS : va_S A s.heap s.heap [] := va_S.rf
  have hP : va_P (dC, dI) vwCl [(x, .inr (15, [.ref sh, .ref tl, .ref tw, .int 0])), (tl, .inr (3, [.int 0, .ref (z 0), .int 0])), (sh, .inr (13, [.ref rg, .ref dk, .ref hd, .ref lg, .ref pl, .ref pr, .int 0, .int 0, .int 0, .int 0, .int 0, .int 0, .int 0, .int 0, .int 0, .int 0, .int 0])), (rg, .inr (11, [.ref mf, .ref mm, .ref mz, .ref ma, .ref sa, .int 0])), (mf, .inr (8, [.int 0, .int 0, .int 0])), (mm, .inr (8, [.int 0, .int 0, .int 0])), (mz, .inr (8, [.int 0, .int 0, .int 0])), (ma, .inl (cM, 3, .inr (.inr (.inr (.inr (va_up (va_up (va_up (fun _ => none) 0 (some mf)) 1 (some mm)) 2 (some mz))))))), (sa, .inl (cS, 9, .inr (.inr (.inr (.inr (va_up (va_up (va_up (va_up (va_up (va_up (va_up (va_up (va_up (fun _ => none) 0 (some s0)) 1 (some s1)) 2 (some s2)) 3 (some s3)) 4 (some s4)) 5 (some s5)) 6 (some s6)) 7 (some s7)) 8 (some s8))))))), (s0, .inr (12, [.int 8, .int 6, .ref mf, .int 1, .int 0, .int 900, .int 0, .int 0])), (s1, .inr (12, [.int 7, .int 5, .ref mf, .int 1, .int 0, .int 900, .int 0, .int 0])), (s2, .inr (12, [.int 3, .int 3, .ref mf, .int 1, .int 0, .int 900, .int 0, .int 0])), (s3, .inr (12, [.int 10, .int 8, .ref mm, .int 1, .int 0, .int 900, .int 0, .int 0])), (s4, .inr (12, [.int 9, .int 6, .ref mm, .int 1, .int 0, .int 900, .int 0, .int 0])), (s5, .inr (12, [.int 4, .int 3, .ref mm, .int 1, .int 0, .int 900, .int 0, .int 0])), (s6, .inr (12, [.int 5, .int 4, .ref mz, .int 1, .int 0, .int 900, .int 0, .int 0])), (s7, .inr (12, [.int 4, .int 3, .ref mf, .int 0, .int 0, .int 900, .int 0, .int 0])), (s8, .inr (12, [.int 6, .int 4, .ref mz, .int 0, .int 0, .int 900, .int 0, .int 0])), (dk, .inr (4, [.ref w0, .ref w1, .ref ol, .int 0, .int 0, .int 0, .int 0])), (w0, .inr (14, [.int 0, .int 0])), (w1, .inr (14, [.int 0, .int 0])), (ol, .inr (3, [.int 0, .ref (z 0), .int 0])), (hd, .inr (6, [.ref hu, .ref hy, .int 0])), (hu, .inl (cU, 20, .inl (fun _ => 0))), (hy, .inl (cW, 20, .inl (fun _ => 0))), (lg, .inr (7, [.ref ll, .ref lm, .int 0, .int 0])), (pl, .inr (10, [.long 0, .long 0])), (pr, .inr (10, [.long 0, .long 0])), (ou, .inl (co, 1, .inr (.inl of_)))] s.heap := hP
  have hD : va_D A [(x, .inr (15, [.ref sh, .ref tl, .ref tw, .int 0])), (tl, .inr (3, [.int 0, .ref (z 0), .int 0])), (sh, .inr (13, [.ref rg, .ref dk, .ref hd, .ref lg, .ref pl, .ref pr, .int 0, .int 0, .int 0, .int 0, .int 0, .int 0, .int 0, .int 0, .int 0, .int 0, .int 0])), (rg, .inr (11, [.ref mf, .ref mm, .ref mz, .ref ma, .ref sa, .int 0])), (mf, .inr (8, [.int 0, .int 0, .int 0])), (mm, .inr (8, [.int 0, .int 0, .int 0])), (mz, .inr (8, [.int 0, .int 0, .int 0])), (ma, .inl (cM, 3, .inr (.inr (.inr (.inr (va_up (va_up (va_up (fun _ => none) 0 (some mf)) 1 (some mm)) 2 (some mz))))))), (sa, .inl (cS, 9, .inr (.inr (.inr (.inr (va_up (va_up (va_up (va_up (va_up (va_up (va_up (va_up (va_up (fun _ => none) 0 (some s0)) 1 (some s1)) 2 (some s2)) 3 (some s3)) 4 (some s4)) 5 (some s5)) 6 (some s6)) 7 (some s7)) 8 (some s8))))))), (s0, .inr (12, [.int 8, .int 6, .ref mf, .int 1, .int 0, .int 900, .int 0, .int 0])), (s1, .inr (12, [.int 7, .int 5, .ref mf, .int 1, .int 0, .int 900, .int 0, .int 0])), (s2, .inr (12, [.int 3, .int 3, .ref mf, .int 1, .int 0, .int 900, .int 0, .int 0])), (s3, .inr (12, [.int 10, .int 8, .ref mm, .int 1, .int 0, .int 900, .int 0, .int 0])), (s4, .inr (12, [.int 9, .int 6, .ref mm, .int 1, .int 0, .int 900, .int 0, .int 0])), (s5, .inr (12, [.int 4, .int 3, .ref mm, .int 1, .int 0, .int 900, .int 0, .int 0])), (s6, .inr (12, [.int 5, .int 4, .ref mz, .int 1, .int 0, .int 900, .int 0, .int 0])), (s7, .inr (12, [.int 4, .int 3, .ref mf, .int 0, .int 0, .int 900, .int 0, .int 0])), (s8, .inr (12, [.int 6, .int 4, .ref mz, .int 0, .int 0, .int 900, .int 0, .int 0])), (dk, .inr (4, [.ref w0, .ref w1, .ref ol, .int 0, .int 0, .int 0, .int 0])), (w0, .inr (14, [.int 0, .int 0])), (w1, .inr (14, [.int 0, .int 0])), (ol, .inr (3, [.int 0, .ref (z 0), .int 0])), (hd, .inr (6, [.ref hu, .ref hy, .int 0])), (hu, .inl (cU, 20, .inl (fun _ => 0))), (hy, .inl (cW, 20, .inl (fun _ => 0))), (lg, .inr (7, [.ref ll, .ref lm, .int 0, .int 0])), (pl, .inr (10, [.long 0, .long 0])), (pr, .inr (10, [.long 0, .long 0])), (ou, .inl (co, 1, .inr (.inl of_)))] := hD
  have hl := lv_entry ([.ref x, .int (nI N), .ref ou]) (n := 4) (Nat.le_of_ble_eq_true rfl)
  rw [lg_entry_eq]
  generalize (lg_sl ([.ref x, .int (nI N), .ref ou]) ++ List.replicate (4 - (lg_sl ([.ref x, .int (nI N), .ref ou])).length) Slot.unset).toArray = ls at hl ⊢
  have hl : lv_has ls 4 [(0, .ref x), (1, .int (nI N)), (2, .ref ou)] := hl
  refine lv_aload_n hx hb dL_sail_0 rfl (lv_at hl 2 rfl) ?_
  refine lv_iconst (v := 0) hx hb dL_sail_1 (by decide) ?_
  refine lv_aload_n hx hb dL_sail_2 rfl (lv_at hl 0 rfl) ?_
  refine lv_iload_n hx hb dL_sail_3 rfl (lv_at hl 1 rfl) ?_
  have hPc := hP.sub (ws' := [(x, .inr (15, [.ref sh, .ref tl, .ref tw, .int 0])), (tl, .inr (3, [.int 0, .ref (z 0), .int 0])), (sh, .inr (13, [.ref rg, .ref dk, .ref hd, .ref lg, .ref pl, .ref pr, .int 0, .int 0, .int 0, .int 0, .int 0, .int 0, .int 0, .int 0, .int 0, .int 0, .int 0])), (rg, .inr (11, [.ref mf, .ref mm, .ref mz, .ref ma, .ref sa, .int 0])), (mf, .inr (8, [.int 0, .int 0, .int 0])), (mm, .inr (8, [.int 0, .int 0, .int 0])), (mz, .inr (8, [.int 0, .int 0, .int 0])), (ma, .inl (cM, 3, .inr (.inr (.inr (.inr (va_up (va_up (va_up (fun _ => none) 0 (some mf)) 1 (some mm)) 2 (some mz))))))), (sa, .inl (cS, 9, .inr (.inr (.inr (.inr (va_up (va_up (va_up (va_up (va_up (va_up (va_up (va_up (va_up (fun _ => none) 0 (some s0)) 1 (some s1)) 2 (some s2)) 3 (some s3)) 4 (some s4)) 5 (some s5)) 6 (some s6)) 7 (some s7)) 8 (some s8))))))), (s0, .inr (12, [.int 8, .int 6, .ref mf, .int 1, .int 0, .int 900, .int 0, .int 0])), (s1, .inr (12, [.int 7, .int 5, .ref mf, .int 1, .int 0, .int 900, .int 0, .int 0])), (s2, .inr (12, [.int 3, .int 3, .ref mf, .int 1, .int 0, .int 900, .int 0, .int 0])), (s3, .inr (12, [.int 10, .int 8, .ref mm, .int 1, .int 0, .int 900, .int 0, .int 0])), (s4, .inr (12, [.int 9, .int 6, .ref mm, .int 1, .int 0, .int 900, .int 0, .int 0])), (s5, .inr (12, [.int 4, .int 3, .ref mm, .int 1, .int 0, .int 900, .int 0, .int 0])), (s6, .inr (12, [.int 5, .int 4, .ref mz, .int 1, .int 0, .int 900, .int 0, .int 0])), (s7, .inr (12, [.int 4, .int 3, .ref mf, .int 0, .int 0, .int 900, .int 0, .int 0])), (s8, .inr (12, [.int 6, .int 4, .ref mz, .int 0, .int 0, .int 900, .int 0, .int 0])), (dk, .inr (4, [.ref w0, .ref w1, .ref ol, .int 0, .int 0, .int 0, .int 0])), (w0, .inr (14, [.int 0, .int 0])), (w1, .inr (14, [.int 0, .int 0])), (ol, .inr (3, [.int 0, .ref (z 0), .int 0])), (hd, .inr (6, [.ref hu, .ref hy, .int 0])), (hu, .inl (cU, 20, .inl (fun _ => 0))), (hy, .inl (cW, 20, .inl (fun _ => 0))), (lg, .inr (7, [.ref ll, .ref lm, .int 0, .int 0])), (pl, .inr (10, [.long 0, .long 0])), (pr, .inr (10, [.long 0, .long 0]))]) [0, 1, 2, 3, 4, 5, 6, 7, 8, 9, 10, 11, 12, 13, 14, 15, 16, 17, 18, 19, 20, 21, 22, 23, 24, 25, 26, 27] rfl
  have hDc := hD.sub (ws' := [(x, .inr (15, [.ref sh, .ref tl, .ref tw, .int 0])), (tl, .inr (3, [.int 0, .ref (z 0), .int 0])), (sh, .inr (13, [.ref rg, .ref dk, .ref hd, .ref lg, .ref pl, .ref pr, .int 0, .int 0, .int 0, .int 0, .int 0, .int 0, .int 0, .int 0, .int 0, .int 0, .int 0])), (rg, .inr (11, [.ref mf, .ref mm, .ref mz, .ref ma, .ref sa, .int 0])), (mf, .inr (8, [.int 0, .int 0, .int 0])), (mm, .inr (8, [.int 0, .int 0, .int 0])), (mz, .inr (8, [.int 0, .int 0, .int 0])), (ma, .inl (cM, 3, .inr (.inr (.inr (.inr (va_up (va_up (va_up (fun _ => none) 0 (some mf)) 1 (some mm)) 2 (some mz))))))), (sa, .inl (cS, 9, .inr (.inr (.inr (.inr (va_up (va_up (va_up (va_up (va_up (va_up (va_up (va_up (va_up (fun _ => none) 0 (some s0)) 1 (some s1)) 2 (some s2)) 3 (some s3)) 4 (some s4)) 5 (some s5)) 6 (some s6)) 7 (some s7)) 8 (some s8))))))), (s0, .inr (12, [.int 8, .int 6, .ref mf, .int 1, .int 0, .int 900, .int 0, .int 0])), (s1, .inr (12, [.int 7, .int 5, .ref mf, .int 1, .int 0, .int 900, .int 0, .int 0])), (s2, .inr (12, [.int 3, .int 3, .ref mf, .int 1, .int 0, .int 900, .int 0, .int 0])), (s3, .inr (12, [.int 10, .int 8, .ref mm, .int 1, .int 0, .int 900, .int 0, .int 0])), (s4, .inr (12, [.int 9, .int 6, .ref mm, .int 1, .int 0, .int 900, .int 0, .int 0])), (s5, .inr (12, [.int 4, .int 3, .ref mm, .int 1, .int 0, .int 900, .int 0, .int 0])), (s6, .inr (12, [.int 5, .int 4, .ref mz, .int 1, .int 0, .int 900, .int 0, .int 0])), (s7, .inr (12, [.int 4, .int 3, .ref mf, .int 0, .int 0, .int 900, .int 0, .int 0])), (s8, .inr (12, [.int 6, .int 4, .ref mz, .int 0, .int 0, .int 900, .int 0, .int 0])), (dk, .inr (4, [.ref w0, .ref w1, .ref ol, .int 0, .int 0, .int 0, .int 0])), (w0, .inr (14, [.int 0, .int 0])), (w1, .inr (14, [.int 0, .int 0])), (ol, .inr (3, [.int 0, .ref (z 0), .int 0])), (hd, .inr (6, [.ref hu, .ref hy, .int 0])), (hu, .inl (cU, 20, .inl (fun _ => 0))), (hy, .inl (cW, 20, .inl (fun _ => 0))), (lg, .inr (7, [.ref ll, .ref lm, .int 0, .int 0])), (pl, .inr (10, [.long 0, .long 0])), (pr, .inr (10, [.long 0, .long 0]))]) [0, 1, 2, 3, 4, 5, 6, 7, 8, 9, 10, 11, 12, 13, 14, 15, 16, 17, 18, 19, 20, 21, 22, 23, 24, 25, 26, 27] (by decide) rfl
  have hKc := hK.sub (tys' := [(cM, .object RX4), (cS, .object RX8), (cU, .int), (cW, .boolean)]) [0, 1, 2, 3] rfl
  have hFc := va_free (wc := [(x, .inr (15, [.ref sh, .ref tl, .ref tw, .int 0])), (tl, .inr (3, [.int 0, .ref (z 0), .int 0])), (sh, .inr (13, [.ref rg, .ref dk, .ref hd, .ref lg, .ref pl, .ref pr, .int 0, .int 0, .int 0, .int 0, .int 0, .int 0, .int 0, .int 0, .int 0, .int 0, .int 0])), (rg, .inr (11, [.ref mf, .ref mm, .ref mz, .ref ma, .ref sa, .int 0])), (mf, .inr (8, [.int 0, .int 0, .int 0])), (mm, .inr (8, [.int 0, .int 0, .int 0])), (mz, .inr (8, [.int 0, .int 0, .int 0])), (ma, .inl (cM, 3, .inr (.inr (.inr (.inr (va_up (va_up (va_up (fun _ => none) 0 (some mf)) 1 (some mm)) 2 (some mz))))))), (sa, .inl (cS, 9, .inr (.inr (.inr (.inr (va_up (va_up (va_up (va_up (va_up (va_up (va_up (va_up (va_up (fun _ => none) 0 (some s0)) 1 (some s1)) 2 (some s2)) 3 (some s3)) 4 (some s4)) 5 (some s5)) 6 (some s6)) 7 (some s7)) 8 (some s8))))))), (s0, .inr (12, [.int 8, .int 6, .ref mf, .int 1, .int 0, .int 900, .int 0, .int 0])), (s1, .inr (12, [.int 7, .int 5, .ref mf, .int 1, .int 0, .int 900, .int 0, .int 0])), (s2, .inr (12, [.int 3, .int 3, .ref mf, .int 1, .int 0, .int 900, .int 0, .int 0])), (s3, .inr (12, [.int 10, .int 8, .ref mm, .int 1, .int 0, .int 900, .int 0, .int 0])), (s4, .inr (12, [.int 9, .int 6, .ref mm, .int 1, .int 0, .int 900, .int 0, .int 0])), (s5, .inr (12, [.int 4, .int 3, .ref mm, .int 1, .int 0, .int 900, .int 0, .int 0])), (s6, .inr (12, [.int 5, .int 4, .ref mz, .int 1, .int 0, .int 900, .int 0, .int 0])), (s7, .inr (12, [.int 4, .int 3, .ref mf, .int 0, .int 0, .int 900, .int 0, .int 0])), (s8, .inr (12, [.int 6, .int 4, .ref mz, .int 0, .int 0, .int 900, .int 0, .int 0])), (dk, .inr (4, [.ref w0, .ref w1, .ref ol, .int 0, .int 0, .int 0, .int 0])), (w0, .inr (14, [.int 0, .int 0])), (w1, .inr (14, [.int 0, .int 0])), (ol, .inr (3, [.int 0, .ref (z 0), .int 0])), (hd, .inr (6, [.ref hu, .ref hy, .int 0])), (hu, .inl (cU, 20, .inl (fun _ => 0))), (hy, .inl (cW, 20, .inl (fun _ => 0))), (lg, .inr (7, [.ref ll, .ref lm, .int 0, .int 0])), (pl, .inr (10, [.long 0, .long 0])), (pr, .inr (10, [.long 0, .long 0]))]) hD hS hA [0, 1, 2, 3, 4, 5, 6, 7, 8, 9, 10, 11, 12, 13, 14, 15, 16, 17, 18, 19, 20, 21, 22, 23, 24, 25, 26, 27] rfl
  refine va_calli (va_runV (As := [.int (nI N)]) (rest := [.int 0, .ref ou]) ⟨hx, hb, hml, hown, hts⟩ (k_x_sail l dC dI z zK zV sh rg mf mm mz ma sa s0 s1 s2 s3 s4 s5 s6 s7 s8 dk w0 w1 ol hd hu hy lg ll lm pl pr cM cS cU cW x tl tw N s.heap.size (hN) (hN1)) (cwV 1 hts gL_sail_X11_sail rfl rfl rfl (by decide +kernel) ⟨Nat.le_of_ble_eq_true rfl, Nat.le_of_ble_eq_true rfl⟩) ⟨kP_blind, va_recv hKc hPc (ci := 15) (q0 := 0) rfl rfl, kP_go hPc hKc hDc hFc hM hS⟩ rfl rfl hl.1 rfl (lv_room (Nat.le_of_ble_eq_true rfl)) dL_sail_4 ⟨Nat.le_of_ble_eq_true rfl, Nat.le_of_ble_eq_true rfl⟩) hS (fun q _ h => hFc q h) hFc (fun r1 u t H1 locs ht hvm hw hB hz1 hk1 hS => ?_)
  obtain ⟨hP, hD, hK⟩ := kJ (wr := [(ou, .inl (co, 1, .inr (.inl of_)))]) (w1 := []) (t1 := []) hP hD hK [0, 1, 2, 3, 4, 5, 6, 7, 8, 9, 10, 11, 12, 13, 14, 15, 16, 17, 18, 19, 20, 21, 22, 23, 24, 25, 26, 27] [28] rfl rfl (by decide) (by decide) hk1 hFc ht hvm hB
  generalize H1 = H at hP hS ⊢
  have hP : va_P (dC, dI) vwCl [(ou, .inl (co, 1, .inr (.inl of_)))] H := hP
  have hD : va_D A [(ou, .inl (co, 1, .inr (.inl of_)))] := hD
  have hK : va_K (dC, dI) vwCl [(cM, .object RX4), (cS, .object RX8), (cU, .int), (cW, .boolean), (co, .long)] s := hK
  obtain rfl : (nI N) = r1 := hw
  refine lv_i2l (v := (nI N).toInt64) hx hb dL_sail_7 rfl ?_
  refine va_last hx hb hK hP hD hS 0 4 rfl rfl (pk_in 0 1 (by decide) rfl) dL_sail_8 (fun H locs hP hD hS => ?_)
  have hP : va_P (dC, dI) vwCl [(ou, .inl (co, 1, .inr (.inl (vp_updL of_ 0 (nI N).toInt64))))] H := hP
  have hD : va_D A [(ou, .inl (co, 1, .inr (.inl (vp_updL of_ 0 (nI N).toInt64))))] := hD
  refine lv_goto (tgt := 15) hx hb dL_sail_9 (by decide) ?_
  refine lv_iconst (v := 0) hx hb dL_sail_15 (by decide) ?_
  refine W.widen (k := 2) (n := 14) (Nat.le_of_ble_eq_true rfl) (Nat.le_of_ble_eq_true rfl) ?_
  exact W.iret (v := 0) hx hb hr (fun t ht hW => ⟨⟨0, (), rfl, rfl, kB_end (w9 := [(ou, .inl (co, 1, .inr (.inl (vp_updL of_ 0 (nI N).toInt64))))]) (t9 := []) hP hK hD [0] [] rfl (by decide) rfl rfl t ht hW⟩, hS.F ht⟩) hS.2.2 dL_sail_16
abbrev wd_k_l_sail_bad (z : Nat → Nat) (sh : Nat) (rg : Nat) (dk : Nat) (hd : Nat) (lg : Nat) (pl : Nat) (pr : Nat) (x : Nat) (tl : Nat) (tw : Nat) (p0 : Int32) (ou : Nat) (co : ClassId) (of_ : Nat → Int64) : va_W := [(x, .inr (15, [.ref sh, .ref tl, .ref tw, .int 0])), (sh, .inr (13, [.ref rg, .ref dk, .ref hd, .ref lg, .ref pl, .ref pr, .int 0, .int 0, .int 0, .int 0, .int 0, .int 0, .int 0, .int 0, .int 0, .int 0, .int 0])), (ou, .inl (co, 1, .inr (.inl of_)))]
set_option maxHeartbeats 4000000 in
set_option maxRecDepth 100000 in
theorem k_l_sail_bad (l : Launch) (dC : Nat → ClassId) (dI : Nat → Nat → Nat) (z zK zV : Nat → Nat) (sh : Nat) (rg : Nat) (dk : Nat) (hd : Nat) (lg : Nat) (pl : Nat) (pr : Nat) (x : Nat) (tl : Nat) (tw : Nat) (p0 : Int32) (ou : Nat) (co : ClassId) (of_ : Nat → Int64) (sz : Nat) (hst : l.stackTraces = false) (hb0 : ¬ ((1 : Int32) ≤ p0 ∧ p0 ≤ 1500)) : Met l yL_sail wsL_sail ({ frames := 7, cells := 1, slots := 6, locals := 103 }) (kP dC dI z zK zV [.ref x, .int p0, .ref ou] sz (wd_k_l_sail_bad z sh rg dk hd lg pl pr x tl tw p0 ou co of_) [(co, .long)]) (va_Qi (fun (r : Int32) (_ : Unit) => 1 = r) (fun _ t => kB (dC, dI) (va_A (wd_k_l_sail_bad z sh rg dk hd lg pl pr x tl tw p0 ou co of_) sz) [] [] t) (va_A (wd_k_l_sail_bad z sh rg dk hd lg pl pr x tl tw p0 ou co of_) sz)) 1 6 (va_A (wd_k_l_sail_bad z sh rg dk hd lg pl pr x tl tw p0 ou co of_) sz) := by
  refine va_MetW (hh := [(0, 9, 12, 13)]) (cc := cL_sail) (maxL := 4) (ret := (some .int)) (by decide) rfl ?_
  intro p e s m args below meth c s₁ B hml hv
  obtain ⟨rfl, hsz, hP, hK, hD0, hM⟩ := hv
  have hx := B.exec
  have hb := B.bytes
  have hr := B.returns
  have hts := atoms_spec (ws := wsL_sail) B.pre
  have hown : s.vm.findClass RL = some m.cls := findClass_of_methodNamed B.named
  have hlocks := B.notSynchronized
  have htab := vx_table (x := yL_sail) B (hts _ List.mem_cons_self)
  subst hsz
  have hD := hD0.self (sz := s.heap.size)
  generalize hAe : va_A (wd_k_l_sail_bad z sh rg dk hd lg pl pr x tl tw p0 ou co of_) s.heap.size = A at hD hM ⊢
  have hA : ∀ q : Nat, s.heap.size ≤ q → A q := fun q h => by rw [← hAe]; exact Or.inr h
  have hS : va_S A s.heap s.heap [] := va_S.rf
  have hP : va_P (dC, dI) vwCl [(x, .inr (15, [.ref sh, .ref tl, .ref tw, .int 0])), (sh, .inr (13, [.ref rg, .ref dk, .ref hd, .ref lg, .ref pl, .ref pr, .int 0, .int 0, .int 0, .int 0, .int 0, .int 0, .int 0, .int 0, .int 0, .int 0, .int 0])), (ou, .inl (co, 1, .inr (.inl of_)))] s.heap := hP
  have hD : va_D A [(x, .inr (15, [.ref sh, .ref tl, .ref tw, .int 0])), (sh, .inr (13, [.ref rg, .ref dk, .ref hd, .ref lg, .ref pl, .ref pr, .int 0, .int 0, .int 0, .int 0, .int 0, .int 0, .int 0, .int 0, .int 0, .int 0, .int 0])), (ou, .inl (co, 1, .inr (.inl of_)))] := hD
  have hl := lv_entry ([.ref x, .int p0, .ref ou]) (n := 4) (Nat.le_of_ble_eq_true rfl)
  rw [lg_entry_eq]
  generalize (lg_sl ([.ref x, .int p0, .ref ou]) ++ List.replicate (4 - (lg_sl ([.ref x, .int p0, .ref ou])).length) Slot.unset).toArray = ls at hl ⊢
  have hl : lv_has ls 4 [(0, .ref x), (1, .int p0), (2, .ref ou)] := hl
  refine lv_aload_n hx hb dL_sail_0 rfl (lv_at hl 2 rfl) ?_
  refine lv_iconst (v := 0) hx hb dL_sail_1 (by decide) ?_
  refine lv_aload_n hx hb dL_sail_2 rfl (lv_at hl 0 rfl) ?_
  refine lv_iload_n hx hb dL_sail_3 rfl (lv_at hl 1 rfl) ?_
  have hPc := hP.sub (ws' := [(x, .inr (15, [.ref sh, .ref tl, .ref tw, .int 0])), (sh, .inr (13, [.ref rg, .ref dk, .ref hd, .ref lg, .ref pl, .ref pr, .int 0, .int 0, .int 0, .int 0, .int 0, .int 0, .int 0, .int 0, .int 0, .int 0, .int 0]))]) [0, 1] rfl
  have hDc := hD.sub (ws' := [(x, .inr (15, [.ref sh, .ref tl, .ref tw, .int 0])), (sh, .inr (13, [.ref rg, .ref dk, .ref hd, .ref lg, .ref pl, .ref pr, .int 0, .int 0, .int 0, .int 0, .int 0, .int 0, .int 0, .int 0, .int 0, .int 0, .int 0]))]) [0, 1] (by decide) rfl
  have hKc := hK.sub (tys' := []) [] rfl
  have hFc := va_free (wc := [(x, .inr (15, [.ref sh, .ref tl, .ref tw, .int 0])), (sh, .inr (13, [.ref rg, .ref dk, .ref hd, .ref lg, .ref pl, .ref pr, .int 0, .int 0, .int 0, .int 0, .int 0, .int 0, .int 0, .int 0, .int 0, .int 0, .int 0]))]) hD hS hA [0, 1] rfl
  refine vx_calli (vx_runV (As := [.int p0]) (rest := [.int 0, .ref ou]) ⟨hx, hb, hml, hown, hts⟩ (k_x_sail_bad l dC dI z zK zV sh rg dk hd lg pl pr x tl tw p0 s.heap.size hst (hb0)) (cwV 1 hts gL_sail_X11_sail rfl rfl rfl (by decide +kernel) ⟨Nat.le_of_ble_eq_true rfl, Nat.le_of_ble_eq_true rfl⟩) ⟨kP_blind, va_recv hKc hPc (ci := 15) (q0 := 0) rfl rfl, kP_go hPc hKc hDc hFc hM hS⟩ rfl rfl hl.1 rfl (lv_room (Nat.le_of_ble_eq_true rfl)) dL_sail_4 ⟨Nat.le_of_ble_eq_true rfl, Nat.le_of_ble_eq_true rfl⟩) hS (fun q _ h => hFc q h) hFc (fun q _ h => hFc q h) (fun E ce q9 u t H1 locs ht hvm hpx hbx hz1 hk1 hS hcell hcv hcl => ?_) (fun r1 u t H1 locs ht hvm hw hB hz1 hk1 hS => ?_)
  · skip
    obtain rfl : "java/lang/IllegalArgumentException" = E := hbx
    obtain ⟨hP, hD, hK⟩ := kJ (wr := [(ou, .inl (co, 1, .inr (.inl of_)))]) (w1 := []) (t1 := []) hP hD hK [0, 1] [2] rfl rfl (by decide) (by decide) hk1 hFc ht hvm (kB_nil t (va_K.moved hvm (hK.sub (tys' := []) [] rfl)))
    generalize H1 = H at hP hS hcell ⊢
    have hP : va_P (dC, dI) vwCl [(ou, .inl (co, 1, .inr (.inl of_)))] H := hP
    have hD : va_D A [(ou, .inl (co, 1, .inr (.inl of_)))] := hD
    have hK : va_K (dC, dI) vwCl [(co, .long)] s := hK
    refine vx_catch hown [] ⟨0, 9, 12, 13⟩ _ (htab.trans rfl) (fun z hz => absurd hz List.not_mem_nil) rfl (by decide) (hts (.classLink RL 13 "java/lang/IllegalArgumentException") (by decide +kernel)) (va_Nw.use rfl (hM.2.2.2.2.2.2.2.2.2.1 _ (List.mem_of_getElem? (i := 0) rfl))) hcell hcv hcl ?_
    refine lv_astore_n (lv' := [(3, .ref q9), (0, .ref x), (1, .int p0), (2, .ref ou)]) hx hb dL_sail_12 rfl hl (by decide) rfl (fun ls hl => ?_)
    refine lv_iconst (v := 1) hx hb dL_sail_13 (by decide) ?_
    refine W.widen (k := 1) (n := 6) (Nat.le_of_ble_eq_true rfl) (Nat.le_of_ble_eq_true rfl) ?_
    exact W.iret (v := 1) hx hb hr (fun t ht hW => ⟨⟨1, (), rfl, rfl, kB_end (w9 := []) (t9 := []) hP hK hD [] [] rfl (by decide) rfl rfl t ht hW⟩, hS.F ht⟩) hS.2.2 dL_sail_14
  · skip
    exact hw.elim
abbrev wd_k_l_spread0 (z : Nat → Nat) (sh : Nat) (rg : Nat) (mf : Nat) (mm : Nat) (mz : Nat) (ma : Nat) (sa : Nat) (s0 : Nat) (s1 : Nat) (s2 : Nat) (s3 : Nat) (s4 : Nat) (s5 : Nat) (s6 : Nat) (s7 : Nat) (s8 : Nat) (dk : Nat) (hd : Nat) (lg : Nat) (pl : Nat) (pr : Nat) (cS : ClassId) (x : Nat) (tl : Nat) (tw : Nat) (ou : Nat) (co : ClassId) (of_ : Nat → Int64) : va_W := [(x, .inr (15, [.ref sh, .ref tl, .ref tw, .int 0])), (sh, .inr (13, [.ref rg, .ref dk, .ref hd, .ref lg, .ref pl, .ref pr, .int 0, .int 0, .int 0, .int 0, .int 0, .int 0, .int 0, .int 0, .int 0, .int 0, .int 0])), (rg, .inr (11, [.ref mf, .ref mm, .ref mz, .ref ma, .ref sa, .int 0])), (sa, .inl (cS, 9, .inr (.inr (.inr (.inr (va_up (va_up (va_up (va_up (va_up (va_up (va_up (va_up (va_up (fun _ => none) 0 (some s0)) 1 (some s1)) 2 (some s2)) 3 (some s3)) 4 (some s4)) 5 (some s5)) 6 (some s6)) 7 (some s7)) 8 (some s8))))))), (s0, .inr (12, [.int 8, .int 6, .ref mf, .int 1, .int 0, .int 900, .int 0, .int 0])), (ou, .inl (co, 1, .inr (.inl of_)))]
set_option maxHeartbeats 4000000 in
set_option maxRecDepth 100000 in
theorem k_l_spread0 (l : Launch) (dC : Nat → ClassId) (dI : Nat → Nat → Nat) (z zK zV : Nat → Nat) (sh : Nat) (rg : Nat) (mf : Nat) (mm : Nat) (mz : Nat) (ma : Nat) (sa : Nat) (s0 : Nat) (s1 : Nat) (s2 : Nat) (s3 : Nat) (s4 : Nat) (s5 : Nat) (s6 : Nat) (s7 : Nat) (s8 : Nat) (dk : Nat) (hd : Nat) (lg : Nat) (pl : Nat) (pr : Nat) (cS : ClassId) (x : Nat) (tl : Nat) (tw : Nat) (ou : Nat) (co : ClassId) (of_ : Nat → Int64) (sz : Nat)  : Met l yL_spread wsL_spread ({ frames := 2, cells := 0, slots := 0, locals := 43 }) (kP dC dI z zK zV [.ref x, .int 0, .ref ou] sz (wd_k_l_spread0 z sh rg mf mm mz ma sa s0 s1 s2 s3 s4 s5 s6 s7 s8 dk hd lg pl pr cS x tl tw ou co of_) [(cS, .object RX8), (co, .long)]) (va_Qi (fun (r : Int32) (_ : Unit) => 0 = r) (fun _ t => kB (dC, dI) (va_A (wd_k_l_spread0 z sh rg mf mm mz ma sa s0 s1 s2 s3 s4 s5 s6 s7 s8 dk hd lg pl pr cS x tl tw ou co of_) sz) [(ou, .inl (co, 1, .inr (.inl (vp_updL of_ 0 0))))] [] t) (va_A (wd_k_l_spread0 z sh rg mf mm mz ma sa s0 s1 s2 s3 s4 s5 s6 s7 s8 dk hd lg pl pr cS x tl tw ou co of_) sz)) 0 0 (va_A (wd_k_l_spread0 z sh rg mf mm mz ma sa s0 s1 s2 s3 s4 s5 s6 s7 s8 dk hd lg pl pr cS x tl tw ou co of_) sz) := by
  refine va_MetW (hh := [(0, 9, 12, 32)]) (cc := cL_spread) (maxL := 4) (ret := (some .int)) (by decide) rfl ?_
  intro p e s m args below meth c s₁ B hml hv
  obtain ⟨rfl, hsz, hP, hK, hD0, hM⟩ := hv
  have hx := B.exec
  have hb := B.bytes
  have hr := B.returns
  have hts := atoms_spec (ws := wsL_spread) B.pre
  have hown : s.vm.findClass RL = some m.cls := findClass_of_methodNamed B.named
  have hlocks := B.notSynchronized
  have htab := vx_table (x := yL_spread) B (hts _ List.mem_cons_self)
  subst hsz
  have hD := hD0.self (sz := s.heap.size)
  generalize hAe : va_A (wd_k_l_spread0 z sh rg mf mm mz ma sa s0 s1 s2 s3 s4 s5 s6 s7 s8 dk hd lg pl pr cS x tl tw ou co of_) s.heap.size = A at hD hM ⊢
  have hA : ∀ q : Nat, s.heap.size ≤ q → A q := fun q h => by rw [← hAe]; exact Or.inr h
  have hS : va_S A s.heap s.heap [] := va_S.rf
  have hP : va_P (dC, dI) vwCl [(x, .inr (15, [.ref sh, .ref tl, .ref tw, .int 0])), (sh, .inr (13, [.ref rg, .ref dk, .ref hd, .ref lg, .ref pl, .ref pr, .int 0, .int 0, .int 0, .int 0, .int 0, .int 0, .int 0, .int 0, .int 0, .int 0, .int 0])), (rg, .inr (11, [.ref mf, .ref mm, .ref mz, .ref ma, .ref sa, .int 0])), (sa, .inl (cS, 9, .inr (.inr (.inr (.inr (va_up (va_up (va_up (va_up (va_up (va_up (va_up (va_up (va_up (fun _ => none) 0 (some s0)) 1 (some s1)) 2 (some s2)) 3 (some s3)) 4 (some s4)) 5 (some s5)) 6 (some s6)) 7 (some s7)) 8 (some s8))))))), (s0, .inr (12, [.int 8, .int 6, .ref mf, .int 1, .int 0, .int 900, .int 0, .int 0])), (ou, .inl (co, 1, .inr (.inl of_)))] s.heap := hP
  have hD : va_D A [(x, .inr (15, [.ref sh, .ref tl, .ref tw, .int 0])), (sh, .inr (13, [.ref rg, .ref dk, .ref hd, .ref lg, .ref pl, .ref pr, .int 0, .int 0, .int 0, .int 0, .int 0, .int 0, .int 0, .int 0, .int 0, .int 0, .int 0])), (rg, .inr (11, [.ref mf, .ref mm, .ref mz, .ref ma, .ref sa, .int 0])), (sa, .inl (cS, 9, .inr (.inr (.inr (.inr (va_up (va_up (va_up (va_up (va_up (va_up (va_up (va_up (va_up (fun _ => none) 0 (some s0)) 1 (some s1)) 2 (some s2)) 3 (some s3)) 4 (some s4)) 5 (some s5)) 6 (some s6)) 7 (some s7)) 8 (some s8))))))), (s0, .inr (12, [.int 8, .int 6, .ref mf, .int 1, .int 0, .int 900, .int 0, .int 0])), (ou, .inl (co, 1, .inr (.inl of_)))] := hD
  have hl := lv_entry ([.ref x, .int 0, .ref ou]) (n := 4) (Nat.le_of_ble_eq_true rfl)
  rw [lg_entry_eq]
  generalize (lg_sl ([.ref x, .int 0, .ref ou]) ++ List.replicate (4 - (lg_sl ([.ref x, .int 0, .ref ou])).length) Slot.unset).toArray = ls at hl ⊢
  have hl : lv_has ls 4 [(0, .ref x), (1, .int 0), (2, .ref ou)] := hl
  refine lv_aload_n hx hb dL_spread_0 rfl (lv_at hl 2 rfl) ?_
  refine lv_iconst (v := 0) hx hb dL_spread_1 (by decide) ?_
  refine lv_aload_n hx hb dL_spread_2 rfl (lv_at hl 0 rfl) ?_
  refine lv_iload_n hx hb dL_spread_3 rfl (lv_at hl 1 rfl) ?_
  have hPc := hP.sub (ws' := [(x, .inr (15, [.ref sh, .ref tl, .ref tw, .int 0])), (sh, .inr (13, [.ref rg, .ref dk, .ref hd, .ref lg, .ref pl, .ref pr, .int 0, .int 0, .int 0, .int 0, .int 0, .int 0, .int 0, .int 0, .int 0, .int 0, .int 0])), (rg, .inr (11, [.ref mf, .ref mm, .ref mz, .ref ma, .ref sa, .int 0])), (sa, .inl (cS, 9, .inr (.inr (.inr (.inr (va_up (va_up (va_up (va_up (va_up (va_up (va_up (va_up (va_up (fun _ => none) 0 (some s0)) 1 (some s1)) 2 (some s2)) 3 (some s3)) 4 (some s4)) 5 (some s5)) 6 (some s6)) 7 (some s7)) 8 (some s8))))))), (s0, .inr (12, [.int 8, .int 6, .ref mf, .int 1, .int 0, .int 900, .int 0, .int 0]))]) [0, 1, 2, 3, 4] rfl
  have hDc := hD.sub (ws' := [(x, .inr (15, [.ref sh, .ref tl, .ref tw, .int 0])), (sh, .inr (13, [.ref rg, .ref dk, .ref hd, .ref lg, .ref pl, .ref pr, .int 0, .int 0, .int 0, .int 0, .int 0, .int 0, .int 0, .int 0, .int 0, .int 0, .int 0])), (rg, .inr (11, [.ref mf, .ref mm, .ref mz, .ref ma, .ref sa, .int 0])), (sa, .inl (cS, 9, .inr (.inr (.inr (.inr (va_up (va_up (va_up (va_up (va_up (va_up (va_up (va_up (va_up (fun _ => none) 0 (some s0)) 1 (some s1)) 2 (some s2)) 3 (some s3)) 4 (some s4)) 5 (some s5)) 6 (some s6)) 7 (some s7)) 8 (some s8))))))), (s0, .inr (12, [.int 8, .int 6, .ref mf, .int 1, .int 0, .int 900, .int 0, .int 0]))]) [0, 1, 2, 3, 4] (by decide) rfl
  have hKc := hK.sub (tys' := [(cS, .object RX8)]) [0] rfl
  have hFc := va_free (wc := [(x, .inr (15, [.ref sh, .ref tl, .ref tw, .int 0])), (sh, .inr (13, [.ref rg, .ref dk, .ref hd, .ref lg, .ref pl, .ref pr, .int 0, .int 0, .int 0, .int 0, .int 0, .int 0, .int 0, .int 0, .int 0, .int 0, .int 0])), (rg, .inr (11, [.ref mf, .ref mm, .ref mz, .ref ma, .ref sa, .int 0])), (sa, .inl (cS, 9, .inr (.inr (.inr (.inr (va_up (va_up (va_up (va_up (va_up (va_up (va_up (va_up (va_up (fun _ => none) 0 (some s0)) 1 (some s1)) 2 (some s2)) 3 (some s3)) 4 (some s4)) 5 (some s5)) 6 (some s6)) 7 (some s7)) 8 (some s8))))))), (s0, .inr (12, [.int 8, .int 6, .ref mf, .int 1, .int 0, .int 900, .int 0, .int 0]))]) hD hS hA [0, 1, 2, 3, 4] rfl
  refine va_calli (va_runV (As := [.int 0]) (rest := [.int 0, .ref ou]) ⟨hx, hb, hml, hown, hts⟩ (k_x_spread0 l dC dI z zK zV sh rg mf mm mz ma sa s0 s1 s2 s3 s4 s5 s6 s7 s8 dk hd lg pl pr cS x tl tw s.heap.size) (cwV 1 hts gL_spread_X11_spread rfl rfl rfl (by decide +kernel) ⟨Nat.le_of_ble_eq_true rfl, Nat.le_of_ble_eq_true rfl⟩) ⟨kP_blind, va_recv hKc hPc (ci := 15) (q0 := 0) rfl rfl, kP_go hPc hKc hDc hFc hM hS⟩ rfl rfl hl.1 rfl (lv_room (Nat.le_of_ble_eq_true rfl)) dL_spread_4 ⟨Nat.le_of_ble_eq_true rfl, Nat.le_of_ble_eq_true rfl⟩) hS (fun q _ h => hFc q h) hFc (fun r1 u t H1 locs ht hvm hw hB hz1 hk1 hS => ?_)
  obtain ⟨hP, hD, hK⟩ := kJ (wr := [(ou, .inl (co, 1, .inr (.inl of_)))]) (w1 := []) (t1 := []) hP hD hK [0, 1, 2, 3, 4] [5] rfl rfl (by decide) (by decide) hk1 hFc ht hvm hB
  generalize H1 = H at hP hS ⊢
  have hP : va_P (dC, dI) vwCl [(ou, .inl (co, 1, .inr (.inl of_)))] H := hP
  have hD : va_D A [(ou, .inl (co, 1, .inr (.inl of_)))] := hD
  have hK : va_K (dC, dI) vwCl [(cS, .object RX8), (co, .long)] s := hK
  obtain rfl : 0 = r1 := hw
  refine lv_i2l (v := 0) hx hb dL_spread_7 (by decide +kernel) ?_
  refine va_last hx hb hK hP hD hS 0 1 rfl rfl (pk_in 0 1 (by decide) rfl) dL_spread_8 (fun H locs hP hD hS => ?_)
  have hP : va_P (dC, dI) vwCl [(ou, .inl (co, 1, .inr (.inl (vp_updL of_ 0 0))))] H := hP
  have hD : va_D A [(ou, .inl (co, 1, .inr (.inl (vp_updL of_ 0 0))))] := hD
  refine lv_goto (tgt := 15) hx hb dL_spread_9 (by decide) ?_
  refine lv_iconst (v := 0) hx hb dL_spread_15 (by decide) ?_
  exact W.iret (v := 0) hx hb hr (fun t ht hW => ⟨⟨0, (), rfl, rfl, kB_end (w9 := [(ou, .inl (co, 1, .inr (.inl (vp_updL of_ 0 0))))]) (t9 := []) hP hK hD [0] [] rfl (by decide) rfl rfl t ht hW⟩, hS.F ht⟩) hS.2.2 dL_spread_16
abbrev wd_k_l_spread1 (z : Nat → Nat) (sh : Nat) (rg : Nat) (mf : Nat) (mm : Nat) (mz : Nat) (ma : Nat) (sa : Nat) (s0 : Nat) (s1 : Nat) (s2 : Nat) (s3 : Nat) (s4 : Nat) (s5 : Nat) (s6 : Nat) (s7 : Nat) (s8 : Nat) (dk : Nat) (hd : Nat) (lg : Nat) (pl : Nat) (pr : Nat) (cS : ClassId) (x : Nat) (tl : Nat) (tw : Nat) (ou : Nat) (co : ClassId) (of_ : Nat → Int64) : va_W := [(x, .inr (15, [.ref sh, .ref tl, .ref tw, .int 0])), (sh, .inr (13, [.ref rg, .ref dk, .ref hd, .ref lg, .ref pl, .ref pr, .int 0, .int 0, .int 0, .int 0, .int 0, .int 0, .int 0, .int 0, .int 0, .int 0, .int 0])), (rg, .inr (11, [.ref mf, .ref mm, .ref mz, .ref ma, .ref sa, .int 0])), (sa, .inl (cS, 9, .inr (.inr (.inr (.inr (va_up (va_up (va_up (va_up (va_up (va_up (va_up (va_up (va_up (fun _ => none) 0 (some s0)) 1 (some s1)) 2 (some s2)) 3 (some s3)) 4 (some s4)) 5 (some s5)) 6 (some s6)) 7 (some s7)) 8 (some s8))))))), (s1, .inr (12, [.int 7, .int 5, .ref mf, .int 1, .int 0, .int 900, .int 0, .int 0])), (ou, .inl (co, 1, .inr (.inl of_)))]
set_option maxHeartbeats 4000000 in
set_option maxRecDepth 100000 in
theorem k_l_spread1 (l : Launch) (dC : Nat → ClassId) (dI : Nat → Nat → Nat) (z zK zV : Nat → Nat) (sh : Nat) (rg : Nat) (mf : Nat) (mm : Nat) (mz : Nat) (ma : Nat) (sa : Nat) (s0 : Nat) (s1 : Nat) (s2 : Nat) (s3 : Nat) (s4 : Nat) (s5 : Nat) (s6 : Nat) (s7 : Nat) (s8 : Nat) (dk : Nat) (hd : Nat) (lg : Nat) (pl : Nat) (pr : Nat) (cS : ClassId) (x : Nat) (tl : Nat) (tw : Nat) (ou : Nat) (co : ClassId) (of_ : Nat → Int64) (sz : Nat)  : Met l yL_spread wsL_spread ({ frames := 2, cells := 0, slots := 0, locals := 43 }) (kP dC dI z zK zV [.ref x, .int 1, .ref ou] sz (wd_k_l_spread1 z sh rg mf mm mz ma sa s0 s1 s2 s3 s4 s5 s6 s7 s8 dk hd lg pl pr cS x tl tw ou co of_) [(cS, .object RX8), (co, .long)]) (va_Qi (fun (r : Int32) (_ : Unit) => 0 = r) (fun _ t => kB (dC, dI) (va_A (wd_k_l_spread1 z sh rg mf mm mz ma sa s0 s1 s2 s3 s4 s5 s6 s7 s8 dk hd lg pl pr cS x tl tw ou co of_) sz) [(ou, .inl (co, 1, .inr (.inl (vp_updL of_ 0 0))))] [] t) (va_A (wd_k_l_spread1 z sh rg mf mm mz ma sa s0 s1 s2 s3 s4 s5 s6 s7 s8 dk hd lg pl pr cS x tl tw ou co of_) sz)) 0 0 (va_A (wd_k_l_spread1 z sh rg mf mm mz ma sa s0 s1 s2 s3 s4 s5 s6 s7 s8 dk hd lg pl pr cS x tl tw ou co of_) sz) := by
  refine va_MetW (hh := [(0, 9, 12, 32)]) (cc := cL_spread) (maxL := 4) (ret := (some .int)) (by decide) rfl ?_
  intro p e s m args below meth c s₁ B hml hv
  obtain ⟨rfl, hsz, hP, hK, hD0, hM⟩ := hv
  have hx := B.exec
  have hb := B.bytes
  have hr := B.returns
  have hts := atoms_spec (ws := wsL_spread) B.pre
  have hown : s.vm.findClass RL = some m.cls := findClass_of_methodNamed B.named
  have hlocks := B.notSynchronized
  have htab := vx_table (x := yL_spread) B (hts _ List.mem_cons_self)
  subst hsz
  have hD := hD0.self (sz := s.heap.size)
  generalize hAe : va_A (wd_k_l_spread1 z sh rg mf mm mz ma sa s0 s1 s2 s3 s4 s5 s6 s7 s8 dk hd lg pl pr cS x tl tw ou co of_) s.heap.size = A at hD hM ⊢
  have hA : ∀ q : Nat, s.heap.size ≤ q → A q := fun q h => by rw [← hAe]; exact Or.inr h
  have hS : va_S A s.heap s.heap [] := va_S.rf
  have hP : va_P (dC, dI) vwCl [(x, .inr (15, [.ref sh, .ref tl, .ref tw, .int 0])), (sh, .inr (13, [.ref rg, .ref dk, .ref hd, .ref lg, .ref pl, .ref pr, .int 0, .int 0, .int 0, .int 0, .int 0, .int 0, .int 0, .int 0, .int 0, .int 0, .int 0])), (rg, .inr (11, [.ref mf, .ref mm, .ref mz, .ref ma, .ref sa, .int 0])), (sa, .inl (cS, 9, .inr (.inr (.inr (.inr (va_up (va_up (va_up (va_up (va_up (va_up (va_up (va_up (va_up (fun _ => none) 0 (some s0)) 1 (some s1)) 2 (some s2)) 3 (some s3)) 4 (some s4)) 5 (some s5)) 6 (some s6)) 7 (some s7)) 8 (some s8))))))), (s1, .inr (12, [.int 7, .int 5, .ref mf, .int 1, .int 0, .int 900, .int 0, .int 0])), (ou, .inl (co, 1, .inr (.inl of_)))] s.heap := hP
  have hD : va_D A [(x, .inr (15, [.ref sh, .ref tl, .ref tw, .int 0])), (sh, .inr (13, [.ref rg, .ref dk, .ref hd, .ref lg, .ref pl, .ref pr, .int 0, .int 0, .int 0, .int 0, .int 0, .int 0, .int 0, .int 0, .int 0, .int 0, .int 0])), (rg, .inr (11, [.ref mf, .ref mm, .ref mz, .ref ma, .ref sa, .int 0])), (sa, .inl (cS, 9, .inr (.inr (.inr (.inr (va_up (va_up (va_up (va_up (va_up (va_up (va_up (va_up (va_up (fun _ => none) 0 (some s0)) 1 (some s1)) 2 (some s2)) 3 (some s3)) 4 (some s4)) 5 (some s5)) 6 (some s6)) 7 (some s7)) 8 (some s8))))))), (s1, .inr (12, [.int 7, .int 5, .ref mf, .int 1, .int 0, .int 900, .int 0, .int 0])), (ou, .inl (co, 1, .inr (.inl of_)))] := hD
  have hl := lv_entry ([.ref x, .int 1, .ref ou]) (n := 4) (Nat.le_of_ble_eq_true rfl)
  rw [lg_entry_eq]
  generalize (lg_sl ([.ref x, .int 1, .ref ou]) ++ List.replicate (4 - (lg_sl ([.ref x, .int 1, .ref ou])).length) Slot.unset).toArray = ls at hl ⊢
  have hl : lv_has ls 4 [(0, .ref x), (1, .int 1), (2, .ref ou)] := hl
  refine lv_aload_n hx hb dL_spread_0 rfl (lv_at hl 2 rfl) ?_
  refine lv_iconst (v := 0) hx hb dL_spread_1 (by decide) ?_
  refine lv_aload_n hx hb dL_spread_2 rfl (lv_at hl 0 rfl) ?_
  refine lv_iload_n hx hb dL_spread_3 rfl (lv_at hl 1 rfl) ?_
  have hPc := hP.sub (ws' := [(x, .inr (15, [.ref sh, .ref tl, .ref tw, .int 0])), (sh, .inr (13, [.ref rg, .ref dk, .ref hd, .ref lg, .ref pl, .ref pr, .int 0, .int 0, .int 0, .int 0, .int 0, .int 0, .int 0, .int 0, .int 0, .int 0, .int 0])), (rg, .inr (11, [.ref mf, .ref mm, .ref mz, .ref ma, .ref sa, .int 0])), (sa, .inl (cS, 9, .inr (.inr (.inr (.inr (va_up (va_up (va_up (va_up (va_up (va_up (va_up (va_up (va_up (fun _ => none) 0 (some s0)) 1 (some s1)) 2 (some s2)) 3 (some s3)) 4 (some s4)) 5 (some s5)) 6 (some s6)) 7 (some s7)) 8 (some s8))))))), (s1, .inr (12, [.int 7, .int 5, .ref mf, .int 1, .int 0, .int 900, .int 0, .int 0]))]) [0, 1, 2, 3, 4] rfl
  have hDc := hD.sub (ws' := [(x, .inr (15, [.ref sh, .ref tl, .ref tw, .int 0])), (sh, .inr (13, [.ref rg, .ref dk, .ref hd, .ref lg, .ref pl, .ref pr, .int 0, .int 0, .int 0, .int 0, .int 0, .int 0, .int 0, .int 0, .int 0, .int 0, .int 0])), (rg, .inr (11, [.ref mf, .ref mm, .ref mz, .ref ma, .ref sa, .int 0])), (sa, .inl (cS, 9, .inr (.inr (.inr (.inr (va_up (va_up (va_up (va_up (va_up (va_up (va_up (va_up (va_up (fun _ => none) 0 (some s0)) 1 (some s1)) 2 (some s2)) 3 (some s3)) 4 (some s4)) 5 (some s5)) 6 (some s6)) 7 (some s7)) 8 (some s8))))))), (s1, .inr (12, [.int 7, .int 5, .ref mf, .int 1, .int 0, .int 900, .int 0, .int 0]))]) [0, 1, 2, 3, 4] (by decide) rfl
  have hKc := hK.sub (tys' := [(cS, .object RX8)]) [0] rfl
  have hFc := va_free (wc := [(x, .inr (15, [.ref sh, .ref tl, .ref tw, .int 0])), (sh, .inr (13, [.ref rg, .ref dk, .ref hd, .ref lg, .ref pl, .ref pr, .int 0, .int 0, .int 0, .int 0, .int 0, .int 0, .int 0, .int 0, .int 0, .int 0, .int 0])), (rg, .inr (11, [.ref mf, .ref mm, .ref mz, .ref ma, .ref sa, .int 0])), (sa, .inl (cS, 9, .inr (.inr (.inr (.inr (va_up (va_up (va_up (va_up (va_up (va_up (va_up (va_up (va_up (fun _ => none) 0 (some s0)) 1 (some s1)) 2 (some s2)) 3 (some s3)) 4 (some s4)) 5 (some s5)) 6 (some s6)) 7 (some s7)) 8 (some s8))))))), (s1, .inr (12, [.int 7, .int 5, .ref mf, .int 1, .int 0, .int 900, .int 0, .int 0]))]) hD hS hA [0, 1, 2, 3, 4] rfl
  refine va_calli (va_runV (As := [.int 1]) (rest := [.int 0, .ref ou]) ⟨hx, hb, hml, hown, hts⟩ (k_x_spread1 l dC dI z zK zV sh rg mf mm mz ma sa s0 s1 s2 s3 s4 s5 s6 s7 s8 dk hd lg pl pr cS x tl tw s.heap.size) (cwV 1 hts gL_spread_X11_spread rfl rfl rfl (by decide +kernel) ⟨Nat.le_of_ble_eq_true rfl, Nat.le_of_ble_eq_true rfl⟩) ⟨kP_blind, va_recv hKc hPc (ci := 15) (q0 := 0) rfl rfl, kP_go hPc hKc hDc hFc hM hS⟩ rfl rfl hl.1 rfl (lv_room (Nat.le_of_ble_eq_true rfl)) dL_spread_4 ⟨Nat.le_of_ble_eq_true rfl, Nat.le_of_ble_eq_true rfl⟩) hS (fun q _ h => hFc q h) hFc (fun r1 u t H1 locs ht hvm hw hB hz1 hk1 hS => ?_)
  obtain ⟨hP, hD, hK⟩ := kJ (wr := [(ou, .inl (co, 1, .inr (.inl of_)))]) (w1 := []) (t1 := []) hP hD hK [0, 1, 2, 3, 4] [5] rfl rfl (by decide) (by decide) hk1 hFc ht hvm hB
  generalize H1 = H at hP hS ⊢
  have hP : va_P (dC, dI) vwCl [(ou, .inl (co, 1, .inr (.inl of_)))] H := hP
  have hD : va_D A [(ou, .inl (co, 1, .inr (.inl of_)))] := hD
  have hK : va_K (dC, dI) vwCl [(cS, .object RX8), (co, .long)] s := hK
  obtain rfl : 0 = r1 := hw
  refine lv_i2l (v := 0) hx hb dL_spread_7 (by decide +kernel) ?_
  refine va_last hx hb hK hP hD hS 0 1 rfl rfl (pk_in 0 1 (by decide) rfl) dL_spread_8 (fun H locs hP hD hS => ?_)
  have hP : va_P (dC, dI) vwCl [(ou, .inl (co, 1, .inr (.inl (vp_updL of_ 0 0))))] H := hP
  have hD : va_D A [(ou, .inl (co, 1, .inr (.inl (vp_updL of_ 0 0))))] := hD
  refine lv_goto (tgt := 15) hx hb dL_spread_9 (by decide) ?_
  refine lv_iconst (v := 0) hx hb dL_spread_15 (by decide) ?_
  exact W.iret (v := 0) hx hb hr (fun t ht hW => ⟨⟨0, (), rfl, rfl, kB_end (w9 := [(ou, .inl (co, 1, .inr (.inl (vp_updL of_ 0 0))))]) (t9 := []) hP hK hD [0] [] rfl (by decide) rfl rfl t ht hW⟩, hS.F ht⟩) hS.2.2 dL_spread_16
abbrev wd_k_l_spread2 (z : Nat → Nat) (sh : Nat) (rg : Nat) (mf : Nat) (mm : Nat) (mz : Nat) (ma : Nat) (sa : Nat) (s0 : Nat) (s1 : Nat) (s2 : Nat) (s3 : Nat) (s4 : Nat) (s5 : Nat) (s6 : Nat) (s7 : Nat) (s8 : Nat) (dk : Nat) (hd : Nat) (lg : Nat) (pl : Nat) (pr : Nat) (cS : ClassId) (x : Nat) (tl : Nat) (tw : Nat) (ou : Nat) (co : ClassId) (of_ : Nat → Int64) : va_W := [(x, .inr (15, [.ref sh, .ref tl, .ref tw, .int 0])), (sh, .inr (13, [.ref rg, .ref dk, .ref hd, .ref lg, .ref pl, .ref pr, .int 0, .int 0, .int 0, .int 0, .int 0, .int 0, .int 0, .int 0, .int 0, .int 0, .int 0])), (rg, .inr (11, [.ref mf, .ref mm, .ref mz, .ref ma, .ref sa, .int 0])), (sa, .inl (cS, 9, .inr (.inr (.inr (.inr (va_up (va_up (va_up (va_up (va_up (va_up (va_up (va_up (va_up (fun _ => none) 0 (some s0)) 1 (some s1)) 2 (some s2)) 3 (some s3)) 4 (some s4)) 5 (some s5)) 6 (some s6)) 7 (some s7)) 8 (some s8))))))), (s2, .inr (12, [.int 3, .int 3, .ref mf, .int 1, .int 0, .int 900, .int 0, .int 0])), (ou, .inl (co, 1, .inr (.inl of_)))]
set_option maxHeartbeats 4000000 in
set_option maxRecDepth 100000 in
theorem k_l_spread2 (l : Launch) (dC : Nat → ClassId) (dI : Nat → Nat → Nat) (z zK zV : Nat → Nat) (sh : Nat) (rg : Nat) (mf : Nat) (mm : Nat) (mz : Nat) (ma : Nat) (sa : Nat) (s0 : Nat) (s1 : Nat) (s2 : Nat) (s3 : Nat) (s4 : Nat) (s5 : Nat) (s6 : Nat) (s7 : Nat) (s8 : Nat) (dk : Nat) (hd : Nat) (lg : Nat) (pl : Nat) (pr : Nat) (cS : ClassId) (x : Nat) (tl : Nat) (tw : Nat) (ou : Nat) (co : ClassId) (of_ : Nat → Int64) (sz : Nat)  : Met l yL_spread wsL_spread ({ frames := 2, cells := 0, slots := 0, locals := 43 }) (kP dC dI z zK zV [.ref x, .int 2, .ref ou] sz (wd_k_l_spread2 z sh rg mf mm mz ma sa s0 s1 s2 s3 s4 s5 s6 s7 s8 dk hd lg pl pr cS x tl tw ou co of_) [(cS, .object RX8), (co, .long)]) (va_Qi (fun (r : Int32) (_ : Unit) => 0 = r) (fun _ t => kB (dC, dI) (va_A (wd_k_l_spread2 z sh rg mf mm mz ma sa s0 s1 s2 s3 s4 s5 s6 s7 s8 dk hd lg pl pr cS x tl tw ou co of_) sz) [(ou, .inl (co, 1, .inr (.inl (vp_updL of_ 0 0))))] [] t) (va_A (wd_k_l_spread2 z sh rg mf mm mz ma sa s0 s1 s2 s3 s4 s5 s6 s7 s8 dk hd lg pl pr cS x tl tw ou co of_) sz)) 0 0 (va_A (wd_k_l_spread2 z sh rg mf mm mz ma sa s0 s1 s2 s3 s4 s5 s6 s7 s8 dk hd lg pl pr cS x tl tw ou co of_) sz) := by
  refine va_MetW (hh := [(0, 9, 12, 32)]) (cc := cL_spread) (maxL := 4) (ret := (some .int)) (by decide) rfl ?_
  intro p e s m args below meth c s₁ B hml hv
  obtain ⟨rfl, hsz, hP, hK, hD0, hM⟩ := hv
  have hx := B.exec
  have hb := B.bytes
  have hr := B.returns
  have hts := atoms_spec (ws := wsL_spread) B.pre
  have hown : s.vm.findClass RL = some m.cls := findClass_of_methodNamed B.named
  have hlocks := B.notSynchronized
  have htab := vx_table (x := yL_spread) B (hts _ List.mem_cons_self)
  subst hsz
  have hD := hD0.self (sz := s.heap.size)
  generalize hAe : va_A (wd_k_l_spread2 z sh rg mf mm mz ma sa s0 s1 s2 s3 s4 s5 s6 s7 s8 dk hd lg pl pr cS x tl tw ou co of_) s.heap.size = A at hD hM ⊢
  have hA : ∀ q : Nat, s.heap.size ≤ q → A q := fun q h => by rw [← hAe]; exact Or.inr h
  have hS : va_S A s.heap s.heap [] := va_S.rf
  have hP : va_P (dC, dI) vwCl [(x, .inr (15, [.ref sh, .ref tl, .ref tw, .int 0])), (sh, .inr (13, [.ref rg, .ref dk, .ref hd, .ref lg, .ref pl, .ref pr, .int 0, .int 0, .int 0, .int 0, .int 0, .int 0, .int 0, .int 0, .int 0, .int 0, .int 0])), (rg, .inr (11, [.ref mf, .ref mm, .ref mz, .ref ma, .ref sa, .int 0])), (sa, .inl (cS, 9, .inr (.inr (.inr (.inr (va_up (va_up (va_up (va_up (va_up (va_up (va_up (va_up (va_up (fun _ => none) 0 (some s0)) 1 (some s1)) 2 (some s2)) 3 (some s3)) 4 (some s4)) 5 (some s5)) 6 (some s6)) 7 (some s7)) 8 (some s8))))))), (s2, .inr (12, [.int 3, .int 3, .ref mf, .int 1, .int 0, .int 900, .int 0, .int 0])), (ou, .inl (co, 1, .inr (.inl of_)))] s.heap := hP
  have hD : va_D A [(x, .inr (15, [.ref sh, .ref tl, .ref tw, .int 0])), (sh, .inr (13, [.ref rg, .ref dk, .ref hd, .ref lg, .ref pl, .ref pr, .int 0, .int 0, .int 0, .int 0, .int 0, .int 0, .int 0, .int 0, .int 0, .int 0, .int 0])), (rg, .inr (11, [.ref mf, .ref mm, .ref mz, .ref ma, .ref sa, .int 0])), (sa, .inl (cS, 9, .inr (.inr (.inr (.inr (va_up (va_up (va_up (va_up (va_up (va_up (va_up (va_up (va_up (fun _ => none) 0 (some s0)) 1 (some s1)) 2 (some s2)) 3 (some s3)) 4 (some s4)) 5 (some s5)) 6 (some s6)) 7 (some s7)) 8 (some s8))))))), (s2, .inr (12, [.int 3, .int 3, .ref mf, .int 1, .int 0, .int 900, .int 0, .int 0])), (ou, .inl (co, 1, .inr (.inl of_)))] := hD
  have hl := lv_entry ([.ref x, .int 2, .ref ou]) (n := 4) (Nat.le_of_ble_eq_true rfl)
  rw [lg_entry_eq]
  generalize (lg_sl ([.ref x, .int 2, .ref ou]) ++ List.replicate (4 - (lg_sl ([.ref x, .int 2, .ref ou])).length) Slot.unset).toArray = ls at hl ⊢
  have hl : lv_has ls 4 [(0, .ref x), (1, .int 2), (2, .ref ou)] := hl
  refine lv_aload_n hx hb dL_spread_0 rfl (lv_at hl 2 rfl) ?_
  refine lv_iconst (v := 0) hx hb dL_spread_1 (by decide) ?_
  refine lv_aload_n hx hb dL_spread_2 rfl (lv_at hl 0 rfl) ?_
  refine lv_iload_n hx hb dL_spread_3 rfl (lv_at hl 1 rfl) ?_
  have hPc := hP.sub (ws' := [(x, .inr (15, [.ref sh, .ref tl, .ref tw, .int 0])), (sh, .inr (13, [.ref rg, .ref dk, .ref hd, .ref lg, .ref pl, .ref pr, .int 0, .int 0, .int 0, .int 0, .int 0, .int 0, .int 0, .int 0, .int 0, .int 0, .int 0])), (rg, .inr (11, [.ref mf, .ref mm, .ref mz, .ref ma, .ref sa, .int 0])), (sa, .inl (cS, 9, .inr (.inr (.inr (.inr (va_up (va_up (va_up (va_up (va_up (va_up (va_up (va_up (va_up (fun _ => none) 0 (some s0)) 1 (some s1)) 2 (some s2)) 3 (some s3)) 4 (some s4)) 5 (some s5)) 6 (some s6)) 7 (some s7)) 8 (some s8))))))), (s2, .inr (12, [.int 3, .int 3, .ref mf, .int 1, .int 0, .int 900, .int 0, .int 0]))]) [0, 1, 2, 3, 4] rfl
  have hDc := hD.sub (ws' := [(x, .inr (15, [.ref sh, .ref tl, .ref tw, .int 0])), (sh, .inr (13, [.ref rg, .ref dk, .ref hd, .ref lg, .ref pl, .ref pr, .int 0, .int 0, .int 0, .int 0, .int 0, .int 0, .int 0, .int 0, .int 0, .int 0, .int 0])), (rg, .inr (11, [.ref mf, .ref mm, .ref mz, .ref ma, .ref sa, .int 0])), (sa, .inl (cS, 9, .inr (.inr (.inr (.inr (va_up (va_up (va_up (va_up (va_up (va_up (va_up (va_up (va_up (fun _ => none) 0 (some s0)) 1 (some s1)) 2 (some s2)) 3 (some s3)) 4 (some s4)) 5 (some s5)) 6 (some s6)) 7 (some s7)) 8 (some s8))))))), (s2, .inr (12, [.int 3, .int 3, .ref mf, .int 1, .int 0, .int 900, .int 0, .int 0]))]) [0, 1, 2, 3, 4] (by decide) rfl
  have hKc := hK.sub (tys' := [(cS, .object RX8)]) [0] rfl
  have hFc := va_free (wc := [(x, .inr (15, [.ref sh, .ref tl, .ref tw, .int 0])), (sh, .inr (13, [.ref rg, .ref dk, .ref hd, .ref lg, .ref pl, .ref pr, .int 0, .int 0, .int 0, .int 0, .int 0, .int 0, .int 0, .int 0, .int 0, .int 0, .int 0])), (rg, .inr (11, [.ref mf, .ref mm, .ref mz, .ref ma, .ref sa, .int 0])), (sa, .inl (cS, 9, .inr (.inr (.inr (.inr (va_up (va_up (va_up (va_up (va_up (va_up (va_up (va_up (va_up (fun _ => none) 0 (some s0)) 1 (some s1)) 2 (some s2)) 3 (some s3)) 4 (some s4)) 5 (some s5)) 6 (some s6)) 7 (some s7)) 8 (some s8))))))), (s2, .inr (12, [.int 3, .int 3, .ref mf, .int 1, .int 0, .int 900, .int 0, .int 0]))]) hD hS hA [0, 1, 2, 3, 4] rfl
  refine va_calli (va_runV (As := [.int 2]) (rest := [.int 0, .ref ou]) ⟨hx, hb, hml, hown, hts⟩ (k_x_spread2 l dC dI z zK zV sh rg mf mm mz ma sa s0 s1 s2 s3 s4 s5 s6 s7 s8 dk hd lg pl pr cS x tl tw s.heap.size) (cwV 1 hts gL_spread_X11_spread rfl rfl rfl (by decide +kernel) ⟨Nat.le_of_ble_eq_true rfl, Nat.le_of_ble_eq_true rfl⟩) ⟨kP_blind, va_recv hKc hPc (ci := 15) (q0 := 0) rfl rfl, kP_go hPc hKc hDc hFc hM hS⟩ rfl rfl hl.1 rfl (lv_room (Nat.le_of_ble_eq_true rfl)) dL_spread_4 ⟨Nat.le_of_ble_eq_true rfl, Nat.le_of_ble_eq_true rfl⟩) hS (fun q _ h => hFc q h) hFc (fun r1 u t H1 locs ht hvm hw hB hz1 hk1 hS => ?_)
  obtain ⟨hP, hD, hK⟩ := kJ (wr := [(ou, .inl (co, 1, .inr (.inl of_)))]) (w1 := []) (t1 := []) hP hD hK [0, 1, 2, 3, 4] [5] rfl rfl (by decide) (by decide) hk1 hFc ht hvm hB
  generalize H1 = H at hP hS ⊢
  have hP : va_P (dC, dI) vwCl [(ou, .inl (co, 1, .inr (.inl of_)))] H := hP
  have hD : va_D A [(ou, .inl (co, 1, .inr (.inl of_)))] := hD
  have hK : va_K (dC, dI) vwCl [(cS, .object RX8), (co, .long)] s := hK
  obtain rfl : 0 = r1 := hw
  refine lv_i2l (v := 0) hx hb dL_spread_7 (by decide +kernel) ?_
  refine va_last hx hb hK hP hD hS 0 1 rfl rfl (pk_in 0 1 (by decide) rfl) dL_spread_8 (fun H locs hP hD hS => ?_)
  have hP : va_P (dC, dI) vwCl [(ou, .inl (co, 1, .inr (.inl (vp_updL of_ 0 0))))] H := hP
  have hD : va_D A [(ou, .inl (co, 1, .inr (.inl (vp_updL of_ 0 0))))] := hD
  refine lv_goto (tgt := 15) hx hb dL_spread_9 (by decide) ?_
  refine lv_iconst (v := 0) hx hb dL_spread_15 (by decide) ?_
  exact W.iret (v := 0) hx hb hr (fun t ht hW => ⟨⟨0, (), rfl, rfl, kB_end (w9 := [(ou, .inl (co, 1, .inr (.inl (vp_updL of_ 0 0))))]) (t9 := []) hP hK hD [0] [] rfl (by decide) rfl rfl t ht hW⟩, hS.F ht⟩) hS.2.2 dL_spread_16
abbrev wd_k_l_spread3 (z : Nat → Nat) (sh : Nat) (rg : Nat) (mf : Nat) (mm : Nat) (mz : Nat) (ma : Nat) (sa : Nat) (s0 : Nat) (s1 : Nat) (s2 : Nat) (s3 : Nat) (s4 : Nat) (s5 : Nat) (s6 : Nat) (s7 : Nat) (s8 : Nat) (dk : Nat) (hd : Nat) (lg : Nat) (pl : Nat) (pr : Nat) (cS : ClassId) (x : Nat) (tl : Nat) (tw : Nat) (ou : Nat) (co : ClassId) (of_ : Nat → Int64) : va_W := [(x, .inr (15, [.ref sh, .ref tl, .ref tw, .int 0])), (sh, .inr (13, [.ref rg, .ref dk, .ref hd, .ref lg, .ref pl, .ref pr, .int 0, .int 0, .int 0, .int 0, .int 0, .int 0, .int 0, .int 0, .int 0, .int 0, .int 0])), (rg, .inr (11, [.ref mf, .ref mm, .ref mz, .ref ma, .ref sa, .int 0])), (sa, .inl (cS, 9, .inr (.inr (.inr (.inr (va_up (va_up (va_up (va_up (va_up (va_up (va_up (va_up (va_up (fun _ => none) 0 (some s0)) 1 (some s1)) 2 (some s2)) 3 (some s3)) 4 (some s4)) 5 (some s5)) 6 (some s6)) 7 (some s7)) 8 (some s8))))))), (s3, .inr (12, [.int 10, .int 8, .ref mm, .int 1, .int 0, .int 900, .int 0, .int 0])), (ou, .inl (co, 1, .inr (.inl of_)))]
set_option maxHeartbeats 4000000 in
set_option maxRecDepth 100000 in
theorem k_l_spread3 (l : Launch) (dC : Nat → ClassId) (dI : Nat → Nat → Nat) (z zK zV : Nat → Nat) (sh : Nat) (rg : Nat) (mf : Nat) (mm : Nat) (mz : Nat) (ma : Nat) (sa : Nat) (s0 : Nat) (s1 : Nat) (s2 : Nat) (s3 : Nat) (s4 : Nat) (s5 : Nat) (s6 : Nat) (s7 : Nat) (s8 : Nat) (dk : Nat) (hd : Nat) (lg : Nat) (pl : Nat) (pr : Nat) (cS : ClassId) (x : Nat) (tl : Nat) (tw : Nat) (ou : Nat) (co : ClassId) (of_ : Nat → Int64) (sz : Nat)  : Met l yL_spread wsL_spread ({ frames := 2, cells := 0, slots := 0, locals := 43 }) (kP dC dI z zK zV [.ref x, .int 3, .ref ou] sz (wd_k_l_spread3 z sh rg mf mm mz ma sa s0 s1 s2 s3 s4 s5 s6 s7 s8 dk hd lg pl pr cS x tl tw ou co of_) [(cS, .object RX8), (co, .long)]) (va_Qi (fun (r : Int32) (_ : Unit) => 0 = r) (fun _ t => kB (dC, dI) (va_A (wd_k_l_spread3 z sh rg mf mm mz ma sa s0 s1 s2 s3 s4 s5 s6 s7 s8 dk hd lg pl pr cS x tl tw ou co of_) sz) [(ou, .inl (co, 1, .inr (.inl (vp_updL of_ 0 0))))] [] t) (va_A (wd_k_l_spread3 z sh rg mf mm mz ma sa s0 s1 s2 s3 s4 s5 s6 s7 s8 dk hd lg pl pr cS x tl tw ou co of_) sz)) 0 0 (va_A (wd_k_l_spread3 z sh rg mf mm mz ma sa s0 s1 s2 s3 s4 s5 s6 s7 s8 dk hd lg pl pr cS x tl tw ou co of_) sz) := by
  refine va_MetW (hh := [(0, 9, 12, 32)]) (cc := cL_spread) (maxL := 4) (ret := (some .int)) (by decide) rfl ?_
  intro p e s m args below meth c s₁ B hml hv
  obtain ⟨rfl, hsz, hP, hK, hD0, hM⟩ := hv
  have hx := B.exec
  have hb := B.bytes
  have hr := B.returns
  have hts := atoms_spec (ws := wsL_spread) B.pre
  have hown : s.vm.findClass RL = some m.cls := findClass_of_methodNamed B.named
  have hlocks := B.notSynchronized
  have htab := vx_table (x := yL_spread) B (hts _ List.mem_cons_self)
  subst hsz
  have hD := hD0.self (sz := s.heap.size)
  generalize hAe : va_A (wd_k_l_spread3 z sh rg mf mm mz ma sa s0 s1 s2 s3 s4 s5 s6 s7 s8 dk hd lg pl pr cS x tl tw ou co of_) s.heap.size = A at hD hM ⊢
  have hA : ∀ q : Nat, s.heap.size ≤ q → A q := fun q h => by rw [← hAe]; exact Or.inr h
  have hS : va_S A s.heap s.heap [] := va_S.rf
  have hP : va_P (dC, dI) vwCl [(x, .inr (15, [.ref sh, .ref tl, .ref tw, .int 0])), (sh, .inr (13, [.ref rg, .ref dk, .ref hd, .ref lg, .ref pl, .ref pr, .int 0, .int 0, .int 0, .int 0, .int 0, .int 0, .int 0, .int 0, .int 0, .int 0, .int 0])), (rg, .inr (11, [.ref mf, .ref mm, .ref mz, .ref ma, .ref sa, .int 0])), (sa, .inl (cS, 9, .inr (.inr (.inr (.inr (va_up (va_up (va_up (va_up (va_up (va_up (va_up (va_up (va_up (fun _ => none) 0 (some s0)) 1 (some s1)) 2 (some s2)) 3 (some s3)) 4 (some s4)) 5 (some s5)) 6 (some s6)) 7 (some s7)) 8 (some s8))))))), (s3, .inr (12, [.int 10, .int 8, .ref mm, .int 1, .int 0, .int 900, .int 0, .int 0])), (ou, .inl (co, 1, .inr (.inl of_)))] s.heap := hP
  have hD : va_D A [(x, .inr (15, [.ref sh, .ref tl, .ref tw, .int 0])), (sh, .inr (13, [.ref rg, .ref dk, .ref hd, .ref lg, .ref pl, .ref pr, .int 0, .int 0, .int 0, .int 0, .int 0, .int 0, .int 0, .int 0, .int 0, .int 0, .int 0])), (rg, .inr (11, [.ref mf, .ref mm, .ref mz, .ref ma, .ref sa, .int 0])), (sa, .inl (cS, 9, .inr (.inr (.inr (.inr (va_up (va_up (va_up (va_up (va_up (va_up (va_up (va_up (va_up (fun _ => none) 0 (some s0)) 1 (some s1)) 2 (some s2)) 3 (some s3)) 4 (some s4)) 5 (some s5)) 6 (some s6)) 7 (some s7)) 8 (some s8))))))), (s3, .inr (12, [.int 10, .int 8, .ref mm, .int 1, .int 0, .int 900, .int 0, .int 0])), (ou, .inl (co, 1, .inr (.inl of_)))] := hD
  have hl := lv_entry ([.ref x, .int 3, .ref ou]) (n := 4) (Nat.le_of_ble_eq_true rfl)
  rw [lg_entry_eq]
  generalize (lg_sl ([.ref x, .int 3, .ref ou]) ++ List.replicate (4 - (lg_sl ([.ref x, .int 3, .ref ou])).length) Slot.unset).toArray = ls at hl ⊢
  have hl : lv_has ls 4 [(0, .ref x), (1, .int 3), (2, .ref ou)] := hl
  refine lv_aload_n hx hb dL_spread_0 rfl (lv_at hl 2 rfl) ?_
  refine lv_iconst (v := 0) hx hb dL_spread_1 (by decide) ?_
  refine lv_aload_n hx hb dL_spread_2 rfl (lv_at hl 0 rfl) ?_
  refine lv_iload_n hx hb dL_spread_3 rfl (lv_at hl 1 rfl) ?_
  have hPc := hP.sub (ws' := [(x, .inr (15, [.ref sh, .ref tl, .ref tw, .int 0])), (sh, .inr (13, [.ref rg, .ref dk, .ref hd, .ref lg, .ref pl, .ref pr, .int 0, .int 0, .int 0, .int 0, .int 0, .int 0, .int 0, .int 0, .int 0, .int 0, .int 0])), (rg, .inr (11, [.ref mf, .ref mm, .ref mz, .ref ma, .ref sa, .int 0])), (sa, .inl (cS, 9, .inr (.inr (.inr (.inr (va_up (va_up (va_up (va_up (va_up (va_up (va_up (va_up (va_up (fun _ => none) 0 (some s0)) 1 (some s1)) 2 (some s2)) 3 (some s3)) 4 (some s4)) 5 (some s5)) 6 (some s6)) 7 (some s7)) 8 (some s8))))))), (s3, .inr (12, [.int 10, .int 8, .ref mm, .int 1, .int 0, .int 900, .int 0, .int 0]))]) [0, 1, 2, 3, 4] rfl
  have hDc := hD.sub (ws' := [(x, .inr (15, [.ref sh, .ref tl, .ref tw, .int 0])), (sh, .inr (13, [.ref rg, .ref dk, .ref hd, .ref lg, .ref pl, .ref pr, .int 0, .int 0, .int 0, .int 0, .int 0, .int 0, .int 0, .int 0, .int 0, .int 0, .int 0])), (rg, .inr (11, [.ref mf, .ref mm, .ref mz, .ref ma, .ref sa, .int 0])), (sa, .inl (cS, 9, .inr (.inr (.inr (.inr (va_up (va_up (va_up (va_up (va_up (va_up (va_up (va_up (va_up (fun _ => none) 0 (some s0)) 1 (some s1)) 2 (some s2)) 3 (some s3)) 4 (some s4)) 5 (some s5)) 6 (some s6)) 7 (some s7)) 8 (some s8))))))), (s3, .inr (12, [.int 10, .int 8, .ref mm, .int 1, .int 0, .int 900, .int 0, .int 0]))]) [0, 1, 2, 3, 4] (by decide) rfl
  have hKc := hK.sub (tys' := [(cS, .object RX8)]) [0] rfl
  have hFc := va_free (wc := [(x, .inr (15, [.ref sh, .ref tl, .ref tw, .int 0])), (sh, .inr (13, [.ref rg, .ref dk, .ref hd, .ref lg, .ref pl, .ref pr, .int 0, .int 0, .int 0, .int 0, .int 0, .int 0, .int 0, .int 0, .int 0, .int 0, .int 0])), (rg, .inr (11, [.ref mf, .ref mm, .ref mz, .ref ma, .ref sa, .int 0])), (sa, .inl (cS, 9, .inr (.inr (.inr (.inr (va_up (va_up (va_up (va_up (va_up (va_up (va_up (va_up (va_up (fun _ => none) 0 (some s0)) 1 (some s1)) 2 (some s2)) 3 (some s3)) 4 (some s4)) 5 (some s5)) 6 (some s6)) 7 (some s7)) 8 (some s8))))))), (s3, .inr (12, [.int 10, .int 8, .ref mm, .int 1, .int 0, .int 900, .int 0, .int 0]))]) hD hS hA [0, 1, 2, 3, 4] rfl
  refine va_calli (va_runV (As := [.int 3]) (rest := [.int 0, .ref ou]) ⟨hx, hb, hml, hown, hts⟩ (k_x_spread3 l dC dI z zK zV sh rg mf mm mz ma sa s0 s1 s2 s3 s4 s5 s6 s7 s8 dk hd lg pl pr cS x tl tw s.heap.size) (cwV 1 hts gL_spread_X11_spread rfl rfl rfl (by decide +kernel) ⟨Nat.le_of_ble_eq_true rfl, Nat.le_of_ble_eq_true rfl⟩) ⟨kP_blind, va_recv hKc hPc (ci := 15) (q0 := 0) rfl rfl, kP_go hPc hKc hDc hFc hM hS⟩ rfl rfl hl.1 rfl (lv_room (Nat.le_of_ble_eq_true rfl)) dL_spread_4 ⟨Nat.le_of_ble_eq_true rfl, Nat.le_of_ble_eq_true rfl⟩) hS (fun q _ h => hFc q h) hFc (fun r1 u t H1 locs ht hvm hw hB hz1 hk1 hS => ?_)
  obtain ⟨hP, hD, hK⟩ := kJ (wr := [(ou, .inl (co, 1, .inr (.inl of_)))]) (w1 := []) (t1 := []) hP hD hK [0, 1, 2, 3, 4] [5] rfl rfl (by decide) (by decide) hk1 hFc ht hvm hB
  generalize H1 = H at hP hS ⊢
  have hP : va_P (dC, dI) vwCl [(ou, .inl (co, 1, .inr (.inl of_)))] H := hP
  have hD : va_D A [(ou, .inl (co, 1, .inr (.inl of_)))] := hD
  have hK : va_K (dC, dI) vwCl [(cS, .object RX8), (co, .long)] s := hK
  obtain rfl : 0 = r1 := hw
  refine lv_i2l (v := 0) hx hb dL_spread_7 (by decide +kernel) ?_
  refine va_last hx hb hK hP hD hS 0 1 rfl rfl (pk_in 0 1 (by decide) rfl) dL_spread_8 (fun H locs hP hD hS => ?_)
  have hP : va_P (dC, dI) vwCl [(ou, .inl (co, 1, .inr (.inl (vp_updL of_ 0 0))))] H := hP
  have hD : va_D A [(ou, .inl (co, 1, .inr (.inl (vp_updL of_ 0 0))))] := hD
  refine lv_goto (tgt := 15) hx hb dL_spread_9 (by decide) ?_
  refine lv_iconst (v := 0) hx hb dL_spread_15 (by decide) ?_
  exact W.iret (v := 0) hx hb hr (fun t ht hW => ⟨⟨0, (), rfl, rfl, kB_end (w9 := [(ou, .inl (co, 1, .inr (.inl (vp_updL of_ 0 0))))]) (t9 := []) hP hK hD [0] [] rfl (by decide) rfl rfl t ht hW⟩, hS.F ht⟩) hS.2.2 dL_spread_16
abbrev wd_k_l_spread4 (z : Nat → Nat) (sh : Nat) (rg : Nat) (mf : Nat) (mm : Nat) (mz : Nat) (ma : Nat) (sa : Nat) (s0 : Nat) (s1 : Nat) (s2 : Nat) (s3 : Nat) (s4 : Nat) (s5 : Nat) (s6 : Nat) (s7 : Nat) (s8 : Nat) (dk : Nat) (hd : Nat) (lg : Nat) (pl : Nat) (pr : Nat) (cS : ClassId) (x : Nat) (tl : Nat) (tw : Nat) (ou : Nat) (co : ClassId) (of_ : Nat → Int64) : va_W := [(x, .inr (15, [.ref sh, .ref tl, .ref tw, .int 0])), (sh, .inr (13, [.ref rg, .ref dk, .ref hd, .ref lg, .ref pl, .ref pr, .int 0, .int 0, .int 0, .int 0, .int 0, .int 0, .int 0, .int 0, .int 0, .int 0, .int 0])), (rg, .inr (11, [.ref mf, .ref mm, .ref mz, .ref ma, .ref sa, .int 0])), (sa, .inl (cS, 9, .inr (.inr (.inr (.inr (va_up (va_up (va_up (va_up (va_up (va_up (va_up (va_up (va_up (fun _ => none) 0 (some s0)) 1 (some s1)) 2 (some s2)) 3 (some s3)) 4 (some s4)) 5 (some s5)) 6 (some s6)) 7 (some s7)) 8 (some s8))))))), (s4, .inr (12, [.int 9, .int 6, .ref mm, .int 1, .int 0, .int 900, .int 0, .int 0])), (ou, .inl (co, 1, .inr (.inl of_)))]
set_option maxHeartbeats 4000000 in
set_option maxRecDepth 100000 in
theorem k_l_spread4 (l : Launch) (dC : Nat → ClassId) (dI : Nat → Nat → Nat) (z zK zV : Nat → Nat) (sh : Nat) (rg : Nat) (mf : Nat) (mm : Nat) (mz : Nat) (ma : Nat) (sa : Nat) (s0 : Nat) (s1 : Nat) (s2 : Nat) (s3 : Nat) (s4 : Nat) (s5 : Nat) (s6 : Nat) (s7 : Nat) (s8 : Nat) (dk : Nat) (hd : Nat) (lg : Nat) (pl : Nat) (pr : Nat) (cS : ClassId) (x : Nat) (tl : Nat) (tw : Nat) (ou : Nat) (co : ClassId) (of_ : Nat → Int64) (sz : Nat)  : Met l yL_spread wsL_spread ({ frames := 2, cells := 0, slots := 0, locals := 43 }) (kP dC dI z zK zV [.ref x, .int 4, .ref ou] sz (wd_k_l_spread4 z sh rg mf mm mz ma sa s0 s1 s2 s3 s4 s5 s6 s7 s8 dk hd lg pl pr cS x tl tw ou co of_) [(cS, .object RX8), (co, .long)]) (va_Qi (fun (r : Int32) (_ : Unit) => 0 = r) (fun _ t => kB (dC, dI) (va_A (wd_k_l_spread4 z sh rg mf mm mz ma sa s0 s1 s2 s3 s4 s5 s6 s7 s8 dk hd lg pl pr cS x tl tw ou co of_) sz) [(ou, .inl (co, 1, .inr (.inl (vp_updL of_ 0 0))))] [] t) (va_A (wd_k_l_spread4 z sh rg mf mm mz ma sa s0 s1 s2 s3 s4 s5 s6 s7 s8 dk hd lg pl pr cS x tl tw ou co of_) sz)) 0 0 (va_A (wd_k_l_spread4 z sh rg mf mm mz ma sa s0 s1 s2 s3 s4 s5 s6 s7 s8 dk hd lg pl pr cS x tl tw ou co of_) sz) := by
  refine va_MetW (hh := [(0, 9, 12, 32)]) (cc := cL_spread) (maxL := 4) (ret := (some .int)) (by decide) rfl ?_
  intro p e s m args below meth c s₁ B hml hv
  obtain ⟨rfl, hsz, hP, hK, hD0, hM⟩ := hv
  have hx := B.exec
  have hb := B.bytes
  have hr := B.returns
  have hts := atoms_spec (ws := wsL_spread) B.pre
  have hown : s.vm.findClass RL = some m.cls := findClass_of_methodNamed B.named
  have hlocks := B.notSynchronized
  have htab := vx_table (x := yL_spread) B (hts _ List.mem_cons_self)
  subst hsz
  have hD := hD0.self (sz := s.heap.size)
  generalize hAe : va_A (wd_k_l_spread4 z sh rg mf mm mz ma sa s0 s1 s2 s3 s4 s5 s6 s7 s8 dk hd lg pl pr cS x tl tw ou co of_) s.heap.size = A at hD hM ⊢
  have hA : ∀ q : Nat, s.heap.size ≤ q → A q := fun q h => by rw [← hAe]; exact Or.inr h
  have hS : va_S A s.heap s.heap [] := va_S.rf
  have hP : va_P (dC, dI) vwCl [(x, .inr (15, [.ref sh, .ref tl, .ref tw, .int 0])), (sh, .inr (13, [.ref rg, .ref dk, .ref hd, .ref lg, .ref pl, .ref pr, .int 0, .int 0, .int 0, .int 0, .int 0, .int 0, .int 0, .int 0, .int 0, .int 0, .int 0])), (rg, .inr (11, [.ref mf, .ref mm, .ref mz, .ref ma, .ref sa, .int 0])), (sa, .inl (cS, 9, .inr (.inr (.inr (.inr (va_up (va_up (va_up (va_up (va_up (va_up (va_up (va_up (va_up (fun _ => none) 0 (some s0)) 1 (some s1)) 2 (some s2)) 3 (some s3)) 4 (some s4)) 5 (some s5)) 6 (some s6)) 7 (some s7)) 8 (some s8))))))), (s4, .inr (12, [.int 9, .int 6, .ref mm, .int 1, .int 0, .int 900, .int 0, .int 0])), (ou, .inl (co, 1, .inr (.inl of_)))] s.heap := hP
  have hD : va_D A [(x, .inr (15, [.ref sh, .ref tl, .ref tw, .int 0])), (sh, .inr (13, [.ref rg, .ref dk, .ref hd, .ref lg, .ref pl, .ref pr, .int 0, .int 0, .int 0, .int 0, .int 0, .int 0, .int 0, .int 0, .int 0, .int 0, .int 0])), (rg, .inr (11, [.ref mf, .ref mm, .ref mz, .ref ma, .ref sa, .int 0])), (sa, .inl (cS, 9, .inr (.inr (.inr (.inr (va_up (va_up (va_up (va_up (va_up (va_up (va_up (va_up (va_up (fun _ => none) 0 (some s0)) 1 (some s1)) 2 (some s2)) 3 (some s3)) 4 (some s4)) 5 (some s5)) 6 (some s6)) 7 (some s7)) 8 (some s8))))))), (s4, .inr (12, [.int 9, .int 6, .ref mm, .int 1, .int 0, .int 900, .int 0, .int 0])), (ou, .inl (co, 1, .inr (.inl of_)))] := hD
  have hl := lv_entry ([.ref x, .int 4, .ref ou]) (n := 4) (Nat.le_of_ble_eq_true rfl)
  rw [lg_entry_eq]
  generalize (lg_sl ([.ref x, .int 4, .ref ou]) ++ List.replicate (4 - (lg_sl ([.ref x, .int 4, .ref ou])).length) Slot.unset).toArray = ls at hl ⊢
  have hl : lv_has ls 4 [(0, .ref x), (1, .int 4), (2, .ref ou)] := hl
  refine lv_aload_n hx hb dL_spread_0 rfl (lv_at hl 2 rfl) ?_
  refine lv_iconst (v := 0) hx hb dL_spread_1 (by decide) ?_
  refine lv_aload_n hx hb dL_spread_2 rfl (lv_at hl 0 rfl) ?_
  refine lv_iload_n hx hb dL_spread_3 rfl (lv_at hl 1 rfl) ?_
  have hPc := hP.sub (ws' := [(x, .inr (15, [.ref sh, .ref tl, .ref tw, .int 0])), (sh, .inr (13, [.ref rg, .ref dk, .ref hd, .ref lg, .ref pl, .ref pr, .int 0, .int 0, .int 0, .int 0, .int 0, .int 0, .int 0, .int 0, .int 0, .int 0, .int 0])), (rg, .inr (11, [.ref mf, .ref mm, .ref mz, .ref ma, .ref sa, .int 0])), (sa, .inl (cS, 9, .inr (.inr (.inr (.inr (va_up (va_up (va_up (va_up (va_up (va_up (va_up (va_up (va_up (fun _ => none) 0 (some s0)) 1 (some s1)) 2 (some s2)) 3 (some s3)) 4 (some s4)) 5 (some s5)) 6 (some s6)) 7 (some s7)) 8 (some s8))))))), (s4, .inr (12, [.int 9, .int 6, .ref mm, .int 1, .int 0, .int 900, .int 0, .int 0]))]) [0, 1, 2, 3, 4] rfl
  have hDc := hD.sub (ws' := [(x, .inr (15, [.ref sh, .ref tl, .ref tw, .int 0])), (sh, .inr (13, [.ref rg, .ref dk, .ref hd, .ref lg, .ref pl, .ref pr, .int 0, .int 0, .int 0, .int 0, .int 0, .int 0, .int 0, .int 0, .int 0, .int 0, .int 0])), (rg, .inr (11, [.ref mf, .ref mm, .ref mz, .ref ma, .ref sa, .int 0])), (sa, .inl (cS, 9, .inr (.inr (.inr (.inr (va_up (va_up (va_up (va_up (va_up (va_up (va_up (va_up (va_up (fun _ => none) 0 (some s0)) 1 (some s1)) 2 (some s2)) 3 (some s3)) 4 (some s4)) 5 (some s5)) 6 (some s6)) 7 (some s7)) 8 (some s8))))))), (s4, .inr (12, [.int 9, .int 6, .ref mm, .int 1, .int 0, .int 900, .int 0, .int 0]))]) [0, 1, 2, 3, 4] (by decide) rfl
  have hKc := hK.sub (tys' := [(cS, .object RX8)]) [0] rfl
  have hFc := va_free (wc := [(x, .inr (15, [.ref sh, .ref tl, .ref tw, .int 0])), (sh, .inr (13, [.ref rg, .ref dk, .ref hd, .ref lg, .ref pl, .ref pr, .int 0, .int 0, .int 0, .int 0, .int 0, .int 0, .int 0, .int 0, .int 0, .int 0, .int 0])), (rg, .inr (11, [.ref mf, .ref mm, .ref mz, .ref ma, .ref sa, .int 0])), (sa, .inl (cS, 9, .inr (.inr (.inr (.inr (va_up (va_up (va_up (va_up (va_up (va_up (va_up (va_up (va_up (fun _ => none) 0 (some s0)) 1 (some s1)) 2 (some s2)) 3 (some s3)) 4 (some s4)) 5 (some s5)) 6 (some s6)) 7 (some s7)) 8 (some s8))))))), (s4, .inr (12, [.int 9, .int 6, .ref mm, .int 1, .int 0, .int 900, .int 0, .int 0]))]) hD hS hA [0, 1, 2, 3, 4] rfl
  refine va_calli (va_runV (As := [.int 4]) (rest := [.int 0, .ref ou]) ⟨hx, hb, hml, hown, hts⟩ (k_x_spread4 l dC dI z zK zV sh rg mf mm mz ma sa s0 s1 s2 s3 s4 s5 s6 s7 s8 dk hd lg pl pr cS x tl tw s.heap.size) (cwV 1 hts gL_spread_X11_spread rfl rfl rfl (by decide +kernel) ⟨Nat.le_of_ble_eq_true rfl, Nat.le_of_ble_eq_true rfl⟩) ⟨kP_blind, va_recv hKc hPc (ci := 15) (q0 := 0) rfl rfl, kP_go hPc hKc hDc hFc hM hS⟩ rfl rfl hl.1 rfl (lv_room (Nat.le_of_ble_eq_true rfl)) dL_spread_4 ⟨Nat.le_of_ble_eq_true rfl, Nat.le_of_ble_eq_true rfl⟩) hS (fun q _ h => hFc q h) hFc (fun r1 u t H1 locs ht hvm hw hB hz1 hk1 hS => ?_)
  obtain ⟨hP, hD, hK⟩ := kJ (wr := [(ou, .inl (co, 1, .inr (.inl of_)))]) (w1 := []) (t1 := []) hP hD hK [0, 1, 2, 3, 4] [5] rfl rfl (by decide) (by decide) hk1 hFc ht hvm hB
  generalize H1 = H at hP hS ⊢
  have hP : va_P (dC, dI) vwCl [(ou, .inl (co, 1, .inr (.inl of_)))] H := hP
  have hD : va_D A [(ou, .inl (co, 1, .inr (.inl of_)))] := hD
  have hK : va_K (dC, dI) vwCl [(cS, .object RX8), (co, .long)] s := hK
  obtain rfl : 0 = r1 := hw
  refine lv_i2l (v := 0) hx hb dL_spread_7 (by decide +kernel) ?_
  refine va_last hx hb hK hP hD hS 0 1 rfl rfl (pk_in 0 1 (by decide) rfl) dL_spread_8 (fun H locs hP hD hS => ?_)
  have hP : va_P (dC, dI) vwCl [(ou, .inl (co, 1, .inr (.inl (vp_updL of_ 0 0))))] H := hP
  have hD : va_D A [(ou, .inl (co, 1, .inr (.inl (vp_updL of_ 0 0))))] := hD
  refine lv_goto (tgt := 15) hx hb dL_spread_9 (by decide) ?_
  refine lv_iconst (v := 0) hx hb dL_spread_15 (by decide) ?_
  exact W.iret (v := 0) hx hb hr (fun t ht hW => ⟨⟨0, (), rfl, rfl, kB_end (w9 := [(ou, .inl (co, 1, .inr (.inl (vp_updL of_ 0 0))))]) (t9 := []) hP hK hD [0] [] rfl (by decide) rfl rfl t ht hW⟩, hS.F ht⟩) hS.2.2 dL_spread_16
abbrev wd_k_l_spread5 (z : Nat → Nat) (sh : Nat) (rg : Nat) (mf : Nat) (mm : Nat) (mz : Nat) (ma : Nat) (sa : Nat) (s0 : Nat) (s1 : Nat) (s2 : Nat) (s3 : Nat) (s4 : Nat) (s5 : Nat) (s6 : Nat) (s7 : Nat) (s8 : Nat) (dk : Nat) (hd : Nat) (lg : Nat) (pl : Nat) (pr : Nat) (cS : ClassId) (x : Nat) (tl : Nat) (tw : Nat) (ou : Nat) (co : ClassId) (of_ : Nat → Int64) : va_W := [(x, .inr (15, [.ref sh, .ref tl, .ref tw, .int 0])), (sh, .inr (13, [.ref rg, .ref dk, .ref hd, .ref lg, .ref pl, .ref pr, .int 0, .int 0, .int 0, .int 0, .int 0, .int 0, .int 0, .int 0, .int 0, .int 0, .int 0])), (rg, .inr (11, [.ref mf, .ref mm, .ref mz, .ref ma, .ref sa, .int 0])), (sa, .inl (cS, 9, .inr (.inr (.inr (.inr (va_up (va_up (va_up (va_up (va_up (va_up (va_up (va_up (va_up (fun _ => none) 0 (some s0)) 1 (some s1)) 2 (some s2)) 3 (some s3)) 4 (some s4)) 5 (some s5)) 6 (some s6)) 7 (some s7)) 8 (some s8))))))), (s5, .inr (12, [.int 4, .int 3, .ref mm, .int 1, .int 0, .int 900, .int 0, .int 0])), (ou, .inl (co, 1, .inr (.inl of_)))]
set_option maxHeartbeats 4000000 in
set_option maxRecDepth 100000 in
theorem k_l_spread5 (l : Launch) (dC : Nat → ClassId) (dI : Nat → Nat → Nat) (z zK zV : Nat → Nat) (sh : Nat) (rg : Nat) (mf : Nat) (mm : Nat) (mz : Nat) (ma : Nat) (sa : Nat) (s0 : Nat) (s1 : Nat) (s2 : Nat) (s3 : Nat) (s4 : Nat) (s5 : Nat) (s6 : Nat) (s7 : Nat) (s8 : Nat) (dk : Nat) (hd : Nat) (lg : Nat) (pl : Nat) (pr : Nat) (cS : ClassId) (x : Nat) (tl : Nat) (tw : Nat) (ou : Nat) (co : ClassId) (of_ : Nat → Int64) (sz : Nat)  : Met l yL_spread wsL_spread ({ frames := 2, cells := 0, slots := 0, locals := 43 }) (kP dC dI z zK zV [.ref x, .int 5, .ref ou] sz (wd_k_l_spread5 z sh rg mf mm mz ma sa s0 s1 s2 s3 s4 s5 s6 s7 s8 dk hd lg pl pr cS x tl tw ou co of_) [(cS, .object RX8), (co, .long)]) (va_Qi (fun (r : Int32) (_ : Unit) => 0 = r) (fun _ t => kB (dC, dI) (va_A (wd_k_l_spread5 z sh rg mf mm mz ma sa s0 s1 s2 s3 s4 s5 s6 s7 s8 dk hd lg pl pr cS x tl tw ou co of_) sz) [(ou, .inl (co, 1, .inr (.inl (vp_updL of_ 0 0))))] [] t) (va_A (wd_k_l_spread5 z sh rg mf mm mz ma sa s0 s1 s2 s3 s4 s5 s6 s7 s8 dk hd lg pl pr cS x tl tw ou co of_) sz)) 0 0 (va_A (wd_k_l_spread5 z sh rg mf mm mz ma sa s0 s1 s2 s3 s4 s5 s6 s7 s8 dk hd lg pl pr cS x tl tw ou co of_) sz) := by
  refine va_MetW (hh := [(0, 9, 12, 32)]) (cc := cL_spread) (maxL := 4) (ret := (some .int)) (by decide) rfl ?_
  intro p e s m args below meth c s₁ B hml hv
  obtain ⟨rfl, hsz, hP, hK, hD0, hM⟩ := hv
  have hx := B.exec
  have hb := B.bytes
  have hr := B.returns
  have hts := atoms_spec (ws := wsL_spread) B.pre
  have hown : s.vm.findClass RL = some m.cls := findClass_of_methodNamed B.named
  have hlocks := B.notSynchronized
  have htab := vx_table (x := yL_spread) B (hts _ List.mem_cons_self)
  subst hsz
  have hD := hD0.self (sz := s.heap.size)
  generalize hAe : va_A (wd_k_l_spread5 z sh rg mf mm mz ma sa s0 s1 s2 s3 s4 s5 s6 s7 s8 dk hd lg pl pr cS x tl tw ou co of_) s.heap.size = A at hD hM ⊢
  have hA : ∀ q : Nat, s.heap.size ≤ q → A q := fun q h => by rw [← hAe]; exact Or.inr h
  have hS : va_S A s.heap s.heap [] := va_S.rf
  have hP : va_P (dC, dI) vwCl [(x, .inr (15, [.ref sh, .ref tl, .ref tw, .int 0])), (sh, .inr (13, [.ref rg, .ref dk, .ref hd, .ref lg, .ref pl, .ref pr, .int 0, .int 0, .int 0, .int 0, .int 0, .int 0, .int 0, .int 0, .int 0, .int 0, .int 0])), (rg, .inr (11, [.ref mf, .ref mm, .ref mz, .ref ma, .ref sa, .int 0])), (sa, .inl (cS, 9, .inr (.inr (.inr (.inr (va_up (va_up (va_up (va_up (va_up (va_up (va_up (va_up (va_up (fun _ => none) 0 (some s0)) 1 (some s1)) 2 (some s2)) 3 (some s3)) 4 (some s4)) 5 (some s5)) 6 (some s6)) 7 (some s7)) 8 (some s8))))))), (s5, .inr (12, [.int 4, .int 3, .ref mm, .int 1, .int 0, .int 900, .int 0, .int 0])), (ou, .inl (co, 1, .inr (.inl of_)))] s.heap := hP
  have hD : va_D A [(x, .inr (15, [.ref sh, .ref tl, .ref tw, .int 0])), (sh, .inr (13, [.ref rg, .ref dk, .ref hd, .ref lg, .ref pl, .ref pr, .int 0, .int 0, .int 0, .int 0, .int 0, .int 0, .int 0, .int 0, .int 0, .int 0, .int 0])), (rg, .inr (11, [.ref mf, .ref mm, .ref mz, .ref ma, .ref sa, .int 0])), (sa, .inl (cS, 9, .inr (.inr (.inr (.inr (va_up (va_up (va_up (va_up (va_up (va_up (va_up (va_up (va_up (fun _ => none) 0 (some s0)) 1 (some s1)) 2 (some s2)) 3 (some s3)) 4 (some s4)) 5 (some s5)) 6 (some s6)) 7 (some s7)) 8 (some s8))))))), (s5, .inr (12, [.int 4, .int 3, .ref mm, .int 1, .int 0, .int 900, .int 0, .int 0])), (ou, .inl (co, 1, .inr (.inl of_)))] := hD
  have hl := lv_entry ([.ref x, .int 5, .ref ou]) (n := 4) (Nat.le_of_ble_eq_true rfl)
  rw [lg_entry_eq]
  generalize (lg_sl ([.ref x, .int 5, .ref ou]) ++ List.replicate (4 - (lg_sl ([.ref x, .int 5, .ref ou])).length) Slot.unset).toArray = ls at hl ⊢
  have hl : lv_has ls 4 [(0, .ref x), (1, .int 5), (2, .ref ou)] := hl
  refine lv_aload_n hx hb dL_spread_0 rfl (lv_at hl 2 rfl) ?_
  refine lv_iconst (v := 0) hx hb dL_spread_1 (by decide) ?_
  refine lv_aload_n hx hb dL_spread_2 rfl (lv_at hl 0 rfl) ?_
  refine lv_iload_n hx hb dL_spread_3 rfl (lv_at hl 1 rfl) ?_
  have hPc := hP.sub (ws' := [(x, .inr (15, [.ref sh, .ref tl, .ref tw, .int 0])), (sh, .inr (13, [.ref rg, .ref dk, .ref hd, .ref lg, .ref pl, .ref pr, .int 0, .int 0, .int 0, .int 0, .int 0, .int 0, .int 0, .int 0, .int 0, .int 0, .int 0])), (rg, .inr (11, [.ref mf, .ref mm, .ref mz, .ref ma, .ref sa, .int 0])), (sa, .inl (cS, 9, .inr (.inr (.inr (.inr (va_up (va_up (va_up (va_up (va_up (va_up (va_up (va_up (va_up (fun _ => none) 0 (some s0)) 1 (some s1)) 2 (some s2)) 3 (some s3)) 4 (some s4)) 5 (some s5)) 6 (some s6)) 7 (some s7)) 8 (some s8))))))), (s5, .inr (12, [.int 4, .int 3, .ref mm, .int 1, .int 0, .int 900, .int 0, .int 0]))]) [0, 1, 2, 3, 4] rfl
  have hDc := hD.sub (ws' := [(x, .inr (15, [.ref sh, .ref tl, .ref tw, .int 0])), (sh, .inr (13, [.ref rg, .ref dk, .ref hd, .ref lg, .ref pl, .ref pr, .int 0, .int 0, .int 0, .int 0, .int 0, .int 0, .int 0, .int 0, .int 0, .int 0, .int 0])), (rg, .inr (11, [.ref mf, .ref mm, .ref mz, .ref ma, .ref sa, .int 0])), (sa, .inl (cS, 9, .inr (.inr (.inr (.inr (va_up (va_up (va_up (va_up (va_up (va_up (va_up (va_up (va_up (fun _ => none) 0 (some s0)) 1 (some s1)) 2 (some s2)) 3 (some s3)) 4 (some s4)) 5 (some s5)) 6 (some s6)) 7 (some s7)) 8 (some s8))))))), (s5, .inr (12, [.int 4, .int 3, .ref mm, .int 1, .int 0, .int 900, .int 0, .int 0]))]) [0, 1, 2, 3, 4] (by decide) rfl
  have hKc := hK.sub (tys' := [(cS, .object RX8)]) [0] rfl
  have hFc := va_free (wc := [(x, .inr (15, [.ref sh, .ref tl, .ref tw, .int 0])), (sh, .inr (13, [.ref rg, .ref dk, .ref hd, .ref lg, .ref pl, .ref pr, .int 0, .int 0, .int 0, .int 0, .int 0, .int 0, .int 0, .int 0, .int 0, .int 0, .int 0])), (rg, .inr (11, [.ref mf, .ref mm, .ref mz, .ref ma, .ref sa, .int 0])), (sa, .inl (cS, 9, .inr (.inr (.inr (.inr (va_up (va_up (va_up (va_up (va_up (va_up (va_up (va_up (va_up (fun _ => none) 0 (some s0)) 1 (some s1)) 2 (some s2)) 3 (some s3)) 4 (some s4)) 5 (some s5)) 6 (some s6)) 7 (some s7)) 8 (some s8))))))), (s5, .inr (12, [.int 4, .int 3, .ref mm, .int 1, .int 0, .int 900, .int 0, .int 0]))]) hD hS hA [0, 1, 2, 3, 4] rfl
  refine va_calli (va_runV (As := [.int 5]) (rest := [.int 0, .ref ou]) ⟨hx, hb, hml, hown, hts⟩ (k_x_spread5 l dC dI z zK zV sh rg mf mm mz ma sa s0 s1 s2 s3 s4 s5 s6 s7 s8 dk hd lg pl pr cS x tl tw s.heap.size) (cwV 1 hts gL_spread_X11_spread rfl rfl rfl (by decide +kernel) ⟨Nat.le_of_ble_eq_true rfl, Nat.le_of_ble_eq_true rfl⟩) ⟨kP_blind, va_recv hKc hPc (ci := 15) (q0 := 0) rfl rfl, kP_go hPc hKc hDc hFc hM hS⟩ rfl rfl hl.1 rfl (lv_room (Nat.le_of_ble_eq_true rfl)) dL_spread_4 ⟨Nat.le_of_ble_eq_true rfl, Nat.le_of_ble_eq_true rfl⟩) hS (fun q _ h => hFc q h) hFc (fun r1 u t H1 locs ht hvm hw hB hz1 hk1 hS => ?_)
  obtain ⟨hP, hD, hK⟩ := kJ (wr := [(ou, .inl (co, 1, .inr (.inl of_)))]) (w1 := []) (t1 := []) hP hD hK [0, 1, 2, 3, 4] [5] rfl rfl (by decide) (by decide) hk1 hFc ht hvm hB
  generalize H1 = H at hP hS ⊢
  have hP : va_P (dC, dI) vwCl [(ou, .inl (co, 1, .inr (.inl of_)))] H := hP
  have hD : va_D A [(ou, .inl (co, 1, .inr (.inl of_)))] := hD
  have hK : va_K (dC, dI) vwCl [(cS, .object RX8), (co, .long)] s := hK
  obtain rfl : 0 = r1 := hw
  refine lv_i2l (v := 0) hx hb dL_spread_7 (by decide +kernel) ?_
  refine va_last hx hb hK hP hD hS 0 1 rfl rfl (pk_in 0 1 (by decide) rfl) dL_spread_8 (fun H locs hP hD hS => ?_)
  have hP : va_P (dC, dI) vwCl [(ou, .inl (co, 1, .inr (.inl (vp_updL of_ 0 0))))] H := hP
  have hD : va_D A [(ou, .inl (co, 1, .inr (.inl (vp_updL of_ 0 0))))] := hD
  refine lv_goto (tgt := 15) hx hb dL_spread_9 (by decide) ?_
  refine lv_iconst (v := 0) hx hb dL_spread_15 (by decide) ?_
  exact W.iret (v := 0) hx hb hr (fun t ht hW => ⟨⟨0, (), rfl, rfl, kB_end (w9 := [(ou, .inl (co, 1, .inr (.inl (vp_updL of_ 0 0))))]) (t9 := []) hP hK hD [0] [] rfl (by decide) rfl rfl t ht hW⟩, hS.F ht⟩) hS.2.2 dL_spread_16
abbrev wd_k_l_spread6 (z : Nat → Nat) (sh : Nat) (rg : Nat) (mf : Nat) (mm : Nat) (mz : Nat) (ma : Nat) (sa : Nat) (s0 : Nat) (s1 : Nat) (s2 : Nat) (s3 : Nat) (s4 : Nat) (s5 : Nat) (s6 : Nat) (s7 : Nat) (s8 : Nat) (dk : Nat) (hd : Nat) (lg : Nat) (pl : Nat) (pr : Nat) (cS : ClassId) (x : Nat) (tl : Nat) (tw : Nat) (ou : Nat) (co : ClassId) (of_ : Nat → Int64) : va_W := [(x, .inr (15, [.ref sh, .ref tl, .ref tw, .int 0])), (sh, .inr (13, [.ref rg, .ref dk, .ref hd, .ref lg, .ref pl, .ref pr, .int 0, .int 0, .int 0, .int 0, .int 0, .int 0, .int 0, .int 0, .int 0, .int 0, .int 0])), (rg, .inr (11, [.ref mf, .ref mm, .ref mz, .ref ma, .ref sa, .int 0])), (sa, .inl (cS, 9, .inr (.inr (.inr (.inr (va_up (va_up (va_up (va_up (va_up (va_up (va_up (va_up (va_up (fun _ => none) 0 (some s0)) 1 (some s1)) 2 (some s2)) 3 (some s3)) 4 (some s4)) 5 (some s5)) 6 (some s6)) 7 (some s7)) 8 (some s8))))))), (s6, .inr (12, [.int 5, .int 4, .ref mz, .int 1, .int 0, .int 900, .int 0, .int 0])), (ou, .inl (co, 1, .inr (.inl of_)))]
set_option maxHeartbeats 4000000 in
set_option maxRecDepth 100000 in
theorem k_l_spread6 (l : Launch) (dC : Nat → ClassId) (dI : Nat → Nat → Nat) (z zK zV : Nat → Nat) (sh : Nat) (rg : Nat) (mf : Nat) (mm : Nat) (mz : Nat) (ma : Nat) (sa : Nat) (s0 : Nat) (s1 : Nat) (s2 : Nat) (s3 : Nat) (s4 : Nat) (s5 : Nat) (s6 : Nat) (s7 : Nat) (s8 : Nat) (dk : Nat) (hd : Nat) (lg : Nat) (pl : Nat) (pr : Nat) (cS : ClassId) (x : Nat) (tl : Nat) (tw : Nat) (ou : Nat) (co : ClassId) (of_ : Nat → Int64) (sz : Nat)  : Met l yL_spread wsL_spread ({ frames := 2, cells := 0, slots := 0, locals := 43 }) (kP dC dI z zK zV [.ref x, .int 6, .ref ou] sz (wd_k_l_spread6 z sh rg mf mm mz ma sa s0 s1 s2 s3 s4 s5 s6 s7 s8 dk hd lg pl pr cS x tl tw ou co of_) [(cS, .object RX8), (co, .long)]) (va_Qi (fun (r : Int32) (_ : Unit) => 0 = r) (fun _ t => kB (dC, dI) (va_A (wd_k_l_spread6 z sh rg mf mm mz ma sa s0 s1 s2 s3 s4 s5 s6 s7 s8 dk hd lg pl pr cS x tl tw ou co of_) sz) [(ou, .inl (co, 1, .inr (.inl (vp_updL of_ 0 0))))] [] t) (va_A (wd_k_l_spread6 z sh rg mf mm mz ma sa s0 s1 s2 s3 s4 s5 s6 s7 s8 dk hd lg pl pr cS x tl tw ou co of_) sz)) 0 0 (va_A (wd_k_l_spread6 z sh rg mf mm mz ma sa s0 s1 s2 s3 s4 s5 s6 s7 s8 dk hd lg pl pr cS x tl tw ou co of_) sz) := by
  refine va_MetW (hh := [(0, 9, 12, 32)]) (cc := cL_spread) (maxL := 4) (ret := (some .int)) (by decide) rfl ?_
  intro p e s m args below meth c s₁ B hml hv
  obtain ⟨rfl, hsz, hP, hK, hD0, hM⟩ := hv
  have hx := B.exec
  have hb := B.bytes
  have hr := B.returns
  have hts := atoms_spec (ws := wsL_spread) B.pre
  have hown : s.vm.findClass RL = some m.cls := findClass_of_methodNamed B.named
  have hlocks := B.notSynchronized
  have htab := vx_table (x := yL_spread) B (hts _ List.mem_cons_self)
  subst hsz
  have hD := hD0.self (sz := s.heap.size)
  generalize hAe : va_A (wd_k_l_spread6 z sh rg mf mm mz ma sa s0 s1 s2 s3 s4 s5 s6 s7 s8 dk hd lg pl pr cS x tl tw ou co of_) s.heap.size = A at hD hM ⊢
  have hA : ∀ q : Nat, s.heap.size ≤ q → A q := fun q h => by rw [← hAe]; exact Or.inr h
  have hS : va_S A s.heap s.heap [] := va_S.rf
  have hP : va_P (dC, dI) vwCl [(x, .inr (15, [.ref sh, .ref tl, .ref tw, .int 0])), (sh, .inr (13, [.ref rg, .ref dk, .ref hd, .ref lg, .ref pl, .ref pr, .int 0, .int 0, .int 0, .int 0, .int 0, .int 0, .int 0, .int 0, .int 0, .int 0, .int 0])), (rg, .inr (11, [.ref mf, .ref mm, .ref mz, .ref ma, .ref sa, .int 0])), (sa, .inl (cS, 9, .inr (.inr (.inr (.inr (va_up (va_up (va_up (va_up (va_up (va_up (va_up (va_up (va_up (fun _ => none) 0 (some s0)) 1 (some s1)) 2 (some s2)) 3 (some s3)) 4 (some s4)) 5 (some s5)) 6 (some s6)) 7 (some s7)) 8 (some s8))))))), (s6, .inr (12, [.int 5, .int 4, .ref mz, .int 1, .int 0, .int 900, .int 0, .int 0])), (ou, .inl (co, 1, .inr (.inl of_)))] s.heap := hP
  have hD : va_D A [(x, .inr (15, [.ref sh, .ref tl, .ref tw, .int 0])), (sh, .inr (13, [.ref rg, .ref dk, .ref hd, .ref lg, .ref pl, .ref pr, .int 0, .int 0, .int 0, .int 0, .int 0, .int 0, .int 0, .int 0, .int 0, .int 0, .int 0])), (rg, .inr (11, [.ref mf, .ref mm, .ref mz, .ref ma, .ref sa, .int 0])), (sa, .inl (cS, 9, .inr (.inr (.inr (.inr (va_up (va_up (va_up (va_up (va_up (va_up (va_up (va_up (va_up (fun _ => none) 0 (some s0)) 1 (some s1)) 2 (some s2)) 3 (some s3)) 4 (some s4)) 5 (some s5)) 6 (some s6)) 7 (some s7)) 8 (some s8))))))), (s6, .inr (12, [.int 5, .int 4, .ref mz, .int 1, .int 0, .int 900, .int 0, .int 0])), (ou, .inl (co, 1, .inr (.inl of_)))] := hD
  have hl := lv_entry ([.ref x, .int 6, .ref ou]) (n := 4) (Nat.le_of_ble_eq_true rfl)
  rw [lg_entry_eq]
  generalize (lg_sl ([.ref x, .int 6, .ref ou]) ++ List.replicate (4 - (lg_sl ([.ref x, .int 6, .ref ou])).length) Slot.unset).toArray = ls at hl ⊢
  have hl : lv_has ls 4 [(0, .ref x), (1, .int 6), (2, .ref ou)] := hl
  refine lv_aload_n hx hb dL_spread_0 rfl (lv_at hl 2 rfl) ?_
  refine lv_iconst (v := 0) hx hb dL_spread_1 (by decide) ?_
  refine lv_aload_n hx hb dL_spread_2 rfl (lv_at hl 0 rfl) ?_
  refine lv_iload_n hx hb dL_spread_3 rfl (lv_at hl 1 rfl) ?_
  have hPc := hP.sub (ws' := [(x, .inr (15, [.ref sh, .ref tl, .ref tw, .int 0])), (sh, .inr (13, [.ref rg, .ref dk, .ref hd, .ref lg, .ref pl, .ref pr, .int 0, .int 0, .int 0, .int 0, .int 0, .int 0, .int 0, .int 0, .int 0, .int 0, .int 0])), (rg, .inr (11, [.ref mf, .ref mm, .ref mz, .ref ma, .ref sa, .int 0])), (sa, .inl (cS, 9, .inr (.inr (.inr (.inr (va_up (va_up (va_up (va_up (va_up (va_up (va_up (va_up (va_up (fun _ => none) 0 (some s0)) 1 (some s1)) 2 (some s2)) 3 (some s3)) 4 (some s4)) 5 (some s5)) 6 (some s6)) 7 (some s7)) 8 (some s8))))))), (s6, .inr (12, [.int 5, .int 4, .ref mz, .int 1, .int 0, .int 900, .int 0, .int 0]))]) [0, 1, 2, 3, 4] rfl
  have hDc := hD.sub (ws' := [(x, .inr (15, [.ref sh, .ref tl, .ref tw, .int 0])), (sh, .inr (13, [.ref rg, .ref dk, .ref hd, .ref lg, .ref pl, .ref pr, .int 0, .int 0, .int 0, .int 0, .int 0, .int 0, .int 0, .int 0, .int 0, .int 0, .int 0])), (rg, .inr (11, [.ref mf, .ref mm, .ref mz, .ref ma, .ref sa, .int 0])), (sa, .inl (cS, 9, .inr (.inr (.inr (.inr (va_up (va_up (va_up (va_up (va_up (va_up (va_up (va_up (va_up (fun _ => none) 0 (some s0)) 1 (some s1)) 2 (some s2)) 3 (some s3)) 4 (some s4)) 5 (some s5)) 6 (some s6)) 7 (some s7)) 8 (some s8))))))), (s6, .inr (12, [.int 5, .int 4, .ref mz, .int 1, .int 0, .int 900, .int 0, .int 0]))]) [0, 1, 2, 3, 4] (by decide) rfl
  have hKc := hK.sub (tys' := [(cS, .object RX8)]) [0] rfl
  have hFc := va_free (wc := [(x, .inr (15, [.ref sh, .ref tl, .ref tw, .int 0])), (sh, .inr (13, [.ref rg, .ref dk, .ref hd, .ref lg, .ref pl, .ref pr, .int 0, .int 0, .int 0, .int 0, .int 0, .int 0, .int 0, .int 0, .int 0, .int 0, .int 0])), (rg, .inr (11, [.ref mf, .ref mm, .ref mz, .ref ma, .ref sa, .int 0])), (sa, .inl (cS, 9, .inr (.inr (.inr (.inr (va_up (va_up (va_up (va_up (va_up (va_up (va_up (va_up (va_up (fun _ => none) 0 (some s0)) 1 (some s1)) 2 (some s2)) 3 (some s3)) 4 (some s4)) 5 (some s5)) 6 (some s6)) 7 (some s7)) 8 (some s8))))))), (s6, .inr (12, [.int 5, .int 4, .ref mz, .int 1, .int 0, .int 900, .int 0, .int 0]))]) hD hS hA [0, 1, 2, 3, 4] rfl
  refine va_calli (va_runV (As := [.int 6]) (rest := [.int 0, .ref ou]) ⟨hx, hb, hml, hown, hts⟩ (k_x_spread6 l dC dI z zK zV sh rg mf mm mz ma sa s0 s1 s2 s3 s4 s5 s6 s7 s8 dk hd lg pl pr cS x tl tw s.heap.size) (cwV 1 hts gL_spread_X11_spread rfl rfl rfl (by decide +kernel) ⟨Nat.le_of_ble_eq_true rfl, Nat.le_of_ble_eq_true rfl⟩) ⟨kP_blind, va_recv hKc hPc (ci := 15) (q0 := 0) rfl rfl, kP_go hPc hKc hDc hFc hM hS⟩ rfl rfl hl.1 rfl (lv_room (Nat.le_of_ble_eq_true rfl)) dL_spread_4 ⟨Nat.le_of_ble_eq_true rfl, Nat.le_of_ble_eq_true rfl⟩) hS (fun q _ h => hFc q h) hFc (fun r1 u t H1 locs ht hvm hw hB hz1 hk1 hS => ?_)
  obtain ⟨hP, hD, hK⟩ := kJ (wr := [(ou, .inl (co, 1, .inr (.inl of_)))]) (w1 := []) (t1 := []) hP hD hK [0, 1, 2, 3, 4] [5] rfl rfl (by decide) (by decide) hk1 hFc ht hvm hB
  generalize H1 = H at hP hS ⊢
  have hP : va_P (dC, dI) vwCl [(ou, .inl (co, 1, .inr (.inl of_)))] H := hP
  have hD : va_D A [(ou, .inl (co, 1, .inr (.inl of_)))] := hD
  have hK : va_K (dC, dI) vwCl [(cS, .object RX8), (co, .long)] s := hK
  obtain rfl : 0 = r1 := hw
  refine lv_i2l (v := 0) hx hb dL_spread_7 (by decide +kernel) ?_
  refine va_last hx hb hK hP hD hS 0 1 rfl rfl (pk_in 0 1 (by decide) rfl) dL_spread_8 (fun H locs hP hD hS => ?_)
  have hP : va_P (dC, dI) vwCl [(ou, .inl (co, 1, .inr (.inl (vp_updL of_ 0 0))))] H := hP
  have hD : va_D A [(ou, .inl (co, 1, .inr (.inl (vp_updL of_ 0 0))))] := hD
  refine lv_goto (tgt := 15) hx hb dL_spread_9 (by decide) ?_
  refine lv_iconst (v := 0) hx hb dL_spread_15 (by decide) ?_
  exact W.iret (v := 0) hx hb hr (fun t ht hW => ⟨⟨0, (), rfl, rfl, kB_end (w9 := [(ou, .inl (co, 1, .inr (.inl (vp_updL of_ 0 0))))]) (t9 := []) hP hK hD [0] [] rfl (by decide) rfl rfl t ht hW⟩, hS.F ht⟩) hS.2.2 dL_spread_16
abbrev wd_k_l_spread7 (z : Nat → Nat) (sh : Nat) (rg : Nat) (mf : Nat) (mm : Nat) (mz : Nat) (ma : Nat) (sa : Nat) (s0 : Nat) (s1 : Nat) (s2 : Nat) (s3 : Nat) (s4 : Nat) (s5 : Nat) (s6 : Nat) (s7 : Nat) (s8 : Nat) (dk : Nat) (hd : Nat) (lg : Nat) (pl : Nat) (pr : Nat) (cS : ClassId) (x : Nat) (tl : Nat) (tw : Nat) (ou : Nat) (co : ClassId) (of_ : Nat → Int64) : va_W := [(x, .inr (15, [.ref sh, .ref tl, .ref tw, .int 0])), (sh, .inr (13, [.ref rg, .ref dk, .ref hd, .ref lg, .ref pl, .ref pr, .int 0, .int 0, .int 0, .int 0, .int 0, .int 0, .int 0, .int 0, .int 0, .int 0, .int 0])), (rg, .inr (11, [.ref mf, .ref mm, .ref mz, .ref ma, .ref sa, .int 0])), (sa, .inl (cS, 9, .inr (.inr (.inr (.inr (va_up (va_up (va_up (va_up (va_up (va_up (va_up (va_up (va_up (fun _ => none) 0 (some s0)) 1 (some s1)) 2 (some s2)) 3 (some s3)) 4 (some s4)) 5 (some s5)) 6 (some s6)) 7 (some s7)) 8 (some s8))))))), (s7, .inr (12, [.int 4, .int 3, .ref mf, .int 0, .int 0, .int 900, .int 0, .int 0])), (ou, .inl (co, 1, .inr (.inl of_)))]
set_option maxHeartbeats 4000000 in
set_option maxRecDepth 100000 in
theorem k_l_spread7 (l : Launch) (dC : Nat → ClassId) (dI : Nat → Nat → Nat) (z zK zV : Nat → Nat) (sh : Nat) (rg : Nat) (mf : Nat) (mm : Nat) (mz : Nat) (ma : Nat) (sa : Nat) (s0 : Nat) (s1 : Nat) (s2 : Nat) (s3 : Nat) (s4 : Nat) (s5 : Nat) (s6 : Nat) (s7 : Nat) (s8 : Nat) (dk : Nat) (hd : Nat) (lg : Nat) (pl : Nat) (pr : Nat) (cS : ClassId) (x : Nat) (tl : Nat) (tw : Nat) (ou : Nat) (co : ClassId) (of_ : Nat → Int64) (sz : Nat)  : Met l yL_spread wsL_spread ({ frames := 2, cells := 0, slots := 0, locals := 43 }) (kP dC dI z zK zV [.ref x, .int 7, .ref ou] sz (wd_k_l_spread7 z sh rg mf mm mz ma sa s0 s1 s2 s3 s4 s5 s6 s7 s8 dk hd lg pl pr cS x tl tw ou co of_) [(cS, .object RX8), (co, .long)]) (va_Qi (fun (r : Int32) (_ : Unit) => 0 = r) (fun _ t => kB (dC, dI) (va_A (wd_k_l_spread7 z sh rg mf mm mz ma sa s0 s1 s2 s3 s4 s5 s6 s7 s8 dk hd lg pl pr cS x tl tw ou co of_) sz) [(ou, .inl (co, 1, .inr (.inl (vp_updL of_ 0 0))))] [] t) (va_A (wd_k_l_spread7 z sh rg mf mm mz ma sa s0 s1 s2 s3 s4 s5 s6 s7 s8 dk hd lg pl pr cS x tl tw ou co of_) sz)) 0 0 (va_A (wd_k_l_spread7 z sh rg mf mm mz ma sa s0 s1 s2 s3 s4 s5 s6 s7 s8 dk hd lg pl pr cS x tl tw ou co of_) sz) := by
  refine va_MetW (hh := [(0, 9, 12, 32)]) (cc := cL_spread) (maxL := 4) (ret := (some .int)) (by decide) rfl ?_
  intro p e s m args below meth c s₁ B hml hv
  obtain ⟨rfl, hsz, hP, hK, hD0, hM⟩ := hv
  have hx := B.exec
  have hb := B.bytes
  have hr := B.returns
  have hts := atoms_spec (ws := wsL_spread) B.pre
  have hown : s.vm.findClass RL = some m.cls := findClass_of_methodNamed B.named
  have hlocks := B.notSynchronized
  have htab := vx_table (x := yL_spread) B (hts _ List.mem_cons_self)
  subst hsz
  have hD := hD0.self (sz := s.heap.size)
  generalize hAe : va_A (wd_k_l_spread7 z sh rg mf mm mz ma sa s0 s1 s2 s3 s4 s5 s6 s7 s8 dk hd lg pl pr cS x tl tw ou co of_) s.heap.size = A at hD hM ⊢
  have hA : ∀ q : Nat, s.heap.size ≤ q → A q := fun q h => by rw [← hAe]; exact Or.inr h
  have hS : va_S A s.heap s.heap [] := va_S.rf
  have hP : va_P (dC, dI) vwCl [(x, .inr (15, [.ref sh, .ref tl, .ref tw, .int 0])), (sh, .inr (13, [.ref rg, .ref dk, .ref hd, .ref lg, .ref pl, .ref pr, .int 0, .int 0, .int 0, .int 0, .int 0, .int 0, .int 0, .int 0, .int 0, .int 0, .int 0])), (rg, .inr (11, [.ref mf, .ref mm, .ref mz, .ref ma, .ref sa, .int 0])), (sa, .inl (cS, 9, .inr (.inr (.inr (.inr (va_up (va_up (va_up (va_up (va_up (va_up (va_up (va_up (va_up (fun _ => none) 0 (some s0)) 1 (some s1)) 2 (some s2)) 3 (some s3)) 4 (some s4)) 5 (some s5)) 6 (some s6)) 7 (some s7)) 8 (some s8))))))), (s7, .inr (12, [.int 4, .int 3, .ref mf, .int 0, .int 0, .int 900, .int 0, .int 0])), (ou, .inl (co, 1, .inr (.inl of_)))] s.heap := hP
  have hD : va_D A [(x, .inr (15, [.ref sh, .ref tl, .ref tw, .int 0])), (sh, .inr (13, [.ref rg, .ref dk, .ref hd, .ref lg, .ref pl, .ref pr, .int 0, .int 0, .int 0, .int 0, .int 0, .int 0, .int 0, .int 0, .int 0, .int 0, .int 0])), (rg, .inr (11, [.ref mf, .ref mm, .ref mz, .ref ma, .ref sa, .int 0])), (sa, .inl (cS, 9, .inr (.inr (.inr (.inr (va_up (va_up (va_up (va_up (va_up (va_up (va_up (va_up (va_up (fun _ => none) 0 (some s0)) 1 (some s1)) 2 (some s2)) 3 (some s3)) 4 (some s4)) 5 (some s5)) 6 (some s6)) 7 (some s7)) 8 (some s8))))))), (s7, .inr (12, [.int 4, .int 3, .ref mf, .int 0, .int 0, .int 900, .int 0, .int 0])), (ou, .inl (co, 1, .inr (.inl of_)))] := hD
  have hl := lv_entry ([.ref x, .int 7, .ref ou]) (n := 4) (Nat.le_of_ble_eq_true rfl)
  rw [lg_entry_eq]
  generalize (lg_sl ([.ref x, .int 7, .ref ou]) ++ List.replicate (4 - (lg_sl ([.ref x, .int 7, .ref ou])).length) Slot.unset).toArray = ls at hl ⊢
  have hl : lv_has ls 4 [(0, .ref x), (1, .int 7), (2, .ref ou)] := hl
  refine lv_aload_n hx hb dL_spread_0 rfl (lv_at hl 2 rfl) ?_
  refine lv_iconst (v := 0) hx hb dL_spread_1 (by decide) ?_
  refine lv_aload_n hx hb dL_spread_2 rfl (lv_at hl 0 rfl) ?_
  refine lv_iload_n hx hb dL_spread_3 rfl (lv_at hl 1 rfl) ?_
  have hPc := hP.sub (ws' := [(x, .inr (15, [.ref sh, .ref tl, .ref tw, .int 0])), (sh, .inr (13, [.ref rg, .ref dk, .ref hd, .ref lg, .ref pl, .ref pr, .int 0, .int 0, .int 0, .int 0, .int 0, .int 0, .int 0, .int 0, .int 0, .int 0, .int 0])), (rg, .inr (11, [.ref mf, .ref mm, .ref mz, .ref ma, .ref sa, .int 0])), (sa, .inl (cS, 9, .inr (.inr (.inr (.inr (va_up (va_up (va_up (va_up (va_up (va_up (va_up (va_up (va_up (fun _ => none) 0 (some s0)) 1 (some s1)) 2 (some s2)) 3 (some s3)) 4 (some s4)) 5 (some s5)) 6 (some s6)) 7 (some s7)) 8 (some s8))))))), (s7, .inr (12, [.int 4, .int 3, .ref mf, .int 0, .int 0, .int 900, .int 0, .int 0]))]) [0, 1, 2, 3, 4] rfl
  have hDc := hD.sub (ws' := [(x, .inr (15, [.ref sh, .ref tl, .ref tw, .int 0])), (sh, .inr (13, [.ref rg, .ref dk, .ref hd, .ref lg, .ref pl, .ref pr, .int 0, .int 0, .int 0, .int 0, .int 0, .int 0, .int 0, .int 0, .int 0, .int 0, .int 0])), (rg, .inr (11, [.ref mf, .ref mm, .ref mz, .ref ma, .ref sa, .int 0])), (sa, .inl (cS, 9, .inr (.inr (.inr (.inr (va_up (va_up (va_up (va_up (va_up (va_up (va_up (va_up (va_up (fun _ => none) 0 (some s0)) 1 (some s1)) 2 (some s2)) 3 (some s3)) 4 (some s4)) 5 (some s5)) 6 (some s6)) 7 (some s7)) 8 (some s8))))))), (s7, .inr (12, [.int 4, .int 3, .ref mf, .int 0, .int 0, .int 900, .int 0, .int 0]))]) [0, 1, 2, 3, 4] (by decide) rfl
  have hKc := hK.sub (tys' := [(cS, .object RX8)]) [0] rfl
  have hFc := va_free (wc := [(x, .inr (15, [.ref sh, .ref tl, .ref tw, .int 0])), (sh, .inr (13, [.ref rg, .ref dk, .ref hd, .ref lg, .ref pl, .ref pr, .int 0, .int 0, .int 0, .int 0, .int 0, .int 0, .int 0, .int 0, .int 0, .int 0, .int 0])), (rg, .inr (11, [.ref mf, .ref mm, .ref mz, .ref ma, .ref sa, .int 0])), (sa, .inl (cS, 9, .inr (.inr (.inr (.inr (va_up (va_up (va_up (va_up (va_up (va_up (va_up (va_up (va_up (fun _ => none) 0 (some s0)) 1 (some s1)) 2 (some s2)) 3 (some s3)) 4 (some s4)) 5 (some s5)) 6 (some s6)) 7 (some s7)) 8 (some s8))))))), (s7, .inr (12, [.int 4, .int 3, .ref mf, .int 0, .int 0, .int 900, .int 0, .int 0]))]) hD hS hA [0, 1, 2, 3, 4] rfl
  refine va_calli (va_runV (As := [.int 7]) (rest := [.int 0, .ref ou]) ⟨hx, hb, hml, hown, hts⟩ (k_x_spread7 l dC dI z zK zV sh rg mf mm mz ma sa s0 s1 s2 s3 s4 s5 s6 s7 s8 dk hd lg pl pr cS x tl tw s.heap.size) (cwV 1 hts gL_spread_X11_spread rfl rfl rfl (by decide +kernel) ⟨Nat.le_of_ble_eq_true rfl, Nat.le_of_ble_eq_true rfl⟩) ⟨kP_blind, va_recv hKc hPc (ci := 15) (q0 := 0) rfl rfl, kP_go hPc hKc hDc hFc hM hS⟩ rfl rfl hl.1 rfl (lv_room (Nat.le_of_ble_eq_true rfl)) dL_spread_4 ⟨Nat.le_of_ble_eq_true rfl, Nat.le_of_ble_eq_true rfl⟩) hS (fun q _ h => hFc q h) hFc (fun r1 u t H1 locs ht hvm hw hB hz1 hk1 hS => ?_)
  obtain ⟨hP, hD, hK⟩ := kJ (wr := [(ou, .inl (co, 1, .inr (.inl of_)))]) (w1 := []) (t1 := []) hP hD hK [0, 1, 2, 3, 4] [5] rfl rfl (by decide) (by decide) hk1 hFc ht hvm hB
  generalize H1 = H at hP hS ⊢
  have hP : va_P (dC, dI) vwCl [(ou, .inl (co, 1, .inr (.inl of_)))] H := hP
  have hD : va_D A [(ou, .inl (co, 1, .inr (.inl of_)))] := hD
  have hK : va_K (dC, dI) vwCl [(cS, .object RX8), (co, .long)] s := hK
  obtain rfl : 0 = r1 := hw
  refine lv_i2l (v := 0) hx hb dL_spread_7 (by decide +kernel) ?_
  refine va_last hx hb hK hP hD hS 0 1 rfl rfl (pk_in 0 1 (by decide) rfl) dL_spread_8 (fun H locs hP hD hS => ?_)
  have hP : va_P (dC, dI) vwCl [(ou, .inl (co, 1, .inr (.inl (vp_updL of_ 0 0))))] H := hP
  have hD : va_D A [(ou, .inl (co, 1, .inr (.inl (vp_updL of_ 0 0))))] := hD
  refine lv_goto (tgt := 15) hx hb dL_spread_9 (by decide) ?_
  refine lv_iconst (v := 0) hx hb dL_spread_15 (by decide) ?_
  exact W.iret (v := 0) hx hb hr (fun t ht hW => ⟨⟨0, (), rfl, rfl, kB_end (w9 := [(ou, .inl (co, 1, .inr (.inl (vp_updL of_ 0 0))))]) (t9 := []) hP hK hD [0] [] rfl (by decide) rfl rfl t ht hW⟩, hS.F ht⟩) hS.2.2 dL_spread_16
abbrev wd_k_l_spread8 (z : Nat → Nat) (sh : Nat) (rg : Nat) (mf : Nat) (mm : Nat) (mz : Nat) (ma : Nat) (sa : Nat) (s0 : Nat) (s1 : Nat) (s2 : Nat) (s3 : Nat) (s4 : Nat) (s5 : Nat) (s6 : Nat) (s7 : Nat) (s8 : Nat) (dk : Nat) (hd : Nat) (lg : Nat) (pl : Nat) (pr : Nat) (cS : ClassId) (x : Nat) (tl : Nat) (tw : Nat) (ou : Nat) (co : ClassId) (of_ : Nat → Int64) : va_W := [(x, .inr (15, [.ref sh, .ref tl, .ref tw, .int 0])), (sh, .inr (13, [.ref rg, .ref dk, .ref hd, .ref lg, .ref pl, .ref pr, .int 0, .int 0, .int 0, .int 0, .int 0, .int 0, .int 0, .int 0, .int 0, .int 0, .int 0])), (rg, .inr (11, [.ref mf, .ref mm, .ref mz, .ref ma, .ref sa, .int 0])), (sa, .inl (cS, 9, .inr (.inr (.inr (.inr (va_up (va_up (va_up (va_up (va_up (va_up (va_up (va_up (va_up (fun _ => none) 0 (some s0)) 1 (some s1)) 2 (some s2)) 3 (some s3)) 4 (some s4)) 5 (some s5)) 6 (some s6)) 7 (some s7)) 8 (some s8))))))), (s8, .inr (12, [.int 6, .int 4, .ref mz, .int 0, .int 0, .int 900, .int 0, .int 0])), (ou, .inl (co, 1, .inr (.inl of_)))]
set_option maxHeartbeats 4000000 in
set_option maxRecDepth 100000 in
theorem k_l_spread8 (l : Launch) (dC : Nat → ClassId) (dI : Nat → Nat → Nat) (z zK zV : Nat → Nat) (sh : Nat) (rg : Nat) (mf : Nat) (mm : Nat) (mz : Nat) (ma : Nat) (sa : Nat) (s0 : Nat) (s1 : Nat) (s2 : Nat) (s3 : Nat) (s4 : Nat) (s5 : Nat) (s6 : Nat) (s7 : Nat) (s8 : Nat) (dk : Nat) (hd : Nat) (lg : Nat) (pl : Nat) (pr : Nat) (cS : ClassId) (x : Nat) (tl : Nat) (tw : Nat) (ou : Nat) (co : ClassId) (of_ : Nat → Int64) (sz : Nat)  : Met l yL_spread wsL_spread ({ frames := 2, cells := 0, slots := 0, locals := 43 }) (kP dC dI z zK zV [.ref x, .int 8, .ref ou] sz (wd_k_l_spread8 z sh rg mf mm mz ma sa s0 s1 s2 s3 s4 s5 s6 s7 s8 dk hd lg pl pr cS x tl tw ou co of_) [(cS, .object RX8), (co, .long)]) (va_Qi (fun (r : Int32) (_ : Unit) => 0 = r) (fun _ t => kB (dC, dI) (va_A (wd_k_l_spread8 z sh rg mf mm mz ma sa s0 s1 s2 s3 s4 s5 s6 s7 s8 dk hd lg pl pr cS x tl tw ou co of_) sz) [(ou, .inl (co, 1, .inr (.inl (vp_updL of_ 0 0))))] [] t) (va_A (wd_k_l_spread8 z sh rg mf mm mz ma sa s0 s1 s2 s3 s4 s5 s6 s7 s8 dk hd lg pl pr cS x tl tw ou co of_) sz)) 0 0 (va_A (wd_k_l_spread8 z sh rg mf mm mz ma sa s0 s1 s2 s3 s4 s5 s6 s7 s8 dk hd lg pl pr cS x tl tw ou co of_) sz) := by
  refine va_MetW (hh := [(0, 9, 12, 32)]) (cc := cL_spread) (maxL := 4) (ret := (some .int)) (by decide) rfl ?_
  intro p e s m args below meth c s₁ B hml hv
  obtain ⟨rfl, hsz, hP, hK, hD0, hM⟩ := hv
  have hx := B.exec
  have hb := B.bytes
  have hr := B.returns
  have hts := atoms_spec (ws := wsL_spread) B.pre
  have hown : s.vm.findClass RL = some m.cls := findClass_of_methodNamed B.named
  have hlocks := B.notSynchronized
  have htab := vx_table (x := yL_spread) B (hts _ List.mem_cons_self)
  subst hsz
  have hD := hD0.self (sz := s.heap.size)
  generalize hAe : va_A (wd_k_l_spread8 z sh rg mf mm mz ma sa s0 s1 s2 s3 s4 s5 s6 s7 s8 dk hd lg pl pr cS x tl tw ou co of_) s.heap.size = A at hD hM ⊢
  have hA : ∀ q : Nat, s.heap.size ≤ q → A q := fun q h => by rw [← hAe]; exact Or.inr h
  have hS : va_S A s.heap s.heap [] := va_S.rf
  have hP : va_P (dC, dI) vwCl [(x, .inr (15, [.ref sh, .ref tl, .ref tw, .int 0])), (sh, .inr (13, [.ref rg, .ref dk, .ref hd, .ref lg, .ref pl, .ref pr, .int 0, .int 0, .int 0, .int 0, .int 0, .int 0, .int 0, .int 0, .int 0, .int 0, .int 0])), (rg, .inr (11, [.ref mf, .ref mm, .ref mz, .ref ma, .ref sa, .int 0])), (sa, .inl (cS, 9, .inr (.inr (.inr (.inr (va_up (va_up (va_up (va_up (va_up (va_up (va_up (va_up (va_up (fun _ => none) 0 (some s0)) 1 (some s1)) 2 (some s2)) 3 (some s3)) 4 (some s4)) 5 (some s5)) 6 (some s6)) 7 (some s7)) 8 (some s8))))))), (s8, .inr (12, [.int 6, .int 4, .ref mz, .int 0, .int 0, .int 900, .int 0, .int 0])), (ou, .inl (co, 1, .inr (.inl of_)))] s.heap := hP
  have hD : va_D A [(x, .inr (15, [.ref sh, .ref tl, .ref tw, .int 0])), (sh, .inr (13, [.ref rg, .ref dk, .ref hd, .ref lg, .ref pl, .ref pr, .int 0, .int 0, .int 0, .int 0, .int 0, .int 0, .int 0, .int 0, .int 0, .int 0, .int 0])), (rg, .inr (11, [.ref mf, .ref mm, .ref mz, .ref ma, .ref sa, .int 0])), (sa, .inl (cS, 9, .inr (.inr (.inr (.inr (va_up (va_up (va_up (va_up (va_up (va_up (va_up (va_up (va_up (fun _ => none) 0 (some s0)) 1 (some s1)) 2 (some s2)) 3 (some s3)) 4 (some s4)) 5 (some s5)) 6 (some s6)) 7 (some s7)) 8 (some s8))))))), (s8, .inr (12, [.int 6, .int 4, .ref mz, .int 0, .int 0, .int 900, .int 0, .int 0])), (ou, .inl (co, 1, .inr (.inl of_)))] := hD
  have hl := lv_entry ([.ref x, .int 8, .ref ou]) (n := 4) (Nat.le_of_ble_eq_true rfl)
  rw [lg_entry_eq]
  generalize (lg_sl ([.ref x, .int 8, .ref ou]) ++ List.replicate (4 - (lg_sl ([.ref x, .int 8, .ref ou])).length) Slot.unset).toArray = ls at hl ⊢
  have hl : lv_has ls 4 [(0, .ref x), (1, .int 8), (2, .ref ou)] := hl
  refine lv_aload_n hx hb dL_spread_0 rfl (lv_at hl 2 rfl) ?_
  refine lv_iconst (v := 0) hx hb dL_spread_1 (by decide) ?_
  refine lv_aload_n hx hb dL_spread_2 rfl (lv_at hl 0 rfl) ?_
  refine lv_iload_n hx hb dL_spread_3 rfl (lv_at hl 1 rfl) ?_
  have hPc := hP.sub (ws' := [(x, .inr (15, [.ref sh, .ref tl, .ref tw, .int 0])), (sh, .inr (13, [.ref rg, .ref dk, .ref hd, .ref lg, .ref pl, .ref pr, .int 0, .int 0, .int 0, .int 0, .int 0, .int 0, .int 0, .int 0, .int 0, .int 0, .int 0])), (rg, .inr (11, [.ref mf, .ref mm, .ref mz, .ref ma, .ref sa, .int 0])), (sa, .inl (cS, 9, .inr (.inr (.inr (.inr (va_up (va_up (va_up (va_up (va_up (va_up (va_up (va_up (va_up (fun _ => none) 0 (some s0)) 1 (some s1)) 2 (some s2)) 3 (some s3)) 4 (some s4)) 5 (some s5)) 6 (some s6)) 7 (some s7)) 8 (some s8))))))), (s8, .inr (12, [.int 6, .int 4, .ref mz, .int 0, .int 0, .int 900, .int 0, .int 0]))]) [0, 1, 2, 3, 4] rfl
  have hDc := hD.sub (ws' := [(x, .inr (15, [.ref sh, .ref tl, .ref tw, .int 0])), (sh, .inr (13, [.ref rg, .ref dk, .ref hd, .ref lg, .ref pl, .ref pr, .int 0, .int 0, .int 0, .int 0, .int 0, .int 0, .int 0, .int 0, .int 0, .int 0, .int 0])), (rg, .inr (11, [.ref mf, .ref mm, .ref mz, .ref ma, .ref sa, .int 0])), (sa, .inl (cS, 9, .inr (.inr (.inr (.inr (va_up (va_up (va_up (va_up (va_up (va_up (va_up (va_up (va_up (fun _ => none) 0 (some s0)) 1 (some s1)) 2 (some s2)) 3 (some s3)) 4 (some s4)) 5 (some s5)) 6 (some s6)) 7 (some s7)) 8 (some s8))))))), (s8, .inr (12, [.int 6, .int 4, .ref mz, .int 0, .int 0, .int 900, .int 0, .int 0]))]) [0, 1, 2, 3, 4] (by decide) rfl
  have hKc := hK.sub (tys' := [(cS, .object RX8)]) [0] rfl
  have hFc := va_free (wc := [(x, .inr (15, [.ref sh, .ref tl, .ref tw, .int 0])), (sh, .inr (13, [.ref rg, .ref dk, .ref hd, .ref lg, .ref pl, .ref pr, .int 0, .int 0, .int 0, .int 0, .int 0, .int 0, .int 0, .int 0, .int 0, .int 0, .int 0])), (rg, .inr (11, [.ref mf, .ref mm, .ref mz, .ref ma, .ref sa, .int 0])), (sa, .inl (cS, 9, .inr (.inr (.inr (.inr (va_up (va_up (va_up (va_up (va_up (va_up (va_up (va_up (va_up (fun _ => none) 0 (some s0)) 1 (some s1)) 2 (some s2)) 3 (some s3)) 4 (some s4)) 5 (some s5)) 6 (some s6)) 7 (some s7)) 8 (some s8))))))), (s8, .inr (12, [.int 6, .int 4, .ref mz, .int 0, .int 0, .int 900, .int 0, .int 0]))]) hD hS hA [0, 1, 2, 3, 4] rfl
  refine va_calli (va_runV (As := [.int 8]) (rest := [.int 0, .ref ou]) ⟨hx, hb, hml, hown, hts⟩ (k_x_spread8 l dC dI z zK zV sh rg mf mm mz ma sa s0 s1 s2 s3 s4 s5 s6 s7 s8 dk hd lg pl pr cS x tl tw s.heap.size) (cwV 1 hts gL_spread_X11_spread rfl rfl rfl (by decide +kernel) ⟨Nat.le_of_ble_eq_true rfl, Nat.le_of_ble_eq_true rfl⟩) ⟨kP_blind, va_recv hKc hPc (ci := 15) (q0 := 0) rfl rfl, kP_go hPc hKc hDc hFc hM hS⟩ rfl rfl hl.1 rfl (lv_room (Nat.le_of_ble_eq_true rfl)) dL_spread_4 ⟨Nat.le_of_ble_eq_true rfl, Nat.le_of_ble_eq_true rfl⟩) hS (fun q _ h => hFc q h) hFc (fun r1 u t H1 locs ht hvm hw hB hz1 hk1 hS => ?_)
  obtain ⟨hP, hD, hK⟩ := kJ (wr := [(ou, .inl (co, 1, .inr (.inl of_)))]) (w1 := []) (t1 := []) hP hD hK [0, 1, 2, 3, 4] [5] rfl rfl (by decide) (by decide) hk1 hFc ht hvm hB
  generalize H1 = H at hP hS ⊢
  have hP : va_P (dC, dI) vwCl [(ou, .inl (co, 1, .inr (.inl of_)))] H := hP
  have hD : va_D A [(ou, .inl (co, 1, .inr (.inl of_)))] := hD
  have hK : va_K (dC, dI) vwCl [(cS, .object RX8), (co, .long)] s := hK
  obtain rfl : 0 = r1 := hw
  refine lv_i2l (v := 0) hx hb dL_spread_7 (by decide +kernel) ?_
  refine va_last hx hb hK hP hD hS 0 1 rfl rfl (pk_in 0 1 (by decide) rfl) dL_spread_8 (fun H locs hP hD hS => ?_)
  have hP : va_P (dC, dI) vwCl [(ou, .inl (co, 1, .inr (.inl (vp_updL of_ 0 0))))] H := hP
  have hD : va_D A [(ou, .inl (co, 1, .inr (.inl (vp_updL of_ 0 0))))] := hD
  refine lv_goto (tgt := 15) hx hb dL_spread_9 (by decide) ?_
  refine lv_iconst (v := 0) hx hb dL_spread_15 (by decide) ?_
  exact W.iret (v := 0) hx hb hr (fun t ht hW => ⟨⟨0, (), rfl, rfl, kB_end (w9 := [(ou, .inl (co, 1, .inr (.inl (vp_updL of_ 0 0))))]) (t9 := []) hP hK hD [0] [] rfl (by decide) rfl rfl t ht hW⟩, hS.F ht⟩) hS.2.2 dL_spread_16
abbrev wd_k_l_spread_bad (z : Nat → Nat) (sh : Nat) (rg : Nat) (mf : Nat) (mm : Nat) (mz : Nat) (ma : Nat) (sa : Nat) (s0 : Nat) (s1 : Nat) (s2 : Nat) (s3 : Nat) (s4 : Nat) (s5 : Nat) (s6 : Nat) (s7 : Nat) (s8 : Nat) (dk : Nat) (hd : Nat) (lg : Nat) (pl : Nat) (pr : Nat) (cS : ClassId) (x : Nat) (tl : Nat) (tw : Nat) (p0 : Int32) (ou : Nat) (co : ClassId) (of_ : Nat → Int64) : va_W := [(x, .inr (15, [.ref sh, .ref tl, .ref tw, .int 0])), (sh, .inr (13, [.ref rg, .ref dk, .ref hd, .ref lg, .ref pl, .ref pr, .int 0, .int 0, .int 0, .int 0, .int 0, .int 0, .int 0, .int 0, .int 0, .int 0, .int 0])), (rg, .inr (11, [.ref mf, .ref mm, .ref mz, .ref ma, .ref sa, .int 0])), (sa, .inl (cS, 9, .inr (.inr (.inr (.inr (va_up (va_up (va_up (va_up (va_up (va_up (va_up (va_up (va_up (fun _ => none) 0 (some s0)) 1 (some s1)) 2 (some s2)) 3 (some s3)) 4 (some s4)) 5 (some s5)) 6 (some s6)) 7 (some s7)) 8 (some s8))))))), (ou, .inl (co, 1, .inr (.inl of_)))]
set_option maxHeartbeats 4000000 in
set_option maxRecDepth 100000 in
theorem k_l_spread_bad (l : Launch) (dC : Nat → ClassId) (dI : Nat → Nat → Nat) (z zK zV : Nat → Nat) (sh : Nat) (rg : Nat) (mf : Nat) (mm : Nat) (mz : Nat) (ma : Nat) (sa : Nat) (s0 : Nat) (s1 : Nat) (s2 : Nat) (s3 : Nat) (s4 : Nat) (s5 : Nat) (s6 : Nat) (s7 : Nat) (s8 : Nat) (dk : Nat) (hd : Nat) (lg : Nat) (pl : Nat) (pr : Nat) (cS : ClassId) (x : Nat) (tl : Nat) (tw : Nat) (p0 : Int32) (ou : Nat) (co : ClassId) (of_ : Nat → Int64) (sz : Nat) (hst : l.stackTraces = false) (hb0 : p0 < 0 ∨ 9 ≤ p0) : Met l yL_spread wsL_spread ({ frames := 7, cells := 1, slots := 6, locals := 104 }) (kP dC dI z zK zV [.ref x, .int p0, .ref ou] sz (wd_k_l_spread_bad z sh rg mf mm mz ma sa s0 s1 s2 s3 s4 s5 s6 s7 s8 dk hd lg pl pr cS x tl tw p0 ou co of_) [(cS, .object RX8), (co, .long)]) (va_Qi (fun (r : Int32) (_ : Unit) => 1 = r) (fun _ t => kB (dC, dI) (va_A (wd_k_l_spread_bad z sh rg mf mm mz ma sa s0 s1 s2 s3 s4 s5 s6 s7 s8 dk hd lg pl pr cS x tl tw p0 ou co of_) sz) [] [] t) (va_A (wd_k_l_spread_bad z sh rg mf mm mz ma sa s0 s1 s2 s3 s4 s5 s6 s7 s8 dk hd lg pl pr cS x tl tw p0 ou co of_) sz)) 1 6 (va_A (wd_k_l_spread_bad z sh rg mf mm mz ma sa s0 s1 s2 s3 s4 s5 s6 s7 s8 dk hd lg pl pr cS x tl tw p0 ou co of_) sz) := by
  refine va_MetW (hh := [(0, 9, 12, 32)]) (cc := cL_spread) (maxL := 4) (ret := (some .int)) (by decide) rfl ?_
  intro p e s m args below meth c s₁ B hml hv
  obtain ⟨rfl, hsz, hP, hK, hD0, hM⟩ := hv
  have hx := B.exec
  have hb := B.bytes
  have hr := B.returns
  have hts := atoms_spec (ws := wsL_spread) B.pre
  have hown : s.vm.findClass RL = some m.cls := findClass_of_methodNamed B.named
  have hlocks := B.notSynchronized
  have htab := vx_table (x := yL_spread) B (hts _ List.mem_cons_self)
  subst hsz
  have hD := hD0.self (sz := s.heap.size)
  generalize hAe : va_A (wd_k_l_spread_bad z sh rg mf mm mz ma sa s0 s1 s2 s3 s4 s5 s6 s7 s8 dk hd lg pl pr cS x tl tw p0 ou co of_) s.heap.size = A at hD hM ⊢
  have hA : ∀ q : Nat, s.heap.size ≤ q → A q := fun q h => by rw [← hAe]; exact Or.inr h
  have hS : va_S A s.heap s.heap [] := va_S.rf
  have hP : va_P (dC, dI) vwCl [(x, .inr (15, [.ref sh, .ref tl, .ref tw, .int 0])), (sh, .inr (13, [.ref rg, .ref dk, .ref hd, .ref lg, .ref pl, .ref pr, .int 0, .int 0, .int 0, .int 0, .int 0, .int 0, .int 0, .int 0, .int 0, .int 0, .int 0])), (rg, .inr (11, [.ref mf, .ref mm, .ref mz, .ref ma, .ref sa, .int 0])), (sa, .inl (cS, 9, .inr (.inr (.inr (.inr (va_up (va_up (va_up (va_up (va_up (va_up (va_up (va_up (va_up (fun _ => none) 0 (some s0)) 1 (some s1)) 2 (some s2)) 3 (some s3)) 4 (some s4)) 5 (some s5)) 6 (some s6)) 7 (some s7)) 8 (some s8))))))), (ou, .inl (co, 1, .inr (.inl of_)))] s.heap := hP
  have hD : va_D A [(x, .inr (15, [.ref sh, .ref tl, .ref tw, .int 0])), (sh, .inr (13, [.ref rg, .ref dk, .ref hd, .ref lg, .ref pl, .ref pr, .int 0, .int 0, .int 0, .int 0, .int 0, .int 0, .int 0, .int 0, .int 0, .int 0, .int 0])), (rg, .inr (11, [.ref mf, .ref mm, .ref mz, .ref ma, .ref sa, .int 0])), (sa, .inl (cS, 9, .inr (.inr (.inr (.inr (va_up (va_up (va_up (va_up (va_up (va_up (va_up (va_up (va_up (fun _ => none) 0 (some s0)) 1 (some s1)) 2 (some s2)) 3 (some s3)) 4 (some s4)) 5 (some s5)) 6 (some s6)) 7 (some s7)) 8 (some s8))))))), (ou, .inl (co, 1, .inr (.inl of_)))] := hD
  have hl := lv_entry ([.ref x, .int p0, .ref ou]) (n := 4) (Nat.le_of_ble_eq_true rfl)
  rw [lg_entry_eq]
  generalize (lg_sl ([.ref x, .int p0, .ref ou]) ++ List.replicate (4 - (lg_sl ([.ref x, .int p0, .ref ou])).length) Slot.unset).toArray = ls at hl ⊢
  have hl : lv_has ls 4 [(0, .ref x), (1, .int p0), (2, .ref ou)] := hl
  refine lv_aload_n hx hb dL_spread_0 rfl (lv_at hl 2 rfl) ?_
  refine lv_iconst (v := 0) hx hb dL_spread_1 (by decide) ?_
  refine lv_aload_n hx hb dL_spread_2 rfl (lv_at hl 0 rfl) ?_
  refine lv_iload_n hx hb dL_spread_3 rfl (lv_at hl 1 rfl) ?_
  have hPc := hP.sub (ws' := [(x, .inr (15, [.ref sh, .ref tl, .ref tw, .int 0])), (sh, .inr (13, [.ref rg, .ref dk, .ref hd, .ref lg, .ref pl, .ref pr, .int 0, .int 0, .int 0, .int 0, .int 0, .int 0, .int 0, .int 0, .int 0, .int 0, .int 0])), (rg, .inr (11, [.ref mf, .ref mm, .ref mz, .ref ma, .ref sa, .int 0])), (sa, .inl (cS, 9, .inr (.inr (.inr (.inr (va_up (va_up (va_up (va_up (va_up (va_up (va_up (va_up (va_up (fun _ => none) 0 (some s0)) 1 (some s1)) 2 (some s2)) 3 (some s3)) 4 (some s4)) 5 (some s5)) 6 (some s6)) 7 (some s7)) 8 (some s8)))))))]) [0, 1, 2, 3] rfl
  have hDc := hD.sub (ws' := [(x, .inr (15, [.ref sh, .ref tl, .ref tw, .int 0])), (sh, .inr (13, [.ref rg, .ref dk, .ref hd, .ref lg, .ref pl, .ref pr, .int 0, .int 0, .int 0, .int 0, .int 0, .int 0, .int 0, .int 0, .int 0, .int 0, .int 0])), (rg, .inr (11, [.ref mf, .ref mm, .ref mz, .ref ma, .ref sa, .int 0])), (sa, .inl (cS, 9, .inr (.inr (.inr (.inr (va_up (va_up (va_up (va_up (va_up (va_up (va_up (va_up (va_up (fun _ => none) 0 (some s0)) 1 (some s1)) 2 (some s2)) 3 (some s3)) 4 (some s4)) 5 (some s5)) 6 (some s6)) 7 (some s7)) 8 (some s8)))))))]) [0, 1, 2, 3] (by decide) rfl
  have hKc := hK.sub (tys' := [(cS, .object RX8)]) [0] rfl
  have hFc := va_free (wc := [(x, .inr (15, [.ref sh, .ref tl, .ref tw, .int 0])), (sh, .inr (13, [.ref rg, .ref dk, .ref hd, .ref lg, .ref pl, .ref pr, .int 0, .int 0, .int 0, .int 0, .int 0, .int 0, .int 0, .int 0, .int 0, .int 0, .int 0])), (rg, .inr (11, [.ref mf, .ref mm, .ref mz, .ref ma, .ref sa, .int 0])), (sa, .inl (cS, 9, .inr (.inr (.inr (.inr (va_up (va_up (va_up (va_up (va_up (va_up (va_up (va_up (va_up (fun _ => none) 0 (some s0)) 1 (some s1)) 2 (some s2)) 3 (some s3)) 4 (some s4)) 5 (some s5)) 6 (some s6)) 7 (some s7)) 8 (some s8)))))))]) hD hS hA [0, 1, 2, 3] rfl
  refine vx_calli (vx_runV (As := [.int p0]) (rest := [.int 0, .ref ou]) ⟨hx, hb, hml, hown, hts⟩ (k_x_spread_bad l dC dI z zK zV sh rg mf mm mz ma sa s0 s1 s2 s3 s4 s5 s6 s7 s8 dk hd lg pl pr cS x tl tw p0 s.heap.size hst (hb0)) (cwV 1 hts gL_spread_X11_spread rfl rfl rfl (by decide +kernel) ⟨Nat.le_of_ble_eq_true rfl, Nat.le_of_ble_eq_true rfl⟩) ⟨kP_blind, va_recv hKc hPc (ci := 15) (q0 := 0) rfl rfl, kP_go hPc hKc hDc hFc hM hS⟩ rfl rfl hl.1 rfl (lv_room (Nat.le_of_ble_eq_true rfl)) dL_spread_4 ⟨Nat.le_of_ble_eq_true rfl, Nat.le_of_ble_eq_true rfl⟩) hS (fun q _ h => hFc q h) hFc (fun q _ h => hFc q h) (fun E ce q9 u t H1 locs ht hvm hpx hbx hz1 hk1 hS hcell hcv hcl => ?_) (fun r1 u t H1 locs ht hvm hw hB hz1 hk1 hS => ?_)
  · skip
    obtain rfl : "java/lang/IndexOutOfBoundsException" = E := hbx
    obtain ⟨hP, hD, hK⟩ := kJ (wr := [(ou, .inl (co, 1, .inr (.inl of_)))]) (w1 := []) (t1 := []) hP hD hK [0, 1, 2, 3] [4] rfl rfl (by decide) (by decide) hk1 hFc ht hvm (kB_nil t (va_K.moved hvm (hK.sub (tys' := []) [] rfl)))
    generalize H1 = H at hP hS hcell ⊢
    have hP : va_P (dC, dI) vwCl [(ou, .inl (co, 1, .inr (.inl of_)))] H := hP
    have hD : va_D A [(ou, .inl (co, 1, .inr (.inl of_)))] := hD
    have hK : va_K (dC, dI) vwCl [(cS, .object RX8), (co, .long)] s := hK
    refine vx_catch hown [] ⟨0, 9, 12, 32⟩ _ (htab.trans rfl) (fun z hz => absurd hz List.not_mem_nil) rfl (by decide) (hts (.classLink RL 32 "java/lang/IndexOutOfBoundsException") (by decide +kernel)) (va_Nw.use rfl (hM.2.2.2.2.2.2.2.2.2.1 _ (List.mem_of_getElem? (i := 1) rfl))) hcell hcv hcl ?_
    refine lv_astore_n (lv' := [(3, .ref q9), (0, .ref x), (1, .int p0), (2, .ref ou)]) hx hb dL_spread_12 rfl hl (by decide) rfl (fun ls hl => ?_)
    refine lv_iconst (v := 1) hx hb dL_spread_13 (by decide) ?_
    refine W.widen (k := 1) (n := 6) (Nat.le_of_ble_eq_true rfl) (Nat.le_of_ble_eq_true rfl) ?_
    exact W.iret (v := 1) hx hb hr (fun t ht hW => ⟨⟨1, (), rfl, rfl, kB_end (w9 := []) (t9 := []) hP hK hD [] [] rfl (by decide) rfl rfl t ht hW⟩, hS.F ht⟩) hS.2.2 dL_spread_14
  · skip
    exact hw.elim
abbrev wd_k_l_strength0 (z : Nat → Nat) (sh : Nat) (rg : Nat) (mf : Nat) (mm : Nat) (mz : Nat) (ma : Nat) (sa : Nat) (s0 : Nat) (s1 : Nat) (s2 : Nat) (s3 : Nat) (s4 : Nat) (s5 : Nat) (s6 : Nat) (s7 : Nat) (s8 : Nat) (dk : Nat) (hd : Nat) (lg : Nat) (pl : Nat) (pr : Nat) (cS : ClassId) (x : Nat) (tl : Nat) (tw : Nat) (ou : Nat) (co : ClassId) (of_ : Nat → Int64) : va_W := [(x, .inr (15, [.ref sh, .ref tl, .ref tw, .int 0])), (sh, .inr (13, [.ref rg, .ref dk, .ref hd, .ref lg, .ref pl, .ref pr, .int 0, .int 0, .int 0, .int 0, .int 0, .int 0, .int 0, .int 0, .int 0, .int 0, .int 0])), (rg, .inr (11, [.ref mf, .ref mm, .ref mz, .ref ma, .ref sa, .int 0])), (sa, .inl (cS, 9, .inr (.inr (.inr (.inr (va_up (va_up (va_up (va_up (va_up (va_up (va_up (va_up (va_up (fun _ => none) 0 (some s0)) 1 (some s1)) 2 (some s2)) 3 (some s3)) 4 (some s4)) 5 (some s5)) 6 (some s6)) 7 (some s7)) 8 (some s8))))))), (s0, .inr (12, [.int 8, .int 6, .ref mf, .int 1, .int 0, .int 900, .int 0, .int 0])), (ou, .inl (co, 1, .inr (.inl of_)))]
set_option maxHeartbeats 4000000 in
set_option maxRecDepth 100000 in
theorem k_l_strength0 (l : Launch) (dC : Nat → ClassId) (dI : Nat → Nat → Nat) (z zK zV : Nat → Nat) (sh : Nat) (rg : Nat) (mf : Nat) (mm : Nat) (mz : Nat) (ma : Nat) (sa : Nat) (s0 : Nat) (s1 : Nat) (s2 : Nat) (s3 : Nat) (s4 : Nat) (s5 : Nat) (s6 : Nat) (s7 : Nat) (s8 : Nat) (dk : Nat) (hd : Nat) (lg : Nat) (pl : Nat) (pr : Nat) (cS : ClassId) (x : Nat) (tl : Nat) (tw : Nat) (ou : Nat) (co : ClassId) (of_ : Nat → Int64) (sz : Nat)  : Met l yL_strength wsL_strength ({ frames := 2, cells := 0, slots := 0, locals := 43 }) (kP dC dI z zK zV [.ref x, .int 0, .ref ou] sz (wd_k_l_strength0 z sh rg mf mm mz ma sa s0 s1 s2 s3 s4 s5 s6 s7 s8 dk hd lg pl pr cS x tl tw ou co of_) [(cS, .object RX8), (co, .long)]) (va_Qi (fun (r : Int32) (_ : Unit) => 0 = r) (fun _ t => kB (dC, dI) (va_A (wd_k_l_strength0 z sh rg mf mm mz ma sa s0 s1 s2 s3 s4 s5 s6 s7 s8 dk hd lg pl pr cS x tl tw ou co of_) sz) [(ou, .inl (co, 1, .inr (.inl (vp_updL of_ 0 900))))] [] t) (va_A (wd_k_l_strength0 z sh rg mf mm mz ma sa s0 s1 s2 s3 s4 s5 s6 s7 s8 dk hd lg pl pr cS x tl tw ou co of_) sz)) 0 0 (va_A (wd_k_l_strength0 z sh rg mf mm mz ma sa s0 s1 s2 s3 s4 s5 s6 s7 s8 dk hd lg pl pr cS x tl tw ou co of_) sz) := by
  refine va_MetW (hh := [(0, 9, 12, 32)]) (cc := cL_strength) (maxL := 4) (ret := (some .int)) (by decide) rfl ?_
  intro p e s m args below meth c s₁ B hml hv
  obtain ⟨rfl, hsz, hP, hK, hD0, hM⟩ := hv
  have hx := B.exec
  have hb := B.bytes
  have hr := B.returns
  have hts := atoms_spec (ws := wsL_strength) B.pre
  have hown : s.vm.findClass RL = some m.cls := findClass_of_methodNamed B.named
  have hlocks := B.notSynchronized
  have htab := vx_table (x := yL_strength) B (hts _ List.mem_cons_self)
  subst hsz
  have hD := hD0.self (sz := s.heap.size)
  generalize hAe : va_A (wd_k_l_strength0 z sh rg mf mm mz ma sa s0 s1 s2 s3 s4 s5 s6 s7 s8 dk hd lg pl pr cS x tl tw ou co of_) s.heap.size = A at hD hM ⊢
  have hA : ∀ q : Nat, s.heap.size ≤ q → A q := fun q h => by rw [← hAe]; exact Or.inr h
  have hS : va_S A s.heap s.heap [] := va_S.rf
  have hP : va_P (dC, dI) vwCl [(x, .inr (15, [.ref sh, .ref tl, .ref tw, .int 0])), (sh, .inr (13, [.ref rg, .ref dk, .ref hd, .ref lg, .ref pl, .ref pr, .int 0, .int 0, .int 0, .int 0, .int 0, .int 0, .int 0, .int 0, .int 0, .int 0, .int 0])), (rg, .inr (11, [.ref mf, .ref mm, .ref mz, .ref ma, .ref sa, .int 0])), (sa, .inl (cS, 9, .inr (.inr (.inr (.inr (va_up (va_up (va_up (va_up (va_up (va_up (va_up (va_up (va_up (fun _ => none) 0 (some s0)) 1 (some s1)) 2 (some s2)) 3 (some s3)) 4 (some s4)) 5 (some s5)) 6 (some s6)) 7 (some s7)) 8 (some s8))))))), (s0, .inr (12, [.int 8, .int 6, .ref mf, .int 1, .int 0, .int 900, .int 0, .int 0])), (ou, .inl (co, 1, .inr (.inl of_)))] s.heap := hP
  have hD : va_D A [(x, .inr (15, [.ref sh, .ref tl, .ref tw, .int 0])), (sh, .inr (13, [.ref rg, .ref dk, .ref hd, .ref lg, .ref pl, .ref pr, .int 0, .int 0, .int 0, .int 0, .int 0, .int 0, .int 0, .int 0, .int 0, .int 0, .int 0])), (rg, .inr (11, [.ref mf, .ref mm, .ref mz, .ref ma, .ref sa, .int 0])), (sa, .inl (cS, 9, .inr (.inr (.inr (.inr (va_up (va_up (va_up (va_up (va_up (va_up (va_up (va_up (va_up (fun _ => none) 0 (some s0)) 1 (some s1)) 2 (some s2)) 3 (some s3)) 4 (some s4)) 5 (some s5)) 6 (some s6)) 7 (some s7)) 8 (some s8))))))), (s0, .inr (12, [.int 8, .int 6, .ref mf, .int 1, .int 0, .int 900, .int 0, .int 0])), (ou, .inl (co, 1, .inr (.inl of_)))] := hD
  have hl := lv_entry ([.ref x, .int 0, .ref ou]) (n := 4) (Nat.le_of_ble_eq_true rfl)
  rw [lg_entry_eq]
  generalize (lg_sl ([.ref x, .int 0, .ref ou]) ++ List.replicate (4 - (lg_sl ([.ref x, .int 0, .ref ou])).length) Slot.unset).toArray = ls at hl ⊢
  have hl : lv_has ls 4 [(0, .ref x), (1, .int 0), (2, .ref ou)] := hl
  refine lv_aload_n hx hb dL_strength_0 rfl (lv_at hl 2 rfl) ?_
  refine lv_iconst (v := 0) hx hb dL_strength_1 (by decide) ?_
  refine lv_aload_n hx hb dL_strength_2 rfl (lv_at hl 0 rfl) ?_
  refine lv_iload_n hx hb dL_strength_3 rfl (lv_at hl 1 rfl) ?_
  have hPc := hP.sub (ws' := [(x, .inr (15, [.ref sh, .ref tl, .ref tw, .int 0])), (sh, .inr (13, [.ref rg, .ref dk, .ref hd, .ref lg, .ref pl, .ref pr, .int 0, .int 0, .int 0, .int 0, .int 0, .int 0, .int 0, .int 0, .int 0, .int 0, .int 0])), (rg, .inr (11, [.ref mf, .ref mm, .ref mz, .ref ma, .ref sa, .int 0])), (sa, .inl (cS, 9, .inr (.inr (.inr (.inr (va_up (va_up (va_up (va_up (va_up (va_up (va_up (va_up (va_up (fun _ => none) 0 (some s0)) 1 (some s1)) 2 (some s2)) 3 (some s3)) 4 (some s4)) 5 (some s5)) 6 (some s6)) 7 (some s7)) 8 (some s8))))))), (s0, .inr (12, [.int 8, .int 6, .ref mf, .int 1, .int 0, .int 900, .int 0, .int 0]))]) [0, 1, 2, 3, 4] rfl
  have hDc := hD.sub (ws' := [(x, .inr (15, [.ref sh, .ref tl, .ref tw, .int 0])), (sh, .inr (13, [.ref rg, .ref dk, .ref hd, .ref lg, .ref pl, .ref pr, .int 0, .int 0, .int 0, .int 0, .int 0, .int 0, .int 0, .int 0, .int 0, .int 0, .int 0])), (rg, .inr (11, [.ref mf, .ref mm, .ref mz, .ref ma, .ref sa, .int 0])), (sa, .inl (cS, 9, .inr (.inr (.inr (.inr (va_up (va_up (va_up (va_up (va_up (va_up (va_up (va_up (va_up (fun _ => none) 0 (some s0)) 1 (some s1)) 2 (some s2)) 3 (some s3)) 4 (some s4)) 5 (some s5)) 6 (some s6)) 7 (some s7)) 8 (some s8))))))), (s0, .inr (12, [.int 8, .int 6, .ref mf, .int 1, .int 0, .int 900, .int 0, .int 0]))]) [0, 1, 2, 3, 4] (by decide) rfl
  have hKc := hK.sub (tys' := [(cS, .object RX8)]) [0] rfl
  have hFc := va_free (wc := [(x, .inr (15, [.ref sh, .ref tl, .ref tw, .int 0])), (sh, .inr (13, [.ref rg, .ref dk, .ref hd, .ref lg, .ref pl, .ref pr, .int 0, .int 0, .int 0, .int 0, .int 0, .int 0, .int 0, .int 0, .int 0, .int 0, .int 0])), (rg, .inr (11, [.ref mf, .ref mm, .ref mz, .ref ma, .ref sa, .int 0])), (sa, .inl (cS, 9, .inr (.inr (.inr (.inr (va_up (va_up (va_up (va_up (va_up (va_up (va_up (va_up (va_up (fun _ => none) 0 (some s0)) 1 (some s1)) 2 (some s2)) 3 (some s3)) 4 (some s4)) 5 (some s5)) 6 (some s6)) 7 (some s7)) 8 (some s8))))))), (s0, .inr (12, [.int 8, .int 6, .ref mf, .int 1, .int 0, .int 900, .int 0, .int 0]))]) hD hS hA [0, 1, 2, 3, 4] rfl
  refine va_calli (va_runV (As := [.int 0]) (rest := [.int 0, .ref ou]) ⟨hx, hb, hml, hown, hts⟩ (k_x_strength0 l dC dI z zK zV sh rg mf mm mz ma sa s0 s1 s2 s3 s4 s5 s6 s7 s8 dk hd lg pl pr cS x tl tw s.heap.size) (cwV 1 hts gL_strength_X11_strength rfl rfl rfl (by decide +kernel) ⟨Nat.le_of_ble_eq_true rfl, Nat.le_of_ble_eq_true rfl⟩) ⟨kP_blind, va_recv hKc hPc (ci := 15) (q0 := 0) rfl rfl, kP_go hPc hKc hDc hFc hM hS⟩ rfl rfl hl.1 rfl (lv_room (Nat.le_of_ble_eq_true rfl)) dL_strength_4 ⟨Nat.le_of_ble_eq_true rfl, Nat.le_of_ble_eq_true rfl⟩) hS (fun q _ h => hFc q h) hFc (fun r1 u t H1 locs ht hvm hw hB hz1 hk1 hS => ?_)
  obtain ⟨hP, hD, hK⟩ := kJ (wr := [(ou, .inl (co, 1, .inr (.inl of_)))]) (w1 := []) (t1 := []) hP hD hK [0, 1, 2, 3, 4] [5] rfl rfl (by decide) (by decide) hk1 hFc ht hvm hB
  generalize H1 = H at hP hS ⊢
  have hP : va_P (dC, dI) vwCl [(ou, .inl (co, 1, .inr (.inl of_)))] H := hP
  have hD : va_D A [(ou, .inl (co, 1, .inr (.inl of_)))] := hD
  have hK : va_K (dC, dI) vwCl [(cS, .object RX8), (co, .long)] s := hK
  obtain rfl : 900 = r1 := hw
  refine lv_i2l (v := 900) hx hb dL_strength_7 (by decide +kernel) ?_
  refine va_last hx hb hK hP hD hS 0 1 rfl rfl (pk_in 0 1 (by decide) rfl) dL_strength_8 (fun H locs hP hD hS => ?_)
  have hP : va_P (dC, dI) vwCl [(ou, .inl (co, 1, .inr (.inl (vp_updL of_ 0 900))))] H := hP
  have hD : va_D A [(ou, .inl (co, 1, .inr (.inl (vp_updL of_ 0 900))))] := hD
  refine lv_goto (tgt := 15) hx hb dL_strength_9 (by decide) ?_
  refine lv_iconst (v := 0) hx hb dL_strength_15 (by decide) ?_
  exact W.iret (v := 0) hx hb hr (fun t ht hW => ⟨⟨0, (), rfl, rfl, kB_end (w9 := [(ou, .inl (co, 1, .inr (.inl (vp_updL of_ 0 900))))]) (t9 := []) hP hK hD [0] [] rfl (by decide) rfl rfl t ht hW⟩, hS.F ht⟩) hS.2.2 dL_strength_16
abbrev wd_k_l_strength1 (z : Nat → Nat) (sh : Nat) (rg : Nat) (mf : Nat) (mm : Nat) (mz : Nat) (ma : Nat) (sa : Nat) (s0 : Nat) (s1 : Nat) (s2 : Nat) (s3 : Nat) (s4 : Nat) (s5 : Nat) (s6 : Nat) (s7 : Nat) (s8 : Nat) (dk : Nat) (hd : Nat) (lg : Nat) (pl : Nat) (pr : Nat) (cS : ClassId) (x : Nat) (tl : Nat) (tw : Nat) (ou : Nat) (co : ClassId) (of_ : Nat → Int64) : va_W := [(x, .inr (15, [.ref sh, .ref tl, .ref tw, .int 0])), (sh, .inr (13, [.ref rg, .ref dk, .ref hd, .ref lg, .ref pl, .ref pr, .int 0, .int 0, .int 0, .int 0, .int 0, .int 0, .int 0, .int 0, .int 0, .int 0, .int 0])), (rg, .inr (11, [.ref mf, .ref mm, .ref mz, .ref ma, .ref sa, .int 0])), (sa, .inl (cS, 9, .inr (.inr (.inr (.inr (va_up (va_up (va_up (va_up (va_up (va_up (va_up (va_up (va_up (fun _ => none) 0 (some s0)) 1 (some s1)) 2 (some s2)) 3 (some s3)) 4 (some s4)) 5 (some s5)) 6 (some s6)) 7 (some s7)) 8 (some s8))))))), (s1, .inr (12, [.int 7, .int 5, .ref mf, .int 1, .int 0, .int 900, .int 0, .int 0])), (ou, .inl (co, 1, .inr (.inl of_)))]
set_option maxHeartbeats 4000000 in
set_option maxRecDepth 100000 in
theorem k_l_strength1 (l : Launch) (dC : Nat → ClassId) (dI : Nat → Nat → Nat) (z zK zV : Nat → Nat) (sh : Nat) (rg : Nat) (mf : Nat) (mm : Nat) (mz : Nat) (ma : Nat) (sa : Nat) (s0 : Nat) (s1 : Nat) (s2 : Nat) (s3 : Nat) (s4 : Nat) (s5 : Nat) (s6 : Nat) (s7 : Nat) (s8 : Nat) (dk : Nat) (hd : Nat) (lg : Nat) (pl : Nat) (pr : Nat) (cS : ClassId) (x : Nat) (tl : Nat) (tw : Nat) (ou : Nat) (co : ClassId) (of_ : Nat → Int64) (sz : Nat)  : Met l yL_strength wsL_strength ({ frames := 2, cells := 0, slots := 0, locals := 43 }) (kP dC dI z zK zV [.ref x, .int 1, .ref ou] sz (wd_k_l_strength1 z sh rg mf mm mz ma sa s0 s1 s2 s3 s4 s5 s6 s7 s8 dk hd lg pl pr cS x tl tw ou co of_) [(cS, .object RX8), (co, .long)]) (va_Qi (fun (r : Int32) (_ : Unit) => 0 = r) (fun _ t => kB (dC, dI) (va_A (wd_k_l_strength1 z sh rg mf mm mz ma sa s0 s1 s2 s3 s4 s5 s6 s7 s8 dk hd lg pl pr cS x tl tw ou co of_) sz) [(ou, .inl (co, 1, .inr (.inl (vp_updL of_ 0 900))))] [] t) (va_A (wd_k_l_strength1 z sh rg mf mm mz ma sa s0 s1 s2 s3 s4 s5 s6 s7 s8 dk hd lg pl pr cS x tl tw ou co of_) sz)) 0 0 (va_A (wd_k_l_strength1 z sh rg mf mm mz ma sa s0 s1 s2 s3 s4 s5 s6 s7 s8 dk hd lg pl pr cS x tl tw ou co of_) sz) := by
  refine va_MetW (hh := [(0, 9, 12, 32)]) (cc := cL_strength) (maxL := 4) (ret := (some .int)) (by decide) rfl ?_
  intro p e s m args below meth c s₁ B hml hv
  obtain ⟨rfl, hsz, hP, hK, hD0, hM⟩ := hv
  have hx := B.exec
  have hb := B.bytes
  have hr := B.returns
  have hts := atoms_spec (ws := wsL_strength) B.pre
  have hown : s.vm.findClass RL = some m.cls := findClass_of_methodNamed B.named
  have hlocks := B.notSynchronized
  have htab := vx_table (x := yL_strength) B (hts _ List.mem_cons_self)
  subst hsz
  have hD := hD0.self (sz := s.heap.size)
  generalize hAe : va_A (wd_k_l_strength1 z sh rg mf mm mz ma sa s0 s1 s2 s3 s4 s5 s6 s7 s8 dk hd lg pl pr cS x tl tw ou co of_) s.heap.size = A at hD hM ⊢
  have hA : ∀ q : Nat, s.heap.size ≤ q → A q := fun q h => by rw [← hAe]; exact Or.inr h
  have hS : va_S A s.heap s.heap [] := va_S.rf
  have hP : va_P (dC, dI) vwCl [(x, .inr (15, [.ref sh, .ref tl, .ref tw, .int 0])), (sh, .inr (13, [.ref rg, .ref dk, .ref hd, .ref lg, .ref pl, .ref pr, .int 0, .int 0, .int 0, .int 0, .int 0, .int 0, .int 0, .int 0, .int 0, .int 0, .int 0])), (rg, .inr (11, [.ref mf, .ref mm, .ref mz, .ref ma, .ref sa, .int 0])), (sa, .inl (cS, 9, .inr (.inr (.inr (.inr (va_up (va_up (va_up (va_up (va_up (va_up (va_up (va_up (va_up (fun _ => none) 0 (some s0)) 1 (some s1)) 2 (some s2)) 3 (some s3)) 4 (some s4)) 5 (some s5)) 6 (some s6)) 7 (some s7)) 8 (some s8))))))), (s1, .inr (12, [.int 7, .int 5, .ref mf, .int 1, .int 0, .int 900, .int 0, .int 0])), (ou, .inl (co, 1, .inr (.inl of_)))] s.heap := hP
  have hD : va_D A [(x, .inr (15, [.ref sh, .ref tl, .ref tw, .int 0])), (sh, .inr (13, [.ref rg, .ref dk, .ref hd, .ref lg, .ref pl, .ref pr, .int 0, .int 0, .int 0, .int 0, .int 0, .int 0, .int 0, .int 0, .int 0, .int 0, .int 0])), (rg, .inr (11, [.ref mf, .ref mm, .ref mz, .ref ma, .ref sa, .int 0])), (sa, .inl (cS, 9, .inr (.inr (.inr (.inr (va_up (va_up (va_up (va_up (va_up (va_up (va_up (va_up (va_up (fun _ => none) 0 (some s0)) 1 (some s1)) 2 (some s2)) 3 (some s3)) 4 (some s4)) 5 (some s5)) 6 (some s6)) 7 (some s7)) 8 (some s8))))))), (s1, .inr (12, [.int 7, .int 5, .ref mf, .int 1, .int 0, .int 900, .int 0, .int 0])), (ou, .inl (co, 1, .inr (.inl of_)))] := hD
  have hl := lv_entry ([.ref x, .int 1, .ref ou]) (n := 4) (Nat.le_of_ble_eq_true rfl)
  rw [lg_entry_eq]
  generalize (lg_sl ([.ref x, .int 1, .ref ou]) ++ List.replicate (4 - (lg_sl ([.ref x, .int 1, .ref ou])).length) Slot.unset).toArray = ls at hl ⊢
  have hl : lv_has ls 4 [(0, .ref x), (1, .int 1), (2, .ref ou)] := hl
  refine lv_aload_n hx hb dL_strength_0 rfl (lv_at hl 2 rfl) ?_
  refine lv_iconst (v := 0) hx hb dL_strength_1 (by decide) ?_
  refine lv_aload_n hx hb dL_strength_2 rfl (lv_at hl 0 rfl) ?_
  refine lv_iload_n hx hb dL_strength_3 rfl (lv_at hl 1 rfl) ?_
  have hPc := hP.sub (ws' := [(x, .inr (15, [.ref sh, .ref tl, .ref tw, .int 0])), (sh, .inr (13, [.ref rg, .ref dk, .ref hd, .ref lg, .ref pl, .ref pr, .int 0, .int 0, .int 0, .int 0, .int 0, .int 0, .int 0, .int 0, .int 0, .int 0, .int 0])), (rg, .inr (11, [.ref mf, .ref mm, .ref mz, .ref ma, .ref sa, .int 0])), (sa, .inl (cS, 9, .inr (.inr (.inr (.inr (va_up (va_up (va_up (va_up (va_up (va_up (va_up (va_up (va_up (fun _ => none) 0 (some s0)) 1 (some s1)) 2 (some s2)) 3 (some s3)) 4 (some s4)) 5 (some s5)) 6 (some s6)) 7 (some s7)) 8 (some s8))))))), (s1, .inr (12, [.int 7, .int 5, .ref mf, .int 1, .int 0, .int 900, .int 0, .int 0]))]) [0, 1, 2, 3, 4] rfl
  have hDc := hD.sub (ws' := [(x, .inr (15, [.ref sh, .ref tl, .ref tw, .int 0])), (sh, .inr (13, [.ref rg, .ref dk, .ref hd, .ref lg, .ref pl, .ref pr, .int 0, .int 0, .int 0, .int 0, .int 0, .int 0, .int 0, .int 0, .int 0, .int 0, .int 0])), (rg, .inr (11, [.ref mf, .ref mm, .ref mz, .ref ma, .ref sa, .int 0])), (sa, .inl (cS, 9, .inr (.inr (.inr (.inr (va_up (va_up (va_up (va_up (va_up (va_up (va_up (va_up (va_up (fun _ => none) 0 (some s0)) 1 (some s1)) 2 (some s2)) 3 (some s3)) 4 (some s4)) 5 (some s5)) 6 (some s6)) 7 (some s7)) 8 (some s8))))))), (s1, .inr (12, [.int 7, .int 5, .ref mf, .int 1, .int 0, .int 900, .int 0, .int 0]))]) [0, 1, 2, 3, 4] (by decide) rfl
  have hKc := hK.sub (tys' := [(cS, .object RX8)]) [0] rfl
  have hFc := va_free (wc := [(x, .inr (15, [.ref sh, .ref tl, .ref tw, .int 0])), (sh, .inr (13, [.ref rg, .ref dk, .ref hd, .ref lg, .ref pl, .ref pr, .int 0, .int 0, .int 0, .int 0, .int 0, .int 0, .int 0, .int 0, .int 0, .int 0, .int 0])), (rg, .inr (11, [.ref mf, .ref mm, .ref mz, .ref ma, .ref sa, .int 0])), (sa, .inl (cS, 9, .inr (.inr (.inr (.inr (va_up (va_up (va_up (va_up (va_up (va_up (va_up (va_up (va_up (fun _ => none) 0 (some s0)) 1 (some s1)) 2 (some s2)) 3 (some s3)) 4 (some s4)) 5 (some s5)) 6 (some s6)) 7 (some s7)) 8 (some s8))))))), (s1, .inr (12, [.int 7, .int 5, .ref mf, .int 1, .int 0, .int 900, .int 0, .int 0]))]) hD hS hA [0, 1, 2, 3, 4] rfl
  refine va_calli (va_runV (As := [.int 1]) (rest := [.int 0, .ref ou]) ⟨hx, hb, hml, hown, hts⟩ (k_x_strength1 l dC dI z zK zV sh rg mf mm mz ma sa s0 s1 s2 s3 s4 s5 s6 s7 s8 dk hd lg pl pr cS x tl tw s.heap.size) (cwV 1 hts gL_strength_X11_strength rfl rfl rfl (by decide +kernel) ⟨Nat.le_of_ble_eq_true rfl, Nat.le_of_ble_eq_true rfl⟩) ⟨kP_blind, va_recv hKc hPc (ci := 15) (q0 := 0) rfl rfl, kP_go hPc hKc hDc hFc hM hS⟩ rfl rfl hl.1 rfl (lv_room (Nat.le_of_ble_eq_true rfl)) dL_strength_4 ⟨Nat.le_of_ble_eq_true rfl, Nat.le_of_ble_eq_true rfl⟩) hS (fun q _ h => hFc q h) hFc (fun r1 u t H1 locs ht hvm hw hB hz1 hk1 hS => ?_)
  obtain ⟨hP, hD, hK⟩ := kJ (wr := [(ou, .inl (co, 1, .inr (.inl of_)))]) (w1 := []) (t1 := []) hP hD hK [0, 1, 2, 3, 4] [5] rfl rfl (by decide) (by decide) hk1 hFc ht hvm hB
  generalize H1 = H at hP hS ⊢
  have hP : va_P (dC, dI) vwCl [(ou, .inl (co, 1, .inr (.inl of_)))] H := hP
  have hD : va_D A [(ou, .inl (co, 1, .inr (.inl of_)))] := hD
  have hK : va_K (dC, dI) vwCl [(cS, .object RX8), (co, .long)] s := hK
  obtain rfl : 900 = r1 := hw
  refine lv_i2l (v := 900) hx hb dL_strength_7 (by decide +kernel) ?_
  refine va_last hx hb hK hP hD hS 0 1 rfl rfl (pk_in 0 1 (by decide) rfl) dL_strength_8 (fun H locs hP hD hS => ?_)
  have hP : va_P (dC, dI) vwCl [(ou, .inl (co, 1, .inr (.inl (vp_updL of_ 0 900))))] H := hP
  have hD : va_D A [(ou, .inl (co, 1, .inr (.inl (vp_updL of_ 0 900))))] := hD
  refine lv_goto (tgt := 15) hx hb dL_strength_9 (by decide) ?_
  refine lv_iconst (v := 0) hx hb dL_strength_15 (by decide) ?_
  exact W.iret (v := 0) hx hb hr (fun t ht hW => ⟨⟨0, (), rfl, rfl, kB_end (w9 := [(ou, .inl (co, 1, .inr (.inl (vp_updL of_ 0 900))))]) (t9 := []) hP hK hD [0] [] rfl (by decide) rfl rfl t ht hW⟩, hS.F ht⟩) hS.2.2 dL_strength_16
abbrev wd_k_l_strength2 (z : Nat → Nat) (sh : Nat) (rg : Nat) (mf : Nat) (mm : Nat) (mz : Nat) (ma : Nat) (sa : Nat) (s0 : Nat) (s1 : Nat) (s2 : Nat) (s3 : Nat) (s4 : Nat) (s5 : Nat) (s6 : Nat) (s7 : Nat) (s8 : Nat) (dk : Nat) (hd : Nat) (lg : Nat) (pl : Nat) (pr : Nat) (cS : ClassId) (x : Nat) (tl : Nat) (tw : Nat) (ou : Nat) (co : ClassId) (of_ : Nat → Int64) : va_W := [(x, .inr (15, [.ref sh, .ref tl, .ref tw, .int 0])), (sh, .inr (13, [.ref rg, .ref dk, .ref hd, .ref lg, .ref pl, .ref pr, .int 0, .int 0, .int 0, .int 0, .int 0, .int 0, .int 0, .int 0, .int 0, .int 0, .int 0])), (rg, .inr (11, [.ref mf, .ref mm, .ref mz, .ref ma, .ref sa, .int 0])), (sa, .inl (cS, 9, .inr (.inr (.inr (.inr (va_up (va_up (va_up (va_up (va_up (va_up (va_up (va_up (va_up (fun _ => none) 0 (some s0)) 1 (some s1)) 2 (some s2)) 3 (some s3)) 4 (some s4)) 5 (some s5)) 6 (some s6)) 7 (some s7)) 8 (some s8))))))), (s2, .inr (12, [.int 3, .int 3, .ref mf, .int 1, .int 0, .int 900, .int 0, .int 0])), (ou, .inl (co, 1, .inr (.inl of_)))]
set_option maxHeartbeats 4000000 in
set_option maxRecDepth 100000 in
theorem k_l_strength2 (l : Launch) (dC : Nat → ClassId) (dI : Nat → Nat → Nat) (z zK zV : Nat → Nat) (sh : Nat) (rg : Nat) (mf : Nat) (mm : Nat) (mz : Nat) (ma : Nat) (sa : Nat) (s0 : Nat) (s1 : Nat) (s2 : Nat) (s3 : Nat) (s4 : Nat) (s5 : Nat) (s6 : Nat) (s7 : Nat) (s8 : Nat) (dk : Nat) (hd : Nat) (lg : Nat) (pl : Nat) (pr : Nat) (cS : ClassId) (x : Nat) (tl : Nat) (tw : Nat) (ou : Nat) (co : ClassId) (of_ : Nat → Int64) (sz : Nat)  : Met l yL_strength wsL_strength ({ frames := 2, cells := 0, slots := 0, locals := 43 }) (kP dC dI z zK zV [.ref x, .int 2, .ref ou] sz (wd_k_l_strength2 z sh rg mf mm mz ma sa s0 s1 s2 s3 s4 s5 s6 s7 s8 dk hd lg pl pr cS x tl tw ou co of_) [(cS, .object RX8), (co, .long)]) (va_Qi (fun (r : Int32) (_ : Unit) => 0 = r) (fun _ t => kB (dC, dI) (va_A (wd_k_l_strength2 z sh rg mf mm mz ma sa s0 s1 s2 s3 s4 s5 s6 s7 s8 dk hd lg pl pr cS x tl tw ou co of_) sz) [(ou, .inl (co, 1, .inr (.inl (vp_updL of_ 0 900))))] [] t) (va_A (wd_k_l_strength2 z sh rg mf mm mz ma sa s0 s1 s2 s3 s4 s5 s6 s7 s8 dk hd lg pl pr cS x tl tw ou co of_) sz)) 0 0 (va_A (wd_k_l_strength2 z sh rg mf mm mz ma sa s0 s1 s2 s3 s4 s5 s6 s7 s8 dk hd lg pl pr cS x tl tw ou co of_) sz) := by
  refine va_MetW (hh := [(0, 9, 12, 32)]) (cc := cL_strength) (maxL := 4) (ret := (some .int)) (by decide) rfl ?_
  intro p e s m args below meth c s₁ B hml hv
  obtain ⟨rfl, hsz, hP, hK, hD0, hM⟩ := hv
  have hx := B.exec
  have hb := B.bytes
  have hr := B.returns
  have hts := atoms_spec (ws := wsL_strength) B.pre
  have hown : s.vm.findClass RL = some m.cls := findClass_of_methodNamed B.named
  have hlocks := B.notSynchronized
  have htab := vx_table (x := yL_strength) B (hts _ List.mem_cons_self)
  subst hsz
  have hD := hD0.self (sz := s.heap.size)
  generalize hAe : va_A (wd_k_l_strength2 z sh rg mf mm mz ma sa s0 s1 s2 s3 s4 s5 s6 s7 s8 dk hd lg pl pr cS x tl tw ou co of_) s.heap.size = A at hD hM ⊢
  have hA : ∀ q : Nat, s.heap.size ≤ q → A q := fun q h => by rw [← hAe]; exact Or.inr h
  have hS : va_S A s.heap s.heap [] := va_S.rf
  have hP : va_P (dC, dI) vwCl [(x, .inr (15, [.ref sh, .ref tl, .ref tw, .int 0])), (sh, .inr (13, [.ref rg, .ref dk, .ref hd, .ref lg, .ref pl, .ref pr, .int 0, .int 0, .int 0, .int 0, .int 0, .int 0, .int 0, .int 0, .int 0, .int 0, .int 0])), (rg, .inr (11, [.ref mf, .ref mm, .ref mz, .ref ma, .ref sa, .int 0])), (sa, .inl (cS, 9, .inr (.inr (.inr (.inr (va_up (va_up (va_up (va_up (va_up (va_up (va_up (va_up (va_up (fun _ => none) 0 (some s0)) 1 (some s1)) 2 (some s2)) 3 (some s3)) 4 (some s4)) 5 (some s5)) 6 (some s6)) 7 (some s7)) 8 (some s8))))))), (s2, .inr (12, [.int 3, .int 3, .ref mf, .int 1, .int 0, .int 900, .int 0, .int 0])), (ou, .inl (co, 1, .inr (.inl of_)))] s.heap := hP
  have hD : va_D A [(x, .inr (15, [.ref sh, .ref tl, .ref tw, .int 0])), (sh, .inr (13, [.ref rg, .ref dk, .ref hd, .ref lg, .ref pl, .ref pr, .int 0, .int 0, .int 0, .int 0, .int 0, .int 0, .int 0, .int 0, .int 0, .int 0, .int 0])), (rg, .inr (11, [.ref mf, .ref mm, .ref mz, .ref ma, .ref sa, .int 0])), (sa, .inl (cS, 9, .inr (.inr (.inr (.inr (va_up (va_up (va_up (va_up (va_up (va_up (va_up (va_up (va_up (fun _ => none) 0 (some s0)) 1 (some s1)) 2 (some s2)) 3 (some s3)) 4 (some s4)) 5 (some s5)) 6 (some s6)) 7 (some s7)) 8 (some s8))))))), (s2, .inr (12, [.int 3, .int 3, .ref mf, .int 1, .int 0, .int 900, .int 0, .int 0])), (ou, .inl (co, 1, .inr (.inl of_)))] := hD
  have hl := lv_entry ([.ref x, .int 2, .ref ou]) (n := 4) (Nat.le_of_ble_eq_true rfl)
  rw [lg_entry_eq]
  generalize (lg_sl ([.ref x, .int 2, .ref ou]) ++ List.replicate (4 - (lg_sl ([.ref x, .int 2, .ref ou])).length) Slot.unset).toArray = ls at hl ⊢
  have hl : lv_has ls 4 [(0, .ref x), (1, .int 2), (2, .ref ou)] := hl
  refine lv_aload_n hx hb dL_strength_0 rfl (lv_at hl 2 rfl) ?_
  refine lv_iconst (v := 0) hx hb dL_strength_1 (by decide) ?_
  refine lv_aload_n hx hb dL_strength_2 rfl (lv_at hl 0 rfl) ?_
  refine lv_iload_n hx hb dL_strength_3 rfl (lv_at hl 1 rfl) ?_
  have hPc := hP.sub (ws' := [(x, .inr (15, [.ref sh, .ref tl, .ref tw, .int 0])), (sh, .inr (13, [.ref rg, .ref dk, .ref hd, .ref lg, .ref pl, .ref pr, .int 0, .int 0, .int 0, .int 0, .int 0, .int 0, .int 0, .int 0, .int 0, .int 0, .int 0])), (rg, .inr (11, [.ref mf, .ref mm, .ref mz, .ref ma, .ref sa, .int 0])), (sa, .inl (cS, 9, .inr (.inr (.inr (.inr (va_up (va_up (va_up (va_up (va_up (va_up (va_up (va_up (va_up (fun _ => none) 0 (some s0)) 1 (some s1)) 2 (some s2)) 3 (some s3)) 4 (some s4)) 5 (some s5)) 6 (some s6)) 7 (some s7)) 8 (some s8))))))), (s2, .inr (12, [.int 3, .int 3, .ref mf, .int 1, .int 0, .int 900, .int 0, .int 0]))]) [0, 1, 2, 3, 4] rfl
  have hDc := hD.sub (ws' := [(x, .inr (15, [.ref sh, .ref tl, .ref tw, .int 0])), (sh, .inr (13, [.ref rg, .ref dk, .ref hd, .ref lg, .ref pl, .ref pr, .int 0, .int 0, .int 0, .int 0, .int 0, .int 0, .int 0, .int 0, .int 0, .int 0, .int 0])), (rg, .inr (11, [.ref mf, .ref mm, .ref mz, .ref ma, .ref sa, .int 0])), (sa, .inl (cS, 9, .inr (.inr (.inr (.inr (va_up (va_up (va_up (va_up (va_up (va_up (va_up (va_up (va_up (fun _ => none) 0 (some s0)) 1 (some s1)) 2 (some s2)) 3 (some s3)) 4 (some s4)) 5 (some s5)) 6 (some s6)) 7 (some s7)) 8 (some s8))))))), (s2, .inr (12, [.int 3, .int 3, .ref mf, .int 1, .int 0, .int 900, .int 0, .int 0]))]) [0, 1, 2, 3, 4] (by decide) rfl
  have hKc := hK.sub (tys' := [(cS, .object RX8)]) [0] rfl
  have hFc := va_free (wc := [(x, .inr (15, [.ref sh, .ref tl, .ref tw, .int 0])), (sh, .inr (13, [.ref rg, .ref dk, .ref hd, .ref lg, .ref pl, .ref pr, .int 0, .int 0, .int 0, .int 0, .int 0, .int 0, .int 0, .int 0, .int 0, .int 0, .int 0])), (rg, .inr (11, [.ref mf, .ref mm, .ref mz, .ref ma, .ref sa, .int 0])), (sa, .inl (cS, 9, .inr (.inr (.inr (.inr (va_up (va_up (va_up (va_up (va_up (va_up (va_up (va_up (va_up (fun _ => none) 0 (some s0)) 1 (some s1)) 2 (some s2)) 3 (some s3)) 4 (some s4)) 5 (some s5)) 6 (some s6)) 7 (some s7)) 8 (some s8))))))), (s2, .inr (12, [.int 3, .int 3, .ref mf, .int 1, .int 0, .int 900, .int 0, .int 0]))]) hD hS hA [0, 1, 2, 3, 4] rfl
  refine va_calli (va_runV (As := [.int 2]) (rest := [.int 0, .ref ou]) ⟨hx, hb, hml, hown, hts⟩ (k_x_strength2 l dC dI z zK zV sh rg mf mm mz ma sa s0 s1 s2 s3 s4 s5 s6 s7 s8 dk hd lg pl pr cS x tl tw s.heap.size) (cwV 1 hts gL_strength_X11_strength rfl rfl rfl (by decide +kernel) ⟨Nat.le_of_ble_eq_true rfl, Nat.le_of_ble_eq_true rfl⟩) ⟨kP_blind, va_recv hKc hPc (ci := 15) (q0 := 0) rfl rfl, kP_go hPc hKc hDc hFc hM hS⟩ rfl rfl hl.1 rfl (lv_room (Nat.le_of_ble_eq_true rfl)) dL_strength_4 ⟨Nat.le_of_ble_eq_true rfl, Nat.le_of_ble_eq_true rfl⟩) hS (fun q _ h => hFc q h) hFc (fun r1 u t H1 locs ht hvm hw hB hz1 hk1 hS => ?_)
  obtain ⟨hP, hD, hK⟩ := kJ (wr := [(ou, .inl (co, 1, .inr (.inl of_)))]) (w1 := []) (t1 := []) hP hD hK [0, 1, 2, 3, 4] [5] rfl rfl (by decide) (by decide) hk1 hFc ht hvm hB
  generalize H1 = H at hP hS ⊢
  have hP : va_P (dC, dI) vwCl [(ou, .inl (co, 1, .inr (.inl of_)))] H := hP
  have hD : va_D A [(ou, .inl (co, 1, .inr (.inl of_)))] := hD
  have hK : va_K (dC, dI) vwCl [(cS, .object RX8), (co, .long)] s := hK
  obtain rfl : 900 = r1 := hw
  refine lv_i2l (v := 900) hx hb dL_strength_7 (by decide +kernel) ?_
  refine va_last hx hb hK hP hD hS 0 1 rfl rfl (pk_in 0 1 (by decide) rfl) dL_strength_8 (fun H locs hP hD hS => ?_)
  have hP : va_P (dC, dI) vwCl [(ou, .inl (co, 1, .inr (.inl (vp_updL of_ 0 900))))] H := hP
  have hD : va_D A [(ou, .inl (co, 1, .inr (.inl (vp_updL of_ 0 900))))] := hD
  refine lv_goto (tgt := 15) hx hb dL_strength_9 (by decide) ?_
  refine lv_iconst (v := 0) hx hb dL_strength_15 (by decide) ?_
  exact W.iret (v := 0) hx hb hr (fun t ht hW => ⟨⟨0, (), rfl, rfl, kB_end (w9 := [(ou, .inl (co, 1, .inr (.inl (vp_updL of_ 0 900))))]) (t9 := []) hP hK hD [0] [] rfl (by decide) rfl rfl t ht hW⟩, hS.F ht⟩) hS.2.2 dL_strength_16
abbrev wd_k_l_strength3 (z : Nat → Nat) (sh : Nat) (rg : Nat) (mf : Nat) (mm : Nat) (mz : Nat) (ma : Nat) (sa : Nat) (s0 : Nat) (s1 : Nat) (s2 : Nat) (s3 : Nat) (s4 : Nat) (s5 : Nat) (s6 : Nat) (s7 : Nat) (s8 : Nat) (dk : Nat) (hd : Nat) (lg : Nat) (pl : Nat) (pr : Nat) (cS : ClassId) (x : Nat) (tl : Nat) (tw : Nat) (ou : Nat) (co : ClassId) (of_ : Nat → Int64) : va_W := [(x, .inr (15, [.ref sh, .ref tl, .ref tw, .int 0])), (sh, .inr (13, [.ref rg, .ref dk, .ref hd, .ref lg, .ref pl, .ref pr, .int 0, .int 0, .int 0, .int 0, .int 0, .int 0, .int 0, .int 0, .int 0, .int 0, .int 0])), (rg, .inr (11, [.ref mf, .ref mm, .ref mz, .ref ma, .ref sa, .int 0])), (sa, .inl (cS, 9, .inr (.inr (.inr (.inr (va_up (va_up (va_up (va_up (va_up (va_up (va_up (va_up (va_up (fun _ => none) 0 (some s0)) 1 (some s1)) 2 (some s2)) 3 (some s3)) 4 (some s4)) 5 (some s5)) 6 (some s6)) 7 (some s7)) 8 (some s8))))))), (s3, .inr (12, [.int 10, .int 8, .ref mm, .int 1, .int 0, .int 900, .int 0, .int 0])), (ou, .inl (co, 1, .inr (.inl of_)))]
set_option maxHeartbeats 4000000 in
set_option maxRecDepth 100000 in
theorem k_l_strength3 (l : Launch) (dC : Nat → ClassId) (dI : Nat → Nat → Nat) (z zK zV : Nat → Nat) (sh : Nat) (rg : Nat) (mf : Nat) (mm : Nat) (mz : Nat) (ma : Nat) (sa : Nat) (s0 : Nat) (s1 : Nat) (s2 : Nat) (s3 : Nat) (s4 : Nat) (s5 : Nat) (s6 : Nat) (s7 : Nat) (s8 : Nat) (dk : Nat) (hd : Nat) (lg : Nat) (pl : Nat) (pr : Nat) (cS : ClassId) (x : Nat) (tl : Nat) (tw : Nat) (ou : Nat) (co : ClassId) (of_ : Nat → Int64) (sz : Nat)  : Met l yL_strength wsL_strength ({ frames := 2, cells := 0, slots := 0, locals := 43 }) (kP dC dI z zK zV [.ref x, .int 3, .ref ou] sz (wd_k_l_strength3 z sh rg mf mm mz ma sa s0 s1 s2 s3 s4 s5 s6 s7 s8 dk hd lg pl pr cS x tl tw ou co of_) [(cS, .object RX8), (co, .long)]) (va_Qi (fun (r : Int32) (_ : Unit) => 0 = r) (fun _ t => kB (dC, dI) (va_A (wd_k_l_strength3 z sh rg mf mm mz ma sa s0 s1 s2 s3 s4 s5 s6 s7 s8 dk hd lg pl pr cS x tl tw ou co of_) sz) [(ou, .inl (co, 1, .inr (.inl (vp_updL of_ 0 900))))] [] t) (va_A (wd_k_l_strength3 z sh rg mf mm mz ma sa s0 s1 s2 s3 s4 s5 s6 s7 s8 dk hd lg pl pr cS x tl tw ou co of_) sz)) 0 0 (va_A (wd_k_l_strength3 z sh rg mf mm mz ma sa s0 s1 s2 s3 s4 s5 s6 s7 s8 dk hd lg pl pr cS x tl tw ou co of_) sz) := by
  refine va_MetW (hh := [(0, 9, 12, 32)]) (cc := cL_strength) (maxL := 4) (ret := (some .int)) (by decide) rfl ?_
  intro p e s m args below meth c s₁ B hml hv
  obtain ⟨rfl, hsz, hP, hK, hD0, hM⟩ := hv
  have hx := B.exec
  have hb := B.bytes
  have hr := B.returns
  have hts := atoms_spec (ws := wsL_strength) B.pre
  have hown : s.vm.findClass RL = some m.cls := findClass_of_methodNamed B.named
  have hlocks := B.notSynchronized
  have htab := vx_table (x := yL_strength) B (hts _ List.mem_cons_self)
  subst hsz
  have hD := hD0.self (sz := s.heap.size)
  generalize hAe : va_A (wd_k_l_strength3 z sh rg mf mm mz ma sa s0 s1 s2 s3 s4 s5 s6 s7 s8 dk hd lg pl pr cS x tl tw ou co of_) s.heap.size = A at hD hM ⊢
  have hA : ∀ q : Nat, s.heap.size ≤ q → A q := fun q h => by rw [← hAe]; exact Or.inr h
  have hS : va_S A s.heap s.heap [] := va_S.rf
  have hP : va_P (dC, dI) vwCl [(x, .inr (15, [.ref sh, .ref tl, .ref tw, .int 0])), (sh, .inr (13, [.ref rg, .ref dk, .ref hd, .ref lg, .ref pl, .ref pr, .int 0, .int 0, .int 0, .int 0, .int 0, .int 0, .int 0, .int 0, .int 0, .int 0, .int 0])), (rg, .inr (11, [.ref mf, .ref mm, .ref mz, .ref ma, .ref sa, .int 0])), (sa, .inl (cS, 9, .inr (.inr (.inr (.inr (va_up (va_up (va_up (va_up (va_up (va_up (va_up (va_up (va_up (fun _ => none) 0 (some s0)) 1 (some s1)) 2 (some s2)) 3 (some s3)) 4 (some s4)) 5 (some s5)) 6 (some s6)) 7 (some s7)) 8 (some s8))))))), (s3, .inr (12, [.int 10, .int 8, .ref mm, .int 1, .int 0, .int 900, .int 0, .int 0])), (ou, .inl (co, 1, .inr (.inl of_)))] s.heap := hP
  have hD : va_D A [(x, .inr (15, [.ref sh, .ref tl, .ref tw, .int 0])), (sh, .inr (13, [.ref rg, .ref dk, .ref hd, .ref lg, .ref pl, .ref pr, .int 0, .int 0, .int 0, .int 0, .int 0, .int 0, .int 0, .int 0, .int 0, .int 0, .int 0])), (rg, .inr (11, [.ref mf, .ref mm, .ref mz, .ref ma, .ref sa, .int 0])), (sa, .inl (cS, 9, .inr (.inr (.inr (.inr (va_up (va_up (va_up (va_up (va_up (va_up (va_up (va_up (va_up (fun _ => none) 0 (some s0)) 1 (some s1)) 2 (some s2)) 3 (some s3)) 4 (some s4)) 5 (some s5)) 6 (some s6)) 7 (some s7)) 8 (some s8))))))), (s3, .inr (12, [.int 10, .int 8, .ref mm, .int 1, .int 0, .int 900, .int 0, .int 0])), (ou, .inl (co, 1, .inr (.inl of_)))] := hD
  have hl := lv_entry ([.ref x, .int 3, .ref ou]) (n := 4) (Nat.le_of_ble_eq_true rfl)
  rw [lg_entry_eq]
  generalize (lg_sl ([.ref x, .int 3, .ref ou]) ++ List.replicate (4 - (lg_sl ([.ref x, .int 3, .ref ou])).length) Slot.unset).toArray = ls at hl ⊢
  have hl : lv_has ls 4 [(0, .ref x), (1, .int 3), (2, .ref ou)] := hl
  refine lv_aload_n hx hb dL_strength_0 rfl (lv_at hl 2 rfl) ?_
  refine lv_iconst (v := 0) hx hb dL_strength_1 (by decide) ?_
  refine lv_aload_n hx hb dL_strength_2 rfl (lv_at hl 0 rfl) ?_
  refine lv_iload_n hx hb dL_strength_3 rfl (lv_at hl 1 rfl) ?_
  have hPc := hP.sub (ws' := [(x, .inr (15, [.ref sh, .ref tl, .ref tw, .int 0])), (sh, .inr (13, [.ref rg, .ref dk, .ref hd, .ref lg, .ref pl, .ref pr, .int 0, .int 0, .int 0, .int 0, .int 0, .int 0, .int 0, .int 0, .int 0, .int 0, .int 0])), (rg, .inr (11, [.ref mf, .ref mm, .ref mz, .ref ma, .ref sa, .int 0])), (sa, .inl (cS, 9, .inr (.inr (.inr (.inr (va_up (va_up (va_up (va_up (va_up (va_up (va_up (va_up (va_up (fun _ => none) 0 (some s0)) 1 (some s1)) 2 (some s2)) 3 (some s3)) 4 (some s4)) 5 (some s5)) 6 (some s6)) 7 (some s7)) 8 (some s8))))))), (s3, .inr (12, [.int 10, .int 8, .ref mm, .int 1, .int 0, .int 900, .int 0, .int 0]))]) [0, 1, 2, 3, 4] rfl
  have hDc := hD.sub (ws' := [(x, .inr (15, [.ref sh, .ref tl, .ref tw, .int 0])), (sh, .inr (13, [.ref rg, .ref dk, .ref hd, .ref lg, .ref pl, .ref pr, .int 0, .int 0, .int 0, .int 0, .int 0, .int 0, .int 0, .int 0, .int 0, .int 0, .int 0])), (rg, .inr (11, [.ref mf, .ref mm, .ref mz, .ref ma, .ref sa, .int 0])), (sa, .inl (cS, 9, .inr (.inr (.inr (.inr (va_up (va_up (va_up (va_up (va_up (va_up (va_up (va_up (va_up (fun _ => none) 0 (some s0)) 1 (some s1)) 2 (some s2)) 3 (some s3)) 4 (some s4)) 5 (some s5)) 6 (some s6)) 7 (some s7)) 8 (some s8))))))), (s3, .inr (12, [.int 10, .int 8, .ref mm, .int 1, .int 0, .int 900, .int 0, .int 0]))]) [0, 1, 2, 3, 4] (by decide) rfl
  have hKc := hK.sub (tys' := [(cS, .object RX8)]) [0] rfl
  have hFc := va_free (wc := [(x, .inr (15, [.ref sh, .ref tl, .ref tw, .int 0])), (sh, .inr (13, [.ref rg, .ref dk, .ref hd, .ref lg, .ref pl, .ref pr, .int 0, .int 0, .int 0, .int 0, .int 0, .int 0, .int 0, .int 0, .int 0, .int 0, .int 0])), (rg, .inr (11, [.ref mf, .ref mm, .ref mz, .ref ma, .ref sa, .int 0])), (sa, .inl (cS, 9, .inr (.inr (.inr (.inr (va_up (va_up (va_up (va_up (va_up (va_up (va_up (va_up (va_up (fun _ => none) 0 (some s0)) 1 (some s1)) 2 (some s2)) 3 (some s3)) 4 (some s4)) 5 (some s5)) 6 (some s6)) 7 (some s7)) 8 (some s8))))))), (s3, .inr (12, [.int 10, .int 8, .ref mm, .int 1, .int 0, .int 900, .int 0, .int 0]))]) hD hS hA [0, 1, 2, 3, 4] rfl
  refine va_calli (va_runV (As := [.int 3]) (rest := [.int 0, .ref ou]) ⟨hx, hb, hml, hown, hts⟩ (k_x_strength3 l dC dI z zK zV sh rg mf mm mz ma sa s0 s1 s2 s3 s4 s5 s6 s7 s8 dk hd lg pl pr cS x tl tw s.heap.size) (cwV 1 hts gL_strength_X11_strength rfl rfl rfl (by decide +kernel) ⟨Nat.le_of_ble_eq_true rfl, Nat.le_of_ble_eq_true rfl⟩) ⟨kP_blind, va_recv hKc hPc (ci := 15) (q0 := 0) rfl rfl, kP_go hPc hKc hDc hFc hM hS⟩ rfl rfl hl.1 rfl (lv_room (Nat.le_of_ble_eq_true rfl)) dL_strength_4 ⟨Nat.le_of_ble_eq_true rfl, Nat.le_of_ble_eq_true rfl⟩) hS (fun q _ h => hFc q h) hFc (fun r1 u t H1 locs ht hvm hw hB hz1 hk1 hS => ?_)
  obtain ⟨hP, hD, hK⟩ := kJ (wr := [(ou, .inl (co, 1, .inr (.inl of_)))]) (w1 := []) (t1 := []) hP hD hK [0, 1, 2, 3, 4] [5] rfl rfl (by decide) (by decide) hk1 hFc ht hvm hB
  generalize H1 = H at hP hS ⊢
  have hP : va_P (dC, dI) vwCl [(ou, .inl (co, 1, .inr (.inl of_)))] H := hP
  have hD : va_D A [(ou, .inl (co, 1, .inr (.inl of_)))] := hD
  have hK : va_K (dC, dI) vwCl [(cS, .object RX8), (co, .long)] s := hK
  obtain rfl : 900 = r1 := hw
  refine lv_i2l (v := 900) hx hb dL_strength_7 (by decide +kernel) ?_
  refine va_last hx hb hK hP hD hS 0 1 rfl rfl (pk_in 0 1 (by decide) rfl) dL_strength_8 (fun H locs hP hD hS => ?_)
  have hP : va_P (dC, dI) vwCl [(ou, .inl (co, 1, .inr (.inl (vp_updL of_ 0 900))))] H := hP
  have hD : va_D A [(ou, .inl (co, 1, .inr (.inl (vp_updL of_ 0 900))))] := hD
  refine lv_goto (tgt := 15) hx hb dL_strength_9 (by decide) ?_
  refine lv_iconst (v := 0) hx hb dL_strength_15 (by decide) ?_
  exact W.iret (v := 0) hx hb hr (fun t ht hW => ⟨⟨0, (), rfl, rfl, kB_end (w9 := [(ou, .inl (co, 1, .inr (.inl (vp_updL of_ 0 900))))]) (t9 := []) hP hK hD [0] [] rfl (by decide) rfl rfl t ht hW⟩, hS.F ht⟩) hS.2.2 dL_strength_16
abbrev wd_k_l_strength4 (z : Nat → Nat) (sh : Nat) (rg : Nat) (mf : Nat) (mm : Nat) (mz : Nat) (ma : Nat) (sa : Nat) (s0 : Nat) (s1 : Nat) (s2 : Nat) (s3 : Nat) (s4 : Nat) (s5 : Nat) (s6 : Nat) (s7 : Nat) (s8 : Nat) (dk : Nat) (hd : Nat) (lg : Nat) (pl : Nat) (pr : Nat) (cS : ClassId) (x : Nat) (tl : Nat) (tw : Nat) (ou : Nat) (co : ClassId) (of_ : Nat → Int64) : va_W := [(x, .inr (15, [.ref sh, .ref tl, .ref tw, .int 0])), (sh, .inr (13, [.ref rg, .ref dk, .ref hd, .ref lg, .ref pl, .ref pr, .int 0, .int 0, .int 0, .int 0, .int 0, .int 0, .int 0, .int 0, .int 0, .int 0, .int 0])), (rg, .inr (11, [.ref mf, .ref mm, .ref mz, .ref ma, .ref sa, .int 0])), (sa, .inl (cS, 9, .inr (.inr (.inr (.inr (va_up (va_up (va_up (va_up (va_up (va_up (va_up (va_up (va_up (fun _ => none) 0 (some s0)) 1 (some s1)) 2 (some s2)) 3 (some s3)) 4 (some s4)) 5 (some s5)) 6 (some s6)) 7 (some s7)) 8 (some s8))))))), (s4, .inr (12, [.int 9, .int 6, .ref mm, .int 1, .int 0, .int 900, .int 0, .int 0])), (ou, .inl (co, 1, .inr (.inl of_)))]
set_option maxHeartbeats 4000000 in
set_option maxRecDepth 100000 in
theorem k_l_strength4 (l : Launch) (dC : Nat → ClassId) (dI : Nat → Nat → Nat) (z zK zV : Nat → Nat) (sh : Nat) (rg : Nat) (mf : Nat) (mm : Nat) (mz : Nat) (ma : Nat) (sa : Nat) (s0 : Nat) (s1 : Nat) (s2 : Nat) (s3 : Nat) (s4 : Nat) (s5 : Nat) (s6 : Nat) (s7 : Nat) (s8 : Nat) (dk : Nat) (hd : Nat) (lg : Nat) (pl : Nat) (pr : Nat) (cS : ClassId) (x : Nat) (tl : Nat) (tw : Nat) (ou : Nat) (co : ClassId) (of_ : Nat → Int64) (sz : Nat)  : Met l yL_strength wsL_strength ({ frames := 2, cells := 0, slots := 0, locals := 43 }) (kP dC dI z zK zV [.ref x, .int 4, .ref ou] sz (wd_k_l_strength4 z sh rg mf mm mz ma sa s0 s1 s2 s3 s4 s5 s6 s7 s8 dk hd lg pl pr cS x tl tw ou co of_) [(cS, .object RX8), (co, .long)]) (va_Qi (fun (r : Int32) (_ : Unit) => 0 = r) (fun _ t => kB (dC, dI) (va_A (wd_k_l_strength4 z sh rg mf mm mz ma sa s0 s1 s2 s3 s4 s5 s6 s7 s8 dk hd lg pl pr cS x tl tw ou co of_) sz) [(ou, .inl (co, 1, .inr (.inl (vp_updL of_ 0 900))))] [] t) (va_A (wd_k_l_strength4 z sh rg mf mm mz ma sa s0 s1 s2 s3 s4 s5 s6 s7 s8 dk hd lg pl pr cS x tl tw ou co of_) sz)) 0 0 (va_A (wd_k_l_strength4 z sh rg mf mm mz ma sa s0 s1 s2 s3 s4 s5 s6 s7 s8 dk hd lg pl pr cS x tl tw ou co of_) sz) := by
  refine va_MetW (hh := [(0, 9, 12, 32)]) (cc := cL_strength) (maxL := 4) (ret := (some .int)) (by decide) rfl ?_
  intro p e s m args below meth c s₁ B hml hv
  obtain ⟨rfl, hsz, hP, hK, hD0, hM⟩ := hv
  have hx := B.exec
  have hb := B.bytes
  have hr := B.returns
  have hts := atoms_spec (ws := wsL_strength) B.pre
  have hown : s.vm.findClass RL = some m.cls := findClass_of_methodNamed B.named
  have hlocks := B.notSynchronized
  have htab := vx_table (x := yL_strength) B (hts _ List.mem_cons_self)
  subst hsz
  have hD := hD0.self (sz := s.heap.size)
  generalize hAe : va_A (wd_k_l_strength4 z sh rg mf mm mz ma sa s0 s1 s2 s3 s4 s5 s6 s7 s8 dk hd lg pl pr cS x tl tw ou co of_) s.heap.size = A at hD hM ⊢
  have hA : ∀ q : Nat, s.heap.size ≤ q → A q := fun q h => by rw [← hAe]; exact Or.inr h
  have hS : va_S A s.heap s.heap [] := va_S.rf
  have hP : va_P (dC, dI) vwCl [(x, .inr (15, [.ref sh, .ref tl, .ref tw, .int 0])), (sh, .inr (13, [.ref rg, .ref dk, .ref hd, .ref lg, .ref pl, .ref pr, .int 0, .int 0, .int 0, .int 0, .int 0, .int 0, .int 0, .int 0, .int 0, .int 0, .int 0])), (rg, .inr (11, [.ref mf, .ref mm, .ref mz, .ref ma, .ref sa, .int 0])), (sa, .inl (cS, 9, .inr (.inr (.inr (.inr (va_up (va_up (va_up (va_up (va_up (va_up (va_up (va_up (va_up (fun _ => none) 0 (some s0)) 1 (some s1)) 2 (some s2)) 3 (some s3)) 4 (some s4)) 5 (some s5)) 6 (some s6)) 7 (some s7)) 8 (some s8))))))), (s4, .inr (12, [.int 9, .int 6, .ref mm, .int 1, .int 0, .int 900, .int 0, .int 0])), (ou, .inl (co, 1, .inr (.inl of_)))] s.heap := hP
  have hD : va_D A [(x, .inr (15, [.ref sh, .ref tl, .ref tw, .int 0])), (sh, .inr (13, [.ref rg, .ref dk, .ref hd, .ref lg, .ref pl, .ref pr, .int 0, .int 0, .int 0, .int 0, .int 0, .int 0, .int 0, .int 0, .int 0, .int 0, .int 0])), (rg, .inr (11, [.ref mf, .ref mm, .ref mz, .ref ma, .ref sa, .int 0])), (sa, .inl (cS, 9, .inr (.inr (.inr (.inr (va_up (va_up (va_up (va_up (va_up (va_up (va_up (va_up (va_up (fun _ => none) 0 (some s0)) 1 (some s1)) 2 (some s2)) 3 (some s3)) 4 (some s4)) 5 (some s5)) 6 (some s6)) 7 (some s7)) 8 (some s8))))))), (s4, .inr (12, [.int 9, .int 6, .ref mm, .int 1, .int 0, .int 900, .int 0, .int 0])), (ou, .inl (co, 1, .inr (.inl of_)))] := hD
  have hl := lv_entry ([.ref x, .int 4, .ref ou]) (n := 4) (Nat.le_of_ble_eq_true rfl)
  rw [lg_entry_eq]
  generalize (lg_sl ([.ref x, .int 4, .ref ou]) ++ List.replicate (4 - (lg_sl ([.ref x, .int 4, .ref ou])).length) Slot.unset).toArray = ls at hl ⊢
  have hl : lv_has ls 4 [(0, .ref x), (1, .int 4), (2, .ref ou)] := hl
  refine lv_aload_n hx hb dL_strength_0 rfl (lv_at hl 2 rfl) ?_
  refine lv_iconst (v := 0) hx hb dL_strength_1 (by decide) ?_
  refine lv_aload_n hx hb dL_strength_2 rfl (lv_at hl 0 rfl) ?_
  refine lv_iload_n hx hb dL_strength_3 rfl (lv_at hl 1 rfl) ?_
  have hPc := hP.sub (ws' := [(x, .inr (15, [.ref sh, .ref tl, .ref tw, .int 0])), (sh, .inr (13, [.ref rg, .ref dk, .ref hd, .ref lg, .ref pl, .ref pr, .int 0, .int 0, .int 0, .int 0, .int 0, .int 0, .int 0, .int 0, .int 0, .int 0, .int 0])), (rg, .inr (11, [.ref mf, .ref mm, .ref mz, .ref ma, .ref sa, .int 0])), (sa, .inl (cS, 9, .inr (.inr (.inr (.inr (va_up (va_up (va_up (va_up (va_up (va_up (va_up (va_up (va_up (fun _ => none) 0 (some s0)) 1 (some s1)) 2 (some s2)) 3 (some s3)) 4 (some s4)) 5 (some s5)) 6 (some s6)) 7 (some s7)) 8 (some s8))))))), (s4, .inr (12, [.int 9, .int 6, .ref mm, .int 1, .int 0, .int 900, .int 0, .int 0]))]) [0, 1, 2, 3, 4] rfl
  have hDc := hD.sub (ws' := [(x, .inr (15, [.ref sh, .ref tl, .ref tw, .int 0])), (sh, .inr (13, [.ref rg, .ref dk, .ref hd, .ref lg, .ref pl, .ref pr, .int 0, .int 0, .int 0, .int 0, .int 0, .int 0, .int 0, .int 0, .int 0, .int 0, .int 0])), (rg, .inr (11, [.ref mf, .ref mm, .ref mz, .ref ma, .ref sa, .int 0])), (sa, .inl (cS, 9, .inr (.inr (.inr (.inr (va_up (va_up (va_up (va_up (va_up (va_up (va_up (va_up (va_up (fun _ => none) 0 (some s0)) 1 (some s1)) 2 (some s2)) 3 (some s3)) 4 (some s4)) 5 (some s5)) 6 (some s6)) 7 (some s7)) 8 (some s8))))))), (s4, .inr (12, [.int 9, .int 6, .ref mm, .int 1, .int 0, .int 900, .int 0, .int 0]))]) [0, 1, 2, 3, 4] (by decide) rfl
  have hKc := hK.sub (tys' := [(cS, .object RX8)]) [0] rfl
  have hFc := va_free (wc := [(x, .inr (15, [.ref sh, .ref tl, .ref tw, .int 0])), (sh, .inr (13, [.ref rg, .ref dk, .ref hd, .ref lg, .ref pl, .ref pr, .int 0, .int 0, .int 0, .int 0, .int 0, .int 0, .int 0, .int 0, .int 0, .int 0, .int 0])), (rg, .inr (11, [.ref mf, .ref mm, .ref mz, .ref ma, .ref sa, .int 0])), (sa, .inl (cS, 9, .inr (.inr (.inr (.inr (va_up (va_up (va_up (va_up (va_up (va_up (va_up (va_up (va_up (fun _ => none) 0 (some s0)) 1 (some s1)) 2 (some s2)) 3 (some s3)) 4 (some s4)) 5 (some s5)) 6 (some s6)) 7 (some s7)) 8 (some s8))))))), (s4, .inr (12, [.int 9, .int 6, .ref mm, .int 1, .int 0, .int 900, .int 0, .int 0]))]) hD hS hA [0, 1, 2, 3, 4] rfl
  refine va_calli (va_runV (As := [.int 4]) (rest := [.int 0, .ref ou]) ⟨hx, hb, hml, hown, hts⟩ (k_x_strength4 l dC dI z zK zV sh rg mf mm mz ma sa s0 s1 s2 s3 s4 s5 s6 s7 s8 dk hd lg pl pr cS x tl tw s.heap.size) (cwV 1 hts gL_strength_X11_strength rfl rfl rfl (by decide +kernel) ⟨Nat.le_of_ble_eq_true rfl, Nat.le_of_ble_eq_true rfl⟩) ⟨kP_blind, va_recv hKc hPc (ci := 15) (q0 := 0) rfl rfl, kP_go hPc hKc hDc hFc hM hS⟩ rfl rfl hl.1 rfl (lv_room (Nat.le_of_ble_eq_true rfl)) dL_strength_4 ⟨Nat.le_of_ble_eq_true rfl, Nat.le_of_ble_eq_true rfl⟩) hS (fun q _ h => hFc q h) hFc (fun r1 u t H1 locs ht hvm hw hB hz1 hk1 hS => ?_)
  obtain ⟨hP, hD, hK⟩ := kJ (wr := [(ou, .inl (co, 1, .inr (.inl of_)))]) (w1 := []) (t1 := []) hP hD hK [0, 1, 2, 3, 4] [5] rfl rfl (by decide) (by decide) hk1 hFc ht hvm hB
  generalize H1 = H at hP hS ⊢
  have hP : va_P (dC, dI) vwCl [(ou, .inl (co, 1, .inr (.inl of_)))] H := hP
  have hD : va_D A [(ou, .inl (co, 1, .inr (.inl of_)))] := hD
  have hK : va_K (dC, dI) vwCl [(cS, .object RX8), (co, .long)] s := hK
  obtain rfl : 900 = r1 := hw
  refine lv_i2l (v := 900) hx hb dL_strength_7 (by decide +kernel) ?_
  refine va_last hx hb hK hP hD hS 0 1 rfl rfl (pk_in 0 1 (by decide) rfl) dL_strength_8 (fun H locs hP hD hS => ?_)
  have hP : va_P (dC, dI) vwCl [(ou, .inl (co, 1, .inr (.inl (vp_updL of_ 0 900))))] H := hP
  have hD : va_D A [(ou, .inl (co, 1, .inr (.inl (vp_updL of_ 0 900))))] := hD
  refine lv_goto (tgt := 15) hx hb dL_strength_9 (by decide) ?_
  refine lv_iconst (v := 0) hx hb dL_strength_15 (by decide) ?_
  exact W.iret (v := 0) hx hb hr (fun t ht hW => ⟨⟨0, (), rfl, rfl, kB_end (w9 := [(ou, .inl (co, 1, .inr (.inl (vp_updL of_ 0 900))))]) (t9 := []) hP hK hD [0] [] rfl (by decide) rfl rfl t ht hW⟩, hS.F ht⟩) hS.2.2 dL_strength_16
abbrev wd_k_l_strength5 (z : Nat → Nat) (sh : Nat) (rg : Nat) (mf : Nat) (mm : Nat) (mz : Nat) (ma : Nat) (sa : Nat) (s0 : Nat) (s1 : Nat) (s2 : Nat) (s3 : Nat) (s4 : Nat) (s5 : Nat) (s6 : Nat) (s7 : Nat) (s8 : Nat) (dk : Nat) (hd : Nat) (lg : Nat) (pl : Nat) (pr : Nat) (cS : ClassId) (x : Nat) (tl : Nat) (tw : Nat) (ou : Nat) (co : ClassId) (of_ : Nat → Int64) : va_W := [(x, .inr (15, [.ref sh, .ref tl, .ref tw, .int 0])), (sh, .inr (13, [.ref rg, .ref dk, .ref hd, .ref lg, .ref pl, .ref pr, .int 0, .int 0, .int 0, .int 0, .int 0, .int 0, .int 0, .int 0, .int 0, .int 0, .int 0])), (rg, .inr (11, [.ref mf, .ref mm, .ref mz, .ref ma, .ref sa, .int 0])), (sa, .inl (cS, 9, .inr (.inr (.inr (.inr (va_up (va_up (va_up (va_up (va_up (va_up (va_up (va_up (va_up (fun _ => none) 0 (some s0)) 1 (some s1)) 2 (some s2)) 3 (some s3)) 4 (some s4)) 5 (some s5)) 6 (some s6)) 7 (some s7)) 8 (some s8))))))), (s5, .inr (12, [.int 4, .int 3, .ref mm, .int 1, .int 0, .int 900, .int 0, .int 0])), (ou, .inl (co, 1, .inr (.inl of_)))]
set_option maxHeartbeats 4000000 in
set_option maxRecDepth 100000 in
theorem k_l_strength5 (l : Launch) (dC : Nat → ClassId) (dI : Nat → Nat → Nat) (z zK zV : Nat → Nat) (sh : Nat) (rg : Nat) (mf : Nat) (mm : Nat) (mz : Nat) (ma : Nat) (sa : Nat) (s0 : Nat) (s1 : Nat) (s2 : Nat) (s3 : Nat) (s4 : Nat) (s5 : Nat) (s6 : Nat) (s7 : Nat) (s8 : Nat) (dk : Nat) (hd : Nat) (lg : Nat) (pl : Nat) (pr : Nat) (cS : ClassId) (x : Nat) (tl : Nat) (tw : Nat) (ou : Nat) (co : ClassId) (of_ : Nat → Int64) (sz : Nat)  : Met l yL_strength wsL_strength ({ frames := 2, cells := 0, slots := 0, locals := 43 }) (kP dC dI z zK zV [.ref x, .int 5, .ref ou] sz (wd_k_l_strength5 z sh rg mf mm mz ma sa s0 s1 s2 s3 s4 s5 s6 s7 s8 dk hd lg pl pr cS x tl tw ou co of_) [(cS, .object RX8), (co, .long)]) (va_Qi (fun (r : Int32) (_ : Unit) => 0 = r) (fun _ t => kB (dC, dI) (va_A (wd_k_l_strength5 z sh rg mf mm mz ma sa s0 s1 s2 s3 s4 s5 s6 s7 s8 dk hd lg pl pr cS x tl tw ou co of_) sz) [(ou, .inl (co, 1, .inr (.inl (vp_updL of_ 0 900))))] [] t) (va_A (wd_k_l_strength5 z sh rg mf mm mz ma sa s0 s1 s2 s3 s4 s5 s6 s7 s8 dk hd lg pl pr cS x tl tw ou co of_) sz)) 0 0 (va_A (wd_k_l_strength5 z sh rg mf mm mz ma sa s0 s1 s2 s3 s4 s5 s6 s7 s8 dk hd lg pl pr cS x tl tw ou co of_) sz) := by
  refine va_MetW (hh := [(0, 9, 12, 32)]) (cc := cL_strength) (maxL := 4) (ret := (some .int)) (by decide) rfl ?_
  intro p e s m args below meth c s₁ B hml hv
  obtain ⟨rfl, hsz, hP, hK, hD0, hM⟩ := hv
  have hx := B.exec
  have hb := B.bytes
  have hr := B.returns
  have hts := atoms_spec (ws := wsL_strength) B.pre
  have hown : s.vm.findClass RL = some m.cls := findClass_of_methodNamed B.named
  have hlocks := B.notSynchronized
  have htab := vx_table (x := yL_strength) B (hts _ List.mem_cons_self)
  subst hsz
  have hD := hD0.self (sz := s.heap.size)
  generalize hAe : va_A (wd_k_l_strength5 z sh rg mf mm mz ma sa s0 s1 s2 s3 s4 s5 s6 s7 s8 dk hd lg pl pr cS x tl tw ou co of_) s.heap.size = A at hD hM ⊢
  have hA : ∀ q : Nat, s.heap.size ≤ q → A q := fun q h => by rw [← hAe]; exact Or.inr h
  have hS : va_S A s.heap s.heap [] := va_S.rf
  have hP : va_P (dC, dI) vwCl [(x, .inr (15, [.ref sh, .ref tl, .ref tw, .int 0])), (sh, .inr (13, [.ref rg, .ref dk, .ref hd, .ref lg, .ref pl, .ref pr, .int 0, .int 0, .int 0, .int 0, .int 0, .int 0, .int 0, .int 0, .int 0, .int 0, .int 0])), (rg, .inr (11, [.ref mf, .ref mm, .ref mz, .ref ma, .ref sa, .int 0])), (sa, .inl (cS, 9, .inr (.inr (.inr (.inr (va_up (va_up (va_up (va_up (va_up (va_up (va_up (va_up (va_up (fun _ => none) 0 (some s0)) 1 (some s1)) 2 (some s2)) 3 (some s3)) 4 (some s4)) 5 (some s5)) 6 (some s6)) 7 (some s7)) 8 (some s8))))))), (s5, .inr (12, [.int 4, .int 3, .ref mm, .int 1, .int 0, .int 900, .int 0, .int 0])), (ou, .inl (co, 1, .inr (.inl of_)))] s.heap := hP
  have hD : va_D A [(x, .inr (15, [.ref sh, .ref tl, .ref tw, .int 0])), (sh, .inr (13, [.ref rg, .ref dk, .ref hd, .ref lg, .ref pl, .ref pr, .int 0, .int 0, .int 0, .int 0, .int 0, .int 0, .int 0, .int 0, .int 0, .int 0, .int 0])), (rg, .inr (11, [.ref mf, .ref mm, .ref mz, .ref ma, .ref sa, .int 0])), (sa, .inl (cS, 9, .inr (.inr (.inr (.inr (va_up (va_up (va_up (va_up (va_up (va_up (va_up (va_up (va_up (fun _ => none) 0 (some s0)) 1 (some s1)) 2 (some s2)) 3 (some s3)) 4 (some s4)) 5 (some s5)) 6 (some s6)) 7 (some s7)) 8 (some s8))))))), (s5, .inr (12, [.int 4, .int 3, .ref mm, .int 1, .int 0, .int 900, .int 0, .int 0])), (ou, .inl (co, 1, .inr (.inl of_)))] := hD
  have hl := lv_entry ([.ref x, .int 5, .ref ou]) (n := 4) (Nat.le_of_ble_eq_true rfl)
  rw [lg_entry_eq]
  generalize (lg_sl ([.ref x, .int 5, .ref ou]) ++ List.replicate (4 - (lg_sl ([.ref x, .int 5, .ref ou])).length) Slot.unset).toArray = ls at hl ⊢
  have hl : lv_has ls 4 [(0, .ref x), (1, .int 5), (2, .ref ou)] := hl
  refine lv_aload_n hx hb dL_strength_0 rfl (lv_at hl 2 rfl) ?_
  refine lv_iconst (v := 0) hx hb dL_strength_1 (by decide) ?_
  refine lv_aload_n hx hb dL_strength_2 rfl (lv_at hl 0 rfl) ?_
  refine lv_iload_n hx hb dL_strength_3 rfl (lv_at hl 1 rfl) ?_
  have hPc := hP.sub (ws' := [(x, .inr (15, [.ref sh, .ref tl, .ref tw, .int 0])), (sh, .inr (13, [.ref rg, .ref dk, .ref hd, .ref lg, .ref pl, .ref pr, .int 0, .int 0, .int 0, .int 0, .int 0, .int 0, .int 0, .int 0, .int 0, .int 0, .int 0])), (rg, .inr (11, [.ref mf, .ref mm, .ref mz, .ref ma, .ref sa, .int 0])), (sa, .inl (cS, 9, .inr (.inr (.inr (.inr (va_up (va_up (va_up (va_up (va_up (va_up (va_up (va_up (va_up (fun _ => none) 0 (some s0)) 1 (some s1)) 2 (some s2)) 3 (some s3)) 4 (some s4)) 5 (some s5)) 6 (some s6)) 7 (some s7)) 8 (some s8))))))), (s5, .inr (12, [.int 4, .int 3, .ref mm, .int 1, .int 0, .int 900, .int 0, .int 0]))]) [0, 1, 2, 3, 4] rfl
  have hDc := hD.sub (ws' := [(x, .inr (15, [.ref sh, .ref tl, .ref tw, .int 0])), (sh, .inr (13, [.ref rg, .ref dk, .ref hd, .ref lg, .ref pl, .ref pr, .int 0, .int 0, .int 0, .int 0, .int 0, .int 0, .int 0, .int 0, .int 0, .int 0, .int 0])), (rg, .inr (11, [.ref mf, .ref mm, .ref mz, .ref ma, .ref sa, .int 0])), (sa, .inl (cS, 9, .inr (.inr (.inr (.inr (va_up (va_up (va_up (va_up (va_up (va_up (va_up (va_up (va_up (fun _ => none) 0 (some s0)) 1 (some s1)) 2 (some s2)) 3 (some s3)) 4 (some s4)) 5 (some s5)) 6 (some s6)) 7 (some s7)) 8 (some s8))))))), (s5, .inr (12, [.int 4, .int 3, .ref mm, .int 1, .int 0, .int 900, .int 0, .int 0]))]) [0, 1, 2, 3, 4] (by decide) rfl
  have hKc := hK.sub (tys' := [(cS, .object RX8)]) [0] rfl
  have hFc := va_free (wc := [(x, .inr (15, [.ref sh, .ref tl, .ref tw, .int 0])), (sh, .inr (13, [.ref rg, .ref dk, .ref hd, .ref lg, .ref pl, .ref pr, .int 0, .int 0, .int 0, .int 0, .int 0, .int 0, .int 0, .int 0, .int 0, .int 0, .int 0])), (rg, .inr (11, [.ref mf, .ref mm, .ref mz, .ref ma, .ref sa, .int 0])), (sa, .inl (cS, 9, .inr (.inr (.inr (.inr (va_up (va_up (va_up (va_up (va_up (va_up (va_up (va_up (va_up (fun _ => none) 0 (some s0)) 1 (some s1)) 2 (some s2)) 3 (some s3)) 4 (some s4)) 5 (some s5)) 6 (some s6)) 7 (some s7)) 8 (some s8))))))), (s5, .inr (12, [.int 4, .int 3, .ref mm, .int 1, .int 0, .int 900, .int 0, .int 0]))]) hD hS hA [0, 1, 2, 3, 4] rfl
  refine va_calli (va_runV (As := [.int 5]) (rest := [.int 0, .ref ou]) ⟨hx, hb, hml, hown, hts⟩ (k_x_strength5 l dC dI z zK zV sh rg mf mm mz ma sa s0 s1 s2 s3 s4 s5 s6 s7 s8 dk hd lg pl pr cS x tl tw s.heap.size) (cwV 1 hts gL_strength_X11_strength rfl rfl rfl (by decide +kernel) ⟨Nat.le_of_ble_eq_true rfl, Nat.le_of_ble_eq_true rfl⟩) ⟨kP_blind, va_recv hKc hPc (ci := 15) (q0 := 0) rfl rfl, kP_go hPc hKc hDc hFc hM hS⟩ rfl rfl hl.1 rfl (lv_room (Nat.le_of_ble_eq_true rfl)) dL_strength_4 ⟨Nat.le_of_ble_eq_true rfl, Nat.le_of_ble_eq_true rfl⟩) hS (fun q _ h => hFc q h) hFc (fun r1 u t H1 locs ht hvm hw hB hz1 hk1 hS => ?_)
  obtain ⟨hP, hD, hK⟩ := kJ (wr := [(ou, .inl (co, 1, .inr (.inl of_)))]) (w1 := []) (t1 := []) hP hD hK [0, 1, 2, 3, 4] [5] rfl rfl (by decide) (by decide) hk1 hFc ht hvm hB
  generalize H1 = H at hP hS ⊢
  have hP : va_P (dC, dI) vwCl [(ou, .inl (co, 1, .inr (.inl of_)))] H := hP
  have hD : va_D A [(ou, .inl (co, 1, .inr (.inl of_)))] := hD
  have hK : va_K (dC, dI) vwCl [(cS, .object RX8), (co, .long)] s := hK
  obtain rfl : 900 = r1 := hw
  refine lv_i2l (v := 900) hx hb dL_strength_7 (by decide +kernel) ?_
  refine va_last hx hb hK hP hD hS 0 1 rfl rfl (pk_in 0 1 (by decide) rfl) dL_strength_8 (fun H locs hP hD hS => ?_)
  have hP : va_P (dC, dI) vwCl [(ou, .inl (co, 1, .inr (.inl (vp_updL of_ 0 900))))] H := hP
  have hD : va_D A [(ou, .inl (co, 1, .inr (.inl (vp_updL of_ 0 900))))] := hD
  refine lv_goto (tgt := 15) hx hb dL_strength_9 (by decide) ?_
  refine lv_iconst (v := 0) hx hb dL_strength_15 (by decide) ?_
  exact W.iret (v := 0) hx hb hr (fun t ht hW => ⟨⟨0, (), rfl, rfl, kB_end (w9 := [(ou, .inl (co, 1, .inr (.inl (vp_updL of_ 0 900))))]) (t9 := []) hP hK hD [0] [] rfl (by decide) rfl rfl t ht hW⟩, hS.F ht⟩) hS.2.2 dL_strength_16
abbrev wd_k_l_strength6 (z : Nat → Nat) (sh : Nat) (rg : Nat) (mf : Nat) (mm : Nat) (mz : Nat) (ma : Nat) (sa : Nat) (s0 : Nat) (s1 : Nat) (s2 : Nat) (s3 : Nat) (s4 : Nat) (s5 : Nat) (s6 : Nat) (s7 : Nat) (s8 : Nat) (dk : Nat) (hd : Nat) (lg : Nat) (pl : Nat) (pr : Nat) (cS : ClassId) (x : Nat) (tl : Nat) (tw : Nat) (ou : Nat) (co : ClassId) (of_ : Nat → Int64) : va_W := [(x, .inr (15, [.ref sh, .ref tl, .ref tw, .int 0])), (sh, .inr (13, [.ref rg, .ref dk, .ref hd, .ref lg, .ref pl, .ref pr, .int 0, .int 0, .int 0, .int 0, .int 0, .int 0, .int 0, .int 0, .int 0, .int 0, .int 0])), (rg, .inr (11, [.ref mf, .ref mm, .ref mz, .ref ma, .ref sa, .int 0])), (sa, .inl (cS, 9, .inr (.inr (.inr (.inr (va_up (va_up (va_up (va_up (va_up (va_up (va_up (va_up (va_up (fun _ => none) 0 (some s0)) 1 (some s1)) 2 (some s2)) 3 (some s3)) 4 (some s4)) 5 (some s5)) 6 (some s6)) 7 (some s7)) 8 (some s8))))))), (s6, .inr (12, [.int 5, .int 4, .ref mz, .int 1, .int 0, .int 900, .int 0, .int 0])), (ou, .inl (co, 1, .inr (.inl of_)))]
set_option maxHeartbeats 4000000 in
set_option maxRecDepth 100000 in
theorem k_l_strength6 (l : Launch) (dC : Nat → ClassId) (dI : Nat → Nat → Nat) (z zK zV : Nat → Nat) (sh : Nat) (rg : Nat) (mf : Nat) (mm : Nat) (mz : Nat) (ma : Nat) (sa : Nat) (s0 : Nat) (s1 : Nat) (s2 : Nat) (s3 : Nat) (s4 : Nat) (s5 : Nat) (s6 : Nat) (s7 : Nat) (s8 : Nat) (dk : Nat) (hd : Nat) (lg : Nat) (pl : Nat) (pr : Nat) (cS : ClassId) (x : Nat) (tl : Nat) (tw : Nat) (ou : Nat) (co : ClassId) (of_ : Nat → Int64) (sz : Nat)  : Met l yL_strength wsL_strength ({ frames := 2, cells := 0, slots := 0, locals := 43 }) (kP dC dI z zK zV [.ref x, .int 6, .ref ou] sz (wd_k_l_strength6 z sh rg mf mm mz ma sa s0 s1 s2 s3 s4 s5 s6 s7 s8 dk hd lg pl pr cS x tl tw ou co of_) [(cS, .object RX8), (co, .long)]) (va_Qi (fun (r : Int32) (_ : Unit) => 0 = r) (fun _ t => kB (dC, dI) (va_A (wd_k_l_strength6 z sh rg mf mm mz ma sa s0 s1 s2 s3 s4 s5 s6 s7 s8 dk hd lg pl pr cS x tl tw ou co of_) sz) [(ou, .inl (co, 1, .inr (.inl (vp_updL of_ 0 900))))] [] t) (va_A (wd_k_l_strength6 z sh rg mf mm mz ma sa s0 s1 s2 s3 s4 s5 s6 s7 s8 dk hd lg pl pr cS x tl tw ou co of_) sz)) 0 0 (va_A (wd_k_l_strength6 z sh rg mf mm mz ma sa s0 s1 s2 s3 s4 s5 s6 s7 s8 dk hd lg pl pr cS x tl tw ou co of_) sz) := by
  refine va_MetW (hh := [(0, 9, 12, 32)]) (cc := cL_strength) (maxL := 4) (ret := (some .int)) (by decide) rfl ?_
  intro p e s m args below meth c s₁ B hml hv
  obtain ⟨rfl, hsz, hP, hK, hD0, hM⟩ := hv
  have hx := B.exec
  have hb := B.bytes
  have hr := B.returns
  have hts := atoms_spec (ws := wsL_strength) B.pre
  have hown : s.vm.findClass RL = some m.cls := findClass_of_methodNamed B.named
  have hlocks := B.notSynchronized
  have htab := vx_table (x := yL_strength) B (hts _ List.mem_cons_self)
  subst hsz
  have hD := hD0.self (sz := s.heap.size)
  generalize hAe : va_A (wd_k_l_strength6 z sh rg mf mm mz ma sa s0 s1 s2 s3 s4 s5 s6 s7 s8 dk hd lg pl pr cS x tl tw ou co of_) s.heap.size = A at hD hM ⊢
  have hA : ∀ q : Nat, s.heap.size ≤ q → A q := fun q h => by rw [← hAe]; exact Or.inr h
  have hS : va_S A s.heap s.heap [] := va_S.rf
  have hP : va_P (dC, dI) vwCl [(x, .inr (15, [.ref sh, .ref tl, .ref tw, .int 0])), (sh, .inr (13, [.ref rg, .ref dk, .ref hd, .ref lg, .ref pl, .ref pr, .int 0, .int 0, .int 0, .int 0, .int 0, .int 0, .int 0, .int 0, .int 0, .int 0, .int 0])), (rg, .inr (11, [.ref mf, .ref mm, .ref mz, .ref ma, .ref sa, .int 0])), (sa, .inl (cS, 9, .inr (.inr (.inr (.inr (va_up (va_up (va_up (va_up (va_up (va_up (va_up (va_up (va_up (fun _ => none) 0 (some s0)) 1 (some s1)) 2 (some s2)) 3 (some s3)) 4 (some s4)) 5 (some s5)) 6 (some s6)) 7 (some s7)) 8 (some s8))))))), (s6, .inr (12, [.int 5, .int 4, .ref mz, .int 1, .int 0, .int 900, .int 0, .int 0])), (ou, .inl (co, 1, .inr (.inl of_)))] s.heap := hP
  have hD : va_D A [(x, .inr (15, [.ref sh, .ref tl, .ref tw, .int 0])), (sh, .inr (13, [.ref rg, .ref dk, .ref hd, .ref lg, .ref pl, .ref pr, .int 0, .int 0, .int 0, .int 0, .int 0, .int 0, .int 0, .int 0, .int 0, .int 0, .int 0])), (rg, .inr (11, [.ref mf, .ref mm, .ref mz, .ref ma, .ref sa, .int 0])), (sa, .inl (cS, 9, .inr (.inr (.inr (.inr (va_up (va_up (va_up (va_up (va_up (va_up (va_up (va_up (va_up (fun _ => none) 0 (some s0)) 1 (some s1)) 2 (some s2)) 3 (some s3)) 4 (some s4)) 5 (some s5)) 6 (some s6)) 7 (some s7)) 8 (some s8))))))), (s6, .inr (12, [.int 5, .int 4, .ref mz, .int 1, .int 0, .int 900, .int 0, .int 0])), (ou, .inl (co, 1, .inr (.inl of_)))] := hD
  have hl := lv_entry ([.ref x, .int 6, .ref ou]) (n := 4) (Nat.le_of_ble_eq_true rfl)
  rw [lg_entry_eq]
  generalize (lg_sl ([.ref x, .int 6, .ref ou]) ++ List.replicate (4 - (lg_sl ([.ref x, .int 6, .ref ou])).length) Slot.unset).toArray = ls at hl ⊢
  have hl : lv_has ls 4 [(0, .ref x), (1, .int 6), (2, .ref ou)] := hl
  refine lv_aload_n hx hb dL_strength_0 rfl (lv_at hl 2 rfl) ?_
  refine lv_iconst (v := 0) hx hb dL_strength_1 (by decide) ?_
  refine lv_aload_n hx hb dL_strength_2 rfl (lv_at hl 0 rfl) ?_
  refine lv_iload_n hx hb dL_strength_3 rfl (lv_at hl 1 rfl) ?_
  have hPc := hP.sub (ws' := [(x, .inr (15, [.ref sh, .ref tl, .ref tw, .int 0])), (sh, .inr (13, [.ref rg, .ref dk, .ref hd, .ref lg, .ref pl, .ref pr, .int 0, .int 0, .int 0, .int 0, .int 0, .int 0, .int 0, .int 0, .int 0, .int 0, .int 0])), (rg, .inr (11, [.ref mf, .ref mm, .ref mz, .ref ma, .ref sa, .int 0])), (sa, .inl (cS, 9, .inr (.inr (.inr (.inr (va_up (va_up (va_up (va_up (va_up (va_up (va_up (va_up (va_up (fun _ => none) 0 (some s0)) 1 (some s1)) 2 (some s2)) 3 (some s3)) 4 (some s4)) 5 (some s5)) 6 (some s6)) 7 (some s7)) 8 (some s8))))))), (s6, .inr (12, [.int 5, .int 4, .ref mz, .int 1, .int 0, .int 900, .int 0, .int 0]))]) [0, 1, 2, 3, 4] rfl
  have hDc := hD.sub (ws' := [(x, .inr (15, [.ref sh, .ref tl, .ref tw, .int 0])), (sh, .inr (13, [.ref rg, .ref dk, .ref hd, .ref lg, .ref pl, .ref pr, .int 0, .int 0, .int 0, .int 0, .int 0, .int 0, .int 0, .int 0, .int 0, .int 0, .int 0])), (rg, .inr (11, [.ref mf, .ref mm, .ref mz, .ref ma, .ref sa, .int 0])), (sa, .inl (cS, 9, .inr (.inr (.inr (.inr (va_up (va_up (va_up (va_up (va_up (va_up (va_up (va_up (va_up (fun _ => none) 0 (some s0)) 1 (some s1)) 2 (some s2)) 3 (some s3)) 4 (some s4)) 5 (some s5)) 6 (some s6)) 7 (some s7)) 8 (some s8))))))), (s6, .inr (12, [.int 5, .int 4, .ref mz, .int 1, .int 0, .int 900, .int 0, .int 0]))]) [0, 1, 2, 3, 4] (by decide) rfl
  have hKc := hK.sub (tys' := [(cS, .object RX8)]) [0] rfl
  have hFc := va_free (wc := [(x, .inr (15, [.ref sh, .ref tl, .ref tw, .int 0])), (sh, .inr (13, [.ref rg, .ref dk, .ref hd, .ref lg, .ref pl, .ref pr, .int 0, .int 0, .int 0, .int 0, .int 0, .int 0, .int 0, .int 0, .int 0, .int 0, .int 0])), (rg, .inr (11, [.ref mf, .ref mm, .ref mz, .ref ma, .ref sa, .int 0])), (sa, .inl (cS, 9, .inr (.inr (.inr (.inr (va_up (va_up (va_up (va_up (va_up (va_up (va_up (va_up (va_up (fun _ => none) 0 (some s0)) 1 (some s1)) 2 (some s2)) 3 (some s3)) 4 (some s4)) 5 (some s5)) 6 (some s6)) 7 (some s7)) 8 (some s8))))))), (s6, .inr (12, [.int 5, .int 4, .ref mz, .int 1, .int 0, .int 900, .int 0, .int 0]))]) hD hS hA [0, 1, 2, 3, 4] rfl
  refine va_calli (va_runV (As := [.int 6]) (rest := [.int 0, .ref ou]) ⟨hx, hb, hml, hown, hts⟩ (k_x_strength6 l dC dI z zK zV sh rg mf mm mz ma sa s0 s1 s2 s3 s4 s5 s6 s7 s8 dk hd lg pl pr cS x tl tw s.heap.size) (cwV 1 hts gL_strength_X11_strength rfl rfl rfl (by decide +kernel) ⟨Nat.le_of_ble_eq_true rfl, Nat.le_of_ble_eq_true rfl⟩) ⟨kP_blind, va_recv hKc hPc (ci := 15) (q0 := 0) rfl rfl, kP_go hPc hKc hDc hFc hM hS⟩ rfl rfl hl.1 rfl (lv_room (Nat.le_of_ble_eq_true rfl)) dL_strength_4 ⟨Nat.le_of_ble_eq_true rfl, Nat.le_of_ble_eq_true rfl⟩) hS (fun q _ h => hFc q h) hFc (fun r1 u t H1 locs ht hvm hw hB hz1 hk1 hS => ?_)
  obtain ⟨hP, hD, hK⟩ := kJ (wr := [(ou, .inl (co, 1, .inr (.inl of_)))]) (w1 := []) (t1 := []) hP hD hK [0, 1, 2, 3, 4] [5] rfl rfl (by decide) (by decide) hk1 hFc ht hvm hB
  generalize H1 = H at hP hS ⊢
  have hP : va_P (dC, dI) vwCl [(ou, .inl (co, 1, .inr (.inl of_)))] H := hP
  have hD : va_D A [(ou, .inl (co, 1, .inr (.inl of_)))] := hD
  have hK : va_K (dC, dI) vwCl [(cS, .object RX8), (co, .long)] s := hK
  obtain rfl : 900 = r1 := hw
  refine lv_i2l (v := 900) hx hb dL_strength_7 (by decide +kernel) ?_
  refine va_last hx hb hK hP hD hS 0 1 rfl rfl (pk_in 0 1 (by decide) rfl) dL_strength_8 (fun H locs hP hD hS => ?_)
  have hP : va_P (dC, dI) vwCl [(ou, .inl (co, 1, .inr (.inl (vp_updL of_ 0 900))))] H := hP
  have hD : va_D A [(ou, .inl (co, 1, .inr (.inl (vp_updL of_ 0 900))))] := hD
  refine lv_goto (tgt := 15) hx hb dL_strength_9 (by decide) ?_
  refine lv_iconst (v := 0) hx hb dL_strength_15 (by decide) ?_
  exact W.iret (v := 0) hx hb hr (fun t ht hW => ⟨⟨0, (), rfl, rfl, kB_end (w9 := [(ou, .inl (co, 1, .inr (.inl (vp_updL of_ 0 900))))]) (t9 := []) hP hK hD [0] [] rfl (by decide) rfl rfl t ht hW⟩, hS.F ht⟩) hS.2.2 dL_strength_16
abbrev wd_k_l_strength7 (z : Nat → Nat) (sh : Nat) (rg : Nat) (mf : Nat) (mm : Nat) (mz : Nat) (ma : Nat) (sa : Nat) (s0 : Nat) (s1 : Nat) (s2 : Nat) (s3 : Nat) (s4 : Nat) (s5 : Nat) (s6 : Nat) (s7 : Nat) (s8 : Nat) (dk : Nat) (hd : Nat) (lg : Nat) (pl : Nat) (pr : Nat) (cS : ClassId) (x : Nat) (tl : Nat) (tw : Nat) (ou : Nat) (co : ClassId) (of_ : Nat → Int64) : va_W := [(x, .inr (15, [.ref sh, .ref tl, .ref tw, .int 0])), (sh, .inr (13, [.ref rg, .ref dk, .ref hd, .ref lg, .ref pl, .ref pr, .int 0, .int 0, .int 0, .int 0, .int 0, .int 0, .int 0, .int 0, .int 0, .int 0, .int 0])), (rg, .inr (11, [.ref mf, .ref mm, .ref mz, .ref ma, .ref sa, .int 0])), (sa, .inl (cS, 9, .inr (.inr (.inr (.inr (va_up (va_up (va_up (va_up (va_up (va_up (va_up (va_up (va_up (fun _ => none) 0 (some s0)) 1 (some s1)) 2 (some s2)) 3 (some s3)) 4 (some s4)) 5 (some s5)) 6 (some s6)) 7 (some s7)) 8 (some s8))))))), (s7, .inr (12, [.int 4, .int 3, .ref mf, .int 0, .int 0, .int 900, .int 0, .int 0])), (ou, .inl (co, 1, .inr (.inl of_)))]
set_option maxHeartbeats 4000000 in
set_option maxRecDepth 100000 in
theorem k_l_strength7 (l : Launch) (dC : Nat → ClassId) (dI : Nat → Nat → Nat) (z zK zV : Nat → Nat) (sh : Nat) (rg : Nat) (mf : Nat) (mm : Nat) (mz : Nat) (ma : Nat) (sa : Nat) (s0 : Nat) (s1 : Nat) (s2 : Nat) (s3 : Nat) (s4 : Nat) (s5 : Nat) (s6 : Nat) (s7 : Nat) (s8 : Nat) (dk : Nat) (hd : Nat) (lg : Nat) (pl : Nat) (pr : Nat) (cS : ClassId) (x : Nat) (tl : Nat) (tw : Nat) (ou : Nat) (co : ClassId) (of_ : Nat → Int64) (sz : Nat)  : Met l yL_strength wsL_strength ({ frames := 2, cells := 0, slots := 0, locals := 43 }) (kP dC dI z zK zV [.ref x, .int 7, .ref ou] sz (wd_k_l_strength7 z sh rg mf mm mz ma sa s0 s1 s2 s3 s4 s5 s6 s7 s8 dk hd lg pl pr cS x tl tw ou co of_) [(cS, .object RX8), (co, .long)]) (va_Qi (fun (r : Int32) (_ : Unit) => 0 = r) (fun _ t => kB (dC, dI) (va_A (wd_k_l_strength7 z sh rg mf mm mz ma sa s0 s1 s2 s3 s4 s5 s6 s7 s8 dk hd lg pl pr cS x tl tw ou co of_) sz) [(ou, .inl (co, 1, .inr (.inl (vp_updL of_ 0 900))))] [] t) (va_A (wd_k_l_strength7 z sh rg mf mm mz ma sa s0 s1 s2 s3 s4 s5 s6 s7 s8 dk hd lg pl pr cS x tl tw ou co of_) sz)) 0 0 (va_A (wd_k_l_strength7 z sh rg mf mm mz ma sa s0 s1 s2 s3 s4 s5 s6 s7 s8 dk hd lg pl pr cS x tl tw ou co of_) sz) := by
  refine va_MetW (hh := [(0, 9, 12, 32)]) (cc := cL_strength) (maxL := 4) (ret := (some .int)) (by decide) rfl ?_
  intro p e s m args below meth c s₁ B hml hv
  obtain ⟨rfl, hsz, hP, hK, hD0, hM⟩ := hv
  have hx := B.exec
  have hb := B.bytes
  have hr := B.returns
  have hts := atoms_spec (ws := wsL_strength) B.pre
  have hown : s.vm.findClass RL = some m.cls := findClass_of_methodNamed B.named
  have hlocks := B.notSynchronized
  have htab := vx_table (x := yL_strength) B (hts _ List.mem_cons_self)
  subst hsz
  have hD := hD0.self (sz := s.heap.size)
  generalize hAe : va_A (wd_k_l_strength7 z sh rg mf mm mz ma sa s0 s1 s2 s3 s4 s5 s6 s7 s8 dk hd lg pl pr cS x tl tw ou co of_) s.heap.size = A at hD hM ⊢
  have hA : ∀ q : Nat, s.heap.size ≤ q → A q := fun q h => by rw [← hAe]; exact Or.inr h
  have hS : va_S A s.heap s.heap [] := va_S.rf
  have hP : va_P (dC, dI) vwCl [(x, .inr (15, [.ref sh, .ref tl, .ref tw, .int 0])), (sh, .inr (13, [.ref rg, .ref dk, .ref hd, .ref lg, .ref pl, .ref pr, .int 0, .int 0, .int 0, .int 0, .int 0, .int 0, .int 0, .int 0, .int 0, .int 0, .int 0])), (rg, .inr (11, [.ref mf, .ref mm, .ref mz, .ref ma, .ref sa, .int 0])), (sa, .inl (cS, 9, .inr (.inr (.inr (.inr (va_up (va_up (va_up (va_up (va_up (va_up (va_up (va_up (va_up (fun _ => none) 0 (some s0)) 1 (some s1)) 2 (some s2)) 3 (some s3)) 4 (some s4)) 5 (some s5)) 6 (some s6)) 7 (some s7)) 8 (some s8))))))), (s7, .inr (12, [.int 4, .int 3, .ref mf, .int 0, .int 0, .int 900, .int 0, .int 0])), (ou, .inl (co, 1, .inr (.inl of_)))] s.heap := hP
  have hD : va_D A [(x, .inr (15, [.ref sh, .ref tl, .ref tw, .int 0])), (sh, .inr (13, [.ref rg, .ref dk, .ref hd, .ref lg, .ref pl, .ref pr, .int 0, .int 0, .int 0, .int 0, .int 0, .int 0, .int 0, .int 0, .int 0, .int 0, .int 0])), (rg, .inr (11, [.ref mf, .ref mm, .ref mz, .ref ma, .ref sa, .int 0])), (sa, .inl (cS, 9, .inr (.inr (.inr (.inr (va_up (va_up (va_up (va_up (va_up (va_up (va_up (va_up (va_up (fun _ => none) 0 (some s0)) 1 (some s1)) 2 (some s2)) 3 (some s3)) 4 (some s4)) 5 (some s5)) 6 (some s6)) 7 (some s7)) 8 (some s8))))))), (s7, .inr (12, [.int 4, .int 3, .ref mf, .int 0, .int 0, .int 900, .int 0, .int 0])), (ou, .inl (co, 1, .inr (.inl of_)))] := hD
  have hl := lv_entry ([.ref x, .int 7, .ref ou]) (n := 4) (Nat.le_of_ble_eq_true rfl)
  rw [lg_entry_eq]
  generalize (lg_sl ([.ref x, .int 7, .ref ou]) ++ List.replicate (4 - (lg_sl ([.ref x, .int 7, .ref ou])).length) Slot.unset).toArray = ls at hl ⊢
  have hl : lv_has ls 4 [(0, .ref x), (1, .int 7), (2, .ref ou)] := hl
  refine lv_aload_n hx hb dL_strength_0 rfl (lv_at hl 2 rfl) ?_
  refine lv_iconst (v := 0) hx hb dL_strength_1 (by decide) ?_
  refine lv_aload_n hx hb dL_strength_2 rfl (lv_at hl 0 rfl) ?_
  refine lv_iload_n hx hb dL_strength_3 rfl (lv_at hl 1 rfl) ?_
  have hPc := hP.sub (ws' := [(x, .inr (15, [.ref sh, .ref tl, .ref tw, .int 0])), (sh, .inr (13, [.ref rg, .ref dk, .ref hd, .ref lg, .ref pl, .ref pr, .int 0, .int 0, .int 0, .int 0, .int 0, .int 0, .int 0, .int 0, .int 0, .int 0, .int 0])), (rg, .inr (11, [.ref mf, .ref mm, .ref mz, .ref ma, .ref sa, .int 0])), (sa, .inl (cS, 9, .inr (.inr (.inr (.inr (va_up (va_up (va_up (va_up (va_up (va_up (va_up (va_up (va_up (fun _ => none) 0 (some s0)) 1 (some s1)) 2 (some s2)) 3 (some s3)) 4 (some s4)) 5 (some s5)) 6 (some s6)) 7 (some s7)) 8 (some s8))))))), (s7, .inr (12, [.int 4, .int 3, .ref mf, .int 0, .int 0, .int 900, .int 0, .int 0]))]) [0, 1, 2, 3, 4] rfl
  have hDc := hD.sub (ws' := [(x, .inr (15, [.ref sh, .ref tl, .ref tw, .int 0])), (sh, .inr (13, [.ref rg, .ref dk, .ref hd, .ref lg, .ref pl, .ref pr, .int 0, .int 0, .int 0, .int 0, .int 0, .int 0, .int 0, .int 0, .int 0, .int 0, .int 0])), (rg, .inr (11, [.ref mf, .ref mm, .ref mz, .ref ma, .ref sa, .int 0])), (sa, .inl (cS, 9, .inr (.inr (.inr (.inr (va_up (va_up (va_up (va_up (va_up (va_up (va_up (va_up (va_up (fun _ => none) 0 (some s0)) 1 (some s1)) 2 (some s2)) 3 (some s3)) 4 (some s4)) 5 (some s5)) 6 (some s6)) 7 (some s7)) 8 (some s8))))))), (s7, .inr (12, [.int 4, .int 3, .ref mf, .int 0, .int 0, .int 900, .int 0, .int 0]))]) [0, 1, 2, 3, 4] (by decide) rfl
  have hKc := hK.sub (tys' := [(cS, .object RX8)]) [0] rfl
  have hFc := va_free (wc := [(x, .inr (15, [.ref sh, .ref tl, .ref tw, .int 0])), (sh, .inr (13, [.ref rg, .ref dk, .ref hd, .ref lg, .ref pl, .ref pr, .int 0, .int 0, .int 0, .int 0, .int 0, .int 0, .int 0, .int 0, .int 0, .int 0, .int 0])), (rg, .inr (11, [.ref mf, .ref mm, .ref mz, .ref ma, .ref sa, .int 0])), (sa, .inl (cS, 9, .inr (.inr (.inr (.inr (va_up (va_up (va_up (va_up (va_up (va_up (va_up (va_up (va_up (fun _ => none) 0 (some s0)) 1 (some s1)) 2 (some s2)) 3 (some s3)) 4 (some s4)) 5 (some s5)) 6 (some s6)) 7 (some s7)) 8 (some s8))))))), (s7, .inr (12, [.int 4, .int 3, .ref mf, .int 0, .int 0, .int 900, .int 0, .int 0]))]) hD hS hA [0, 1, 2, 3, 4] rfl
  refine va_calli (va_runV (As := [.int 7]) (rest := [.int 0, .ref ou]) ⟨hx, hb, hml, hown, hts⟩ (k_x_strength7 l dC dI z zK zV sh rg mf mm mz ma sa s0 s1 s2 s3 s4 s5 s6 s7 s8 dk hd lg pl pr cS x tl tw s.heap.size) (cwV 1 hts gL_strength_X11_strength rfl rfl rfl (by decide +kernel) ⟨Nat.le_of_ble_eq_true rfl, Nat.le_of_ble_eq_true rfl⟩) ⟨kP_blind, va_recv hKc hPc (ci := 15) (q0 := 0) rfl rfl, kP_go hPc hKc hDc hFc hM hS⟩ rfl rfl hl.1 rfl (lv_room (Nat.le_of_ble_eq_true rfl)) dL_strength_4 ⟨Nat.le_of_ble_eq_true rfl, Nat.le_of_ble_eq_true rfl⟩) hS (fun q _ h => hFc q h) hFc (fun r1 u t H1 locs ht hvm hw hB hz1 hk1 hS => ?_)
  obtain ⟨hP, hD, hK⟩ := kJ (wr := [(ou, .inl (co, 1, .inr (.inl of_)))]) (w1 := []) (t1 := []) hP hD hK [0, 1, 2, 3, 4] [5] rfl rfl (by decide) (by decide) hk1 hFc ht hvm hB
  generalize H1 = H at hP hS ⊢
  have hP : va_P (dC, dI) vwCl [(ou, .inl (co, 1, .inr (.inl of_)))] H := hP
  have hD : va_D A [(ou, .inl (co, 1, .inr (.inl of_)))] := hD
  have hK : va_K (dC, dI) vwCl [(cS, .object RX8), (co, .long)] s := hK
  obtain rfl : 900 = r1 := hw
  refine lv_i2l (v := 900) hx hb dL_strength_7 (by decide +kernel) ?_
  refine va_last hx hb hK hP hD hS 0 1 rfl rfl (pk_in 0 1 (by decide) rfl) dL_strength_8 (fun H locs hP hD hS => ?_)
  have hP : va_P (dC, dI) vwCl [(ou, .inl (co, 1, .inr (.inl (vp_updL of_ 0 900))))] H := hP
  have hD : va_D A [(ou, .inl (co, 1, .inr (.inl (vp_updL of_ 0 900))))] := hD
  refine lv_goto (tgt := 15) hx hb dL_strength_9 (by decide) ?_
  refine lv_iconst (v := 0) hx hb dL_strength_15 (by decide) ?_
  exact W.iret (v := 0) hx hb hr (fun t ht hW => ⟨⟨0, (), rfl, rfl, kB_end (w9 := [(ou, .inl (co, 1, .inr (.inl (vp_updL of_ 0 900))))]) (t9 := []) hP hK hD [0] [] rfl (by decide) rfl rfl t ht hW⟩, hS.F ht⟩) hS.2.2 dL_strength_16
abbrev wd_k_l_strength8 (z : Nat → Nat) (sh : Nat) (rg : Nat) (mf : Nat) (mm : Nat) (mz : Nat) (ma : Nat) (sa : Nat) (s0 : Nat) (s1 : Nat) (s2 : Nat) (s3 : Nat) (s4 : Nat) (s5 : Nat) (s6 : Nat) (s7 : Nat) (s8 : Nat) (dk : Nat) (hd : Nat) (lg : Nat) (pl : Nat) (pr : Nat) (cS : ClassId) (x : Nat) (tl : Nat) (tw : Nat) (ou : Nat) (co : ClassId) (of_ : Nat → Int64) : va_W := [(x, .inr (15, [.ref sh, .ref tl, .ref tw, .int 0])), (sh, .inr (13, [.ref rg, .ref dk, .ref hd, .ref lg, .ref pl, .ref pr, .int 0, .int 0, .int 0, .int 0, .int 0, .int 0, .int 0, .int 0, .int 0, .int 0, .int 0])), (rg, .inr (11, [.ref mf, .ref mm, .ref mz, .ref ma, .ref sa, .int 0])), (sa, .inl (cS, 9, .inr (.inr (.inr (.inr (va_up (va_up (va_up (va_up (va_up (va_up (va_up (va_up (va_up (fun _ => none) 0 (some s0)) 1 (some s1)) 2 (some s2)) 3 (some s3)) 4 (some s4)) 5 (some s5)) 6 (some s6)) 7 (some s7)) 8 (some s8))))))), (s8, .inr (12, [.int 6, .int 4, .ref mz, .int 0, .int 0, .int 900, .int 0, .int 0])), (ou, .inl (co, 1, .inr (.inl of_)))]
set_option maxHeartbeats 4000000 in
set_option maxRecDepth 100000 in
theorem k_l_strength8 (l : Launch) (dC : Nat → ClassId) (dI : Nat → Nat → Nat) (z zK zV : Nat → Nat) (sh : Nat) (rg : Nat) (mf : Nat) (mm : Nat) (mz : Nat) (ma : Nat) (sa : Nat) (s0 : Nat) (s1 : Nat) (s2 : Nat) (s3 : Nat) (s4 : Nat) (s5 : Nat) (s6 : Nat) (s7 : Nat) (s8 : Nat) (dk : Nat) (hd : Nat) (lg : Nat) (pl : Nat) (pr : Nat) (cS : ClassId) (x : Nat) (tl : Nat) (tw : Nat) (ou : Nat) (co : ClassId) (of_ : Nat → Int64) (sz : Nat)  : Met l yL_strength wsL_strength ({ frames := 2, cells := 0, slots := 0, locals := 43 }) (kP dC dI z zK zV [.ref x, .int 8, .ref ou] sz (wd_k_l_strength8 z sh rg mf mm mz ma sa s0 s1 s2 s3 s4 s5 s6 s7 s8 dk hd lg pl pr cS x tl tw ou co of_) [(cS, .object RX8), (co, .long)]) (va_Qi (fun (r : Int32) (_ : Unit) => 0 = r) (fun _ t => kB (dC, dI) (va_A (wd_k_l_strength8 z sh rg mf mm mz ma sa s0 s1 s2 s3 s4 s5 s6 s7 s8 dk hd lg pl pr cS x tl tw ou co of_) sz) [(ou, .inl (co, 1, .inr (.inl (vp_updL of_ 0 900))))] [] t) (va_A (wd_k_l_strength8 z sh rg mf mm mz ma sa s0 s1 s2 s3 s4 s5 s6 s7 s8 dk hd lg pl pr cS x tl tw ou co of_) sz)) 0 0 (va_A (wd_k_l_strength8 z sh rg mf mm mz ma sa s0 s1 s2 s3 s4 s5 s6 s7 s8 dk hd lg pl pr cS x tl tw ou co of_) sz) := by
  refine va_MetW (hh := [(0, 9, 12, 32)]) (cc := cL_strength) (maxL := 4) (ret := (some .int)) (by decide) rfl ?_
  intro p e s m args below meth c s₁ B hml hv
  obtain ⟨rfl, hsz, hP, hK, hD0, hM⟩ := hv
  have hx := B.exec
  have hb := B.bytes
  have hr := B.returns
  have hts := atoms_spec (ws := wsL_strength) B.pre
  have hown : s.vm.findClass RL = some m.cls := findClass_of_methodNamed B.named
  have hlocks := B.notSynchronized
  have htab := vx_table (x := yL_strength) B (hts _ List.mem_cons_self)
  subst hsz
  have hD := hD0.self (sz := s.heap.size)
  generalize hAe : va_A (wd_k_l_strength8 z sh rg mf mm mz ma sa s0 s1 s2 s3 s4 s5 s6 s7 s8 dk hd lg pl pr cS x tl tw ou co of_) s.heap.size = A at hD hM ⊢
  have hA : ∀ q : Nat, s.heap.size ≤ q → A q := fun q h => by rw [← hAe]; exact Or.inr h
  have hS : va_S A s.heap s.heap [] := va_S.rf
  have hP : va_P (dC, dI) vwCl [(x, .inr (15, [.ref sh, .ref tl, .ref tw, .int 0])), (sh, .inr (13, [.ref rg, .ref dk, .ref hd, .ref lg, .ref pl, .ref pr, .int 0, .int 0, .int 0, .int 0, .int 0, .int 0, .int 0, .int 0, .int 0, .int 0, .int 0])), (rg, .inr (11, [.ref mf, .ref mm, .ref mz, .ref ma, .ref sa, .int 0])), (sa, .inl (cS, 9, .inr (.inr (.inr (.inr (va_up (va_up (va_up (va_up (va_up (va_up (va_up (va_up (va_up (fun _ => none) 0 (some s0)) 1 (some s1)) 2 (some s2)) 3 (some s3)) 4 (some s4)) 5 (some s5)) 6 (some s6)) 7 (some s7)) 8 (some s8))))))), (s8, .inr (12, [.int 6, .int 4, .ref mz, .int 0, .int 0, .int 900, .int 0, .int 0])), (ou, .inl (co, 1, .inr (.inl of_)))] s.heap := hP
  have hD : va_D A [(x, .inr (15, [.ref sh, .ref tl, .ref tw, .int 0])), (sh, .inr (13, [.ref rg, .ref dk, .ref hd, .ref lg, .ref pl, .ref pr, .int 0, .int 0, .int 0, .int 0, .int 0, .int 0, .int 0, .int 0, .int 0, .int 0, .int 0])), (rg, .inr (11, [.ref mf, .ref mm, .ref mz, .ref ma, .ref sa, .int 0])), (sa, .inl (cS, 9, .inr (.inr (.inr (.inr (va_up (va_up (va_up (va_up (va_up (va_up (va_up (va_up (va_up (fun _ => none) 0 (some s0)) 1 (some s1)) 2 (some s2)) 3 (some s3)) 4 (some s4)) 5 (some s5)) 6 (some s6)) 7 (some s7)) 8 (some s8))))))), (s8, .inr (12, [.int 6, .int 4, .ref mz, .int 0, .int 0, .int 900, .int 0, .int 0])), (ou, .inl (co, 1, .inr (.inl of_)))] := hD
  have hl := lv_entry ([.ref x, .int 8, .ref ou]) (n := 4) (Nat.le_of_ble_eq_true rfl)
  rw [lg_entry_eq]
  generalize (lg_sl ([.ref x, .int 8, .ref ou]) ++ List.replicate (4 - (lg_sl ([.ref x, .int 8, .ref ou])).length) Slot.unset).toArray = ls at hl ⊢
  have hl : lv_has ls 4 [(0, .ref x), (1, .int 8), (2, .ref ou)] := hl
  refine lv_aload_n hx hb dL_strength_0 rfl (lv_at hl 2 rfl) ?_
  refine lv_iconst (v := 0) hx hb dL_strength_1 (by decide) ?_
  refine lv_aload_n hx hb dL_strength_2 rfl (lv_at hl 0 rfl) ?_
  refine lv_iload_n hx hb dL_strength_3 rfl (lv_at hl 1 rfl) ?_
  have hPc := hP.sub (ws' := [(x, .inr (15, [.ref sh, .ref tl, .ref tw, .int 0])), (sh, .inr (13, [.ref rg, .ref dk, .ref hd, .ref lg, .ref pl, .ref pr, .int 0, .int 0, .int 0, .int 0, .int 0, .int 0, .int 0, .int 0, .int 0, .int 0, .int 0])), (rg, .inr (11, [.ref mf, .ref mm, .ref mz, .ref ma, .ref sa, .int 0])), (sa, .inl (cS, 9, .inr (.inr (.inr (.inr (va_up (va_up (va_up (va_up (va_up (va_up (va_up (va_up (va_up (fun _ => none) 0 (some s0)) 1 (some s1)) 2 (some s2)) 3 (some s3)) 4 (some s4)) 5 (some s5)) 6 (some s6)) 7 (some s7)) 8 (some s8))))))), (s8, .inr (12, [.int 6, .int 4, .ref mz, .int 0, .int 0, .int 900, .int 0, .int 0]))]) [0, 1, 2, 3, 4] rfl
  have hDc := hD.sub (ws' := [(x, .inr (15, [.ref sh, .ref tl, .ref tw, .int 0])), (sh, .inr (13, [.ref rg, .ref dk, .ref hd, .ref lg, .ref pl, .ref pr, .int 0, .int 0, .int 0, .int 0, .int 0, .int 0, .int 0, .int 0, .int 0, .int 0, .int 0])), (rg, .inr (11, [.ref mf, .ref mm, .ref mz, .ref ma, .ref sa, .int 0])), (sa, .inl (cS, 9, .inr (.inr (.inr (.inr (va_up (va_up (va_up (va_up (va_up (va_up (va_up (va_up (va_up (fun _ => none) 0 (some s0)) 1 (some s1)) 2 (some s2)) 3 (some s3)) 4 (some s4)) 5 (some s5)) 6 (some s6)) 7 (some s7)) 8 (some s8))))))), (s8, .inr (12, [.int 6, .int 4, .ref mz, .int 0, .int 0, .int 900, .int 0, .int 0]))]) [0, 1, 2, 3, 4] (by decide) rfl
  have hKc := hK.sub (tys' := [(cS, .object RX8)]) [0] rfl
  have hFc := va_free (wc := [(x, .inr (15, [.ref sh, .ref tl, .ref tw, .int 0])), (sh, .inr (13, [.ref rg, .ref dk, .ref hd, .ref lg, .ref pl, .ref pr, .int 0, .int 0, .int 0, .int 0, .int 0, .int 0, .int 0, .int 0, .int 0, .int 0, .int 0])), (rg, .inr (11, [.ref mf, .ref mm, .ref mz, .ref ma, .ref sa, .int 0])), (sa, .inl (cS, 9, .inr (.inr (.inr (.inr (va_up (va_up (va_up (va_up (va_up (va_up (va_up (va_up (va_up (fun _ => none) 0 (some s0)) 1 (some s1)) 2 (some s2)) 3 (some s3)) 4 (some s4)) 5 (some s5)) 6 (some s6)) 7 (some s7)) 8 (some s8))))))), (s8, .inr (12, [.int 6, .int 4, .ref mz, .int 0, .int 0, .int 900, .int 0, .int 0]))]) hD hS hA [0, 1, 2, 3, 4] rfl
  refine va_calli (va_runV (As := [.int 8]) (rest := [.int 0, .ref ou]) ⟨hx, hb, hml, hown, hts⟩ (k_x_strength8 l dC dI z zK zV sh rg mf mm mz ma sa s0 s1 s2 s3 s4 s5 s6 s7 s8 dk hd lg pl pr cS x tl tw s.heap.size) (cwV 1 hts gL_strength_X11_strength rfl rfl rfl (by decide +kernel) ⟨Nat.le_of_ble_eq_true rfl, Nat.le_of_ble_eq_true rfl⟩) ⟨kP_blind, va_recv hKc hPc (ci := 15) (q0 := 0) rfl rfl, kP_go hPc hKc hDc hFc hM hS⟩ rfl rfl hl.1 rfl (lv_room (Nat.le_of_ble_eq_true rfl)) dL_strength_4 ⟨Nat.le_of_ble_eq_true rfl, Nat.le_of_ble_eq_true rfl⟩) hS (fun q _ h => hFc q h) hFc (fun r1 u t H1 locs ht hvm hw hB hz1 hk1 hS => ?_)
  obtain ⟨hP, hD, hK⟩ := kJ (wr := [(ou, .inl (co, 1, .inr (.inl of_)))]) (w1 := []) (t1 := []) hP hD hK [0, 1, 2, 3, 4] [5] rfl rfl (by decide) (by decide) hk1 hFc ht hvm hB
  generalize H1 = H at hP hS ⊢
  have hP : va_P (dC, dI) vwCl [(ou, .inl (co, 1, .inr (.inl of_)))] H := hP
  have hD : va_D A [(ou, .inl (co, 1, .inr (.inl of_)))] := hD
  have hK : va_K (dC, dI) vwCl [(cS, .object RX8), (co, .long)] s := hK
  obtain rfl : 900 = r1 := hw
  refine lv_i2l (v := 900) hx hb dL_strength_7 (by decide +kernel) ?_
  refine va_last hx hb hK hP hD hS 0 1 rfl rfl (pk_in 0 1 (by decide) rfl) dL_strength_8 (fun H locs hP hD hS => ?_)
  have hP : va_P (dC, dI) vwCl [(ou, .inl (co, 1, .inr (.inl (vp_updL of_ 0 900))))] H := hP
  have hD : va_D A [(ou, .inl (co, 1, .inr (.inl (vp_updL of_ 0 900))))] := hD
  refine lv_goto (tgt := 15) hx hb dL_strength_9 (by decide) ?_
  refine lv_iconst (v := 0) hx hb dL_strength_15 (by decide) ?_
  exact W.iret (v := 0) hx hb hr (fun t ht hW => ⟨⟨0, (), rfl, rfl, kB_end (w9 := [(ou, .inl (co, 1, .inr (.inl (vp_updL of_ 0 900))))]) (t9 := []) hP hK hD [0] [] rfl (by decide) rfl rfl t ht hW⟩, hS.F ht⟩) hS.2.2 dL_strength_16
abbrev wd_k_l_strength_bad (z : Nat → Nat) (sh : Nat) (rg : Nat) (mf : Nat) (mm : Nat) (mz : Nat) (ma : Nat) (sa : Nat) (s0 : Nat) (s1 : Nat) (s2 : Nat) (s3 : Nat) (s4 : Nat) (s5 : Nat) (s6 : Nat) (s7 : Nat) (s8 : Nat) (dk : Nat) (hd : Nat) (lg : Nat) (pl : Nat) (pr : Nat) (cS : ClassId) (x : Nat) (tl : Nat) (tw : Nat) (p0 : Int32) (ou : Nat) (co : ClassId) (of_ : Nat → Int64) : va_W := [(x, .inr (15, [.ref sh, .ref tl, .ref tw, .int 0])), (sh, .inr (13, [.ref rg, .ref dk, .ref hd, .ref lg, .ref pl, .ref pr, .int 0, .int 0, .int 0, .int 0, .int 0, .int 0, .int 0, .int 0, .int 0, .int 0, .int 0])), (rg, .inr (11, [.ref mf, .ref mm, .ref mz, .ref ma, .ref sa, .int 0])), (sa, .inl (cS, 9, .inr (.inr (.inr (.inr (va_up (va_up (va_up (va_up (va_up (va_up (va_up (va_up (va_up (fun _ => none) 0 (some s0)) 1 (some s1)) 2 (some s2)) 3 (some s3)) 4 (some s4)) 5 (some s5)) 6 (some s6)) 7 (some s7)) 8 (some s8))))))), (ou, .inl (co, 1, .inr (.inl of_)))]
set_option maxHeartbeats 4000000 in
set_option maxRecDepth 100000 in
theorem k_l_strength_bad (l : Launch) (dC : Nat → ClassId) (dI : Nat → Nat → Nat) (z zK zV : Nat → Nat) (sh : Nat) (rg : Nat) (mf : Nat) (mm : Nat) (mz : Nat) (ma : Nat) (sa : Nat) (s0 : Nat) (s1 : Nat) (s2 : Nat) (s3 : Nat) (s4 : Nat) (s5 : Nat) (s6 : Nat) (s7 : Nat) (s8 : Nat) (dk : Nat) (hd : Nat) (lg : Nat) (pl : Nat) (pr : Nat) (cS : ClassId) (x : Nat) (tl : Nat) (tw : Nat) (p0 : Int32) (ou : Nat) (co : ClassId) (of_ : Nat → Int64) (sz : Nat) (hst : l.stackTraces = false) (hb0 : p0 < 0 ∨ 9 ≤ p0) : Met l yL_strength wsL_strength ({ frames := 7, cells := 1, slots := 6, locals := 104 }) (kP dC dI z zK zV [.ref x, .int p0, .ref ou] sz (wd_k_l_strength_bad z sh rg mf mm mz ma sa s0 s1 s2 s3 s4 s5 s6 s7 s8 dk hd lg pl pr cS x tl tw p0 ou co of_) [(cS, .object RX8), (co, .long)]) (va_Qi (fun (r : Int32) (_ : Unit) => 1 = r) (fun _ t => kB (dC, dI) (va_A (wd_k_l_strength_bad z sh rg mf mm mz ma sa s0 s1 s2 s3 s4 s5 s6 s7 s8 dk hd lg pl pr cS x tl tw p0 ou co of_) sz) [] [] t) (va_A (wd_k_l_strength_bad z sh rg mf mm mz ma sa s0 s1 s2 s3 s4 s5 s6 s7 s8 dk hd lg pl pr cS x tl tw p0 ou co of_) sz)) 1 6 (va_A (wd_k_l_strength_bad z sh rg mf mm mz ma sa s0 s1 s2 s3 s4 s5 s6 s7 s8 dk hd lg pl pr cS x tl tw p0 ou co of_) sz) := by
  refine va_MetW (hh := [(0, 9, 12, 32)]) (cc := cL_strength) (maxL := 4) (ret := (some .int)) (by decide) rfl ?_
  intro p e s m args below meth c s₁ B hml hv
  obtain ⟨rfl, hsz, hP, hK, hD0, hM⟩ := hv
  have hx := B.exec
  have hb := B.bytes
  have hr := B.returns
  have hts := atoms_spec (ws := wsL_strength) B.pre
  have hown : s.vm.findClass RL = some m.cls := findClass_of_methodNamed B.named
  have hlocks := B.notSynchronized
  have htab := vx_table (x := yL_strength) B (hts _ List.mem_cons_self)
  subst hsz
  have hD := hD0.self (sz := s.heap.size)
  generalize hAe : va_A (wd_k_l_strength_bad z sh rg mf mm mz ma sa s0 s1 s2 s3 s4 s5 s6 s7 s8 dk hd lg pl pr cS x tl tw p0 ou co of_) s.heap.size = A at hD hM ⊢
  have hA : ∀ q : Nat, s.heap.size ≤ q → A q := fun q h => by rw [← hAe]; exact Or.inr h
  have hS : va_S A s.heap s.heap [] := va_S.rf
  have hP : va_P (dC, dI) vwCl [(x, .inr (15, [.ref sh, .ref tl, .ref tw, .int 0])), (sh, .inr (13, [.ref rg, .ref dk, .ref hd, .ref lg, .ref pl, .ref pr, .int 0, .int 0, .int 0, .int 0, .int 0, .int 0, .int 0, .int 0, .int 0, .int 0, .int 0])), (rg, .inr (11, [.ref mf, .ref mm, .ref mz, .ref ma, .ref sa, .int 0])), (sa, .inl (cS, 9, .inr (.inr (.inr (.inr (va_up (va_up (va_up (va_up (va_up (va_up (va_up (va_up (va_up (fun _ => none) 0 (some s0)) 1 (some s1)) 2 (some s2)) 3 (some s3)) 4 (some s4)) 5 (some s5)) 6 (some s6)) 7 (some s7)) 8 (some s8))))))), (ou, .inl (co, 1, .inr (.inl of_)))] s.heap := hP
  have hD : va_D A [(x, .inr (15, [.ref sh, .ref tl, .ref tw, .int 0])), (sh, .inr (13, [.ref rg, .ref dk, .ref hd, .ref lg, .ref pl, .ref pr, .int 0, .int 0, .int 0, .int 0, .int 0, .int 0, .int 0, .int 0, .int 0, .int 0, .int 0])), (rg, .inr (11, [.ref mf, .ref mm, .ref mz, .ref ma, .ref sa, .int 0])), (sa, .inl (cS, 9, .inr (.inr (.inr (.inr (va_up (va_up (va_up (va_up (va_up (va_up (va_up (va_up (va_up (fun _ => none) 0 (some s0)) 1 (some s1)) 2 (some s2)) 3 (some s3)) 4 (some s4)) 5 (some s5)) 6 (some s6)) 7 (some s7)) 8 (some s8))))))), (ou, .inl (co, 1, .inr (.inl of_)))] := hD
  have hl := lv_entry ([.ref x, .int p0, .ref ou]) (n := 4) (Nat.le_of_ble_eq_true rfl)
  rw [lg_entry_eq]
  generalize (lg_sl ([.ref x, .int p0, .ref ou]) ++ List.replicate (4 - (lg_sl ([.ref x, .int p0, .ref ou])).length) Slot.unset).toArray = ls at hl ⊢
  have hl : lv_has ls 4 [(0, .ref x), (1, .int p0), (2, .ref ou)] := hl
  refine lv_aload_n hx hb dL_strength_0 rfl (lv_at hl 2 rfl) ?_
  refine lv_iconst (v := 0) hx hb dL_strength_1 (by decide) ?_
  refine lv_aload_n hx hb dL_strength_2 rfl (lv_at hl 0 rfl) ?_
  refine lv_iload_n hx hb dL_strength_3 rfl (lv_at hl 1 rfl) ?_
  have hPc := hP.sub (ws' := [(x, .inr (15, [.ref sh, .ref tl, .ref tw, .int 0])), (sh, .inr (13, [.ref rg, .ref dk, .ref hd, .ref lg, .ref pl, .ref pr, .int 0, .int 0, .int 0, .int 0, .int 0, .int 0, .int 0, .int 0, .int 0, .int 0, .int 0])), (rg, .inr (11, [.ref mf, .ref mm, .ref mz, .ref ma, .ref sa, .int 0])), (sa, .inl (cS, 9, .inr (.inr (.inr (.inr (va_up (va_up (va_up (va_up (va_up (va_up (va_up (va_up (va_up (fun _ => none) 0 (some s0)) 1 (some s1)) 2 (some s2)) 3 (some s3)) 4 (some s4)) 5 (some s5)) 6 (some s6)) 7 (some s7)) 8 (some s8)))))))]) [0, 1, 2, 3] rfl
  have hDc := hD.sub (ws' := [(x, .inr (15, [.ref sh, .ref tl, .ref tw, .int 0])), (sh, .inr (13, [.ref rg, .ref dk, .ref hd, .ref lg, .ref pl, .ref pr, .int 0, .int 0, .int 0, .int 0, .int 0, .int 0, .int 0, .int 0, .int 0, .int 0, .int 0])), (rg, .inr (11, [.ref mf, .ref mm, .ref mz, .ref ma, .ref sa, .int 0])), (sa, .inl (cS, 9, .inr (.inr (.inr (.inr (va_up (va_up (va_up (va_up (va_up (va_up (va_up (va_up (va_up (fun _ => none) 0 (some s0)) 1 (some s1)) 2 (some s2)) 3 (some s3)) 4 (some s4)) 5 (some s5)) 6 (some s6)) 7 (some s7)) 8 (some s8)))))))]) [0, 1, 2, 3] (by decide) rfl
  have hKc := hK.sub (tys' := [(cS, .object RX8)]) [0] rfl
  have hFc := va_free (wc := [(x, .inr (15, [.ref sh, .ref tl, .ref tw, .int 0])), (sh, .inr (13, [.ref rg, .ref dk, .ref hd, .ref lg, .ref pl, .ref pr, .int 0, .int 0, .int 0, .int 0, .int 0, .int 0, .int 0, .int 0, .int 0, .int 0, .int 0])), (rg, .inr (11, [.ref mf, .ref mm, .ref mz, .ref ma, .ref sa, .int 0])), (sa, .inl (cS, 9, .inr (.inr (.inr (.inr (va_up (va_up (va_up (va_up (va_up (va_up (va_up (va_up (va_up (fun _ => none) 0 (some s0)) 1 (some s1)) 2 (some s2)) 3 (some s3)) 4 (some s4)) 5 (some s5)) 6 (some s6)) 7 (some s7)) 8 (some s8)))))))]) hD hS hA [0, 1, 2, 3] rfl
  refine vx_calli (vx_runV (As := [.int p0]) (rest := [.int 0, .ref ou]) ⟨hx, hb, hml, hown, hts⟩ (k_x_strength_bad l dC dI z zK zV sh rg mf mm mz ma sa s0 s1 s2 s3 s4 s5 s6 s7 s8 dk hd lg pl pr cS x tl tw p0 s.heap.size hst (hb0)) (cwV 1 hts gL_strength_X11_strength rfl rfl rfl (by decide +kernel) ⟨Nat.le_of_ble_eq_true rfl, Nat.le_of_ble_eq_true rfl⟩) ⟨kP_blind, va_recv hKc hPc (ci := 15) (q0 := 0) rfl rfl, kP_go hPc hKc hDc hFc hM hS⟩ rfl rfl hl.1 rfl (lv_room (Nat.le_of_ble_eq_true rfl)) dL_strength_4 ⟨Nat.le_of_ble_eq_true rfl, Nat.le_of_ble_eq_true rfl⟩) hS (fun q _ h => hFc q h) hFc (fun q _ h => hFc q h) (fun E ce q9 u t H1 locs ht hvm hpx hbx hz1 hk1 hS hcell hcv hcl => ?_) (fun r1 u t H1 locs ht hvm hw hB hz1 hk1 hS => ?_)
  · skip
    obtain rfl : "java/lang/IndexOutOfBoundsException" = E := hbx
    obtain ⟨hP, hD, hK⟩ := kJ (wr := [(ou, .inl (co, 1, .inr (.inl of_)))]) (w1 := []) (t1 := []) hP hD hK [0, 1, 2, 3] [4] rfl rfl (by decide) (by decide) hk1 hFc ht hvm (kB_nil t (va_K.moved hvm (hK.sub (tys' := []) [] rfl)))
    generalize H1 = H at hP hS hcell ⊢
    have hP : va_P (dC, dI) vwCl [(ou, .inl (co, 1, .inr (.inl of_)))] H := hP
    have hD : va_D A [(ou, .inl (co, 1, .inr (.inl of_)))] := hD
    have hK : va_K (dC, dI) vwCl [(cS, .object RX8), (co, .long)] s := hK
    refine vx_catch hown [] ⟨0, 9, 12, 32⟩ _ (htab.trans rfl) (fun z hz => absurd hz List.not_mem_nil) rfl (by decide) (hts (.classLink RL 32 "java/lang/IndexOutOfBoundsException") (by decide +kernel)) (va_Nw.use rfl (hM.2.2.2.2.2.2.2.2.2.1 _ (List.mem_of_getElem? (i := 1) rfl))) hcell hcv hcl ?_
    refine lv_astore_n (lv' := [(3, .ref q9), (0, .ref x), (1, .int p0), (2, .ref ou)]) hx hb dL_strength_12 rfl hl (by decide) rfl (fun ls hl => ?_)
    refine lv_iconst (v := 1) hx hb dL_strength_13 (by decide) ?_
    refine W.widen (k := 1) (n := 6) (Nat.le_of_ble_eq_true rfl) (Nat.le_of_ble_eq_true rfl) ?_
    exact W.iret (v := 1) hx hb hr (fun t ht hW => ⟨⟨1, (), rfl, rfl, kB_end (w9 := []) (t9 := []) hP hK hD [] [] rfl (by decide) rfl rfl t ht hW⟩, hS.F ht⟩) hS.2.2 dL_strength_14
  · skip
    exact hw.elim
abbrev wd_k_l_force0 (z : Nat → Nat) (sh : Nat) (rg : Nat) (mf : Nat) (mm : Nat) (mz : Nat) (ma : Nat) (sa : Nat) (s0 : Nat) (s1 : Nat) (s2 : Nat) (s3 : Nat) (s4 : Nat) (s5 : Nat) (s6 : Nat) (s7 : Nat) (s8 : Nat) (dk : Nat) (hd : Nat) (lg : Nat) (pl : Nat) (pr : Nat) (cM : ClassId) (cS : ClassId) (x : Nat) (tl : Nat) (tw : Nat) (ou : Nat) (co : ClassId) (of_ : Nat → Int64) : va_W := [(x, .inr (15, [.ref sh, .ref tl, .ref tw, .int 0])), (sh, .inr (13, [.ref rg, .ref dk, .ref hd, .ref lg, .ref pl, .ref pr, .int 0, .int 0, .int 0, .int 0, .int 0, .int 0, .int 0, .int 0, .int 0, .int 0, .int 0])), (rg, .inr (11, [.ref mf, .ref mm, .ref mz, .ref ma, .ref sa, .int 0])), (mf, .inr (8, [.int 0, .int 0, .int 0])), (mm, .inr (8, [.int 0, .int 0, .int 0])), (mz, .inr (8, [.int 0, .int 0, .int 0])), (ma, .inl (cM, 3, .inr (.inr (.inr (.inr (va_up (va_up (va_up (fun _ => none) 0 (some mf)) 1 (some mm)) 2 (some mz))))))), (sa, .inl (cS, 9, .inr (.inr (.inr (.inr (va_up (va_up (va_up (va_up (va_up (va_up (va_up (va_up (va_up (fun _ => none) 0 (some s0)) 1 (some s1)) 2 (some s2)) 3 (some s3)) 4 (some s4)) 5 (some s5)) 6 (some s6)) 7 (some s7)) 8 (some s8))))))), (s0, .inr (12, [.int 8, .int 6, .ref mf, .int 1, .int 0, .int 900, .int 0, .int 0])), (s1, .inr (12, [.int 7, .int 5, .ref mf, .int 1, .int 0, .int 900, .int 0, .int 0])), (s2, .inr (12, [.int 3, .int 3, .ref mf, .int 1, .int 0, .int 900, .int 0, .int 0])), (s3, .inr (12, [.int 10, .int 8, .ref mm, .int 1, .int 0, .int 900, .int 0, .int 0])), (s4, .inr (12, [.int 9, .int 6, .ref mm, .int 1, .int 0, .int 900, .int 0, .int 0])), (s5, .inr (12, [.int 4, .int 3, .ref mm, .int 1, .int 0, .int 900, .int 0, .int 0])), (s6, .inr (12, [.int 5, .int 4, .ref mz, .int 1, .int 0, .int 900, .int 0, .int 0])), (s7, .inr (12, [.int 4, .int 3, .ref mf, .int 0, .int 0, .int 900, .int 0, .int 0])), (s8, .inr (12, [.int 6, .int 4, .ref mz, .int 0, .int 0, .int 900, .int 0, .int 0])), (ou, .inl (co, 1, .inr (.inl of_)))]
set_option maxHeartbeats 4000000 in
set_option maxRecDepth 100000 in
theorem k_l_force0 (l : Launch) (dC : Nat → ClassId) (dI : Nat → Nat → Nat) (z zK zV : Nat → Nat) (sh : Nat) (rg : Nat) (mf : Nat) (mm : Nat) (mz : Nat) (ma : Nat) (sa : Nat) (s0 : Nat) (s1 : Nat) (s2 : Nat) (s3 : Nat) (s4 : Nat) (s5 : Nat) (s6 : Nat) (s7 : Nat) (s8 : Nat) (dk : Nat) (hd : Nat) (lg : Nat) (pl : Nat) (pr : Nat) (cM : ClassId) (cS : ClassId) (x : Nat) (tl : Nat) (tw : Nat) (ou : Nat) (co : ClassId) (of_ : Nat → Int64) (sz : Nat)  : Met l yL_force wsL_force ({ frames := 5, cells := 0, slots := 0, locals := 109 }) (kP dC dI z zK zV [.ref x, .int 0, .ref ou] sz (wd_k_l_force0 z sh rg mf mm mz ma sa s0 s1 s2 s3 s4 s5 s6 s7 s8 dk hd lg pl pr cM cS x tl tw ou co of_) [(cM, .object RX4), (cS, .object RX8), (co, .long)]) (va_Qi (fun (r : Int32) (_ : Unit) => 0 = r) (fun _ t => kB (dC, dI) (va_A (wd_k_l_force0 z sh rg mf mm mz ma sa s0 s1 s2 s3 s4 s5 s6 s7 s8 dk hd lg pl pr cM cS x tl tw ou co of_) sz) [(ou, .inl (co, 1, .inr (.inl (vp_updL of_ 0 0))))] [] t) (va_A (wd_k_l_force0 z sh rg mf mm mz ma sa s0 s1 s2 s3 s4 s5 s6 s7 s8 dk hd lg pl pr cM cS x tl tw ou co of_) sz)) 0 0 (va_A (wd_k_l_force0 z sh rg mf mm mz ma sa s0 s1 s2 s3 s4 s5 s6 s7 s8 dk hd lg pl pr cM cS x tl tw ou co of_) sz) := by
  refine va_MetW (hh := [(0, 9, 12, 32)]) (cc := cL_force) (maxL := 4) (ret := (some .int)) (by decide) rfl ?_
  intro p e s m args below meth c s₁ B hml hv
  obtain ⟨rfl, hsz, hP, hK, hD0, hM⟩ := hv
  have hx := B.exec
  have hb := B.bytes
  have hr := B.returns
  have hts := atoms_spec (ws := wsL_force) B.pre
  have hown : s.vm.findClass RL = some m.cls := findClass_of_methodNamed B.named
  have hlocks := B.notSynchronized
  have htab := vx_table (x := yL_force) B (hts _ List.mem_cons_self)
  subst hsz
  have hD := hD0.self (sz := s.heap.size)
  generalize hAe : va_A (wd_k_l_force0 z sh rg mf mm mz ma sa s0 s1 s2 s3 s4 s5 s6 s7 s8 dk hd lg pl pr cM cS x tl tw ou co of_) s.heap.size = A at hD hM ⊢
  have hA : ∀ q : Nat, s.heap.size ≤ q → A q := fun q h => by rw [← hAe]; exact Or.inr h
  have hS : va_S A s.heap s.heap [] := va_S.rf
  have hP : va_P (dC, dI) vwCl [(x, .inr (15, [.ref sh, .ref tl, .ref tw, .int 0])), (sh, .inr (13, [.ref rg, .ref dk, .ref hd, .ref lg, .ref pl, .ref pr, .int 0, .int 0, .int 0, .int 0, .int 0, .int 0, .int 0, .int 0, .int 0, .int 0, .int 0])), (rg, .inr (11, [.ref mf, .ref mm, .ref mz, .ref ma, .ref sa, .int 0])), (mf, .inr (8, [.int 0, .int 0, .int 0])), (mm, .inr (8, [.int 0, .int 0, .int 0])), (mz, .inr (8, [.int 0, .int 0, .int 0])), (ma, .inl (cM, 3, .inr (.inr (.inr (.inr (va_up (va_up (va_up (fun _ => none) 0 (some mf)) 1 (some mm)) 2 (some mz))))))), (sa, .inl (cS, 9, .inr (.inr (.inr (.inr (va_up (va_up (va_up (va_up (va_up (va_up (va_up (va_up (va_up (fun _ => none) 0 (some s0)) 1 (some s1)) 2 (some s2)) 3 (some s3)) 4 (some s4)) 5 (some s5)) 6 (some s6)) 7 (some s7)) 8 (some s8))))))), (s0, .inr (12, [.int 8, .int 6, .ref mf, .int 1, .int 0, .int 900, .int 0, .int 0])), (s1, .inr (12, [.int 7, .int 5, .ref mf, .int 1, .int 0, .int 900, .int 0, .int 0])), (s2, .inr (12, [.int 3, .int 3, .ref mf, .int 1, .int 0, .int 900, .int 0, .int 0])), (s3, .inr (12, [.int 10, .int 8, .ref mm, .int 1, .int 0, .int 900, .int 0, .int 0])), (s4, .inr (12, [.int 9, .int 6, .ref mm, .int 1, .int 0, .int 900, .int 0, .int 0])), (s5, .inr (12, [.int 4, .int 3, .ref mm, .int 1, .int 0, .int 900, .int 0, .int 0])), (s6, .inr (12, [.int 5, .int 4, .ref mz, .int 1, .int 0, .int 900, .int 0, .int 0])), (s7, .inr (12, [.int 4, .int 3, .ref mf, .int 0, .int 0, .int 900, .int 0, .int 0])), (s8, .inr (12, [.int 6, .int 4, .ref mz, .int 0, .int 0, .int 900, .int 0, .int 0])), (ou, .inl (co, 1, .inr (.inl of_)))] s.heap := hP
  have hD : va_D A [(x, .inr (15, [.ref sh, .ref tl, .ref tw, .int 0])), (sh, .inr (13, [.ref rg, .ref dk, .ref hd, .ref lg, .ref pl, .ref pr, .int 0, .int 0, .int 0, .int 0, .int 0, .int 0, .int 0, .int 0, .int 0, .int 0, .int 0])), (rg, .inr (11, [.ref mf, .ref mm, .ref mz, .ref ma, .ref sa, .int 0])), (mf, .inr (8, [.int 0, .int 0, .int 0])), (mm, .inr (8, [.int 0, .int 0, .int 0])), (mz, .inr (8, [.int 0, .int 0, .int 0])), (ma, .inl (cM, 3, .inr (.inr (.inr (.inr (va_up (va_up (va_up (fun _ => none) 0 (some mf)) 1 (some mm)) 2 (some mz))))))), (sa, .inl (cS, 9, .inr (.inr (.inr (.inr (va_up (va_up (va_up (va_up (va_up (va_up (va_up (va_up (va_up (fun _ => none) 0 (some s0)) 1 (some s1)) 2 (some s2)) 3 (some s3)) 4 (some s4)) 5 (some s5)) 6 (some s6)) 7 (some s7)) 8 (some s8))))))), (s0, .inr (12, [.int 8, .int 6, .ref mf, .int 1, .int 0, .int 900, .int 0, .int 0])), (s1, .inr (12, [.int 7, .int 5, .ref mf, .int 1, .int 0, .int 900, .int 0, .int 0])), (s2, .inr (12, [.int 3, .int 3, .ref mf, .int 1, .int 0, .int 900, .int 0, .int 0])), (s3, .inr (12, [.int 10, .int 8, .ref mm, .int 1, .int 0, .int 900, .int 0, .int 0])), (s4, .inr (12, [.int 9, .int 6, .ref mm, .int 1, .int 0, .int 900, .int 0, .int 0])), (s5, .inr (12, [.int 4, .int 3, .ref mm, .int 1, .int 0, .int 900, .int 0, .int 0])), (s6, .inr (12, [.int 5, .int 4, .ref mz, .int 1, .int 0, .int 900, .int 0, .int 0])), (s7, .inr (12, [.int 4, .int 3, .ref mf, .int 0, .int 0, .int 900, .int 0, .int 0])), (s8, .inr (12, [.int 6, .int 4, .ref mz, .int 0, .int 0, .int 900, .int 0, .int 0])), (ou, .inl (co, 1, .inr (.inl of_)))] := hD
  have hl := lv_entry ([.ref x, .int 0, .ref ou]) (n := 4) (Nat.le_of_ble_eq_true rfl)
  rw [lg_entry_eq]
  generalize (lg_sl ([.ref x, .int 0, .ref ou]) ++ List.replicate (4 - (lg_sl ([.ref x, .int 0, .ref ou])).length) Slot.unset).toArray = ls at hl ⊢
  have hl : lv_has ls 4 [(0, .ref x), (1, .int 0), (2, .ref ou)] := hl
  refine lv_aload_n hx hb dL_force_0 rfl (lv_at hl 2 rfl) ?_
  refine lv_iconst (v := 0) hx hb dL_force_1 (by decide) ?_
  refine lv_aload_n hx hb dL_force_2 rfl (lv_at hl 0 rfl) ?_
  refine lv_iload_n hx hb dL_force_3 rfl (lv_at hl 1 rfl) ?_
  have hPc := hP.sub (ws' := [(x, .inr (15, [.ref sh, .ref tl, .ref tw, .int 0])), (sh, .inr (13, [.ref rg, .ref dk, .ref hd, .ref lg, .ref pl, .ref pr, .int 0, .int 0, .int 0, .int 0, .int 0, .int 0, .int 0, .int 0, .int 0, .int 0, .int 0])), (rg, .inr (11, [.ref mf, .ref mm, .ref mz, .ref ma, .ref sa, .int 0])), (mf, .inr (8, [.int 0, .int 0, .int 0])), (mm, .inr (8, [.int 0, .int 0, .int 0])), (mz, .inr (8, [.int 0, .int 0, .int 0])), (ma, .inl (cM, 3, .inr (.inr (.inr (.inr (va_up (va_up (va_up (fun _ => none) 0 (some mf)) 1 (some mm)) 2 (some mz))))))), (sa, .inl (cS, 9, .inr (.inr (.inr (.inr (va_up (va_up (va_up (va_up (va_up (va_up (va_up (va_up (va_up (fun _ => none) 0 (some s0)) 1 (some s1)) 2 (some s2)) 3 (some s3)) 4 (some s4)) 5 (some s5)) 6 (some s6)) 7 (some s7)) 8 (some s8))))))), (s0, .inr (12, [.int 8, .int 6, .ref mf, .int 1, .int 0, .int 900, .int 0, .int 0])), (s1, .inr (12, [.int 7, .int 5, .ref mf, .int 1, .int 0, .int 900, .int 0, .int 0])), (s2, .inr (12, [.int 3, .int 3, .ref mf, .int 1, .int 0, .int 900, .int 0, .int 0])), (s3, .inr (12, [.int 10, .int 8, .ref mm, .int 1, .int 0, .int 900, .int 0, .int 0])), (s4, .inr (12, [.int 9, .int 6, .ref mm, .int 1, .int 0, .int 900, .int 0, .int 0])), (s5, .inr (12, [.int 4, .int 3, .ref mm, .int 1, .int 0, .int 900, .int 0, .int 0])), (s6, .inr (12, [.int 5, .int 4, .ref mz, .int 1, .int 0, .int 900, .int 0, .int 0])), (s7, .inr (12, [.int 4, .int 3, .ref mf, .int 0, .int 0, .int 900, .int 0, .int 0])), (s8, .inr (12, [.int 6, .int 4, .ref mz, .int 0, .int 0, .int 900, .int 0, .int 0]))]) [0, 1, 2, 3, 4, 5, 6, 7, 8, 9, 10, 11, 12, 13, 14, 15, 16] rfl
  have hDc := hD.sub (ws' := [(x, .inr (15, [.ref sh, .ref tl, .ref tw, .int 0])), (sh, .inr (13, [.ref rg, .ref dk, .ref hd, .ref lg, .ref pl, .ref pr, .int 0, .int 0, .int 0, .int 0, .int 0, .int 0, .int 0, .int 0, .int 0, .int 0, .int 0])), (rg, .inr (11, [.ref mf, .ref mm, .ref mz, .ref ma, .ref sa, .int 0])), (mf, .inr (8, [.int 0, .int 0, .int 0])), (mm, .inr (8, [.int 0, .int 0, .int 0])), (mz, .inr (8, [.int 0, .int 0, .int 0])), (ma, .inl (cM, 3, .inr (.inr (.inr (.inr (va_up (va_up (va_up (fun _ => none) 0 (some mf)) 1 (some mm)) 2 (some mz))))))), (sa, .inl (cS, 9, .inr (.inr (.inr (.inr (va_up (va_up (va_up (va_up (va_up (va_up (va_up (va_up (va_up (fun _ => none) 0 (some s0)) 1 (some s1)) 2 (some s2)) 3 (some s3)) 4 (some s4)) 5 (some s5)) 6 (some s6)) 7 (some s7)) 8 (some s8))))))), (s0, .inr (12, [.int 8, .int 6, .ref mf, .int 1, .int 0, .int 900, .int 0, .int 0])), (s1, .inr (12, [.int 7, .int 5, .ref mf, .int 1, .int 0, .int 900, .int 0, .int 0])), (s2, .inr (12, [.int 3, .int 3, .ref mf, .int 1, .int 0, .int 900, .int 0, .int 0])), (s3, .inr (12, [.int 10, .int 8, .ref mm, .int 1, .int 0, .int 900, .int 0, .int 0])), (s4, .inr (12, [.int 9, .int 6, .ref mm, .int 1, .int 0, .int 900, .int 0, .int 0])), (s5, .inr (12, [.int 4, .int 3, .ref mm, .int 1, .int 0, .int 900, .int 0, .int 0])), (s6, .inr (12, [.int 5, .int 4, .ref mz, .int 1, .int 0, .int 900, .int 0, .int 0])), (s7, .inr (12, [.int 4, .int 3, .ref mf, .int 0, .int 0, .int 900, .int 0, .int 0])), (s8, .inr (12, [.int 6, .int 4, .ref mz, .int 0, .int 0, .int 900, .int 0, .int 0]))]) [0, 1, 2, 3, 4, 5, 6, 7, 8, 9, 10, 11, 12, 13, 14, 15, 16] (by decide) rfl
  have hKc := hK.sub (tys' := [(cM, .object RX4), (cS, .object RX8)]) [0, 1] rfl
  have hFc := va_free (wc := [(x, .inr (15, [.ref sh, .ref tl, .ref tw, .int 0])), (sh, .inr (13, [.ref rg, .ref dk, .ref hd, .ref lg, .ref pl, .ref pr, .int 0, .int 0, .int 0, .int 0, .int 0, .int 0, .int 0, .int 0, .int 0, .int 0, .int 0])), (rg, .inr (11, [.ref mf, .ref mm, .ref mz, .ref ma, .ref sa, .int 0])), (mf, .inr (8, [.int 0, .int 0, .int 0])), (mm, .inr (8, [.int 0, .int 0, .int 0])), (mz, .inr (8, [.int 0, .int 0, .int 0])), (ma, .inl (cM, 3, .inr (.inr (.inr (.inr (va_up (va_up (va_up (fun _ => none) 0 (some mf)) 1 (some mm)) 2 (some mz))))))), (sa, .inl (cS, 9, .inr (.inr (.inr (.inr (va_up (va_up (va_up (va_up (va_up (va_up (va_up (va_up (va_up (fun _ => none) 0 (some s0)) 1 (some s1)) 2 (some s2)) 3 (some s3)) 4 (some s4)) 5 (some s5)) 6 (some s6)) 7 (some s7)) 8 (some s8))))))), (s0, .inr (12, [.int 8, .int 6, .ref mf, .int 1, .int 0, .int 900, .int 0, .int 0])), (s1, .inr (12, [.int 7, .int 5, .ref mf, .int 1, .int 0, .int 900, .int 0, .int 0])), (s2, .inr (12, [.int 3, .int 3, .ref mf, .int 1, .int 0, .int 900, .int 0, .int 0])), (s3, .inr (12, [.int 10, .int 8, .ref mm, .int 1, .int 0, .int 900, .int 0, .int 0])), (s4, .inr (12, [.int 9, .int 6, .ref mm, .int 1, .int 0, .int 900, .int 0, .int 0])), (s5, .inr (12, [.int 4, .int 3, .ref mm, .int 1, .int 0, .int 900, .int 0, .int 0])), (s6, .inr (12, [.int 5, .int 4, .ref mz, .int 1, .int 0, .int 900, .int 0, .int 0])), (s7, .inr (12, [.int 4, .int 3, .ref mf, .int 0, .int 0, .int 900, .int 0, .int 0])), (s8, .inr (12, [.int 6, .int 4, .ref mz, .int 0, .int 0, .int 900, .int 0, .int 0]))]) hD hS hA [0, 1, 2, 3, 4, 5, 6, 7, 8, 9, 10, 11, 12, 13, 14, 15, 16] rfl
  refine va_calli (va_runV (As := [.int 0]) (rest := [.int 0, .ref ou]) ⟨hx, hb, hml, hown, hts⟩ (k_x_force0 l dC dI z zK zV sh rg mf mm mz ma sa s0 s1 s2 s3 s4 s5 s6 s7 s8 dk hd lg pl pr cM cS x tl tw s.heap.size) (cwV 1 hts gL_force_X11_force rfl rfl rfl (by decide +kernel) ⟨Nat.le_of_ble_eq_true rfl, Nat.le_of_ble_eq_true rfl⟩) ⟨kP_blind, va_recv hKc hPc (ci := 15) (q0 := 0) rfl rfl, kP_go hPc hKc hDc hFc hM hS⟩ rfl rfl hl.1 rfl (lv_room (Nat.le_of_ble_eq_true rfl)) dL_force_4 ⟨Nat.le_of_ble_eq_true rfl, Nat.le_of_ble_eq_true rfl⟩) hS (fun q _ h => hFc q h) hFc (fun r1 u t H1 locs ht hvm hw hB hz1 hk1 hS => ?_)
  obtain ⟨hP, hD, hK⟩ := kJ (wr := [(ou, .inl (co, 1, .inr (.inl of_)))]) (w1 := []) (t1 := []) hP hD hK [0, 1, 2, 3, 4, 5, 6, 7, 8, 9, 10, 11, 12, 13, 14, 15, 16] [17] rfl rfl (by decide) (by decide) hk1 hFc ht hvm hB
  generalize H1 = H at hP hS ⊢
  have hP : va_P (dC, dI) vwCl [(ou, .inl (co, 1, .inr (.inl of_)))] H := hP
  have hD : va_D A [(ou, .inl (co, 1, .inr (.inl of_)))] := hD
  have hK : va_K (dC, dI) vwCl [(cM, .object RX4), (cS, .object RX8), (co, .long)] s := hK
  obtain rfl : 0 = r1 := hw
  refine lv_i2l (v := 0) hx hb dL_force_7 (by decide +kernel) ?_
  refine va_last hx hb hK hP hD hS 0 2 rfl rfl (pk_in 0 1 (by decide) rfl) dL_force_8 (fun H locs hP hD hS => ?_)
  have hP : va_P (dC, dI) vwCl [(ou, .inl (co, 1, .inr (.inl (vp_updL of_ 0 0))))] H := hP
  have hD : va_D A [(ou, .inl (co, 1, .inr (.inl (vp_updL of_ 0 0))))] := hD
  refine lv_goto (tgt := 15) hx hb dL_force_9 (by decide) ?_
  refine lv_iconst (v := 0) hx hb dL_force_15 (by decide) ?_
  exact W.iret (v := 0) hx hb hr (fun t ht hW => ⟨⟨0, (), rfl, rfl, kB_end (w9 := [(ou, .inl (co, 1, .inr (.inl (vp_updL of_ 0 0))))]) (t9 := []) hP hK hD [0] [] rfl (by decide) rfl rfl t ht hW⟩, hS.F ht⟩) hS.2.2 dL_force_16
abbrev wd_k_l_force1 (z : Nat → Nat) (sh : Nat) (rg : Nat) (mf : Nat) (mm : Nat) (mz : Nat) (ma : Nat) (sa : Nat) (s0 : Nat) (s1 : Nat) (s2 : Nat) (s3 : Nat) (s4 : Nat) (s5 : Nat) (s6 : Nat) (s7 : Nat) (s8 : Nat) (dk : Nat) (hd : Nat) (lg : Nat) (pl : Nat) (pr : Nat) (cM : ClassId) (cS : ClassId) (x : Nat) (tl : Nat) (tw : Nat) (ou : Nat) (co : ClassId) (of_ : Nat → Int64) : va_W := [(x, .inr (15, [.ref sh, .ref tl, .ref tw, .int 0])), (sh, .inr (13, [.ref rg, .ref dk, .ref hd, .ref lg, .ref pl, .ref pr, .int 0, .int 0, .int 0, .int 0, .int 0, .int 0, .int 0, .int 0, .int 0, .int 0, .int 0])), (rg, .inr (11, [.ref mf, .ref mm, .ref mz, .ref ma, .ref sa, .int 0])), (mf, .inr (8, [.int 0, .int 0, .int 0])), (mm, .inr (8, [.int 0, .int 0, .int 0])), (mz, .inr (8, [.int 0, .int 0, .int 0])), (ma, .inl (cM, 3, .inr (.inr (.inr (.inr (va_up (va_up (va_up (fun _ => none) 0 (some mf)) 1 (some mm)) 2 (some mz))))))), (sa, .inl (cS, 9, .inr (.inr (.inr (.inr (va_up (va_up (va_up (va_up (va_up (va_up (va_up (va_up (va_up (fun _ => none) 0 (some s0)) 1 (some s1)) 2 (some s2)) 3 (some s3)) 4 (some s4)) 5 (some s5)) 6 (some s6)) 7 (some s7)) 8 (some s8))))))), (s0, .inr (12, [.int 8, .int 6, .ref mf, .int 1, .int 0, .int 900, .int 0, .int 0])), (s1, .inr (12, [.int 7, .int 5, .ref mf, .int 1, .int 0, .int 900, .int 0, .int 0])), (s2, .inr (12, [.int 3, .int 3, .ref mf, .int 1, .int 0, .int 900, .int 0, .int 0])), (s3, .inr (12, [.int 10, .int 8, .ref mm, .int 1, .int 0, .int 900, .int 0, .int 0])), (s4, .inr (12, [.int 9, .int 6, .ref mm, .int 1, .int 0, .int 900, .int 0, .int 0])), (s5, .inr (12, [.int 4, .int 3, .ref mm, .int 1, .int 0, .int 900, .int 0, .int 0])), (s6, .inr (12, [.int 5, .int 4, .ref mz, .int 1, .int 0, .int 900, .int 0, .int 0])), (s7, .inr (12, [.int 4, .int 3, .ref mf, .int 0, .int 0, .int 900, .int 0, .int 0])), (s8, .inr (12, [.int 6, .int 4, .ref mz, .int 0, .int 0, .int 900, .int 0, .int 0])), (ou, .inl (co, 1, .inr (.inl of_)))]
set_option maxHeartbeats 4000000 in
set_option maxRecDepth 100000 in
theorem k_l_force1 (l : Launch) (dC : Nat → ClassId) (dI : Nat → Nat → Nat) (z zK zV : Nat → Nat) (sh : Nat) (rg : Nat) (mf : Nat) (mm : Nat) (mz : Nat) (ma : Nat) (sa : Nat) (s0 : Nat) (s1 : Nat) (s2 : Nat) (s3 : Nat) (s4 : Nat) (s5 : Nat) (s6 : Nat) (s7 : Nat) (s8 : Nat) (dk : Nat) (hd : Nat) (lg : Nat) (pl : Nat) (pr : Nat) (cM : ClassId) (cS : ClassId) (x : Nat) (tl : Nat) (tw : Nat) (ou : Nat) (co : ClassId) (of_ : Nat → Int64) (sz : Nat)  : Met l yL_force wsL_force ({ frames := 5, cells := 0, slots := 0, locals := 109 }) (kP dC dI z zK zV [.ref x, .int 1, .ref ou] sz (wd_k_l_force1 z sh rg mf mm mz ma sa s0 s1 s2 s3 s4 s5 s6 s7 s8 dk hd lg pl pr cM cS x tl tw ou co of_) [(cM, .object RX4), (cS, .object RX8), (co, .long)]) (va_Qi (fun (r : Int32) (_ : Unit) => 0 = r) (fun _ t => kB (dC, dI) (va_A (wd_k_l_force1 z sh rg mf mm mz ma sa s0 s1 s2 s3 s4 s5 s6 s7 s8 dk hd lg pl pr cM cS x tl tw ou co of_) sz) [(ou, .inl (co, 1, .inr (.inl (vp_updL of_ 0 0))))] [] t) (va_A (wd_k_l_force1 z sh rg mf mm mz ma sa s0 s1 s2 s3 s4 s5 s6 s7 s8 dk hd lg pl pr cM cS x tl tw ou co of_) sz)) 0 0 (va_A (wd_k_l_force1 z sh rg mf mm mz ma sa s0 s1 s2 s3 s4 s5 s6 s7 s8 dk hd lg pl pr cM cS x tl tw ou co of_) sz) := by
  refine va_MetW (hh := [(0, 9, 12, 32)]) (cc := cL_force) (maxL := 4) (ret := (some .int)) (by decide) rfl ?_
  intro p e s m args below meth c s₁ B hml hv
  obtain ⟨rfl, hsz, hP, hK, hD0, hM⟩ := hv
  have hx := B.exec
  have hb := B.bytes
  have hr := B.returns
  have hts := atoms_spec (ws := wsL_force) B.pre
  have hown : s.vm.findClass RL = some m.cls := findClass_of_methodNamed B.named
  have hlocks := B.notSynchronized
  have htab := vx_table (x := yL_force) B (hts _ List.mem_cons_self)
  subst hsz
  have hD := hD0.self (sz := s.heap.size)
  generalize hAe : va_A (wd_k_l_force1 z sh rg mf mm mz ma sa s0 s1 s2 s3 s4 s5 s6 s7 s8 dk hd lg pl pr cM cS x tl tw ou co of_) s.heap.size = A at hD hM ⊢
  have hA : ∀ q : Nat, s.heap.size ≤ q → A q := fun q h => by rw [← hAe]; exact Or.inr h
  have hS : va_S A s.heap s.heap [] := va_S.rf
  have hP : va_P (dC, dI) vwCl [(x, .inr (15, [.ref sh, .ref tl, .ref tw, .int 0])), (sh, .inr (13, [.ref rg, .ref dk, .ref hd, .ref lg, .ref pl, .ref pr, .int 0, .int 0, .int 0, .int 0, .int 0, .int 0, .int 0, .int 0, .int 0, .int 0, .int 0])), (rg, .inr (11, [.ref mf, .ref mm, .ref mz, .ref ma, .ref sa, .int 0])), (mf, .inr (8, [.int 0, .int 0, .int 0])), (mm, .inr (8, [.int 0, .int 0, .int 0])), (mz, .inr (8, [.int 0, .int 0, .int 0])), (ma, .inl (cM, 3, .inr (.inr (.inr (.inr (va_up (va_up (va_up (fun _ => none) 0 (some mf)) 1 (some mm)) 2 (some mz))))))), (sa, .inl (cS, 9, .inr (.inr (.inr (.inr (va_up (va_up (va_up (va_up (va_up (va_up (va_up (va_up (va_up (fun _ => none) 0 (some s0)) 1 (some s1)) 2 (some s2)) 3 (some s3)) 4 (some s4)) 5 (some s5)) 6 (some s6)) 7 (some s7)) 8 (some s8))))))), (s0, .inr (12, [.int 8, .int 6, .ref mf, .int 1, .int 0, .int 900, .int 0, .int 0])), (s1, .inr (12, [.int 7, .int 5, .ref mf, .int 1, .int 0, .int 900, .int 0, .int 0])), (s2, .inr (12, [.int 3, .int 3, .ref mf, .int 1, .int 0, .int 900, .int 0, .int 0])), (s3, .inr (12, [.int 10, .int 8, .ref mm, .int 1, .int 0, .int 900, .int 0, .int 0])), (s4, .inr (12, [.int 9, .int 6, .ref mm, .int 1, .int 0, .int 900, .int 0, .int 0])), (s5, .inr (12, [.int 4, .int 3, .ref mm, .int 1, .int 0, .int 900, .int 0, .int 0])), (s6, .inr (12, [.int 5, .int 4, .ref mz, .int 1, .int 0, .int 900, .int 0, .int 0])), (s7, .inr (12, [.int 4, .int 3, .ref mf, .int 0, .int 0, .int 900, .int 0, .int 0])), (s8, .inr (12, [.int 6, .int 4, .ref mz, .int 0, .int 0, .int 900, .int 0, .int 0])), (ou, .inl (co, 1, .inr (.inl of_)))] s.heap := hP
  have hD : va_D A [(x, .inr (15, [.ref sh, .ref tl, .ref tw, .int 0])), (sh, .inr (13, [.ref rg, .ref dk, .ref hd, .ref lg, .ref pl, .ref pr, .int 0, .int 0, .int 0, .int 0, .int 0, .int 0, .int 0, .int 0, .int 0, .int 0, .int 0])), (rg, .inr (11, [.ref mf, .ref mm, .ref mz, .ref ma, .ref sa, .int 0])), (mf, .inr (8, [.int 0, .int 0, .int 0])), (mm, .inr (8, [.int 0, .int 0, .int 0])), (mz, .inr (8, [.int 0, .int 0, .int 0])), (ma, .inl (cM, 3, .inr (.inr (.inr (.inr (va_up (va_up (va_up (fun _ => none) 0 (some mf)) 1 (some mm)) 2 (some mz))))))), (sa, .inl (cS, 9, .inr (.inr (.inr (.inr (va_up (va_up (va_up (va_up (va_up (va_up (va_up (va_up (va_up (fun _ => none) 0 (some s0)) 1 (some s1)) 2 (some s2)) 3 (some s3)) 4 (some s4)) 5 (some s5)) 6 (some s6)) 7 (some s7)) 8 (some s8))))))), (s0, .inr (12, [.int 8, .int 6, .ref mf, .int 1, .int 0, .int 900, .int 0, .int 0])), (s1, .inr (12, [.int 7, .int 5, .ref mf, .int 1, .int 0, .int 900, .int 0, .int 0])), (s2, .inr (12, [.int 3, .int 3, .ref mf, .int 1, .int 0, .int 900, .int 0, .int 0])), (s3, .inr (12, [.int 10, .int 8, .ref mm, .int 1, .int 0, .int 900, .int 0, .int 0])), (s4, .inr (12, [.int 9, .int 6, .ref mm, .int 1, .int 0, .int 900, .int 0, .int 0])), (s5, .inr (12, [.int 4, .int 3, .ref mm, .int 1, .int 0, .int 900, .int 0, .int 0])), (s6, .inr (12, [.int 5, .int 4, .ref mz, .int 1, .int 0, .int 900, .int 0, .int 0])), (s7, .inr (12, [.int 4, .int 3, .ref mf, .int 0, .int 0, .int 900, .int 0, .int 0])), (s8, .inr (12, [.int 6, .int 4, .ref mz, .int 0, .int 0, .int 900, .int 0, .int 0])), (ou, .inl (co, 1, .inr (.inl of_)))] := hD
  have hl := lv_entry ([.ref x, .int 1, .ref ou]) (n := 4) (Nat.le_of_ble_eq_true rfl)
  rw [lg_entry_eq]
  generalize (lg_sl ([.ref x, .int 1, .ref ou]) ++ List.replicate (4 - (lg_sl ([.ref x, .int 1, .ref ou])).length) Slot.unset).toArray = ls at hl ⊢
  have hl : lv_has ls 4 [(0, .ref x), (1, .int 1), (2, .ref ou)] := hl
  refine lv_aload_n hx hb dL_force_0 rfl (lv_at hl 2 rfl) ?_
  refine lv_iconst (v := 0) hx hb dL_force_1 (by decide) ?_
  refine lv_aload_n hx hb dL_force_2 rfl (lv_at hl 0 rfl) ?_
  refine lv_iload_n hx hb dL_force_3 rfl (lv_at hl 1 rfl) ?_
  have hPc := hP.sub (ws' := [(x, .inr (15, [.ref sh, .ref tl, .ref tw, .int 0])), (sh, .inr (13, [.ref rg, .ref dk, .ref hd, .ref lg, .ref pl, .ref pr, .int 0, .int 0, .int 0, .int 0, .int 0, .int 0, .int 0, .int 0, .int 0, .int 0, .int 0])), (rg, .inr (11, [.ref mf, .ref mm, .ref mz, .ref ma, .ref sa, .int 0])), (mf, .inr (8, [.int 0, .int 0, .int 0])), (mm, .inr (8, [.int 0, .int 0, .int 0])), (mz, .inr (8, [.int 0, .int 0, .int 0])), (ma, .inl (cM, 3, .inr (.inr (.inr (.inr (va_up (va_up (va_up (fun _ => none) 0 (some mf)) 1 (some mm)) 2 (some mz))))))), (sa, .inl (cS, 9, .inr (.inr (.inr (.inr (va_up (va_up (va_up (va_up (va_up (va_up (va_up (va_up (va_up (fun _ => none) 0 (some s0)) 1 (some s1)) 2 (some s2)) 3 (some s3)) 4 (some s4)) 5 (some s5)) 6 (some s6)) 7 (some s7)) 8 (some s8))))))), (s0, .inr (12, [.int 8, .int 6, .ref mf, .int 1, .int 0, .int 900, .int 0, .int 0])), (s1, .inr (12, [.int 7, .int 5, .ref mf, .int 1, .int 0, .int 900, .int 0, .int 0])), (s2, .inr (12, [.int 3, .int 3, .ref mf, .int 1, .int 0, .int 900, .int 0, .int 0])), (s3, .inr (12, [.int 10, .int 8, .ref mm, .int 1, .int 0, .int 900, .int 0, .int 0])), (s4, .inr (12, [.int 9, .int 6, .ref mm, .int 1, .int 0, .int 900, .int 0, .int 0])), (s5, .inr (12, [.int 4, .int 3, .ref mm, .int 1, .int 0, .int 900, .int 0, .int 0])), (s6, .inr (12, [.int 5, .int 4, .ref mz, .int 1, .int 0, .int 900, .int 0, .int 0])), (s7, .inr (12, [.int 4, .int 3, .ref mf, .int 0, .int 0, .int 900, .int 0, .int 0])), (s8, .inr (12, [.int 6, .int 4, .ref mz, .int 0, .int 0, .int 900, .int 0, .int 0]))]) [0, 1, 2, 3, 4, 5, 6, 7, 8, 9, 10, 11, 12, 13, 14, 15, 16] rfl
  have hDc := hD.sub (ws' := [(x, .inr (15, [.ref sh, .ref tl, .ref tw, .int 0])), (sh, .inr (13, [.ref rg, .ref dk, .ref hd, .ref lg, .ref pl, .ref pr, .int 0, .int 0, .int 0, .int 0, .int 0, .int 0, .int 0, .int 0, .int 0, .int 0, .int 0])), (rg, .inr (11, [.ref mf, .ref mm, .ref mz, .ref ma, .ref sa, .int 0])), (mf, .inr (8, [.int 0, .int 0, .int 0])), (mm, .inr (8, [.int 0, .int 0, .int 0])), (mz, .inr (8, [.int 0, .int 0, .int 0])), (ma, .inl (cM, 3, .inr (.inr (.inr (.inr (va_up (va_up (va_up (fun _ => none) 0 (some mf)) 1 (some mm)) 2 (some mz))))))), (sa, .inl (cS, 9, .inr (.inr (.inr (.inr (va_up (va_up (va_up (va_up (va_up (va_up (va_up (va_up (va_up (fun _ => none) 0 (some s0)) 1 (some s1)) 2 (some s2)) 3 (some s3)) 4 (some s4)) 5 (some s5)) 6 (some s6)) 7 (some s7)) 8 (some s8))))))), (s0, .inr (12, [.int 8, .int 6, .ref mf, .int 1, .int 0, .int 900, .int 0, .int 0])), (s1, .inr (12, [.int 7, .int 5, .ref mf, .int 1, .int 0, .int 900, .int 0, .int 0])), (s2, .inr (12, [.int 3, .int 3, .ref mf, .int 1, .int 0, .int 900, .int 0, .int 0])), (s3, .inr (12, [.int 10, .int 8, .ref mm, .int 1, .int 0, .int 900, .int 0, .int 0])), (s4, .inr (12, [.int 9, .int 6, .ref mm, .int 1, .int 0, .int 900, .int 0, .int 0])), (s5, .inr (12, [.int 4, .int 3, .ref mm, .int 1, .int 0, .int 900, .int 0, .int 0])), (s6, .inr (12, [.int 5, .int 4, .ref mz, .int 1, .int 0, .int 900, .int 0, .int 0])), (s7, .inr (12, [.int 4, .int 3, .ref mf, .int 0, .int 0, .int 900, .int 0, .int 0])), (s8, .inr (12, [.int 6, .int 4, .ref mz, .int 0, .int 0, .int 900, .int 0, .int 0]))]) [0, 1, 2, 3, 4, 5, 6, 7, 8, 9, 10, 11, 12, 13, 14, 15, 16] (by decide) rfl
  have hKc := hK.sub (tys' := [(cM, .object RX4), (cS, .object RX8)]) [0, 1] rfl
  have hFc := va_free (wc := [(x, .inr (15, [.ref sh, .ref tl, .ref tw, .int 0])), (sh, .inr (13, [.ref rg, .ref dk, .ref hd, .ref lg, .ref pl, .ref pr, .int 0, .int 0, .int 0, .int 0, .int 0, .int 0, .int 0, .int 0, .int 0, .int 0, .int 0])), (rg, .inr (11, [.ref mf, .ref mm, .ref mz, .ref ma, .ref sa, .int 0])), (mf, .inr (8, [.int 0, .int 0, .int 0])), (mm, .inr (8, [.int 0, .int 0, .int 0])), (mz, .inr (8, [.int 0, .int 0, .int 0])), (ma, .inl (cM, 3, .inr (.inr (.inr (.inr (va_up (va_up (va_up (fun _ => none) 0 (some mf)) 1 (some mm)) 2 (some mz))))))), (sa, .inl (cS, 9, .inr (.inr (.inr (.inr (va_up (va_up (va_up (va_up (va_up (va_up (va_up (va_up (va_up (fun _ => none) 0 (some s0)) 1 (some s1)) 2 (some s2)) 3 (some s3)) 4 (some s4)) 5 (some s5)) 6 (some s6)) 7 (some s7)) 8 (some s8))))))), (s0, .inr (12, [.int 8, .int 6, .ref mf, .int 1, .int 0, .int 900, .int 0, .int 0])), (s1, .inr (12, [.int 7, .int 5, .ref mf, .int 1, .int 0, .int 900, .int 0, .int 0])), (s2, .inr (12, [.int 3, .int 3, .ref mf, .int 1, .int 0, .int 900, .int 0, .int 0])), (s3, .inr (12, [.int 10, .int 8, .ref mm, .int 1, .int 0, .int 900, .int 0, .int 0])), (s4, .inr (12, [.int 9, .int 6, .ref mm, .int 1, .int 0, .int 900, .int 0, .int 0])), (s5, .inr (12, [.int 4, .int 3, .ref mm, .int 1, .int 0, .int 900, .int 0, .int 0])), (s6, .inr (12, [.int 5, .int 4, .ref mz, .int 1, .int 0, .int 900, .int 0, .int 0])), (s7, .inr (12, [.int 4, .int 3, .ref mf, .int 0, .int 0, .int 900, .int 0, .int 0])), (s8, .inr (12, [.int 6, .int 4, .ref mz, .int 0, .int 0, .int 900, .int 0, .int 0]))]) hD hS hA [0, 1, 2, 3, 4, 5, 6, 7, 8, 9, 10, 11, 12, 13, 14, 15, 16] rfl
  refine va_calli (va_runV (As := [.int 1]) (rest := [.int 0, .ref ou]) ⟨hx, hb, hml, hown, hts⟩ (k_x_force1 l dC dI z zK zV sh rg mf mm mz ma sa s0 s1 s2 s3 s4 s5 s6 s7 s8 dk hd lg pl pr cM cS x tl tw s.heap.size) (cwV 1 hts gL_force_X11_force rfl rfl rfl (by decide +kernel) ⟨Nat.le_of_ble_eq_true rfl, Nat.le_of_ble_eq_true rfl⟩) ⟨kP_blind, va_recv hKc hPc (ci := 15) (q0 := 0) rfl rfl, kP_go hPc hKc hDc hFc hM hS⟩ rfl rfl hl.1 rfl (lv_room (Nat.le_of_ble_eq_true rfl)) dL_force_4 ⟨Nat.le_of_ble_eq_true rfl, Nat.le_of_ble_eq_true rfl⟩) hS (fun q _ h => hFc q h) hFc (fun r1 u t H1 locs ht hvm hw hB hz1 hk1 hS => ?_)
  obtain ⟨hP, hD, hK⟩ := kJ (wr := [(ou, .inl (co, 1, .inr (.inl of_)))]) (w1 := []) (t1 := []) hP hD hK [0, 1, 2, 3, 4, 5, 6, 7, 8, 9, 10, 11, 12, 13, 14, 15, 16] [17] rfl rfl (by decide) (by decide) hk1 hFc ht hvm hB
  generalize H1 = H at hP hS ⊢
  have hP : va_P (dC, dI) vwCl [(ou, .inl (co, 1, .inr (.inl of_)))] H := hP
  have hD : va_D A [(ou, .inl (co, 1, .inr (.inl of_)))] := hD
  have hK : va_K (dC, dI) vwCl [(cM, .object RX4), (cS, .object RX8), (co, .long)] s := hK
  obtain rfl : 0 = r1 := hw
  refine lv_i2l (v := 0) hx hb dL_force_7 (by decide +kernel) ?_
  refine va_last hx hb hK hP hD hS 0 2 rfl rfl (pk_in 0 1 (by decide) rfl) dL_force_8 (fun H locs hP hD hS => ?_)
  have hP : va_P (dC, dI) vwCl [(ou, .inl (co, 1, .inr (.inl (vp_updL of_ 0 0))))] H := hP
  have hD : va_D A [(ou, .inl (co, 1, .inr (.inl (vp_updL of_ 0 0))))] := hD
  refine lv_goto (tgt := 15) hx hb dL_force_9 (by decide) ?_
  refine lv_iconst (v := 0) hx hb dL_force_15 (by decide) ?_
  exact W.iret (v := 0) hx hb hr (fun t ht hW => ⟨⟨0, (), rfl, rfl, kB_end (w9 := [(ou, .inl (co, 1, .inr (.inl (vp_updL of_ 0 0))))]) (t9 := []) hP hK hD [0] [] rfl (by decide) rfl rfl t ht hW⟩, hS.F ht⟩) hS.2.2 dL_force_16
abbrev wd_k_l_force2 (z : Nat → Nat) (sh : Nat) (rg : Nat) (mf : Nat) (mm : Nat) (mz : Nat) (ma : Nat) (sa : Nat) (s0 : Nat) (s1 : Nat) (s2 : Nat) (s3 : Nat) (s4 : Nat) (s5 : Nat) (s6 : Nat) (s7 : Nat) (s8 : Nat) (dk : Nat) (hd : Nat) (lg : Nat) (pl : Nat) (pr : Nat) (cM : ClassId) (cS : ClassId) (x : Nat) (tl : Nat) (tw : Nat) (ou : Nat) (co : ClassId) (of_ : Nat → Int64) : va_W := [(x, .inr (15, [.ref sh, .ref tl, .ref tw, .int 0])), (sh, .inr (13, [.ref rg, .ref dk, .ref hd, .ref lg, .ref pl, .ref pr, .int 0, .int 0, .int 0, .int 0, .int 0, .int 0, .int 0, .int 0, .int 0, .int 0, .int 0])), (rg, .inr (11, [.ref mf, .ref mm, .ref mz, .ref ma, .ref sa, .int 0])), (mf, .inr (8, [.int 0, .int 0, .int 0])), (mm, .inr (8, [.int 0, .int 0, .int 0])), (mz, .inr (8, [.int 0, .int 0, .int 0])), (ma, .inl (cM, 3, .inr (.inr (.inr (.inr (va_up (va_up (va_up (fun _ => none) 0 (some mf)) 1 (some mm)) 2 (some mz))))))), (sa, .inl (cS, 9, .inr (.inr (.inr (.inr (va_up (va_up (va_up (va_up (va_up (va_up (va_up (va_up (va_up (fun _ => none) 0 (some s0)) 1 (some s1)) 2 (some s2)) 3 (some s3)) 4 (some s4)) 5 (some s5)) 6 (some s6)) 7 (some s7)) 8 (some s8))))))), (s0, .inr (12, [.int 8, .int 6, .ref mf, .int 1, .int 0, .int 900, .int 0, .int 0])), (s1, .inr (12, [.int 7, .int 5, .ref mf, .int 1, .int 0, .int 900, .int 0, .int 0])), (s2, .inr (12, [.int 3, .int 3, .ref mf, .int 1, .int 0, .int 900, .int 0, .int 0])), (s3, .inr (12, [.int 10, .int 8, .ref mm, .int 1, .int 0, .int 900, .int 0, .int 0])), (s4, .inr (12, [.int 9, .int 6, .ref mm, .int 1, .int 0, .int 900, .int 0, .int 0])), (s5, .inr (12, [.int 4, .int 3, .ref mm, .int 1, .int 0, .int 900, .int 0, .int 0])), (s6, .inr (12, [.int 5, .int 4, .ref mz, .int 1, .int 0, .int 900, .int 0, .int 0])), (s7, .inr (12, [.int 4, .int 3, .ref mf, .int 0, .int 0, .int 900, .int 0, .int 0])), (s8, .inr (12, [.int 6, .int 4, .ref mz, .int 0, .int 0, .int 900, .int 0, .int 0])), (ou, .inl (co, 1, .inr (.inl of_)))]
set_option maxHeartbeats 4000000 in
set_option maxRecDepth 100000 in
theorem k_l_force2 (l : Launch) (dC : Nat → ClassId) (dI : Nat → Nat → Nat) (z zK zV : Nat → Nat) (sh : Nat) (rg : Nat) (mf : Nat) (mm : Nat) (mz : Nat) (ma : Nat) (sa : Nat) (s0 : Nat) (s1 : Nat) (s2 : Nat) (s3 : Nat) (s4 : Nat) (s5 : Nat) (s6 : Nat) (s7 : Nat) (s8 : Nat) (dk : Nat) (hd : Nat) (lg : Nat) (pl : Nat) (pr : Nat) (cM : ClassId) (cS : ClassId) (x : Nat) (tl : Nat) (tw : Nat) (ou : Nat) (co : ClassId) (of_ : Nat → Int64) (sz : Nat)  : Met l yL_force wsL_force ({ frames := 5, cells := 0, slots := 0, locals := 109 }) (kP dC dI z zK zV [.ref x, .int 2, .ref ou] sz (wd_k_l_force2 z sh rg mf mm mz ma sa s0 s1 s2 s3 s4 s5 s6 s7 s8 dk hd lg pl pr cM cS x tl tw ou co of_) [(cM, .object RX4), (cS, .object RX8), (co, .long)]) (va_Qi (fun (r : Int32) (_ : Unit) => 0 = r) (fun _ t => kB (dC, dI) (va_A (wd_k_l_force2 z sh rg mf mm mz ma sa s0 s1 s2 s3 s4 s5 s6 s7 s8 dk hd lg pl pr cM cS x tl tw ou co of_) sz) [(ou, .inl (co, 1, .inr (.inl (vp_updL of_ 0 0))))] [] t) (va_A (wd_k_l_force2 z sh rg mf mm mz ma sa s0 s1 s2 s3 s4 s5 s6 s7 s8 dk hd lg pl pr cM cS x tl tw ou co of_) sz)) 0 0 (va_A (wd_k_l_force2 z sh rg mf mm mz ma sa s0 s1 s2 s3 s4 s5 s6 s7 s8 dk hd lg pl pr cM cS x tl tw ou co of_) sz) := by
  refine va_MetW (hh := [(0, 9, 12, 32)]) (cc := cL_force) (maxL := 4) (ret := (some .int)) (by decide) rfl ?_
  intro p e s m args below meth c s₁ B hml hv
  obtain ⟨rfl, hsz, hP, hK, hD0, hM⟩ := hv
  have hx := B.exec
  have hb := B.bytes
  have hr := B.returns
  have hts := atoms_spec (ws := wsL_force) B.pre
  have hown : s.vm.findClass RL = some m.cls := findClass_of_methodNamed B.named
  have hlocks := B.notSynchronized
  have htab := vx_table (x := yL_force) B (hts _ List.mem_cons_self)
  subst hsz
  have hD := hD0.self (sz := s.heap.size)
  generalize hAe : va_A (wd_k_l_force2 z sh rg mf mm mz ma sa s0 s1 s2 s3 s4 s5 s6 s7 s8 dk hd lg pl pr cM cS x tl tw ou co of_) s.heap.size = A at hD hM ⊢
  have hA : ∀ q : Nat, s.heap.size ≤ q → A q := fun q h => by rw [← hAe]; exact Or.inr h
  have hS : va_S A s.heap s.heap [] := va_S.rf
  have hP : va_P (dC, dI) vwCl [(x, .inr (15, [.ref sh, .ref tl, .ref tw, .int 0])), (sh, .inr (13, [.ref rg, .ref dk, .ref hd, .ref lg, .ref pl, .ref pr, .int 0, .int 0, .int 0, .int 0, .int 0, .int 0, .int 0, .int 0, .int 0, .int 0, .int 0])), (rg, .inr (11, [.ref mf, .ref mm, .ref mz, .ref ma, .ref sa, .int 0])), (mf, .inr (8, [.int 0, .int 0, .int 0])), (mm, .inr (8, [.int 0, .int 0, .int 0])), (mz, .inr (8, [.int 0, .int 0, .int 0])), (ma, .inl (cM, 3, .inr (.inr (.inr (.inr (va_up (va_up (va_up (fun _ => none) 0 (some mf)) 1 (some mm)) 2 (some mz))))))), (sa, .inl (cS, 9, .inr (.inr (.inr (.inr (va_up (va_up (va_up (va_up (va_up (va_up (va_up (va_up (va_up (fun _ => none) 0 (some s0)) 1 (some s1)) 2 (some s2)) 3 (some s3)) 4 (some s4)) 5 (some s5)) 6 (some s6)) 7 (some s7)) 8 (some s8))))))), (s0, .inr (12, [.int 8, .int 6, .ref mf, .int 1, .int 0, .int 900, .int 0, .int 0])), (s1, .inr (12, [.int 7, .int 5, .ref mf, .int 1, .int 0, .int 900, .int 0, .int 0])), (s2, .inr (12, [.int 3, .int 3, .ref mf, .int 1, .int 0, .int 900, .int 0, .int 0])), (s3, .inr (12, [.int 10, .int 8, .ref mm, .int 1, .int 0, .int 900, .int 0, .int 0])), (s4, .inr (12, [.int 9, .int 6, .ref mm, .int 1, .int 0, .int 900, .int 0, .int 0])), (s5, .inr (12, [.int 4, .int 3, .ref mm, .int 1, .int 0, .int 900, .int 0, .int 0])), (s6, .inr (12, [.int 5, .int 4, .ref mz, .int 1, .int 0, .int 900, .int 0, .int 0])), (s7, .inr (12, [.int 4, .int 3, .ref mf, .int 0, .int 0, .int 900, .int 0, .int 0])), (s8, .inr (12, [.int 6, .int 4, .ref mz, .int 0, .int 0, .int 900, .int 0, .int 0])), (ou, .inl (co, 1, .inr (.inl of_)))] s.heap := hP
  have hD : va_D A [(x, .inr (15, [.ref sh, .ref tl, .ref tw, .int 0])), (sh, .inr (13, [.ref rg, .ref dk, .ref hd, .ref lg, .ref pl, .ref pr, .int 0, .int 0, .int 0, .int 0, .int 0, .int 0, .int 0, .int 0, .int 0, .int 0, .int 0])), (rg, .inr (11, [.ref mf, .ref mm, .ref mz, .ref ma, .ref sa, .int 0])), (mf, .inr (8, [.int 0, .int 0, .int 0])), (mm, .inr (8, [.int 0, .int 0, .int 0])), (mz, .inr (8, [.int 0, .int 0, .int 0])), (ma, .inl (cM, 3, .inr (.inr (.inr (.inr (va_up (va_up (va_up (fun _ => none) 0 (some mf)) 1 (some mm)) 2 (some mz))))))), (sa, .inl (cS, 9, .inr (.inr (.inr (.inr (va_up (va_up (va_up (va_up (va_up (va_up (va_up (va_up (va_up (fun _ => none) 0 (some s0)) 1 (some s1)) 2 (some s2)) 3 (some s3)) 4 (some s4)) 5 (some s5)) 6 (some s6)) 7 (some s7)) 8 (some s8))))))), (s0, .inr (12, [.int 8, .int 6, .ref mf, .int 1, .int 0, .int 900, .int 0, .int 0])), (s1, .inr (12, [.int 7, .int 5, .ref mf, .int 1, .int 0, .int 900, .int 0, .int 0])), (s2, .inr (12, [.int 3, .int 3, .ref mf, .int 1, .int 0, .int 900, .int 0, .int 0])), (s3, .inr (12, [.int 10, .int 8, .ref mm, .int 1, .int 0, .int 900, .int 0, .int 0])), (s4, .inr (12, [.int 9, .int 6, .ref mm, .int 1, .int 0, .int 900, .int 0, .int 0])), (s5, .inr (12, [.int 4, .int 3, .ref mm, .int 1, .int 0, .int 900, .int 0, .int 0])), (s6, .inr (12, [.int 5, .int 4, .ref mz, .int 1, .int 0, .int 900, .int 0, .int 0])), (s7, .inr (12, [.int 4, .int 3, .ref mf, .int 0, .int 0, .int 900, .int 0, .int 0])), (s8, .inr (12, [.int 6, .int 4, .ref mz, .int 0, .int 0, .int 900, .int 0, .int 0])), (ou, .inl (co, 1, .inr (.inl of_)))] := hD
  have hl := lv_entry ([.ref x, .int 2, .ref ou]) (n := 4) (Nat.le_of_ble_eq_true rfl)
  rw [lg_entry_eq]
  generalize (lg_sl ([.ref x, .int 2, .ref ou]) ++ List.replicate (4 - (lg_sl ([.ref x, .int 2, .ref ou])).length) Slot.unset).toArray = ls at hl ⊢
  have hl : lv_has ls 4 [(0, .ref x), (1, .int 2), (2, .ref ou)] := hl
  refine lv_aload_n hx hb dL_force_0 rfl (lv_at hl 2 rfl) ?_
  refine lv_iconst (v := 0) hx hb dL_force_1 (by decide) ?_
  refine lv_aload_n hx hb dL_force_2 rfl (lv_at hl 0 rfl) ?_
  refine lv_iload_n hx hb dL_force_3 rfl (lv_at hl 1 rfl) ?_
  have hPc := hP.sub (ws' := [(x, .inr (15, [.ref sh, .ref tl, .ref tw, .int 0])), (sh, .inr (13, [.ref rg, .ref dk, .ref hd, .ref lg, .ref pl, .ref pr, .int 0, .int 0, .int 0, .int 0, .int 0, .int 0, .int 0, .int 0, .int 0, .int 0, .int 0])), (rg, .inr (11, [.ref mf, .ref mm, .ref mz, .ref ma, .ref sa, .int 0])), (mf, .inr (8, [.int 0, .int 0, .int 0])), (mm, .inr (8, [.int 0, .int 0, .int 0])), (mz, .inr (8, [.int 0, .int 0, .int 0])), (ma, .inl (cM, 3, .inr (.inr (.inr (.inr (va_up (va_up (va_up (fun _ => none) 0 (some mf)) 1 (some mm)) 2 (some mz))))))), (sa, .inl (cS, 9, .inr (.inr (.inr (.inr (va_up (va_up (va_up (va_up (va_up (va_up (va_up (va_up (va_up (fun _ => none) 0 (some s0)) 1 (some s1)) 2 (some s2)) 3 (some s3)) 4 (some s4)) 5 (some s5)) 6 (some s6)) 7 (some s7)) 8 (some s8))))))), (s0, .inr (12, [.int 8, .int 6, .ref mf, .int 1, .int 0, .int 900, .int 0, .int 0])), (s1, .inr (12, [.int 7, .int 5, .ref mf, .int 1, .int 0, .int 900, .int 0, .int 0])), (s2, .inr (12, [.int 3, .int 3, .ref mf, .int 1, .int 0, .int 900, .int 0, .int 0])), (s3, .inr (12, [.int 10, .int 8, .ref mm, .int 1, .int 0, .int 900, .int 0, .int 0])), (s4, .inr (12, [.int 9, .int 6, .ref mm, .int 1, .int 0, .int 900, .int 0, .int 0])), (s5, .inr (12, [.int 4, .int 3, .ref mm, .int 1, .int 0, .int 900, .int 0, .int 0])), (s6, .inr (12, [.int 5, .int 4, .ref mz, .int 1, .int 0, .int 900, .int 0, .int 0])), (s7, .inr (12, [.int 4, .int 3, .ref mf, .int 0, .int 0, .int 900, .int 0, .int 0])), (s8, .inr (12, [.int 6, .int 4, .ref mz, .int 0, .int 0, .int 900, .int 0, .int 0]))]) [0, 1, 2, 3, 4, 5, 6, 7, 8, 9, 10, 11, 12, 13, 14, 15, 16] rfl
  have hDc := hD.sub (ws' := [(x, .inr (15, [.ref sh, .ref tl, .ref tw, .int 0])), (sh, .inr (13, [.ref rg, .ref dk, .ref hd, .ref lg, .ref pl, .ref pr, .int 0, .int 0, .int 0, .int 0, .int 0, .int 0, .int 0, .int 0, .int 0, .int 0, .int 0])), (rg, .inr (11, [.ref mf, .ref mm, .ref mz, .ref ma, .ref sa, .int 0])), (mf, .inr (8, [.int 0, .int 0, .int 0])), (mm, .inr (8, [.int 0, .int 0, .int 0])), (mz, .inr (8, [.int 0, .int 0, .int 0])), (ma, .inl (cM, 3, .inr (.inr (.inr (.inr (va_up (va_up (va_up (fun _ => none) 0 (some mf)) 1 (some mm)) 2 (some mz))))))), (sa, .inl (cS, 9, .inr (.inr (.inr (.inr (va_up (va_up (va_up (va_up (va_up (va_up (va_up (va_up (va_up (fun _ => none) 0 (some s0)) 1 (some s1)) 2 (some s2)) 3 (some s3)) 4 (some s4)) 5 (some s5)) 6 (some s6)) 7 (some s7)) 8 (some s8))))))), (s0, .inr (12, [.int 8, .int 6, .ref mf, .int 1, .int 0, .int 900, .int 0, .int 0])), (s1, .inr (12, [.int 7, .int 5, .ref mf, .int 1, .int 0, .int 900, .int 0, .int 0])), (s2, .inr (12, [.int 3, .int 3, .ref mf, .int 1, .int 0, .int 900, .int 0, .int 0])), (s3, .inr (12, [.int 10, .int 8, .ref mm, .int 1, .int 0, .int 900, .int 0, .int 0])), (s4, .inr (12, [.int 9, .int 6, .ref mm, .int 1, .int 0, .int 900, .int 0, .int 0])), (s5, .inr (12, [.int 4, .int 3, .ref mm, .int 1, .int 0, .int 900, .int 0, .int 0])), (s6, .inr (12, [.int 5, .int 4, .ref mz, .int 1, .int 0, .int 900, .int 0, .int 0])), (s7, .inr (12, [.int 4, .int 3, .ref mf, .int 0, .int 0, .int 900, .int 0, .int 0])), (s8, .inr (12, [.int 6, .int 4, .ref mz, .int 0, .int 0, .int 900, .int 0, .int 0]))]) [0, 1, 2, 3, 4, 5, 6, 7, 8, 9, 10, 11, 12, 13, 14, 15, 16] (by decide) rfl
  have hKc := hK.sub (tys' := [(cM, .object RX4), (cS, .object RX8)]) [0, 1] rfl
  have hFc := va_free (wc := [(x, .inr (15, [.ref sh, .ref tl, .ref tw, .int 0])), (sh, .inr (13, [.ref rg, .ref dk, .ref hd, .ref lg, .ref pl, .ref pr, .int 0, .int 0, .int 0, .int 0, .int 0, .int 0, .int 0, .int 0, .int 0, .int 0, .int 0])), (rg, .inr (11, [.ref mf, .ref mm, .ref mz, .ref ma, .ref sa, .int 0])), (mf, .inr (8, [.int 0, .int 0, .int 0])), (mm, .inr (8, [.int 0, .int 0, .int 0])), (mz, .inr (8, [.int 0, .int 0, .int 0])), (ma, .inl (cM, 3, .inr (.inr (.inr (.inr (va_up (va_up (va_up (fun _ => none) 0 (some mf)) 1 (some mm)) 2 (some mz))))))), (sa, .inl (cS, 9, .inr (.inr (.inr (.inr (va_up (va_up (va_up (va_up (va_up (va_up (va_up (va_up (va_up (fun _ => none) 0 (some s0)) 1 (some s1)) 2 (some s2)) 3 (some s3)) 4 (some s4)) 5 (some s5)) 6 (some s6)) 7 (some s7)) 8 (some s8))))))), (s0, .inr (12, [.int 8, .int 6, .ref mf, .int 1, .int 0, .int 900, .int 0, .int 0])), (s1, .inr (12, [.int 7, .int 5, .ref mf, .int 1, .int 0, .int 900, .int 0, .int 0])), (s2, .inr (12, [.int 3, .int 3, .ref mf, .int 1, .int 0, .int 900, .int 0, .int 0])), (s3, .inr (12, [.int 10, .int 8, .ref mm, .int 1, .int 0, .int 900, .int 0, .int 0])), (s4, .inr (12, [.int 9, .int 6, .ref mm, .int 1, .int 0, .int 900, .int 0, .int 0])), (s5, .inr (12, [.int 4, .int 3, .ref mm, .int 1, .int 0, .int 900, .int 0, .int 0])), (s6, .inr (12, [.int 5, .int 4, .ref mz, .int 1, .int 0, .int 900, .int 0, .int 0])), (s7, .inr (12, [.int 4, .int 3, .ref mf, .int 0, .int 0, .int 900, .int 0, .int 0])), (s8, .inr (12, [.int 6, .int 4, .ref mz, .int 0, .int 0, .int 900, .int 0, .int 0]))]) hD hS hA [0, 1, 2, 3, 4, 5, 6, 7, 8, 9, 10, 11, 12, 13, 14, 15, 16] rfl
  refine va_calli (va_runV (As := [.int 2]) (rest := [.int 0, .ref ou]) ⟨hx, hb, hml, hown, hts⟩ (k_x_force2 l dC dI z zK zV sh rg mf mm mz ma sa s0 s1 s2 s3 s4 s5 s6 s7 s8 dk hd lg pl pr cM cS x tl tw s.heap.size) (cwV 1 hts gL_force_X11_force rfl rfl rfl (by decide +kernel) ⟨Nat.le_of_ble_eq_true rfl, Nat.le_of_ble_eq_true rfl⟩) ⟨kP_blind, va_recv hKc hPc (ci := 15) (q0 := 0) rfl rfl, kP_go hPc hKc hDc hFc hM hS⟩ rfl rfl hl.1 rfl (lv_room (Nat.le_of_ble_eq_true rfl)) dL_force_4 ⟨Nat.le_of_ble_eq_true rfl, Nat.le_of_ble_eq_true rfl⟩) hS (fun q _ h => hFc q h) hFc (fun r1 u t H1 locs ht hvm hw hB hz1 hk1 hS => ?_)
  obtain ⟨hP, hD, hK⟩ := kJ (wr := [(ou, .inl (co, 1, .inr (.inl of_)))]) (w1 := []) (t1 := []) hP hD hK [0, 1, 2, 3, 4, 5, 6, 7, 8, 9, 10, 11, 12, 13, 14, 15, 16] [17] rfl rfl (by decide) (by decide) hk1 hFc ht hvm hB
  generalize H1 = H at hP hS ⊢
  have hP : va_P (dC, dI) vwCl [(ou, .inl (co, 1, .inr (.inl of_)))] H := hP
  have hD : va_D A [(ou, .inl (co, 1, .inr (.inl of_)))] := hD
  have hK : va_K (dC, dI) vwCl [(cM, .object RX4), (cS, .object RX8), (co, .long)] s := hK
  obtain rfl : 0 = r1 := hw
  refine lv_i2l (v := 0) hx hb dL_force_7 (by decide +kernel) ?_
  refine va_last hx hb hK hP hD hS 0 2 rfl rfl (pk_in 0 1 (by decide) rfl) dL_force_8 (fun H locs hP hD hS => ?_)
  have hP : va_P (dC, dI) vwCl [(ou, .inl (co, 1, .inr (.inl (vp_updL of_ 0 0))))] H := hP
  have hD : va_D A [(ou, .inl (co, 1, .inr (.inl (vp_updL of_ 0 0))))] := hD
  refine lv_goto (tgt := 15) hx hb dL_force_9 (by decide) ?_
  refine lv_iconst (v := 0) hx hb dL_force_15 (by decide) ?_
  exact W.iret (v := 0) hx hb hr (fun t ht hW => ⟨⟨0, (), rfl, rfl, kB_end (w9 := [(ou, .inl (co, 1, .inr (.inl (vp_updL of_ 0 0))))]) (t9 := []) hP hK hD [0] [] rfl (by decide) rfl rfl t ht hW⟩, hS.F ht⟩) hS.2.2 dL_force_16
abbrev wd_k_l_force3 (z : Nat → Nat) (sh : Nat) (rg : Nat) (mf : Nat) (mm : Nat) (mz : Nat) (ma : Nat) (sa : Nat) (s0 : Nat) (s1 : Nat) (s2 : Nat) (s3 : Nat) (s4 : Nat) (s5 : Nat) (s6 : Nat) (s7 : Nat) (s8 : Nat) (dk : Nat) (hd : Nat) (lg : Nat) (pl : Nat) (pr : Nat) (cM : ClassId) (cS : ClassId) (x : Nat) (tl : Nat) (tw : Nat) (ou : Nat) (co : ClassId) (of_ : Nat → Int64) : va_W := [(x, .inr (15, [.ref sh, .ref tl, .ref tw, .int 0])), (sh, .inr (13, [.ref rg, .ref dk, .ref hd, .ref lg, .ref pl, .ref pr, .int 0, .int 0, .int 0, .int 0, .int 0, .int 0, .int 0, .int 0, .int 0, .int 0, .int 0])), (rg, .inr (11, [.ref mf, .ref mm, .ref mz, .ref ma, .ref sa, .int 0])), (mf, .inr (8, [.int 0, .int 0, .int 0])), (mm, .inr (8, [.int 0, .int 0, .int 0])), (mz, .inr (8, [.int 0, .int 0, .int 0])), (ma, .inl (cM, 3, .inr (.inr (.inr (.inr (va_up (va_up (va_up (fun _ => none) 0 (some mf)) 1 (some mm)) 2 (some mz))))))), (sa, .inl (cS, 9, .inr (.inr (.inr (.inr (va_up (va_up (va_up (va_up (va_up (va_up (va_up (va_up (va_up (fun _ => none) 0 (some s0)) 1 (some s1)) 2 (some s2)) 3 (some s3)) 4 (some s4)) 5 (some s5)) 6 (some s6)) 7 (some s7)) 8 (some s8))))))), (s0, .inr (12, [.int 8, .int 6, .ref mf, .int 1, .int 0, .int 900, .int 0, .int 0])), (s1, .inr (12, [.int 7, .int 5, .ref mf, .int 1, .int 0, .int 900, .int 0, .int 0])), (s2, .inr (12, [.int 3, .int 3, .ref mf, .int 1, .int 0, .int 900, .int 0, .int 0])), (s3, .inr (12, [.int 10, .int 8, .ref mm, .int 1, .int 0, .int 900, .int 0, .int 0])), (s4, .inr (12, [.int 9, .int 6, .ref mm, .int 1, .int 0, .int 900, .int 0, .int 0])), (s5, .inr (12, [.int 4, .int 3, .ref mm, .int 1, .int 0, .int 900, .int 0, .int 0])), (s6, .inr (12, [.int 5, .int 4, .ref mz, .int 1, .int 0, .int 900, .int 0, .int 0])), (s7, .inr (12, [.int 4, .int 3, .ref mf, .int 0, .int 0, .int 900, .int 0, .int 0])), (s8, .inr (12, [.int 6, .int 4, .ref mz, .int 0, .int 0, .int 900, .int 0, .int 0])), (ou, .inl (co, 1, .inr (.inl of_)))]
set_option maxHeartbeats 4000000 in
set_option maxRecDepth 100000 in
theorem k_l_force3 (l : Launch) (dC : Nat → ClassId) (dI : Nat → Nat → Nat) (z zK zV : Nat → Nat) (sh : Nat) (rg : Nat) (mf : Nat) (mm : Nat) (mz : Nat) (ma : Nat) (sa : Nat) (s0 : Nat) (s1 : Nat) (s2 : Nat) (s3 : Nat) (s4 : Nat) (s5 : Nat) (s6 : Nat) (s7 : Nat) (s8 : Nat) (dk : Nat) (hd : Nat) (lg : Nat) (pl : Nat) (pr : Nat) (cM : ClassId) (cS : ClassId) (x : Nat) (tl : Nat) (tw : Nat) (ou : Nat) (co : ClassId) (of_ : Nat → Int64) (sz : Nat)  : Met l yL_force wsL_force ({ frames := 5, cells := 0, slots := 0, locals := 109 }) (kP dC dI z zK zV [.ref x, .int 3, .ref ou] sz (wd_k_l_force3 z sh rg mf mm mz ma sa s0 s1 s2 s3 s4 s5 s6 s7 s8 dk hd lg pl pr cM cS x tl tw ou co of_) [(cM, .object RX4), (cS, .object RX8), (co, .long)]) (va_Qi (fun (r : Int32) (_ : Unit) => 0 = r) (fun _ t => kB (dC, dI) (va_A (wd_k_l_force3 z sh rg mf mm mz ma sa s0 s1 s2 s3 s4 s5 s6 s7 s8 dk hd lg pl pr cM cS x tl tw ou co of_) sz) [(ou, .inl (co, 1, .inr (.inl (vp_updL of_ 0 0))))] [] t) (va_A (wd_k_l_force3 z sh rg mf mm mz ma sa s0 s1 s2 s3 s4 s5 s6 s7 s8 dk hd lg pl pr cM cS x tl tw ou co of_) sz)) 0 0 (va_A (wd_k_l_force3 z sh rg mf mm mz ma sa s0 s1 s2 s3 s4 s5 s6 s7 s8 dk hd lg pl pr cM cS x tl tw ou co of_) sz) := by
  refine va_MetW (hh := [(0, 9, 12, 32)]) (cc := cL_force) (maxL := 4) (ret := (some .int)) (by decide) rfl ?_
  intro p e s m args below meth c s₁ B hml hv
  obtain ⟨rfl, hsz, hP, hK, hD0, hM⟩ := hv
  have hx := B.exec
  have hb := B.bytes
  have hr := B.returns
  have hts := atoms_spec (ws := wsL_force) B.pre
  have hown : s.vm.findClass RL = some m.cls := findClass_of_methodNamed B.named
  have hlocks := B.notSynchronized
  have htab := vx_table (x := yL_force) B (hts _ List.mem_cons_self)
  subst hsz
  have hD := hD0.self (sz := s.heap.size)
  generalize hAe : va_A (wd_k_l_force3 z sh rg mf mm mz ma sa s0 s1 s2 s3 s4 s5 s6 s7 s8 dk hd lg pl pr cM cS x tl tw ou co of_) s.heap.size = A at hD hM ⊢
  have hA : ∀ q : Nat, s.heap.size ≤ q → A q := fun q h => by rw [← hAe]; exact Or.inr h
  have hS : va_S A s.heap s.heap [] := va_S.rf
  have hP : va_P (dC, dI) vwCl [(x, .inr (15, [.ref sh, .ref tl, .ref tw, .int 0])), (sh, .inr (13, [.ref rg, .ref dk, .ref hd, .ref lg, .ref pl, .ref pr, .int 0, .int 0, .int 0, .int 0, .int 0, .int 0, .int 0, .int 0, .int 0, .int 0, .int 0])), (rg, .inr (11, [.ref mf, .ref mm, .ref mz, .ref ma, .ref sa, .int 0])), (mf, .inr (8, [.int 0, .int 0, .int 0])), (mm, .inr (8, [.int 0, .int 0, .int 0])), (mz, .inr (8, [.int 0, .int 0, .int 0])), (ma, .inl (cM, 3, .inr (.inr (.inr (.inr (va_up (va_up (va_up (fun _ => none) 0 (some mf)) 1 (some mm)) 2 (some mz))))))), (sa, .inl (cS, 9, .inr (.inr (.inr (.inr (va_up (va_up (va_up (va_up (va_up (va_up (va_up (va_up (va_up (fun _ => none) 0 (some s0)) 1 (some s1)) 2 (some s2)) 3 (some s3)) 4 (some s4)) 5 (some s5)) 6 (some s6)) 7 (some s7)) 8 (some s8))))))), (s0, .inr (12, [.int 8, .int 6, .ref mf, .int 1, .int 0, .int 900, .int 0, .int 0])), (s1, .inr (12, [.int 7, .int 5, .ref mf, .int 1, .int 0, .int 900, .int 0, .int 0])), (s2, .inr (12, [.int 3, .int 3, .ref mf, .int 1, .int 0, .int 900, .int 0, .int 0])), (s3, .inr (12, [.int 10, .int 8, .ref mm, .int 1, .int 0, .int 900, .int 0, .int 0])), (s4, .inr (12, [.int 9, .int 6, .ref mm, .int 1, .int 0, .int 900, .int 0, .int 0])), (s5, .inr (12, [.int 4, .int 3, .ref mm, .int 1, .int 0, .int 900, .int 0, .int 0])), (s6, .inr (12, [.int 5, .int 4, .ref mz, .int 1, .int 0, .int 900, .int 0, .int 0])), (s7, .inr (12, [.int 4, .int 3, .ref mf, .int 0, .int 0, .int 900, .int 0, .int 0])), (s8, .inr (12, [.int 6, .int 4, .ref mz, .int 0, .int 0, .int 900, .int 0, .int 0])), (ou, .inl (co, 1, .inr (.inl of_)))] s.heap := hP
  have hD : va_D A [(x, .inr (15, [.ref sh, .ref tl, .ref tw, .int 0])), (sh, .inr (13, [.ref rg, .ref dk, .ref hd, .ref lg, .ref pl, .ref pr, .int 0, .int 0, .int 0, .int 0, .int 0, .int 0, .int 0, .int 0, .int 0, .int 0, .int 0])), (rg, .inr (11, [.ref mf, .ref mm, .ref mz, .ref ma, .ref sa, .int 0])), (mf, .inr (8, [.int 0, .int 0, .int 0])), (mm, .inr (8, [.int 0, .int 0, .int 0])), (mz, .inr (8, [.int 0, .int 0, .int 0])), (ma, .inl (cM, 3, .inr (.inr (.inr (.inr (va_up (va_up (va_up (fun _ => none) 0 (some mf)) 1 (some mm)) 2 (some mz))))))), (sa, .inl (cS, 9, .inr (.inr (.inr (.inr (va_up (va_up (va_up (va_up (va_up (va_up (va_up (va_up (va_up (fun _ => none) 0 (some s0)) 1 (some s1)) 2 (some s2)) 3 (some s3)) 4 (some s4)) 5 (some s5)) 6 (some s6)) 7 (some s7)) 8 (some s8))))))), (s0, .inr (12, [.int 8, .int 6, .ref mf, .int 1, .int 0, .int 900, .int 0, .int 0])), (s1, .inr (12, [.int 7, .int 5, .ref mf, .int 1, .int 0, .int 900, .int 0, .int 0])), (s2, .inr (12, [.int 3, .int 3, .ref mf, .int 1, .int 0, .int 900, .int 0, .int 0])), (s3, .inr (12, [.int 10, .int 8, .ref mm, .int 1, .int 0, .int 900, .int 0, .int 0])), (s4, .inr (12, [.int 9, .int 6, .ref mm, .int 1, .int 0, .int 900, .int 0, .int 0])), (s5, .inr (12, [.int 4, .int 3, .ref mm, .int 1, .int 0, .int 900, .int 0, .int 0])), (s6, .inr (12, [.int 5, .int 4, .ref mz, .int 1, .int 0, .int 900, .int 0, .int 0])), (s7, .inr (12, [.int 4, .int 3, .ref mf, .int 0, .int 0, .int 900, .int 0, .int 0])), (s8, .inr (12, [.int 6, .int 4, .ref mz, .int 0, .int 0, .int 900, .int 0, .int 0])), (ou, .inl (co, 1, .inr (.inl of_)))] := hD
  have hl := lv_entry ([.ref x, .int 3, .ref ou]) (n := 4) (Nat.le_of_ble_eq_true rfl)
  rw [lg_entry_eq]
  generalize (lg_sl ([.ref x, .int 3, .ref ou]) ++ List.replicate (4 - (lg_sl ([.ref x, .int 3, .ref ou])).length) Slot.unset).toArray = ls at hl ⊢
  have hl : lv_has ls 4 [(0, .ref x), (1, .int 3), (2, .ref ou)] := hl
  refine lv_aload_n hx hb dL_force_0 rfl (lv_at hl 2 rfl) ?_
  refine lv_iconst (v := 0) hx hb dL_force_1 (by decide) ?_
  refine lv_aload_n hx hb dL_force_2 rfl (lv_at hl 0 rfl) ?_
  refine lv_iload_n hx hb dL_force_3 rfl (lv_at hl 1 rfl) ?_
  have hPc := hP.sub (ws' := [(x, .inr (15, [.ref sh, .ref tl, .ref tw, .int 0])), (sh, .inr (13, [.ref rg, .ref dk, .ref hd, .ref lg, .ref pl, .ref pr, .int 0, .int 0, .int 0, .int 0, .int 0, .int 0, .int 0, .int 0, .int 0, .int 0, .int 0])), (rg, .inr (11, [.ref mf, .ref mm, .ref mz, .ref ma, .ref sa, .int 0])), (mf, .inr (8, [.int 0, .int 0, .int 0])), (mm, .inr (8, [.int 0, .int 0, .int 0])), (mz, .inr (8, [.int 0, .int 0, .int 0])), (ma, .inl (cM, 3, .inr (.inr (.inr (.inr (va_up (va_up (va_up (fun _ => none) 0 (some mf)) 1 (some mm)) 2 (some mz))))))), (sa, .inl (cS, 9, .inr (.inr (.inr (.inr (va_up (va_up (va_up (va_up (va_up (va_up (va_up (va_up (va_up (fun _ => none) 0 (some s0)) 1 (some s1)) 2 (some s2)) 3 (some s3)) 4 (some s4)) 5 (some s5)) 6 (some s6)) 7 (some s7)) 8 (some s8))))))), (s0, .inr (12, [.int 8, .int 6, .ref mf, .int 1, .int 0, .int 900, .int 0, .int 0])), (s1, .inr (12, [.int 7, .int 5, .ref mf, .int 1, .int 0, .int 900, .int 0, .int 0])), (s2, .inr (12, [.int 3, .int 3, .ref mf, .int 1, .int 0, .int 900, .int 0, .int 0])), (s3, .inr (12, [.int 10, .int 8, .ref mm, .int 1, .int 0, .int 900, .int 0, .int 0])), (s4, .inr (12, [.int 9, .int 6, .ref mm, .int 1, .int 0, .int 900, .int 0, .int 0])), (s5, .inr (12, [.int 4, .int 3, .ref mm, .int 1, .int 0, .int 900, .int 0, .int 0])), (s6, .inr (12, [.int 5, .int 4, .ref mz, .int 1, .int 0, .int 900, .int 0, .int 0])), (s7, .inr (12, [.int 4, .int 3, .ref mf, .int 0, .int 0, .int 900, .int 0, .int 0])), (s8, .inr (12, [.int 6, .int 4, .ref mz, .int 0, .int 0, .int 900, .int 0, .int 0]))]) [0, 1, 2, 3, 4, 5, 6, 7, 8, 9, 10, 11, 12, 13, 14, 15, 16] rfl
  have hDc := hD.sub (ws' := [(x, .inr (15, [.ref sh, .ref tl, .ref tw, .int 0])), (sh, .inr (13, [.ref rg, .ref dk, .ref hd, .ref lg, .ref pl, .ref pr, .int 0, .int 0, .int 0, .int 0, .int 0, .int 0, .int 0, .int 0, .int 0, .int 0, .int 0])), (rg, .inr (11, [.ref mf, .ref mm, .ref mz, .ref ma, .ref sa, .int 0])), (mf, .inr (8, [.int 0, .int 0, .int 0])), (mm, .inr (8, [.int 0, .int 0, .int 0])), (mz, .inr (8, [.int 0, .int 0, .int 0])), (ma, .inl (cM, 3, .inr (.inr (.inr (.inr (va_up (va_up (va_up (fun _ => none) 0 (some mf)) 1 (some mm)) 2 (some mz))))))), (sa, .inl (cS, 9, .inr (.inr (.inr (.inr (va_up (va_up (va_up (va_up (va_up (va_up (va_up (va_up (va_up (fun _ => none) 0 (some s0)) 1 (some s1)) 2 (some s2)) 3 (some s3)) 4 (some s4)) 5 (some s5)) 6 (some s6)) 7 (some s7)) 8 (some s8))))))), (s0, .inr (12, [.int 8, .int 6, .ref mf, .int 1, .int 0, .int 900, .int 0, .int 0])), (s1, .inr (12, [.int 7, .int 5, .ref mf, .int 1, .int 0, .int 900, .int 0, .int 0])), (s2, .inr (12, [.int 3, .int 3, .ref mf, .int 1, .int 0, .int 900, .int 0, .int 0])), (s3, .inr (12, [.int 10, .int 8, .ref mm, .int 1, .int 0, .int 900, .int 0, .int 0])), (s4, .inr (12, [.int 9, .int 6, .ref mm, .int 1, .int 0, .int 900, .int 0, .int 0])), (s5, .inr (12, [.int 4, .int 3, .ref mm, .int 1, .int 0, .int 900, .int 0, .int 0])), (s6, .inr (12, [.int 5, .int 4, .ref mz, .int 1, .int 0, .int 900, .int 0, .int 0])), (s7, .inr (12, [.int 4, .int 3, .ref mf, .int 0, .int 0, .int 900, .int 0, .int 0])), (s8, .inr (12, [.int 6, .int 4, .ref mz, .int 0, .int 0, .int 900, .int 0, .int 0]))]) [0, 1, 2, 3, 4, 5, 6, 7, 8, 9, 10, 11, 12, 13, 14, 15, 16] (by decide) rfl
  have hKc := hK.sub (tys' := [(cM, .object RX4), (cS, .object RX8)]) [0, 1] rfl
  have hFc := va_free (wc := [(x, .inr (15, [.ref sh, .ref tl, .ref tw, .int 0])), (sh, .inr (13, [.ref rg, .ref dk, .ref hd, .ref lg, .ref pl, .ref pr, .int 0, .int 0, .int 0, .int 0, .int 0, .int 0, .int 0, .int 0, .int 0, .int 0, .int 0])), (rg, .inr (11, [.ref mf, .ref mm, .ref mz, .ref ma, .ref sa, .int 0])), (mf, .inr (8, [.int 0, .int 0, .int 0])), (mm, .inr (8, [.int 0, .int 0, .int 0])), (mz, .inr (8, [.int 0, .int 0, .int 0])), (ma, .inl (cM, 3, .inr (.inr (.inr (.inr (va_up (va_up (va_up (fun _ => none) 0 (some mf)) 1 (some mm)) 2 (some mz))))))), (sa, .inl (cS, 9, .inr (.inr (.inr (.inr (va_up (va_up (va_up (va_up (va_up (va_up (va_up (va_up (va_up (fun _ => none) 0 (some s0)) 1 (some s1)) 2 (some s2)) 3 (some s3)) 4 (some s4)) 5 (some s5)) 6 (some s6)) 7 (some s7)) 8 (some s8))))))), (s0, .inr (12, [.int 8, .int 6, .ref mf, .int 1, .int 0, .int 900, .int 0, .int 0])), (s1, .inr (12, [.int 7, .int 5, .ref mf, .int 1, .int 0, .int 900, .int 0, .int 0])), (s2, .inr (12, [.int 3, .int 3, .ref mf, .int 1, .int 0, .int 900, .int 0, .int 0])), (s3, .inr (12, [.int 10, .int 8, .ref mm, .int 1, .int 0, .int 900, .int 0, .int 0])), (s4, .inr (12, [.int 9, .int 6, .ref mm, .int 1, .int 0, .int 900, .int 0, .int 0])), (s5, .inr (12, [.int 4, .int 3, .ref mm, .int 1, .int 0, .int 900, .int 0, .int 0])), (s6, .inr (12, [.int 5, .int 4, .ref mz, .int 1, .int 0, .int 900, .int 0, .int 0])), (s7, .inr (12, [.int 4, .int 3, .ref mf, .int 0, .int 0, .int 900, .int 0, .int 0])), (s8, .inr (12, [.int 6, .int 4, .ref mz, .int 0, .int 0, .int 900, .int 0, .int 0]))]) hD hS hA [0, 1, 2, 3, 4, 5, 6, 7, 8, 9, 10, 11, 12, 13, 14, 15, 16] rfl
  refine va_calli (va_runV (As := [.int 3]) (rest := [.int 0, .ref ou]) ⟨hx, hb, hml, hown, hts⟩ (k_x_force3 l dC dI z zK zV sh rg mf mm mz ma sa s0 s1 s2 s3 s4 s5 s6 s7 s8 dk hd lg pl pr cM cS x tl tw s.heap.size) (cwV 1 hts gL_force_X11_force rfl rfl rfl (by decide +kernel) ⟨Nat.le_of_ble_eq_true rfl, Nat.le_of_ble_eq_true rfl⟩) ⟨kP_blind, va_recv hKc hPc (ci := 15) (q0 := 0) rfl rfl, kP_go hPc hKc hDc hFc hM hS⟩ rfl rfl hl.1 rfl (lv_room (Nat.le_of_ble_eq_true rfl)) dL_force_4 ⟨Nat.le_of_ble_eq_true rfl, Nat.le_of_ble_eq_true rfl⟩) hS (fun q _ h => hFc q h) hFc (fun r1 u t H1 locs ht hvm hw hB hz1 hk1 hS => ?_)
  obtain ⟨hP, hD, hK⟩ := kJ (wr := [(ou, .inl (co, 1, .inr (.inl of_)))]) (w1 := []) (t1 := []) hP hD hK [0, 1, 2, 3, 4, 5, 6, 7, 8, 9, 10, 11, 12, 13, 14, 15, 16] [17] rfl rfl (by decide) (by decide) hk1 hFc ht hvm hB
  generalize H1 = H at hP hS ⊢
  have hP : va_P (dC, dI) vwCl [(ou, .inl (co, 1, .inr (.inl of_)))] H := hP
  have hD : va_D A [(ou, .inl (co, 1, .inr (.inl of_)))] := hD
  have hK : va_K (dC, dI) vwCl [(cM, .object RX4), (cS, .object RX8), (co, .long)] s := hK
  obtain rfl : 0 = r1 := hw
  refine lv_i2l (v := 0) hx hb dL_force_7 (by decide +kernel) ?_
  refine va_last hx hb hK hP hD hS 0 2 rfl rfl (pk_in 0 1 (by decide) rfl) dL_force_8 (fun H locs hP hD hS => ?_)
  have hP : va_P (dC, dI) vwCl [(ou, .inl (co, 1, .inr (.inl (vp_updL of_ 0 0))))] H := hP
  have hD : va_D A [(ou, .inl (co, 1, .inr (.inl (vp_updL of_ 0 0))))] := hD
  refine lv_goto (tgt := 15) hx hb dL_force_9 (by decide) ?_
  refine lv_iconst (v := 0) hx hb dL_force_15 (by decide) ?_
  exact W.iret (v := 0) hx hb hr (fun t ht hW => ⟨⟨0, (), rfl, rfl, kB_end (w9 := [(ou, .inl (co, 1, .inr (.inl (vp_updL of_ 0 0))))]) (t9 := []) hP hK hD [0] [] rfl (by decide) rfl rfl t ht hW⟩, hS.F ht⟩) hS.2.2 dL_force_16
abbrev wd_k_l_force4 (z : Nat → Nat) (sh : Nat) (rg : Nat) (mf : Nat) (mm : Nat) (mz : Nat) (ma : Nat) (sa : Nat) (s0 : Nat) (s1 : Nat) (s2 : Nat) (s3 : Nat) (s4 : Nat) (s5 : Nat) (s6 : Nat) (s7 : Nat) (s8 : Nat) (dk : Nat) (hd : Nat) (lg : Nat) (pl : Nat) (pr : Nat) (cM : ClassId) (cS : ClassId) (x : Nat) (tl : Nat) (tw : Nat) (ou : Nat) (co : ClassId) (of_ : Nat → Int64) : va_W := [(x, .inr (15, [.ref sh, .ref tl, .ref tw, .int 0])), (sh, .inr (13, [.ref rg, .ref dk, .ref hd, .ref lg, .ref pl, .ref pr, .int 0, .int 0, .int 0, .int 0, .int 0, .int 0, .int 0, .int 0, .int 0, .int 0, .int 0])), (rg, .inr (11, [.ref mf, .ref mm, .ref mz, .ref ma, .ref sa, .int 0])), (mf, .inr (8, [.int 0, .int 0, .int 0])), (mm, .inr (8, [.int 0, .int 0, .int 0])), (mz, .inr (8, [.int 0, .int 0, .int 0])), (ma, .inl (cM, 3, .inr (.inr (.inr (.inr (va_up (va_up (va_up (fun _ => none) 0 (some mf)) 1 (some mm)) 2 (some mz))))))), (sa, .inl (cS, 9, .inr (.inr (.inr (.inr (va_up (va_up (va_up (va_up (va_up (va_up (va_up (va_up (va_up (fun _ => none) 0 (some s0)) 1 (some s1)) 2 (some s2)) 3 (some s3)) 4 (some s4)) 5 (some s5)) 6 (some s6)) 7 (some s7)) 8 (some s8))))))), (s0, .inr (12, [.int 8, .int 6, .ref mf, .int 1, .int 0, .int 900, .int 0, .int 0])), (s1, .inr (12, [.int 7, .int 5, .ref mf, .int 1, .int 0, .int 900, .int 0, .int 0])), (s2, .inr (12, [.int 3, .int 3, .ref mf, .int 1, .int 0, .int 900, .int 0, .int 0])), (s3, .inr (12, [.int 10, .int 8, .ref mm, .int 1, .int 0, .int 900, .int 0, .int 0])), (s4, .inr (12, [.int 9, .int 6, .ref mm, .int 1, .int 0, .int 900, .int 0, .int 0])), (s5, .inr (12, [.int 4, .int 3, .ref mm, .int 1, .int 0, .int 900, .int 0, .int 0])), (s6, .inr (12, [.int 5, .int 4, .ref mz, .int 1, .int 0, .int 900, .int 0, .int 0])), (s7, .inr (12, [.int 4, .int 3, .ref mf, .int 0, .int 0, .int 900, .int 0, .int 0])), (s8, .inr (12, [.int 6, .int 4, .ref mz, .int 0, .int 0, .int 900, .int 0, .int 0])), (ou, .inl (co, 1, .inr (.inl of_)))]
set_option maxHeartbeats 4000000 in
set_option maxRecDepth 100000 in
theorem k_l_force4 (l : Launch) (dC : Nat → ClassId) (dI : Nat → Nat → Nat) (z zK zV : Nat → Nat) (sh : Nat) (rg : Nat) (mf : Nat) (mm : Nat) (mz : Nat) (ma : Nat) (sa : Nat) (s0 : Nat) (s1 : Nat) (s2 : Nat) (s3 : Nat) (s4 : Nat) (s5 : Nat) (s6 : Nat) (s7 : Nat) (s8 : Nat) (dk : Nat) (hd : Nat) (lg : Nat) (pl : Nat) (pr : Nat) (cM : ClassId) (cS : ClassId) (x : Nat) (tl : Nat) (tw : Nat) (ou : Nat) (co : ClassId) (of_ : Nat → Int64) (sz : Nat)  : Met l yL_force wsL_force ({ frames := 5, cells := 0, slots := 0, locals := 109 }) (kP dC dI z zK zV [.ref x, .int 4, .ref ou] sz (wd_k_l_force4 z sh rg mf mm mz ma sa s0 s1 s2 s3 s4 s5 s6 s7 s8 dk hd lg pl pr cM cS x tl tw ou co of_) [(cM, .object RX4), (cS, .object RX8), (co, .long)]) (va_Qi (fun (r : Int32) (_ : Unit) => 0 = r) (fun _ t => kB (dC, dI) (va_A (wd_k_l_force4 z sh rg mf mm mz ma sa s0 s1 s2 s3 s4 s5 s6 s7 s8 dk hd lg pl pr cM cS x tl tw ou co of_) sz) [(ou, .inl (co, 1, .inr (.inl (vp_updL of_ 0 0))))] [] t) (va_A (wd_k_l_force4 z sh rg mf mm mz ma sa s0 s1 s2 s3 s4 s5 s6 s7 s8 dk hd lg pl pr cM cS x tl tw ou co of_) sz)) 0 0 (va_A (wd_k_l_force4 z sh rg mf mm mz ma sa s0 s1 s2 s3 s4 s5 s6 s7 s8 dk hd lg pl pr cM cS x tl tw ou co of_) sz) := by
  refine va_MetW (hh := [(0, 9, 12, 32)]) (cc := cL_force) (maxL := 4) (ret := (some .int)) (by decide) rfl ?_
  intro p e s m args below meth c s₁ B hml hv
  obtain ⟨rfl, hsz, hP, hK, hD0, hM⟩ := hv
  have hx := B.exec
  have hb := B.bytes
  have hr := B.returns
  have hts := atoms_spec (ws := wsL_force) B.pre
  have hown : s.vm.findClass RL = some m.cls := findClass_of_methodNamed B.named
  have hlocks := B.notSynchronized
  have htab := vx_table (x := yL_force) B (hts _ List.mem_cons_self)
  subst hsz
  have hD := hD0.self (sz := s.heap.size)
  generalize hAe : va_A (wd_k_l_force4 z sh rg mf mm mz ma sa s0 s1 s2 s3 s4 s5 s6 s7 s8 dk hd lg pl pr cM cS x tl tw ou co of_) s.heap.size = A at hD hM ⊢
  have hA : ∀ q : Nat, s.heap.size ≤ q → A q := fun q h => by rw [← hAe]; exact Or.inr h
  have hS : va_S A s.heap s.heap [] := va_S.rf
  have hP : va_P (dC, dI) vwCl [(x, .inr (15, [.ref sh, .ref tl, .ref tw, .int 0])), (sh, .inr (13, [.ref rg, .ref dk, .ref hd, .ref lg, .ref pl, .ref pr, .int 0, .int 0, .int 0, .int 0, .int 0, .int 0, .int 0, .int 0, .int 0, .int 0, .int 0])), (rg, .inr (11, [.ref mf, .ref mm, .ref mz, .ref ma, .ref sa, .int 0])), (mf, .inr (8, [.int 0, .int 0, .int 0])), (mm, .inr (8, [.int 0, .int 0, .int 0])), (mz, .inr (8, [.int 0, .int 0, .int 0])), (ma, .inl (cM, 3, .inr (.inr (.inr (.inr (va_up (va_up (va_up (fun _ => none) 0 (some mf)) 1 (some mm)) 2 (some mz))))))), (sa, .inl (cS, 9, .inr (.inr (.inr (.inr (va_up (va_up (va_up (va_up (va_up (va_up (va_up (va_up (va_up (fun _ => none) 0 (some s0)) 1 (some s1)) 2 (some s2)) 3 (some s3)) 4 (some s4)) 5 (some s5)) 6 (some s6)) 7 (some s7)) 8 (some s8))))))), (s0, .inr (12, [.int 8, .int 6, .ref mf, .int 1, .int 0, .int 900, .int 0, .int 0])), (s1, .inr (12, [.int 7, .int 5, .ref mf, .int 1, .int 0, .int 900, .int 0, .int 0])), (s2, .inr (12, [.int 3, .int 3, .ref mf, .int 1, .int 0, .int 900, .int 0, .int 0])), (s3, .inr (12, [.int 10, .int 8, .ref mm, .int 1, .int 0, .int 900, .int 0, .int 0])), (s4, .inr (12, [.int 9, .int 6, .ref mm, .int 1, .int 0, .int 900, .int 0, .int 0])), (s5, .inr (12, [.int 4, .int 3, .ref mm, .int 1, .int 0, .int 900, .int 0, .int 0])), (s6, .inr (12, [.int 5, .int 4, .ref mz, .int 1, .int 0, .int 900, .int 0, .int 0])), (s7, .inr (12, [.int 4, .int 3, .ref mf, .int 0, .int 0, .int 900, .int 0, .int 0])), (s8, .inr (12, [.int 6, .int 4, .ref mz, .int 0, .int 0, .int 900, .int 0, .int 0])), (ou, .inl (co, 1, .inr (.inl of_)))] s.heap := hP
  have hD : va_D A [(x, .inr (15, [.ref sh, .ref tl, .ref tw, .int 0])), (sh, .inr (13, [.ref rg, .ref dk, .ref hd, .ref lg, .ref pl, .ref pr, .int 0, .int 0, .int 0, .int 0, .int 0, .int 0, .int 0, .int 0, .int 0, .int 0, .int 0])), (rg, .inr (11, [.ref mf, .ref mm, .ref mz, .ref ma, .ref sa, .int 0])), (mf, .inr (8, [.int 0, .int 0, .int 0])), (mm, .inr (8, [.int 0, .int 0, .int 0])), (mz, .inr (8, [.int 0, .int 0, .int 0])), (ma, .inl (cM, 3, .inr (.inr (.inr (.inr (va_up (va_up (va_up (fun _ => none) 0 (some mf)) 1 (some mm)) 2 (some mz))))))), (sa, .inl (cS, 9, .inr (.inr (.inr (.inr (va_up (va_up (va_up (va_up (va_up (va_up (va_up (va_up (va_up (fun _ => none) 0 (some s0)) 1 (some s1)) 2 (some s2)) 3 (some s3)) 4 (some s4)) 5 (some s5)) 6 (some s6)) 7 (some s7)) 8 (some s8))))))), (s0, .inr (12, [.int 8, .int 6, .ref mf, .int 1, .int 0, .int 900, .int 0, .int 0])), (s1, .inr (12, [.int 7, .int 5, .ref mf, .int 1, .int 0, .int 900, .int 0, .int 0])), (s2, .inr (12, [.int 3, .int 3, .ref mf, .int 1, .int 0, .int 900, .int 0, .int 0])), (s3, .inr (12, [.int 10, .int 8, .ref mm, .int 1, .int 0, .int 900, .int 0, .int 0])), (s4, .inr (12, [.int 9, .int 6, .ref mm, .int 1, .int 0, .int 900, .int 0, .int 0])), (s5, .inr (12, [.int 4, .int 3, .ref mm, .int 1, .int 0, .int 900, .int 0, .int 0])), (s6, .inr (12, [.int 5, .int 4, .ref mz, .int 1, .int 0, .int 900, .int 0, .int 0])), (s7, .inr (12, [.int 4, .int 3, .ref mf, .int 0, .int 0, .int 900, .int 0, .int 0])), (s8, .inr (12, [.int 6, .int 4, .ref mz, .int 0, .int 0, .int 900, .int 0, .int 0])), (ou, .inl (co, 1, .inr (.inl of_)))] := hD
  have hl := lv_entry ([.ref x, .int 4, .ref ou]) (n := 4) (Nat.le_of_ble_eq_true rfl)
  rw [lg_entry_eq]
  generalize (lg_sl ([.ref x, .int 4, .ref ou]) ++ List.replicate (4 - (lg_sl ([.ref x, .int 4, .ref ou])).length) Slot.unset).toArray = ls at hl ⊢
  have hl : lv_has ls 4 [(0, .ref x), (1, .int 4), (2, .ref ou)] := hl
  refine lv_aload_n hx hb dL_force_0 rfl (lv_at hl 2 rfl) ?_
  refine lv_iconst (v := 0) hx hb dL_force_1 (by decide) ?_
  refine lv_aload_n hx hb dL_force_2 rfl (lv_at hl 0 rfl) ?_
  refine lv_iload_n hx hb dL_force_3 rfl (lv_at hl 1 rfl) ?_
  have hPc := hP.sub (ws' := [(x, .inr (15, [.ref sh, .ref tl, .ref tw, .int 0])), (sh, .inr (13, [.ref rg, .ref dk, .ref hd, .ref lg, .ref pl, .ref pr, .int 0, .int 0, .int 0, .int 0, .int 0, .int 0, .int 0, .int 0, .int 0, .int 0, .int 0])), (rg, .inr (11, [.ref mf, .ref mm, .ref mz, .ref ma, .ref sa, .int 0])), (mf, .inr (8, [.int 0, .int 0, .int 0])), (mm, .inr (8, [.int 0, .int 0, .int 0])), (mz, .inr (8, [.int 0, .int 0, .int 0])), (ma, .inl (cM, 3, .inr (.inr (.inr (.inr (va_up (va_up (va_up (fun _ => none) 0 (some mf)) 1 (some mm)) 2 (some mz))))))), (sa, .inl (cS, 9, .inr (.inr (.inr (.inr (va_up (va_up (va_up (va_up (va_up (va_up (va_up (va_up (va_up (fun _ => none) 0 (some s0)) 1 (some s1)) 2 (some s2)) 3 (some s3)) 4 (some s4)) 5 (some s5)) 6 (some s6)) 7 (some s7)) 8 (some s8))))))), (s0, .inr (12, [.int 8, .int 6, .ref mf, .int 1, .int 0, .int 900, .int 0, .int 0])), (s1, .inr (12, [.int 7, .int 5, .ref mf, .int 1, .int 0, .int 900, .int 0, .int 0])), (s2, .inr (12, [.int 3, .int 3, .ref mf, .int 1, .int 0, .int 900, .int 0, .int 0])), (s3, .inr (12, [.int 10, .int 8, .ref mm, .int 1, .int 0, .int 900, .int 0, .int 0])), (s4, .inr (12, [.int 9, .int 6, .ref mm, .int 1, .int 0, .int 900, .int 0, .int 0])), (s5, .inr (12, [.int 4, .int 3, .ref mm, .int 1, .int 0, .int 900, .int 0, .int 0])), (s6, .inr (12, [.int 5, .int 4, .ref mz, .int 1, .int 0, .int 900, .int 0, .int 0])), (s7, .inr (12, [.int 4, .int 3, .ref mf, .int 0, .int 0, .int 900, .int 0, .int 0])), (s8, .inr (12, [.int 6, .int 4, .ref mz, .int 0, .int 0, .int 900, .int 0, .int 0]))]) [0, 1, 2, 3, 4, 5, 6, 7, 8, 9, 10, 11, 12, 13, 14, 15, 16] rfl
  have hDc := hD.sub (ws' := [(x, .inr (15, [.ref sh, .ref tl, .ref tw, .int 0])), (sh, .inr (13, [.ref rg, .ref dk, .ref hd, .ref lg, .ref pl, .ref pr, .int 0, .int 0, .int 0, .int 0, .int 0, .int 0, .int 0, .int 0, .int 0, .int 0, .int 0])), (rg, .inr (11, [.ref mf, .ref mm, .ref mz, .ref ma, .ref sa, .int 0])), (mf, .inr (8, [.int 0, .int 0, .int 0])), (mm, .inr (8, [.int 0, .int 0, .int 0])), (mz, .inr (8, [.int 0, .int 0, .int 0])), (ma, .inl (cM, 3, .inr (.inr (.inr (.inr (va_up (va_up (va_up (fun _ => none) 0 (some mf)) 1 (some mm)) 2 (some mz))))))), (sa, .inl (cS, 9, .inr (.inr (.inr (.inr (va_up (va_up (va_up (va_up (va_up (va_up (va_up (va_up (va_up (fun _ => none) 0 (some s0)) 1 (some s1)) 2 (some s2)) 3 (some s3)) 4 (some s4)) 5 (some s5)) 6 (some s6)) 7 (some s7)) 8 (some s8))))))), (s0, .inr (12, [.int 8, .int 6, .ref mf, .int 1, .int 0, .int 900, .int 0, .int 0])), (s1, .inr (12, [.int 7, .int 5, .ref mf, .int 1, .int 0, .int 900, .int 0, .int 0])), (s2, .inr (12, [.int 3, .int 3, .ref mf, .int 1, .int 0, .int 900, .int 0, .int 0])), (s3, .inr (12, [.int 10, .int 8, .ref mm, .int 1, .int 0, .int 900, .int 0, .int 0])), (s4, .inr (12, [.int 9, .int 6, .ref mm, .int 1, .int 0, .int 900, .int 0, .int 0])), (s5, .inr (12, [.int 4, .int 3, .ref mm, .int 1, .int 0, .int 900, .int 0, .int 0])), (s6, .inr (12, [.int 5, .int 4, .ref mz, .int 1, .int 0, .int 900, .int 0, .int 0])), (s7, .inr (12, [.int 4, .int 3, .ref mf, .int 0, .int 0, .int 900, .int 0, .int 0])), (s8, .inr (12, [.int 6, .int 4, .ref mz, .int 0, .int 0, .int 900, .int 0, .int 0]))]) [0, 1, 2, 3, 4, 5, 6, 7, 8, 9, 10, 11, 12, 13, 14, 15, 16] (by decide) rfl
  have hKc := hK.sub (tys' := [(cM, .object RX4), (cS, .object RX8)]) [0, 1] rfl
  have hFc := va_free (wc := [(x, .inr (15, [.ref sh, .ref tl, .ref tw, .int 0])), (sh, .inr (13, [.ref rg, .ref dk, .ref hd, .ref lg, .ref pl, .ref pr, .int 0, .int 0, .int 0, .int 0, .int 0, .int 0, .int 0, .int 0, .int 0, .int 0, .int 0])), (rg, .inr (11, [.ref mf, .ref mm, .ref mz, .ref ma, .ref sa, .int 0])), (mf, .inr (8, [.int 0, .int 0, .int 0])), (mm, .inr (8, [.int 0, .int 0, .int 0])), (mz, .inr (8, [.int 0, .int 0, .int 0])), (ma, .inl (cM, 3, .inr (.inr (.inr (.inr (va_up (va_up (va_up (fun _ => none) 0 (some mf)) 1 (some mm)) 2 (some mz))))))), (sa, .inl (cS, 9, .inr (.inr (.inr (.inr (va_up (va_up (va_up (va_up (va_up (va_up (va_up (va_up (va_up (fun _ => none) 0 (some s0)) 1 (some s1)) 2 (some s2)) 3 (some s3)) 4 (some s4)) 5 (some s5)) 6 (some s6)) 7 (some s7)) 8 (some s8))))))), (s0, .inr (12, [.int 8, .int 6, .ref mf, .int 1, .int 0, .int 900, .int 0, .int 0])), (s1, .inr (12, [.int 7, .int 5, .ref mf, .int 1, .int 0, .int 900, .int 0, .int 0])), (s2, .inr (12, [.int 3, .int 3, .ref mf, .int 1, .int 0, .int 900, .int 0, .int 0])), (s3, .inr (12, [.int 10, .int 8, .ref mm, .int 1, .int 0, .int 900, .int 0, .int 0])), (s4, .inr (12, [.int 9, .int 6, .ref mm, .int 1, .int 0, .int 900, .int 0, .int 0])), (s5, .inr (12, [.int 4, .int 3, .ref mm, .int 1, .int 0, .int 900, .int 0, .int 0])), (s6, .inr (12, [.int 5, .int 4, .ref mz, .int 1, .int 0, .int 900, .int 0, .int 0])), (s7, .inr (12, [.int 4, .int 3, .ref mf, .int 0, .int 0, .int 900, .int 0, .int 0])), (s8, .inr (12, [.int 6, .int 4, .ref mz, .int 0, .int 0, .int 900, .int 0, .int 0]))]) hD hS hA [0, 1, 2, 3, 4, 5, 6, 7, 8, 9, 10, 11, 12, 13, 14, 15, 16] rfl
  refine va_calli (va_runV (As := [.int 4]) (rest := [.int 0, .ref ou]) ⟨hx, hb, hml, hown, hts⟩ (k_x_force4 l dC dI z zK zV sh rg mf mm mz ma sa s0 s1 s2 s3 s4 s5 s6 s7 s8 dk hd lg pl pr cM cS x tl tw s.heap.size) (cwV 1 hts gL_force_X11_force rfl rfl rfl (by decide +kernel) ⟨Nat.le_of_ble_eq_true rfl, Nat.le_of_ble_eq_true rfl⟩) ⟨kP_blind, va_recv hKc hPc (ci := 15) (q0 := 0) rfl rfl, kP_go hPc hKc hDc hFc hM hS⟩ rfl rfl hl.1 rfl (lv_room (Nat.le_of_ble_eq_true rfl)) dL_force_4 ⟨Nat.le_of_ble_eq_true rfl, Nat.le_of_ble_eq_true rfl⟩) hS (fun q _ h => hFc q h) hFc (fun r1 u t H1 locs ht hvm hw hB hz1 hk1 hS => ?_)
  obtain ⟨hP, hD, hK⟩ := kJ (wr := [(ou, .inl (co, 1, .inr (.inl of_)))]) (w1 := []) (t1 := []) hP hD hK [0, 1, 2, 3, 4, 5, 6, 7, 8, 9, 10, 11, 12, 13, 14, 15, 16] [17] rfl rfl (by decide) (by decide) hk1 hFc ht hvm hB
  generalize H1 = H at hP hS ⊢
  have hP : va_P (dC, dI) vwCl [(ou, .inl (co, 1, .inr (.inl of_)))] H := hP
  have hD : va_D A [(ou, .inl (co, 1, .inr (.inl of_)))] := hD
  have hK : va_K (dC, dI) vwCl [(cM, .object RX4), (cS, .object RX8), (co, .long)] s := hK
  obtain rfl : 0 = r1 := hw
  refine lv_i2l (v := 0) hx hb dL_force_7 (by decide +kernel) ?_
  refine va_last hx hb hK hP hD hS 0 2 rfl rfl (pk_in 0 1 (by decide) rfl) dL_force_8 (fun H locs hP hD hS => ?_)
  have hP : va_P (dC, dI) vwCl [(ou, .inl (co, 1, .inr (.inl (vp_updL of_ 0 0))))] H := hP
  have hD : va_D A [(ou, .inl (co, 1, .inr (.inl (vp_updL of_ 0 0))))] := hD
  refine lv_goto (tgt := 15) hx hb dL_force_9 (by decide) ?_
  refine lv_iconst (v := 0) hx hb dL_force_15 (by decide) ?_
  exact W.iret (v := 0) hx hb hr (fun t ht hW => ⟨⟨0, (), rfl, rfl, kB_end (w9 := [(ou, .inl (co, 1, .inr (.inl (vp_updL of_ 0 0))))]) (t9 := []) hP hK hD [0] [] rfl (by decide) rfl rfl t ht hW⟩, hS.F ht⟩) hS.2.2 dL_force_16
abbrev wd_k_l_force5 (z : Nat → Nat) (sh : Nat) (rg : Nat) (mf : Nat) (mm : Nat) (mz : Nat) (ma : Nat) (sa : Nat) (s0 : Nat) (s1 : Nat) (s2 : Nat) (s3 : Nat) (s4 : Nat) (s5 : Nat) (s6 : Nat) (s7 : Nat) (s8 : Nat) (dk : Nat) (hd : Nat) (lg : Nat) (pl : Nat) (pr : Nat) (cM : ClassId) (cS : ClassId) (x : Nat) (tl : Nat) (tw : Nat) (ou : Nat) (co : ClassId) (of_ : Nat → Int64) : va_W := [(x, .inr (15, [.ref sh, .ref tl, .ref tw, .int 0])), (sh, .inr (13, [.ref rg, .ref dk, .ref hd, .ref lg, .ref pl, .ref pr, .int 0, .int 0, .int 0, .int 0, .int 0, .int 0, .int 0, .int 0, .int 0, .int 0, .int 0])), (rg, .inr (11, [.ref mf, .ref mm, .ref mz, .ref ma, .ref sa, .int 0])), (mf, .inr (8, [.int 0, .int 0, .int 0])), (mm, .inr (8, [.int 0, .int 0, .int 0])), (mz, .inr (8, [.int 0, .int 0, .int 0])), (ma, .inl (cM, 3, .inr (.inr (.inr (.inr (va_up (va_up (va_up (fun _ => none) 0 (some mf)) 1 (some mm)) 2 (some mz))))))), (sa, .inl (cS, 9, .inr (.inr (.inr (.inr (va_up (va_up (va_up (va_up (va_up (va_up (va_up (va_up (va_up (fun _ => none) 0 (some s0)) 1 (some s1)) 2 (some s2)) 3 (some s3)) 4 (some s4)) 5 (some s5)) 6 (some s6)) 7 (some s7)) 8 (some s8))))))), (s0, .inr (12, [.int 8, .int 6, .ref mf, .int 1, .int 0, .int 900, .int 0, .int 0])), (s1, .inr (12, [.int 7, .int 5, .ref mf, .int 1, .int 0, .int 900, .int 0, .int 0])), (s2, .inr (12, [.int 3, .int 3, .ref mf, .int 1, .int 0, .int 900, .int 0, .int 0])), (s3, .inr (12, [.int 10, .int 8, .ref mm, .int 1, .int 0, .int 900, .int 0, .int 0])), (s4, .inr (12, [.int 9, .int 6, .ref mm, .int 1, .int 0, .int 900, .int 0, .int 0])), (s5, .inr (12, [.int 4, .int 3, .ref mm, .int 1, .int 0, .int 900, .int 0, .int 0])), (s6, .inr (12, [.int 5, .int 4, .ref mz, .int 1, .int 0, .int 900, .int 0, .int 0])), (s7, .inr (12, [.int 4, .int 3, .ref mf, .int 0, .int 0, .int 900, .int 0, .int 0])), (s8, .inr (12, [.int 6, .int 4, .ref mz, .int 0, .int 0, .int 900, .int 0, .int 0])), (ou, .inl (co, 1, .inr (.inl of_)))]
set_option maxHeartbeats 4000000 in
set_option maxRecDepth 100000 in
theorem k_l_force5 (l : Launch) (dC : Nat → ClassId) (dI : Nat → Nat → Nat) (z zK zV : Nat → Nat) (sh : Nat) (rg : Nat) (mf : Nat) (mm : Nat) (mz : Nat) (ma : Nat) (sa : Nat) (s0 : Nat) (s1 : Nat) (s2 : Nat) (s3 : Nat) (s4 : Nat) (s5 : Nat) (s6 : Nat) (s7 : Nat) (s8 : Nat) (dk : Nat) (hd : Nat) (lg : Nat) (pl : Nat) (pr : Nat) (cM : ClassId) (cS : ClassId) (x : Nat) (tl : Nat) (tw : Nat) (ou : Nat) (co : ClassId) (of_ : Nat → Int64) (sz : Nat)  : Met l yL_force wsL_force ({ frames := 5, cells := 0, slots := 0, locals := 109 }) (kP dC dI z zK zV [.ref x, .int 5, .ref ou] sz (wd_k_l_force5 z sh rg mf mm mz ma sa s0 s1 s2 s3 s4 s5 s6 s7 s8 dk hd lg pl pr cM cS x tl tw ou co of_) [(cM, .object RX4), (cS, .object RX8), (co, .long)]) (va_Qi (fun (r : Int32) (_ : Unit) => 0 = r) (fun _ t => kB (dC, dI) (va_A (wd_k_l_force5 z sh rg mf mm mz ma sa s0 s1 s2 s3 s4 s5 s6 s7 s8 dk hd lg pl pr cM cS x tl tw ou co of_) sz) [(ou, .inl (co, 1, .inr (.inl (vp_updL of_ 0 0))))] [] t) (va_A (wd_k_l_force5 z sh rg mf mm mz ma sa s0 s1 s2 s3 s4 s5 s6 s7 s8 dk hd lg pl pr cM cS x tl tw ou co of_) sz)) 0 0 (va_A (wd_k_l_force5 z sh rg mf mm mz ma sa s0 s1 s2 s3 s4 s5 s6 s7 s8 dk hd lg pl pr cM cS x tl tw ou co of_) sz) := by
  refine va_MetW (hh := [(0, 9, 12, 32)]) (cc := cL_force) (maxL := 4) (ret := (some .int)) (by decide) rfl ?_
  intro p e s m args below meth c s₁ B hml hv
  obtain ⟨rfl, hsz, hP, hK, hD0, hM⟩ := hv
  have hx := B.exec
  have hb := B.bytes
  have hr := B.returns
  have hts := atoms_spec (ws := wsL_force) B.pre
  have hown : s.vm.findClass RL = some m.cls := findClass_of_methodNamed B.named
  have hlocks := B.notSynchronized
  have htab := vx_table (x := yL_force) B (hts _ List.mem_cons_self)
  subst hsz
  have hD := hD0.self (sz := s.heap.size)
  generalize hAe : va_A (wd_k_l_force5 z sh rg mf mm mz ma sa s0 s1 s2 s3 s4 s5 s6 s7 s8 dk hd lg pl pr cM cS x tl tw ou co of_) s.heap.size = A at hD hM ⊢
  have hA : ∀ q : Nat, s.heap.size ≤ q → A q := fun q h => by rw [← hAe]; exact Or.inr h
  have hS : va_S A s.heap s.heap [] := va_S.rf
  have hP : va_P (dC, dI) vwCl [(x, .inr (15, [.ref sh, .ref tl, .ref tw, .int 0])), (sh, .inr (13, [.ref rg, .ref dk, .ref hd, .ref lg, .ref pl, .ref pr, .int 0, .int 0, .int 0, .int 0, .int 0, .int 0, .int 0, .int 0, .int 0, .int 0, .int 0])), (rg, .inr (11, [.ref mf, .ref mm, .ref mz, .ref ma, .ref sa, .int 0])), (mf, .inr (8, [.int 0, .int 0, .int 0])), (mm, .inr (8, [.int 0, .int 0, .int 0])), (mz, .inr (8, [.int 0, .int 0, .int 0])), (ma, .inl (cM, 3, .inr (.inr (.inr (.inr (va_up (va_up (va_up (fun _ => none) 0 (some mf)) 1 (some mm)) 2 (some mz))))))), (sa, .inl (cS, 9, .inr (.inr (.inr (.inr (va_up (va_up (va_up (va_up (va_up (va_up (va_up (va_up (va_up (fun _ => none) 0 (some s0)) 1 (some s1)) 2 (some s2)) 3 (some s3)) 4 (some s4)) 5 (some s5)) 6 (some s6)) 7 (some s7)) 8 (some s8))))))), (s0, .inr (12, [.int 8, .int 6, .ref mf, .int 1, .int 0, .int 900, .int 0, .int 0])), (s1, .inr (12, [.int 7, .int 5, .ref mf, .int 1, .int 0, .int 900, .int 0, .int 0])), (s2, .inr (12, [.int 3, .int 3, .ref mf, .int 1, .int 0, .int 900, .int 0, .int 0])), (s3, .inr (12, [.int 10, .int 8, .ref mm, .int 1, .int 0, .int 900, .int 0, .int 0])), (s4, .inr (12, [.int 9, .int 6, .ref mm, .int 1, .int 0, .int 900, .int 0, .int 0])), (s5, .inr (12, [.int 4, .int 3, .ref mm, .int 1, .int 0, .int 900, .int 0, .int 0])), (s6, .inr (12, [.int 5, .int 4, .ref mz, .int 1, .int 0, .int 900, .int 0, .int 0])), (s7, .inr (12, [.int 4, .int 3, .ref mf, .int 0, .int 0, .int 900, .int 0, .int 0])), (s8, .inr (12, [.int 6, .int 4, .ref mz, .int 0, .int 0, .int 900, .int 0, .int 0])), (ou, .inl (co, 1, .inr (.inl of_)))] s.heap := hP
  have hD : va_D A [(x, .inr (15, [.ref sh, .ref tl, .ref tw, .int 0])), (sh, .inr (13, [.ref rg, .ref dk, .ref hd, .ref lg, .ref pl, .ref pr, .int 0, .int 0, .int 0, .int 0, .int 0, .int 0, .int 0, .int 0, .int 0, .int 0, .int 0])), (rg, .inr (11, [.ref mf, .ref mm, .ref mz, .ref ma, .ref sa, .int 0])), (mf, .inr (8, [.int 0, .int 0, .int 0])), (mm, .inr (8, [.int 0, .int 0, .int 0])), (mz, .inr (8, [.int 0, .int 0, .int 0])), (ma, .inl (cM, 3, .inr (.inr (.inr (.inr (va_up (va_up (va_up (fun _ => none) 0 (some mf)) 1 (some mm)) 2 (some mz))))))), (sa, .inl (cS, 9, .inr (.inr (.inr (.inr (va_up (va_up (va_up (va_up (va_up (va_up (va_up (va_up (va_up (fun _ => none) 0 (some s0)) 1 (some s1)) 2 (some s2)) 3 (some s3)) 4 (some s4)) 5 (some s5)) 6 (some s6)) 7 (some s7)) 8 (some s8))))))), (s0, .inr (12, [.int 8, .int 6, .ref mf, .int 1, .int 0, .int 900, .int 0, .int 0])), (s1, .inr (12, [.int 7, .int 5, .ref mf, .int 1, .int 0, .int 900, .int 0, .int 0])), (s2, .inr (12, [.int 3, .int 3, .ref mf, .int 1, .int 0, .int 900, .int 0, .int 0])), (s3, .inr (12, [.int 10, .int 8, .ref mm, .int 1, .int 0, .int 900, .int 0, .int 0])), (s4, .inr (12, [.int 9, .int 6, .ref mm, .int 1, .int 0, .int 900, .int 0, .int 0])), (s5, .inr (12, [.int 4, .int 3, .ref mm, .int 1, .int 0, .int 900, .int 0, .int 0])), (s6, .inr (12, [.int 5, .int 4, .ref mz, .int 1, .int 0, .int 900, .int 0, .int 0])), (s7, .inr (12, [.int 4, .int 3, .ref mf, .int 0, .int 0, .int 900, .int 0, .int 0])), (s8, .inr (12, [.int 6, .int 4, .ref mz, .int 0, .int 0, .int 900, .int 0, .int 0])), (ou, .inl (co, 1, .inr (.inl of_)))] := hD
  have hl := lv_entry ([.ref x, .int 5, .ref ou]) (n := 4) (Nat.le_of_ble_eq_true rfl)
  rw [lg_entry_eq]
  generalize (lg_sl ([.ref x, .int 5, .ref ou]) ++ List.replicate (4 - (lg_sl ([.ref x, .int 5, .ref ou])).length) Slot.unset).toArray = ls at hl ⊢
  have hl : lv_has ls 4 [(0, .ref x), (1, .int 5), (2, .ref ou)] := hl
  refine lv_aload_n hx hb dL_force_0 rfl (lv_at hl 2 rfl) ?_
  refine lv_iconst (v := 0) hx hb dL_force_1 (by decide) ?_
  refine lv_aload_n hx hb dL_force_2 rfl (lv_at hl 0 rfl) ?_
  refine lv_iload_n hx hb dL_force_3 rfl (lv_at hl 1 rfl) ?_
  have hPc := hP.sub (ws' := [(x, .inr (15, [.ref sh, .ref tl, .ref tw, .int 0])), (sh, .inr (13, [.ref rg, .ref dk, .ref hd, .ref lg, .ref pl, .ref pr, .int 0, .int 0, .int 0, .int 0, .int 0, .int 0, .int 0, .int 0, .int 0, .int 0, .int 0])), (rg, .inr (11, [.ref mf, .ref mm, .ref mz, .ref ma, .ref sa, .int 0])), (mf, .inr (8, [.int 0, .int 0, .int 0])), (mm, .inr (8, [.int 0, .int 0, .int 0])), (mz, .inr (8, [.int 0, .int 0, .int 0])), (ma, .inl (cM, 3, .inr (.inr (.inr (.inr (va_up (va_up (va_up (fun _ => none) 0 (some mf)) 1 (some mm)) 2 (some mz))))))), (sa, .inl (cS, 9, .inr (.inr (.inr (.inr (va_up (va_up (va_up (va_up (va_up (va_up (va_up (va_up (va_up (fun _ => none) 0 (some s0)) 1 (some s1)) 2 (some s2)) 3 (some s3)) 4 (some s4)) 5 (some s5)) 6 (some s6)) 7 (some s7)) 8 (some s8))))))), (s0, .inr (12, [.int 8, .int 6, .ref mf, .int 1, .int 0, .int 900, .int 0, .int 0])), (s1, .inr (12, [.int 7, .int 5, .ref mf, .int 1, .int 0, .int 900, .int 0, .int 0])), (s2, .inr (12, [.int 3, .int 3, .ref mf, .int 1, .int 0, .int 900, .int 0, .int 0])), (s3, .inr (12, [.int 10, .int 8, .ref mm, .int 1, .int 0, .int 900, .int 0, .int 0])), (s4, .inr (12, [.int 9, .int 6, .ref mm, .int 1, .int 0, .int 900, .int 0, .int 0])), (s5, .inr (12, [.int 4, .int 3, .ref mm, .int 1, .int 0, .int 900, .int 0, .int 0])), (s6, .inr (12, [.int 5, .int 4, .ref mz, .int 1, .int 0, .int 900, .int 0, .int 0])), (s7, .inr (12, [.int 4, .int 3, .ref mf, .int 0, .int 0, .int 900, .int 0, .int 0])), (s8, .inr (12, [.int 6, .int 4, .ref mz, .int 0, .int 0, .int 900, .int 0, .int 0]))]) [0, 1, 2, 3, 4, 5, 6, 7, 8, 9, 10, 11, 12, 13, 14, 15, 16] rfl
  have hDc := hD.sub (ws' := [(x, .inr (15, [.ref sh, .ref tl, .ref tw, .int 0])), (sh, .inr (13, [.ref rg, .ref dk, .ref hd, .ref lg, .ref pl, .ref pr, .int 0, .int 0, .int 0, .int 0, .int 0, .int 0, .int 0, .int 0, .int 0, .int 0, .int 0])), (rg, .inr (11, [.ref mf, .ref mm, .ref mz, .ref ma, .ref sa, .int 0])), (mf, .inr (8, [.int 0, .int 0, .int 0])), (mm, .inr (8, [.int 0, .int 0, .int 0])), (mz, .inr (8, [.int 0, .int 0, .int 0])), (ma, .inl (cM, 3, .inr (.inr (.inr (.inr (va_up (va_up (va_up (fun _ => none) 0 (some mf)) 1 (some mm)) 2 (some mz))))))), (sa, .inl (cS, 9, .inr (.inr (.inr (.inr (va_up (va_up (va_up (va_up (va_up (va_up (va_up (va_up (va_up (fun _ => none) 0 (some s0)) 1 (some s1)) 2 (some s2)) 3 (some s3)) 4 (some s4)) 5 (some s5)) 6 (some s6)) 7 (some s7)) 8 (some s8))))))), (s0, .inr (12, [.int 8, .int 6, .ref mf, .int 1, .int 0, .int 900, .int 0, .int 0])), (s1, .inr (12, [.int 7, .int 5, .ref mf, .int 1, .int 0, .int 900, .int 0, .int 0])), (s2, .inr (12, [.int 3, .int 3, .ref mf, .int 1, .int 0, .int 900, .int 0, .int 0])), (s3, .inr (12, [.int 10, .int 8, .ref mm, .int 1, .int 0, .int 900, .int 0, .int 0])), (s4, .inr (12, [.int 9, .int 6, .ref mm, .int 1, .int 0, .int 900, .int 0, .int 0])), (s5, .inr (12, [.int 4, .int 3, .ref mm, .int 1, .int 0, .int 900, .int 0, .int 0])), (s6, .inr (12, [.int 5, .int 4, .ref mz, .int 1, .int 0, .int 900, .int 0, .int 0])), (s7, .inr (12, [.int 4, .int 3, .ref mf, .int 0, .int 0, .int 900, .int 0, .int 0])), (s8, .inr (12, [.int 6, .int 4, .ref mz, .int 0, .int 0, .int 900, .int 0, .int 0]))]) [0, 1, 2, 3, 4, 5, 6, 7, 8, 9, 10, 11, 12, 13, 14, 15, 16] (by decide) rfl
  have hKc := hK.sub (tys' := [(cM, .object RX4), (cS, .object RX8)]) [0, 1] rfl
  have hFc := va_free (wc := [(x, .inr (15, [.ref sh, .ref tl, .ref tw, .int 0])), (sh, .inr (13, [.ref rg, .ref dk, .ref hd, .ref lg, .ref pl, .ref pr, .int 0, .int 0, .int 0, .int 0, .int 0, .int 0, .int 0, .int 0, .int 0, .int 0, .int 0])), (rg, .inr (11, [.ref mf, .ref mm, .ref mz, .ref ma, .ref sa, .int 0])), (mf, .inr (8, [.int 0, .int 0, .int 0])), (mm, .inr (8, [.int 0, .int 0, .int 0])), (mz, .inr (8, [.int 0, .int 0, .int 0])), (ma, .inl (cM, 3, .inr (.inr (.inr (.inr (va_up (va_up (va_up (fun _ => none) 0 (some mf)) 1 (some mm)) 2 (some mz))))))), (sa, .inl (cS, 9, .inr (.inr (.inr (.inr (va_up (va_up (va_up (va_up (va_up (va_up (va_up (va_up (va_up (fun _ => none) 0 (some s0)) 1 (some s1)) 2 (some s2)) 3 (some s3)) 4 (some s4)) 5 (some s5)) 6 (some s6)) 7 (some s7)) 8 (some s8))))))), (s0, .inr (12, [.int 8, .int 6, .ref mf, .int 1, .int 0, .int 900, .int 0, .int 0])), (s1, .inr (12, [.int 7, .int 5, .ref mf, .int 1, .int 0, .int 900, .int 0, .int 0])), (s2, .inr (12, [.int 3, .int 3, .ref mf, .int 1, .int 0, .int 900, .int 0, .int 0])), (s3, .inr (12, [.int 10, .int 8, .ref mm, .int 1, .int 0, .int 900, .int 0, .int 0])), (s4, .inr (12, [.int 9, .int 6, .ref mm, .int 1, .int 0, .int 900, .int 0, .int 0])), (s5, .inr (12, [.int 4, .int 3, .ref mm, .int 1, .int 0, .int 900, .int 0, .int 0])), (s6, .inr (12, [.int 5, .int 4, .ref mz, .int 1, .int 0, .int 900, .int 0, .int 0])), (s7, .inr (12, [.int 4, .int 3, .ref mf, .int 0, .int 0, .int 900, .int 0, .int 0])), (s8, .inr (12, [.int 6, .int 4, .ref mz, .int 0, .int 0, .int 900, .int 0, .int 0]))]) hD hS hA [0, 1, 2, 3, 4, 5, 6, 7, 8, 9, 10, 11, 12, 13, 14, 15, 16] rfl
  refine va_calli (va_runV (As := [.int 5]) (rest := [.int 0, .ref ou]) ⟨hx, hb, hml, hown, hts⟩ (k_x_force5 l dC dI z zK zV sh rg mf mm mz ma sa s0 s1 s2 s3 s4 s5 s6 s7 s8 dk hd lg pl pr cM cS x tl tw s.heap.size) (cwV 1 hts gL_force_X11_force rfl rfl rfl (by decide +kernel) ⟨Nat.le_of_ble_eq_true rfl, Nat.le_of_ble_eq_true rfl⟩) ⟨kP_blind, va_recv hKc hPc (ci := 15) (q0 := 0) rfl rfl, kP_go hPc hKc hDc hFc hM hS⟩ rfl rfl hl.1 rfl (lv_room (Nat.le_of_ble_eq_true rfl)) dL_force_4 ⟨Nat.le_of_ble_eq_true rfl, Nat.le_of_ble_eq_true rfl⟩) hS (fun q _ h => hFc q h) hFc (fun r1 u t H1 locs ht hvm hw hB hz1 hk1 hS => ?_)
  obtain ⟨hP, hD, hK⟩ := kJ (wr := [(ou, .inl (co, 1, .inr (.inl of_)))]) (w1 := []) (t1 := []) hP hD hK [0, 1, 2, 3, 4, 5, 6, 7, 8, 9, 10, 11, 12, 13, 14, 15, 16] [17] rfl rfl (by decide) (by decide) hk1 hFc ht hvm hB
  generalize H1 = H at hP hS ⊢
  have hP : va_P (dC, dI) vwCl [(ou, .inl (co, 1, .inr (.inl of_)))] H := hP
  have hD : va_D A [(ou, .inl (co, 1, .inr (.inl of_)))] := hD
  have hK : va_K (dC, dI) vwCl [(cM, .object RX4), (cS, .object RX8), (co, .long)] s := hK
  obtain rfl : 0 = r1 := hw
  refine lv_i2l (v := 0) hx hb dL_force_7 (by decide +kernel) ?_
  refine va_last hx hb hK hP hD hS 0 2 rfl rfl (pk_in 0 1 (by decide) rfl) dL_force_8 (fun H locs hP hD hS => ?_)
  have hP : va_P (dC, dI) vwCl [(ou, .inl (co, 1, .inr (.inl (vp_updL of_ 0 0))))] H := hP
  have hD : va_D A [(ou, .inl (co, 1, .inr (.inl (vp_updL of_ 0 0))))] := hD
  refine lv_goto (tgt := 15) hx hb dL_force_9 (by decide) ?_
  refine lv_iconst (v := 0) hx hb dL_force_15 (by decide) ?_
  exact W.iret (v := 0) hx hb hr (fun t ht hW => ⟨⟨0, (), rfl, rfl, kB_end (w9 := [(ou, .inl (co, 1, .inr (.inl (vp_updL of_ 0 0))))]) (t9 := []) hP hK hD [0] [] rfl (by decide) rfl rfl t ht hW⟩, hS.F ht⟩) hS.2.2 dL_force_16
abbrev wd_k_l_force6 (z : Nat → Nat) (sh : Nat) (rg : Nat) (mf : Nat) (mm : Nat) (mz : Nat) (ma : Nat) (sa : Nat) (s0 : Nat) (s1 : Nat) (s2 : Nat) (s3 : Nat) (s4 : Nat) (s5 : Nat) (s6 : Nat) (s7 : Nat) (s8 : Nat) (dk : Nat) (hd : Nat) (lg : Nat) (pl : Nat) (pr : Nat) (cM : ClassId) (cS : ClassId) (x : Nat) (tl : Nat) (tw : Nat) (ou : Nat) (co : ClassId) (of_ : Nat → Int64) : va_W := [(x, .inr (15, [.ref sh, .ref tl, .ref tw, .int 0])), (sh, .inr (13, [.ref rg, .ref dk, .ref hd, .ref lg, .ref pl, .ref pr, .int 0, .int 0, .int 0, .int 0, .int 0, .int 0, .int 0, .int 0, .int 0, .int 0, .int 0])), (rg, .inr (11, [.ref mf, .ref mm, .ref mz, .ref ma, .ref sa, .int 0])), (mf, .inr (8, [.int 0, .int 0, .int 0])), (mm, .inr (8, [.int 0, .int 0, .int 0])), (mz, .inr (8, [.int 0, .int 0, .int 0])), (ma, .inl (cM, 3, .inr (.inr (.inr (.inr (va_up (va_up (va_up (fun _ => none) 0 (some mf)) 1 (some mm)) 2 (some mz))))))), (sa, .inl (cS, 9, .inr (.inr (.inr (.inr (va_up (va_up (va_up (va_up (va_up (va_up (va_up (va_up (va_up (fun _ => none) 0 (some s0)) 1 (some s1)) 2 (some s2)) 3 (some s3)) 4 (some s4)) 5 (some s5)) 6 (some s6)) 7 (some s7)) 8 (some s8))))))), (s0, .inr (12, [.int 8, .int 6, .ref mf, .int 1, .int 0, .int 900, .int 0, .int 0])), (s1, .inr (12, [.int 7, .int 5, .ref mf, .int 1, .int 0, .int 900, .int 0, .int 0])), (s2, .inr (12, [.int 3, .int 3, .ref mf, .int 1, .int 0, .int 900, .int 0, .int 0])), (s3, .inr (12, [.int 10, .int 8, .ref mm, .int 1, .int 0, .int 900, .int 0, .int 0])), (s4, .inr (12, [.int 9, .int 6, .ref mm, .int 1, .int 0, .int 900, .int 0, .int 0])), (s5, .inr (12, [.int 4, .int 3, .ref mm, .int 1, .int 0, .int 900, .int 0, .int 0])), (s6, .inr (12, [.int 5, .int 4, .ref mz, .int 1, .int 0, .int 900, .int 0, .int 0])), (s7, .inr (12, [.int 4, .int 3, .ref mf, .int 0, .int 0, .int 900, .int 0, .int 0])), (s8, .inr (12, [.int 6, .int 4, .ref mz, .int 0, .int 0, .int 900, .int 0, .int 0])), (ou, .inl (co, 1, .inr (.inl of_)))]
set_option maxHeartbeats 4000000 in
set_option maxRecDepth 100000 in
theorem k_l_force6 (l : Launch) (dC : Nat → ClassId) (dI : Nat → Nat → Nat) (z zK zV : Nat → Nat) (sh : Nat) (rg : Nat) (mf : Nat) (mm : Nat) (mz : Nat) (ma : Nat) (sa : Nat) (s0 : Nat) (s1 : Nat) (s2 : Nat) (s3 : Nat) (s4 : Nat) (s5 : Nat) (s6 : Nat) (s7 : Nat) (s8 : Nat) (dk : Nat) (hd : Nat) (lg : Nat) (pl : Nat) (pr : Nat) (cM : ClassId) (cS : ClassId) (x : Nat) (tl : Nat) (tw : Nat) (ou : Nat) (co : ClassId) (of_ : Nat → Int64) (sz : Nat)  : Met l yL_force wsL_force ({ frames := 5, cells := 0, slots := 0, locals := 109 }) (kP dC dI z zK zV [.ref x, .int 6, .ref ou] sz (wd_k_l_force6 z sh rg mf mm mz ma sa s0 s1 s2 s3 s4 s5 s6 s7 s8 dk hd lg pl pr cM cS x tl tw ou co of_) [(cM, .object RX4), (cS, .object RX8), (co, .long)]) (va_Qi (fun (r : Int32) (_ : Unit) => 0 = r) (fun _ t => kB (dC, dI) (va_A (wd_k_l_force6 z sh rg mf mm mz ma sa s0 s1 s2 s3 s4 s5 s6 s7 s8 dk hd lg pl pr cM cS x tl tw ou co of_) sz) [(ou, .inl (co, 1, .inr (.inl (vp_updL of_ 0 0))))] [] t) (va_A (wd_k_l_force6 z sh rg mf mm mz ma sa s0 s1 s2 s3 s4 s5 s6 s7 s8 dk hd lg pl pr cM cS x tl tw ou co of_) sz)) 0 0 (va_A (wd_k_l_force6 z sh rg mf mm mz ma sa s0 s1 s2 s3 s4 s5 s6 s7 s8 dk hd lg pl pr cM cS x tl tw ou co of_) sz) := by
  refine va_MetW (hh := [(0, 9, 12, 32)]) (cc := cL_force) (maxL := 4) (ret := (some .int)) (by decide) rfl ?_
  intro p e s m args below meth c s₁ B hml hv
  obtain ⟨rfl, hsz, hP, hK, hD0, hM⟩ := hv
  have hx := B.exec
  have hb := B.bytes
  have hr := B.returns
  have hts := atoms_spec (ws := wsL_force) B.pre
  have hown : s.vm.findClass RL = some m.cls := findClass_of_methodNamed B.named
  have hlocks := B.notSynchronized
  have htab := vx_table (x := yL_force) B (hts _ List.mem_cons_self)
  subst hsz
  have hD := hD0.self (sz := s.heap.size)
  generalize hAe : va_A (wd_k_l_force6 z sh rg mf mm mz ma sa s0 s1 s2 s3 s4 s5 s6 s7 s8 dk hd lg pl pr cM cS x tl tw ou co of_) s.heap.size = A at hD hM ⊢
  have hA : ∀ q : Nat, s.heap.size ≤ q → A q := fun q h => by rw [← hAe]; exact Or.inr h
  have hS : va_S A s.heap s.heap [] := va_S.rf
  have hP : va_P (dC, dI) vwCl [(x, .inr (15, [.ref sh, .ref tl, .ref tw, .int 0])), (sh, .inr (13, [.ref rg, .ref dk, .ref hd, .ref lg, .ref pl, .ref pr, .int 0, .int 0, .int 0, .int 0, .int 0, .int 0, .int 0, .int 0, .int 0, .int 0, .int 0])), (rg, .inr (11, [.ref mf, .ref mm, .ref mz, .ref ma, .ref sa, .int 0])), (mf, .inr (8, [.int 0, .int 0, .int 0])), (mm, .inr (8, [.int 0, .int 0, .int 0])), (mz, .inr (8, [.int 0, .int 0, .int 0])), (ma, .inl (cM, 3, .inr (.inr (.inr (.inr (va_up (va_up (va_up (fun _ => none) 0 (some mf)) 1 (some mm)) 2 (some mz))))))), (sa, .inl (cS, 9, .inr (.inr (.inr (.inr (va_up (va_up (va_up (va_up (va_up (va_up (va_up (va_up (va_up (fun _ => none) 0 (some s0)) 1 (some s1)) 2 (some s2)) 3 (some s3)) 4 (some s4)) 5 (some s5)) 6 (some s6)) 7 (some s7)) 8 (some s8))))))), (s0, .inr (12, [.int 8, .int 6, .ref mf, .int 1, .int 0, .int 900, .int 0, .int 0])), (s1, .inr (12, [.int 7, .int 5, .ref mf, .int 1, .int 0, .int 900, .int 0, .int 0])), (s2, .inr (12, [.int 3, .int 3, .ref mf, .int 1, .int 0, .int 900, .int 0, .int 0])), (s3, .inr (12, [.int 10, .int 8, .ref mm, .int 1, .int 0, .int 900, .int 0, .int 0])), (s4, .inr (12, [.int 9, .int 6, .ref mm, .int 1, .int 0, .int 900, .int 0, .int 0])), (s5, .inr (12, [.int 4, .int 3, .ref mm, .int 1, .int 0, .int 900, .int 0, .int 0])), (s6, .inr (12, [.int 5, .int 4, .ref mz, .int 1, .int 0, .int 900, .int 0, .int 0])), (s7, .inr (12, [.int 4, .int 3, .ref mf, .int 0, .int 0, .int 900, .int 0, .int 0])), (s8, .inr (12, [.int 6, .int 4, .ref mz, .int 0, .int 0, .int 900, .int 0, .int 0])), (ou, .inl (co, 1, .inr (.inl of_)))] s.heap := hP
  have hD : va_D A [(x, .inr (15, [.ref sh, .ref tl, .ref tw, .int 0])), (sh, .inr (13, [.ref rg, .ref dk, .ref hd, .ref lg, .ref pl, .ref pr, .int 0, .int 0, .int 0, .int 0, .int 0, .int 0, .int 0, .int 0, .int 0, .int 0, .int 0])), (rg, .inr (11, [.ref mf, .ref mm, .ref mz, .ref ma, .ref sa, .int 0])), (mf, .inr (8, [.int 0, .int 0, .int 0])), (mm, .inr (8, [.int 0, .int 0, .int 0])), (mz, .inr (8, [.int 0, .int 0, .int 0])), (ma, .inl (cM, 3, .inr (.inr (.inr (.inr (va_up (va_up (va_up (fun _ => none) 0 (some mf)) 1 (some mm)) 2 (some mz))))))), (sa, .inl (cS, 9, .inr (.inr (.inr (.inr (va_up (va_up (va_up (va_up (va_up (va_up (va_up (va_up (va_up (fun _ => none) 0 (some s0)) 1 (some s1)) 2 (some s2)) 3 (some s3)) 4 (some s4)) 5 (some s5)) 6 (some s6)) 7 (some s7)) 8 (some s8))))))), (s0, .inr (12, [.int 8, .int 6, .ref mf, .int 1, .int 0, .int 900, .int 0, .int 0])), (s1, .inr (12, [.int 7, .int 5, .ref mf, .int 1, .int 0, .int 900, .int 0, .int 0])), (s2, .inr (12, [.int 3, .int 3, .ref mf, .int 1, .int 0, .int 900, .int 0, .int 0])), (s3, .inr (12, [.int 10, .int 8, .ref mm, .int 1, .int 0, .int 900, .int 0, .int 0])), (s4, .inr (12, [.int 9, .int 6, .ref mm, .int 1, .int 0, .int 900, .int 0, .int 0])), (s5, .inr (12, [.int 4, .int 3, .ref mm, .int 1, .int 0, .int 900, .int 0, .int 0])), (s6, .inr (12, [.int 5, .int 4, .ref mz, .int 1, .int 0, .int 900, .int 0, .int 0])), (s7, .inr (12, [.int 4, .int 3, .ref mf, .int 0, .int 0, .int 900, .int 0, .int 0])), (s8, .inr (12, [.int 6, .int 4, .ref mz, .int 0, .int 0, .int 900, .int 0, .int 0])), (ou, .inl (co, 1, .inr (.inl of_)))] := hD
  have hl := lv_entry ([.ref x, .int 6, .ref ou]) (n := 4) (Nat.le_of_ble_eq_true rfl)
  rw [lg_entry_eq]
  generalize (lg_sl ([.ref x, .int 6, .ref ou]) ++ List.replicate (4 - (lg_sl ([.ref x, .int 6, .ref ou])).length) Slot.unset).toArray = ls at hl ⊢
  have hl : lv_has ls 4 [(0, .ref x), (1, .int 6), (2, .ref ou)] := hl
  refine lv_aload_n hx hb dL_force_0 rfl (lv_at hl 2 rfl) ?_
  refine lv_iconst (v := 0) hx hb dL_force_1 (by decide) ?_
  refine lv_aload_n hx hb dL_force_2 rfl (lv_at hl 0 rfl) ?_
  refine lv_iload_n hx hb dL_force_3 rfl (lv_at hl 1 rfl) ?_
  have hPc := hP.sub (ws' := [(x, .inr (15, [.ref sh, .ref tl, .ref tw, .int 0])), (sh, .inr (13, [.ref rg, .ref dk, .ref hd, .ref lg, .ref pl, .ref pr, .int 0, .int 0, .int 0, .int 0, .int 0, .int 0, .int 0, .int 0, .int 0, .int 0, .int 0])), (rg, .inr (11, [.ref mf, .ref mm, .ref mz, .ref ma, .ref sa, .int 0])), (mf, .inr (8, [.int 0, .int 0, .int 0])), (mm, .inr (8, [.int 0, .int 0, .int 0])), (mz, .inr (8, [.int 0, .int 0, .int 0])), (ma, .inl (cM, 3, .inr (.inr (.inr (.inr (va_up (va_up (va_up (fun _ => none) 0 (some mf)) 1 (some mm)) 2 (some mz))))))), (sa, .inl (cS, 9, .inr (.inr (.inr (.inr (va_up (va_up (va_up (va_up (va_up (va_up (va_up (va_up (va_up (fun _ => none) 0 (some s0)) 1 (some s1)) 2 (some s2)) 3 (some s3)) 4 (some s4)) 5 (some s5)) 6 (some s6)) 7 (some s7)) 8 (some s8))))))), (s0, .inr (12, [.int 8, .int 6, .ref mf, .int 1, .int 0, .int 900, .int 0, .int 0])), (s1, .inr (12, [.int 7, .int 5, .ref mf, .int 1, .int 0, .int 900, .int 0, .int 0])), (s2, .inr (12, [.int 3, .int 3, .ref mf, .int 1, .int 0, .int 900, .int 0, .int 0])), (s3, .inr (12, [.int 10, .int 8, .ref mm, .int 1, .int 0, .int 900, .int 0, .int 0])), (s4, .inr (12, [.int 9, .int 6, .ref mm, .int 1, .int 0, .int 900, .int 0, .int 0])), (s5, .inr (12, [.int 4, .int 3, .ref mm, .int 1, .int 0, .int 900, .int 0, .int 0])), (s6, .inr (12, [.int 5, .int 4, .ref mz, .int 1, .int 0, .int 900, .int 0, .int 0])), (s7, .inr (12, [.int 4, .int 3, .ref mf, .int 0, .int 0, .int 900, .int 0, .int 0])), (s8, .inr (12, [.int 6, .int 4, .ref mz, .int 0, .int 0, .int 900, .int 0, .int 0]))]) [0, 1, 2, 3, 4, 5, 6, 7, 8, 9, 10, 11, 12, 13, 14, 15, 16] rfl
  have hDc := hD.sub (ws' := [(x, .inr (15, [.ref sh, .ref tl, .ref tw, .int 0])), (sh, .inr (13, [.ref rg, .ref dk, .ref hd, .ref lg, .ref pl, .ref pr, .int 0, .int 0, .int 0, .int 0, .int 0, .int 0, .int 0, .int 0, .int 0, .int 0, .int 0])), (rg, .inr (11, [.ref mf, .ref mm, .ref mz, .ref ma, .ref sa, .int 0])), (mf, .inr (8, [.int 0, .int 0, .int 0])), (mm, .inr (8, [.int 0, .int 0, .int 0])), (mz, .inr (8, [.int 0, .int 0, .int 0])), (ma, .inl (cM, 3, .inr (.inr (.inr (.inr (va_up (va_up (va_up (fun _ => none) 0 (some mf)) 1 (some mm)) 2 (some mz))))))), (sa, .inl (cS, 9, .inr (.inr (.inr (.inr (va_up (va_up (va_up (va_up (va_up (va_up (va_up (va_up (va_up (fun _ => none) 0 (some s0)) 1 (some s1)) 2 (some s2)) 3 (some s3)) 4 (some s4)) 5 (some s5)) 6 (some s6)) 7 (some s7)) 8 (some s8))))))), (s0, .inr (12, [.int 8, .int 6, .ref mf, .int 1, .int 0, .int 900, .int 0, .int 0])), (s1, .inr (12, [.int 7, .int 5, .ref mf, .int 1, .int 0, .int 900, .int 0, .int 0])), (s2, .inr (12, [.int 3, .int 3, .ref mf, .int 1, .int 0, .int 900, .int 0, .int 0])), (s3, .inr (12, [.int 10, .int 8, .ref mm, .int 1, .int 0, .int 900, .int 0, .int 0])), (s4, .inr (12, [.int 9, .int 6, .ref mm, .int 1, .int 0, .int 900, .int 0, .int 0])), (s5, .inr (12, [.int 4, .int 3, .ref mm, .int 1, .int 0, .int 900, .int 0, .int 0])), (s6, .inr (12, [.int 5, .int 4, .ref mz, .int 1, .int 0, .int 900, .int 0, .int 0])), (s7, .inr (12, [.int 4, .int 3, .ref mf, .int 0, .int 0, .int 900, .int 0, .int 0])), (s8, .inr (12, [.int 6, .int 4, .ref mz, .int 0, .int 0, .int 900, .int 0, .int 0]))]) [0, 1, 2, 3, 4, 5, 6, 7, 8, 9, 10, 11, 12, 13, 14, 15, 16] (by decide) rfl
  have hKc := hK.sub (tys' := [(cM, .object RX4), (cS, .object RX8)]) [0, 1] rfl
  have hFc := va_free (wc := [(x, .inr (15, [.ref sh, .ref tl, .ref tw, .int 0])), (sh, .inr (13, [.ref rg, .ref dk, .ref hd, .ref lg, .ref pl, .ref pr, .int 0, .int 0, .int 0, .int 0, .int 0, .int 0, .int 0, .int 0, .int 0, .int 0, .int 0])), (rg, .inr (11, [.ref mf, .ref mm, .ref mz, .ref ma, .ref sa, .int 0])), (mf, .inr (8, [.int 0, .int 0, .int 0])), (mm, .inr (8, [.int 0, .int 0, .int 0])), (mz, .inr (8, [.int 0, .int 0, .int 0])), (ma, .inl (cM, 3, .inr (.inr (.inr (.inr (va_up (va_up (va_up (fun _ => none) 0 (some mf)) 1 (some mm)) 2 (some mz))))))), (sa, .inl (cS, 9, .inr (.inr (.inr (.inr (va_up (va_up (va_up (va_up (va_up (va_up (va_up (va_up (va_up (fun _ => none) 0 (some s0)) 1 (some s1)) 2 (some s2)) 3 (some s3)) 4 (some s4)) 5 (some s5)) 6 (some s6)) 7 (some s7)) 8 (some s8))))))), (s0, .inr (12, [.int 8, .int 6, .ref mf, .int 1, .int 0, .int 900, .int 0, .int 0])), (s1, .inr (12, [.int 7, .int 5, .ref mf, .int 1, .int 0, .int 900, .int 0, .int 0])), (s2, .inr (12, [.int 3, .int 3, .ref mf, .int 1, .int 0, .int 900, .int 0, .int 0])), (s3, .inr (12, [.int 10, .int 8, .ref mm, .int 1, .int 0, .int 900, .int 0, .int 0])), (s4, .inr (12, [.int 9, .int 6, .ref mm, .int 1, .int 0, .int 900, .int 0, .int 0])), (s5, .inr (12, [.int 4, .int 3, .ref mm, .int 1, .int 0, .int 900, .int 0, .int 0])), (s6, .inr (12, [.int 5, .int 4, .ref mz, .int 1, .int 0, .int 900, .int 0, .int 0])), (s7, .inr (12, [.int 4, .int 3, .ref mf, .int 0, .int 0, .int 900, .int 0, .int 0])), (s8, .inr (12, [.int 6, .int 4, .ref mz, .int 0, .int 0, .int 900, .int 0, .int 0]))]) hD hS hA [0, 1, 2, 3, 4, 5, 6, 7, 8, 9, 10, 11, 12, 13, 14, 15, 16] rfl
  refine va_calli (va_runV (As := [.int 6]) (rest := [.int 0, .ref ou]) ⟨hx, hb, hml, hown, hts⟩ (k_x_force6 l dC dI z zK zV sh rg mf mm mz ma sa s0 s1 s2 s3 s4 s5 s6 s7 s8 dk hd lg pl pr cM cS x tl tw s.heap.size) (cwV 1 hts gL_force_X11_force rfl rfl rfl (by decide +kernel) ⟨Nat.le_of_ble_eq_true rfl, Nat.le_of_ble_eq_true rfl⟩) ⟨kP_blind, va_recv hKc hPc (ci := 15) (q0 := 0) rfl rfl, kP_go hPc hKc hDc hFc hM hS⟩ rfl rfl hl.1 rfl (lv_room (Nat.le_of_ble_eq_true rfl)) dL_force_4 ⟨Nat.le_of_ble_eq_true rfl, Nat.le_of_ble_eq_true rfl⟩) hS (fun q _ h => hFc q h) hFc (fun r1 u t H1 locs ht hvm hw hB hz1 hk1 hS => ?_)
  obtain ⟨hP, hD, hK⟩ := kJ (wr := [(ou, .inl (co, 1, .inr (.inl of_)))]) (w1 := []) (t1 := []) hP hD hK [0, 1, 2, 3, 4, 5, 6, 7, 8, 9, 10, 11, 12, 13, 14, 15, 16] [17] rfl rfl (by decide) (by decide) hk1 hFc ht hvm hB
  generalize H1 = H at hP hS ⊢
  have hP : va_P (dC, dI) vwCl [(ou, .inl (co, 1, .inr (.inl of_)))] H := hP
  have hD : va_D A [(ou, .inl (co, 1, .inr (.inl of_)))] := hD
  have hK : va_K (dC, dI) vwCl [(cM, .object RX4), (cS, .object RX8), (co, .long)] s := hK
  obtain rfl : 0 = r1 := hw
  refine lv_i2l (v := 0) hx hb dL_force_7 (by decide +kernel) ?_
  refine va_last hx hb hK hP hD hS 0 2 rfl rfl (pk_in 0 1 (by decide) rfl) dL_force_8 (fun H locs hP hD hS => ?_)
  have hP : va_P (dC, dI) vwCl [(ou, .inl (co, 1, .inr (.inl (vp_updL of_ 0 0))))] H := hP
  have hD : va_D A [(ou, .inl (co, 1, .inr (.inl (vp_updL of_ 0 0))))] := hD
  refine lv_goto (tgt := 15) hx hb dL_force_9 (by decide) ?_
  refine lv_iconst (v := 0) hx hb dL_force_15 (by decide) ?_
  exact W.iret (v := 0) hx hb hr (fun t ht hW => ⟨⟨0, (), rfl, rfl, kB_end (w9 := [(ou, .inl (co, 1, .inr (.inl (vp_updL of_ 0 0))))]) (t9 := []) hP hK hD [0] [] rfl (by decide) rfl rfl t ht hW⟩, hS.F ht⟩) hS.2.2 dL_force_16
abbrev wd_k_l_force7 (z : Nat → Nat) (sh : Nat) (rg : Nat) (mf : Nat) (mm : Nat) (mz : Nat) (ma : Nat) (sa : Nat) (s0 : Nat) (s1 : Nat) (s2 : Nat) (s3 : Nat) (s4 : Nat) (s5 : Nat) (s6 : Nat) (s7 : Nat) (s8 : Nat) (dk : Nat) (hd : Nat) (lg : Nat) (pl : Nat) (pr : Nat) (cM : ClassId) (cS : ClassId) (x : Nat) (tl : Nat) (tw : Nat) (ou : Nat) (co : ClassId) (of_ : Nat → Int64) : va_W := [(x, .inr (15, [.ref sh, .ref tl, .ref tw, .int 0])), (sh, .inr (13, [.ref rg, .ref dk, .ref hd, .ref lg, .ref pl, .ref pr, .int 0, .int 0, .int 0, .int 0, .int 0, .int 0, .int 0, .int 0, .int 0, .int 0, .int 0])), (rg, .inr (11, [.ref mf, .ref mm, .ref mz, .ref ma, .ref sa, .int 0])), (mf, .inr (8, [.int 0, .int 0, .int 0])), (mm, .inr (8, [.int 0, .int 0, .int 0])), (mz, .inr (8, [.int 0, .int 0, .int 0])), (ma, .inl (cM, 3, .inr (.inr (.inr (.inr (va_up (va_up (va_up (fun _ => none) 0 (some mf)) 1 (some mm)) 2 (some mz))))))), (sa, .inl (cS, 9, .inr (.inr (.inr (.inr (va_up (va_up (va_up (va_up (va_up (va_up (va_up (va_up (va_up (fun _ => none) 0 (some s0)) 1 (some s1)) 2 (some s2)) 3 (some s3)) 4 (some s4)) 5 (some s5)) 6 (some s6)) 7 (some s7)) 8 (some s8))))))), (s0, .inr (12, [.int 8, .int 6, .ref mf, .int 1, .int 0, .int 900, .int 0, .int 0])), (s1, .inr (12, [.int 7, .int 5, .ref mf, .int 1, .int 0, .int 900, .int 0, .int 0])), (s2, .inr (12, [.int 3, .int 3, .ref mf, .int 1, .int 0, .int 900, .int 0, .int 0])), (s3, .inr (12, [.int 10, .int 8, .ref mm, .int 1, .int 0, .int 900, .int 0, .int 0])), (s4, .inr (12, [.int 9, .int 6, .ref mm, .int 1, .int 0, .int 900, .int 0, .int 0])), (s5, .inr (12, [.int 4, .int 3, .ref mm, .int 1, .int 0, .int 900, .int 0, .int 0])), (s6, .inr (12, [.int 5, .int 4, .ref mz, .int 1, .int 0, .int 900, .int 0, .int 0])), (s7, .inr (12, [.int 4, .int 3, .ref mf, .int 0, .int 0, .int 900, .int 0, .int 0])), (s8, .inr (12, [.int 6, .int 4, .ref mz, .int 0, .int 0, .int 900, .int 0, .int 0])), (ou, .inl (co, 1, .inr (.inl of_)))]
set_option maxHeartbeats 4000000 in
set_option maxRecDepth 100000 in
theorem k_l_force7 (l : Launch) (dC : Nat → ClassId) (dI : Nat → Nat → Nat) (z zK zV : Nat → Nat) (sh : Nat) (rg : Nat) (mf : Nat) (mm : Nat) (mz : Nat) (ma : Nat) (sa : Nat) (s0 : Nat) (s1 : Nat) (s2 : Nat) (s3 : Nat) (s4 : Nat) (s5 : Nat) (s6 : Nat) (s7 : Nat) (s8 : Nat) (dk : Nat) (hd : Nat) (lg : Nat) (pl : Nat) (pr : Nat) (cM : ClassId) (cS : ClassId) (x : Nat) (tl : Nat) (tw : Nat) (ou : Nat) (co : ClassId) (of_ : Nat → Int64) (sz : Nat)  : Met l yL_force wsL_force ({ frames := 5, cells := 0, slots := 0, locals := 109 }) (kP dC dI z zK zV [.ref x, .int 7, .ref ou] sz (wd_k_l_force7 z sh rg mf mm mz ma sa s0 s1 s2 s3 s4 s5 s6 s7 s8 dk hd lg pl pr cM cS x tl tw ou co of_) [(cM, .object RX4), (cS, .object RX8), (co, .long)]) (va_Qi (fun (r : Int32) (_ : Unit) => 0 = r) (fun _ t => kB (dC, dI) (va_A (wd_k_l_force7 z sh rg mf mm mz ma sa s0 s1 s2 s3 s4 s5 s6 s7 s8 dk hd lg pl pr cM cS x tl tw ou co of_) sz) [(ou, .inl (co, 1, .inr (.inl (vp_updL of_ 0 0))))] [] t) (va_A (wd_k_l_force7 z sh rg mf mm mz ma sa s0 s1 s2 s3 s4 s5 s6 s7 s8 dk hd lg pl pr cM cS x tl tw ou co of_) sz)) 0 0 (va_A (wd_k_l_force7 z sh rg mf mm mz ma sa s0 s1 s2 s3 s4 s5 s6 s7 s8 dk hd lg pl pr cM cS x tl tw ou co of_) sz) := by
  refine va_MetW (hh := [(0, 9, 12, 32)]) (cc := cL_force) (maxL := 4) (ret := (some .int)) (by decide) rfl ?_
  intro p e s m args below meth c s₁ B hml hv
  obtain ⟨rfl, hsz, hP, hK, hD0, hM⟩ := hv
  have hx := B.exec
  have hb := B.bytes
  have hr := B.returns
  have hts := atoms_spec (ws := wsL_force) B.pre
  have hown : s.vm.findClass RL = some m.cls := findClass_of_methodNamed B.named
  have hlocks := B.notSynchronized
  have htab := vx_table (x := yL_force) B (hts _ List.mem_cons_self)
  subst hsz
  have hD := hD0.self (sz := s.heap.size)
  generalize hAe : va_A (wd_k_l_force7 z sh rg mf mm mz ma sa s0 s1 s2 s3 s4 s5 s6 s7 s8 dk hd lg pl pr cM cS x tl tw ou co of_) s.heap.size = A at hD hM ⊢
  have hA : ∀ q : Nat, s.heap.size ≤ q → A q := fun q h => by rw [← hAe]; exact Or.inr h
  have hS : va_S A s.heap s.heap [] := va_S.rf
  have hP : va_P (dC, dI) vwCl [(x, .inr (15, [.ref sh, .ref tl, .ref tw, .int 0])), (sh, .inr (13, [.ref rg, .ref dk, .ref hd, .ref lg, .ref pl, .ref pr, .int 0, .int 0, .int 0, .int 0, .int 0, .int 0, .int 0, .int 0, .int 0, .int 0, .int 0])), (rg, .inr (11, [.ref mf, .ref mm, .ref mz, .ref ma, .ref sa, .int 0])), (mf, .inr (8, [.int 0, .int 0, .int 0])), (mm, .inr (8, [.int 0, .int 0, .int 0])), (mz, .inr (8, [.int 0, .int 0, .int 0])), (ma, .inl (cM, 3, .inr (.inr (.inr (.inr (va_up (va_up (va_up (fun _ => none) 0 (some mf)) 1 (some mm)) 2 (some mz))))))), (sa, .inl (cS, 9, .inr (.inr (.inr (.inr (va_up (va_up (va_up (va_up (va_up (va_up (va_up (va_up (va_up (fun _ => none) 0 (some s0)) 1 (some s1)) 2 (some s2)) 3 (some s3)) 4 (some s4)) 5 (some s5)) 6 (some s6)) 7 (some s7)) 8 (some s8))))))), (s0, .inr (12, [.int 8, .int 6, .ref mf, .int 1, .int 0, .int 900, .int 0, .int 0])), (s1, .inr (12, [.int 7, .int 5, .ref mf, .int 1, .int 0, .int 900, .int 0, .int 0])), (s2, .inr (12, [.int 3, .int 3, .ref mf, .int 1, .int 0, .int 900, .int 0, .int 0])), (s3, .inr (12, [.int 10, .int 8, .ref mm, .int 1, .int 0, .int 900, .int 0, .int 0])), (s4, .inr (12, [.int 9, .int 6, .ref mm, .int 1, .int 0, .int 900, .int 0, .int 0])), (s5, .inr (12, [.int 4, .int 3, .ref mm, .int 1, .int 0, .int 900, .int 0, .int 0])), (s6, .inr (12, [.int 5, .int 4, .ref mz, .int 1, .int 0, .int 900, .int 0, .int 0])), (s7, .inr (12, [.int 4, .int 3, .ref mf, .int 0, .int 0, .int 900, .int 0, .int 0])), (s8, .inr (12, [.int 6, .int 4, .ref mz, .int 0, .int 0, .int 900, .int 0, .int 0])), (ou, .inl (co, 1, .inr (.inl of_)))] s.heap := hP
  have hD : va_D A [(x, .inr (15, [.ref sh, .ref tl, .ref tw, .int 0])), (sh, .inr (13, [.ref rg, .ref dk, .ref hd, .ref lg, .ref pl, .ref pr, .int 0, .int 0, .int 0, .int 0, .int 0, .int 0, .int 0, .int 0, .int 0, .int 0, .int 0])), (rg, .inr (11, [.ref mf, .ref mm, .ref mz, .ref ma, .ref sa, .int 0])), (mf, .inr (8, [.int 0, .int 0, .int 0])), (mm, .inr (8, [.int 0, .int 0, .int 0])), (mz, .inr (8, [.int 0, .int 0, .int 0])), (ma, .inl (cM, 3, .inr (.inr (.inr (.inr (va_up (va_up (va_up (fun _ => none) 0 (some mf)) 1 (some mm)) 2 (some mz))))))), (sa, .inl (cS, 9, .inr (.inr (.inr (.inr (va_up (va_up (va_up (va_up (va_up (va_up (va_up (va_up (va_up (fun _ => none) 0 (some s0)) 1 (some s1)) 2 (some s2)) 3 (some s3)) 4 (some s4)) 5 (some s5)) 6 (some s6)) 7 (some s7)) 8 (some s8))))))), (s0, .inr (12, [.int 8, .int 6, .ref mf, .int 1, .int 0, .int 900, .int 0, .int 0])), (s1, .inr (12, [.int 7, .int 5, .ref mf, .int 1, .int 0, .int 900, .int 0, .int 0])), (s2, .inr (12, [.int 3, .int 3, .ref mf, .int 1, .int 0, .int 900, .int 0, .int 0])), (s3, .inr (12, [.int 10, .int 8, .ref mm, .int 1, .int 0, .int 900, .int 0, .int 0])), (s4, .inr (12, [.int 9, .int 6, .ref mm, .int 1, .int 0, .int 900, .int 0, .int 0])), (s5, .inr (12, [.int 4, .int 3, .ref mm, .int 1, .int 0, .int 900, .int 0, .int 0])), (s6, .inr (12, [.int 5, .int 4, .ref mz, .int 1, .int 0, .int 900, .int 0, .int 0])), (s7, .inr (12, [.int 4, .int 3, .ref mf, .int 0, .int 0, .int 900, .int 0, .int 0])), (s8, .inr (12, [.int 6, .int 4, .ref mz, .int 0, .int 0, .int 900, .int 0, .int 0])), (ou, .inl (co, 1, .inr (.inl of_)))] := hD
  have hl := lv_entry ([.ref x, .int 7, .ref ou]) (n := 4) (Nat.le_of_ble_eq_true rfl)
  rw [lg_entry_eq]
  generalize (lg_sl ([.ref x, .int 7, .ref ou]) ++ List.replicate (4 - (lg_sl ([.ref x, .int 7, .ref ou])).length) Slot.unset).toArray = ls at hl ⊢
  have hl : lv_has ls 4 [(0, .ref x), (1, .int 7), (2, .ref ou)] := hl
  refine lv_aload_n hx hb dL_force_0 rfl (lv_at hl 2 rfl) ?_
  refine lv_iconst (v := 0) hx hb dL_force_1 (by decide) ?_
  refine lv_aload_n hx hb dL_force_2 rfl (lv_at hl 0 rfl) ?_
  refine lv_iload_n hx hb dL_force_3 rfl (lv_at hl 1 rfl) ?_
  have hPc := hP.sub (ws' := [(x, .inr (15, [.ref sh, .ref tl, .ref tw, .int 0])), (sh, .inr (13, [.ref rg, .ref dk, .ref hd, .ref lg, .ref pl, .ref pr, .int 0, .int 0, .int 0, .int 0, .int 0, .int 0, .int 0, .int 0, .int 0, .int 0, .int 0])), (rg, .inr (11, [.ref mf, .ref mm, .ref mz, .ref ma, .ref sa, .int 0])), (mf, .inr (8, [.int 0, .int 0, .int 0])), (mm, .inr (8, [.int 0, .int 0, .int 0])), (mz, .inr (8, [.int 0, .int 0, .int 0])), (ma, .inl (cM, 3, .inr (.inr (.inr (.inr (va_up (va_up (va_up (fun _ => none) 0 (some mf)) 1 (some mm)) 2 (some mz))))))), (sa, .inl (cS, 9, .inr (.inr (.inr (.inr (va_up (va_up (va_up (va_up (va_up (va_up (va_up (va_up (va_up (fun _ => none) 0 (some s0)) 1 (some s1)) 2 (some s2)) 3 (some s3)) 4 (some s4)) 5 (some s5)) 6 (some s6)) 7 (some s7)) 8 (some s8))))))), (s0, .inr (12, [.int 8, .int 6, .ref mf, .int 1, .int 0, .int 900, .int 0, .int 0])), (s1, .inr (12, [.int 7, .int 5, .ref mf, .int 1, .int 0, .int 900, .int 0, .int 0])), (s2, .inr (12, [.int 3, .int 3, .ref mf, .int 1, .int 0, .int 900, .int 0, .int 0])), (s3, .inr (12, [.int 10, .int 8, .ref mm, .int 1, .int 0, .int 900, .int 0, .int 0])), (s4, .inr (12, [.int 9, .int 6, .ref mm, .int 1, .int 0, .int 900, .int 0, .int 0])), (s5, .inr (12, [.int 4, .int 3, .ref mm, .int 1, .int 0, .int 900, .int 0, .int 0])), (s6, .inr (12, [.int 5, .int 4, .ref mz, .int 1, .int 0, .int 900, .int 0, .int 0])), (s7, .inr (12, [.int 4, .int 3, .ref mf, .int 0, .int 0, .int 900, .int 0, .int 0])), (s8, .inr (12, [.int 6, .int 4, .ref mz, .int 0, .int 0, .int 900, .int 0, .int 0]))]) [0, 1, 2, 3, 4, 5, 6, 7, 8, 9, 10, 11, 12, 13, 14, 15, 16] rfl
  have hDc := hD.sub (ws' := [(x, .inr (15, [.ref sh, .ref tl, .ref tw, .int 0])), (sh, .inr (13, [.ref rg, .ref dk, .ref hd, .ref lg, .ref pl, .ref pr, .int 0, .int 0, .int 0, .int 0, .int 0, .int 0, .int 0, .int 0, .int 0, .int 0, .int 0])), (rg, .inr (11, [.ref mf, .ref mm, .ref mz, .ref ma, .ref sa, .int 0])), (mf, .inr (8, [.int 0, .int 0, .int 0])), (mm, .inr (8, [.int 0, .int 0, .int 0])), (mz, .inr (8, [.int 0, .int 0, .int 0])), (ma, .inl (cM, 3, .inr (.inr (.inr (.inr (va_up (va_up (va_up (fun _ => none) 0 (some mf)) 1 (some mm)) 2 (some mz))))))), (sa, .inl (cS, 9, .inr (.inr (.inr (.inr (va_up (va_up (va_up (va_up (va_up (va_up (va_up (va_up (va_up (fun _ => none) 0 (some s0)) 1 (some s1)) 2 (some s2)) 3 (some s3)) 4 (some s4)) 5 (some s5)) 6 (some s6)) 7 (some s7)) 8 (some s8))))))), (s0, .inr (12, [.int 8, .int 6, .ref mf, .int 1, .int 0, .int 900, .int 0, .int 0])), (s1, .inr (12, [.int 7, .int 5, .ref mf, .int 1, .int 0, .int 900, .int 0, .int 0])), (s2, .inr (12, [.int 3, .int 3, .ref mf, .int 1, .int 0, .int 900, .int 0, .int 0])), (s3, .inr (12, [.int 10, .int 8, .ref mm, .int 1, .int 0, .int 900, .int 0, .int 0])), (s4, .inr (12, [.int 9, .int 6, .ref mm, .int 1, .int 0, .int 900, .int 0, .int 0])), (s5, .inr (12, [.int 4, .int 3, .ref mm, .int 1, .int 0, .int 900, .int 0, .int 0])), (s6, .inr (12, [.int 5, .int 4, .ref mz, .int 1, .int 0, .int 900, .int 0, .int 0])), (s7, .inr (12, [.int 4, .int 3, .ref mf, .int 0, .int 0, .int 900, .int 0, .int 0])), (s8, .inr (12, [.int 6, .int 4, .ref mz, .int 0, .int 0, .int 900, .int 0, .int 0]))]) [0, 1, 2, 3, 4, 5, 6, 7, 8, 9, 10, 11, 12, 13, 14, 15, 16] (by decide) rfl
  have hKc := hK.sub (tys' := [(cM, .object RX4), (cS, .object RX8)]) [0, 1] rfl
  have hFc := va_free (wc := [(x, .inr (15, [.ref sh, .ref tl, .ref tw, .int 0])), (sh, .inr (13, [.ref rg, .ref dk, .ref hd, .ref lg, .ref pl, .ref pr, .int 0, .int 0, .int 0, .int 0, .int 0, .int 0, .int 0, .int 0, .int 0, .int 0, .int 0])), (rg, .inr (11, [.ref mf, .ref mm, .ref mz, .ref ma, .ref sa, .int 0])), (mf, .inr (8, [.int 0, .int 0, .int 0])), (mm, .inr (8, [.int 0, .int 0, .int 0])), (mz, .inr (8, [.int 0, .int 0, .int 0])), (ma, .inl (cM, 3, .inr (.inr (.inr (.inr (va_up (va_up (va_up (fun _ => none) 0 (some mf)) 1 (some mm)) 2 (some mz))))))), (sa, .inl (cS, 9, .inr (.inr (.inr (.inr (va_up (va_up (va_up (va_up (va_up (va_up (va_up (va_up (va_up (fun _ => none) 0 (some s0)) 1 (some s1)) 2 (some s2)) 3 (some s3)) 4 (some s4)) 5 (some s5)) 6 (some s6)) 7 (some s7)) 8 (some s8))))))), (s0, .inr (12, [.int 8, .int 6, .ref mf, .int 1, .int 0, .int 900, .int 0, .int 0])), (s1, .inr (12, [.int 7, .int 5, .ref mf, .int 1, .int 0, .int 900, .int 0, .int 0])), (s2, .inr (12, [.int 3, .int 3, .ref mf, .int 1, .int 0, .int 900, .int 0, .int 0])), (s3, .inr (12, [.int 10, .int 8, .ref mm, .int 1, .int 0, .int 900, .int 0, .int 0])), (s4, .inr (12, [.int 9, .int 6, .ref mm, .int 1, .int 0, .int 900, .int 0, .int 0])), (s5, .inr (12, [.int 4, .int 3, .ref mm, .int 1, .int 0, .int 900, .int 0, .int 0])), (s6, .inr (12, [.int 5, .int 4, .ref mz, .int 1, .int 0, .int 900, .int 0, .int 0])), (s7, .inr (12, [.int 4, .int 3, .ref mf, .int 0, .int 0, .int 900, .int 0, .int 0])), (s8, .inr (12, [.int 6, .int 4, .ref mz, .int 0, .int 0, .int 900, .int 0, .int 0]))]) hD hS hA [0, 1, 2, 3, 4, 5, 6, 7, 8, 9, 10, 11, 12, 13, 14, 15, 16] rfl
  refine va_calli (va_runV (As := [.int 7]) (rest := [.int 0, .ref ou]) ⟨hx, hb, hml, hown, hts⟩ (k_x_force7 l dC dI z zK zV sh rg mf mm mz ma sa s0 s1 s2 s3 s4 s5 s6 s7 s8 dk hd lg pl pr cM cS x tl tw s.heap.size) (cwV 1 hts gL_force_X11_force rfl rfl rfl (by decide +kernel) ⟨Nat.le_of_ble_eq_true rfl, Nat.le_of_ble_eq_true rfl⟩) ⟨kP_blind, va_recv hKc hPc (ci := 15) (q0 := 0) rfl rfl, kP_go hPc hKc hDc hFc hM hS⟩ rfl rfl hl.1 rfl (lv_room (Nat.le_of_ble_eq_true rfl)) dL_force_4 ⟨Nat.le_of_ble_eq_true rfl, Nat.le_of_ble_eq_true rfl⟩) hS (fun q _ h => hFc q h) hFc (fun r1 u t H1 locs ht hvm hw hB hz1 hk1 hS => ?_)
  obtain ⟨hP, hD, hK⟩ := kJ (wr := [(ou, .inl (co, 1, .inr (.inl of_)))]) (w1 := []) (t1 := []) hP hD hK [0, 1, 2, 3, 4, 5, 6, 7, 8, 9, 10, 11, 12, 13, 14, 15, 16] [17] rfl rfl (by decide) (by decide) hk1 hFc ht hvm hB
  generalize H1 = H at hP hS ⊢
  have hP : va_P (dC, dI) vwCl [(ou, .inl (co, 1, .inr (.inl of_)))] H := hP
  have hD : va_D A [(ou, .inl (co, 1, .inr (.inl of_)))] := hD
  have hK : va_K (dC, dI) vwCl [(cM, .object RX4), (cS, .object RX8), (co, .long)] s := hK
  obtain rfl : 0 = r1 := hw
  refine lv_i2l (v := 0) hx hb dL_force_7 (by decide +kernel) ?_
  refine va_last hx hb hK hP hD hS 0 2 rfl rfl (pk_in 0 1 (by decide) rfl) dL_force_8 (fun H locs hP hD hS => ?_)
  have hP : va_P (dC, dI) vwCl [(ou, .inl (co, 1, .inr (.inl (vp_updL of_ 0 0))))] H := hP
  have hD : va_D A [(ou, .inl (co, 1, .inr (.inl (vp_updL of_ 0 0))))] := hD
  refine lv_goto (tgt := 15) hx hb dL_force_9 (by decide) ?_
  refine lv_iconst (v := 0) hx hb dL_force_15 (by decide) ?_
  exact W.iret (v := 0) hx hb hr (fun t ht hW => ⟨⟨0, (), rfl, rfl, kB_end (w9 := [(ou, .inl (co, 1, .inr (.inl (vp_updL of_ 0 0))))]) (t9 := []) hP hK hD [0] [] rfl (by decide) rfl rfl t ht hW⟩, hS.F ht⟩) hS.2.2 dL_force_16
abbrev wd_k_l_force8 (z : Nat → Nat) (sh : Nat) (rg : Nat) (mf : Nat) (mm : Nat) (mz : Nat) (ma : Nat) (sa : Nat) (s0 : Nat) (s1 : Nat) (s2 : Nat) (s3 : Nat) (s4 : Nat) (s5 : Nat) (s6 : Nat) (s7 : Nat) (s8 : Nat) (dk : Nat) (hd : Nat) (lg : Nat) (pl : Nat) (pr : Nat) (cM : ClassId) (cS : ClassId) (x : Nat) (tl : Nat) (tw : Nat) (ou : Nat) (co : ClassId) (of_ : Nat → Int64) : va_W := [(x, .inr (15, [.ref sh, .ref tl, .ref tw, .int 0])), (sh, .inr (13, [.ref rg, .ref dk, .ref hd, .ref lg, .ref pl, .ref pr, .int 0, .int 0, .int 0, .int 0, .int 0, .int 0, .int 0, .int 0, .int 0, .int 0, .int 0])), (rg, .inr (11, [.ref mf, .ref mm, .ref mz, .ref ma, .ref sa, .int 0])), (mf, .inr (8, [.int 0, .int 0, .int 0])), (mm, .inr (8, [.int 0, .int 0, .int 0])), (mz, .inr (8, [.int 0, .int 0, .int 0])), (ma, .inl (cM, 3, .inr (.inr (.inr (.inr (va_up (va_up (va_up (fun _ => none) 0 (some mf)) 1 (some mm)) 2 (some mz))))))), (sa, .inl (cS, 9, .inr (.inr (.inr (.inr (va_up (va_up (va_up (va_up (va_up (va_up (va_up (va_up (va_up (fun _ => none) 0 (some s0)) 1 (some s1)) 2 (some s2)) 3 (some s3)) 4 (some s4)) 5 (some s5)) 6 (some s6)) 7 (some s7)) 8 (some s8))))))), (s0, .inr (12, [.int 8, .int 6, .ref mf, .int 1, .int 0, .int 900, .int 0, .int 0])), (s1, .inr (12, [.int 7, .int 5, .ref mf, .int 1, .int 0, .int 900, .int 0, .int 0])), (s2, .inr (12, [.int 3, .int 3, .ref mf, .int 1, .int 0, .int 900, .int 0, .int 0])), (s3, .inr (12, [.int 10, .int 8, .ref mm, .int 1, .int 0, .int 900, .int 0, .int 0])), (s4, .inr (12, [.int 9, .int 6, .ref mm, .int 1, .int 0, .int 900, .int 0, .int 0])), (s5, .inr (12, [.int 4, .int 3, .ref mm, .int 1, .int 0, .int 900, .int 0, .int 0])), (s6, .inr (12, [.int 5, .int 4, .ref mz, .int 1, .int 0, .int 900, .int 0, .int 0])), (s7, .inr (12, [.int 4, .int 3, .ref mf, .int 0, .int 0, .int 900, .int 0, .int 0])), (s8, .inr (12, [.int 6, .int 4, .ref mz, .int 0, .int 0, .int 900, .int 0, .int 0])), (ou, .inl (co, 1, .inr (.inl of_)))]
set_option maxHeartbeats 4000000 in
set_option maxRecDepth 100000 in
theorem k_l_force8 (l : Launch) (dC : Nat → ClassId) (dI : Nat → Nat → Nat) (z zK zV : Nat → Nat) (sh : Nat) (rg : Nat) (mf : Nat) (mm : Nat) (mz : Nat) (ma : Nat) (sa : Nat) (s0 : Nat) (s1 : Nat) (s2 : Nat) (s3 : Nat) (s4 : Nat) (s5 : Nat) (s6 : Nat) (s7 : Nat) (s8 : Nat) (dk : Nat) (hd : Nat) (lg : Nat) (pl : Nat) (pr : Nat) (cM : ClassId) (cS : ClassId) (x : Nat) (tl : Nat) (tw : Nat) (ou : Nat) (co : ClassId) (of_ : Nat → Int64) (sz : Nat)  : Met l yL_force wsL_force ({ frames := 5, cells := 0, slots := 0, locals := 109 }) (kP dC dI z zK zV [.ref x, .int 8, .ref ou] sz (wd_k_l_force8 z sh rg mf mm mz ma sa s0 s1 s2 s3 s4 s5 s6 s7 s8 dk hd lg pl pr cM cS x tl tw ou co of_) [(cM, .object RX4), (cS, .object RX8), (co, .long)]) (va_Qi (fun (r : Int32) (_ : Unit) => 0 = r) (fun _ t => kB (dC, dI) (va_A (wd_k_l_force8 z sh rg mf mm mz ma sa s0 s1 s2 s3 s4 s5 s6 s7 s8 dk hd lg pl pr cM cS x tl tw ou co of_) sz) [(ou, .inl (co, 1, .inr (.inl (vp_updL of_ 0 0))))] [] t) (va_A (wd_k_l_force8 z sh rg mf mm mz ma sa s0 s1 s2 s3 s4 s5 s6 s7 s8 dk hd lg pl pr cM cS x tl tw ou co of_) sz)) 0 0 (va_A (wd_k_l_force8 z sh rg mf mm mz ma sa s0 s1 s2 s3 s4 s5 s6 s7 s8 dk hd lg pl pr cM cS x tl tw ou co of_) sz) := by
  refine va_MetW (hh := [(0, 9, 12, 32)]) (cc := cL_force) (maxL := 4) (ret := (some .int)) (by decide) rfl ?_
  intro p e s m args below meth c s₁ B hml hv
  obtain ⟨rfl, hsz, hP, hK, hD0, hM⟩ := hv
  have hx := B.exec
  have hb := B.bytes
  have hr := B.returns
  have hts := atoms_spec (ws := wsL_force) B.pre
  have hown : s.vm.findClass RL = some m.cls := findClass_of_methodNamed B.named
  have hlocks := B.notSynchronized
  have htab := vx_table (x := yL_force) B (hts _ List.mem_cons_self)
  subst hsz
  have hD := hD0.self (sz := s.heap.size)
  generalize hAe : va_A (wd_k_l_force8 z sh rg mf mm mz ma sa s0 s1 s2 s3 s4 s5 s6 s7 s8 dk hd lg pl pr cM cS x tl tw ou co of_) s.heap.size = A at hD hM ⊢
  have hA : ∀ q : Nat, s.heap.size ≤ q → A q := fun q h => by rw [← hAe]; exact Or.inr h
  have hS : va_S A s.heap s.heap [] := va_S.rf
  have hP : va_P (dC, dI) vwCl [(x, .inr (15, [.ref sh, .ref tl, .ref tw, .int 0])), (sh, .inr (13, [.ref rg, .ref dk, .ref hd, .ref lg, .ref pl, .ref pr, .int 0, .int 0, .int 0, .int 0, .int 0, .int 0, .int 0, .int 0, .int 0, .int 0, .int 0])), (rg, .inr (11, [.ref mf, .ref mm, .ref mz, .ref ma, .ref sa, .int 0])), (mf, .inr (8, [.int 0, .int 0, .int 0])), (mm, .inr (8, [.int 0, .int 0, .int 0])), (mz, .inr (8, [.int 0, .int 0, .int 0])), (ma, .inl (cM, 3, .inr (.inr (.inr (.inr (va_up (va_up (va_up (fun _ => none) 0 (some mf)) 1 (some mm)) 2 (some mz))))))), (sa, .inl (cS, 9, .inr (.inr (.inr (.inr (va_up (va_up (va_up (va_up (va_up (va_up (va_up (va_up (va_up (fun _ => none) 0 (some s0)) 1 (some s1)) 2 (some s2)) 3 (some s3)) 4 (some s4)) 5 (some s5)) 6 (some s6)) 7 (some s7)) 8 (some s8))))))), (s0, .inr (12, [.int 8, .int 6, .ref mf, .int 1, .int 0, .int 900, .int 0, .int 0])), (s1, .inr (12, [.int 7, .int 5, .ref mf, .int 1, .int 0, .int 900, .int 0, .int 0])), (s2, .inr (12, [.int 3, .int 3, .ref mf, .int 1, .int 0, .int 900, .int 0, .int 0])), (s3, .inr (12, [.int 10, .int 8, .ref mm, .int 1, .int 0, .int 900, .int 0, .int 0])), (s4, .inr (12, [.int 9, .int 6, .ref mm, .int 1, .int 0, .int 900, .int 0, .int 0])), (s5, .inr (12, [.int 4, .int 3, .ref mm, .int 1, .int 0, .int 900, .int 0, .int 0])), (s6, .inr (12, [.int 5, .int 4, .ref mz, .int 1, .int 0, .int 900, .int 0, .int 0])), (s7, .inr (12, [.int 4, .int 3, .ref mf, .int 0, .int 0, .int 900, .int 0, .int 0])), (s8, .inr (12, [.int 6, .int 4, .ref mz, .int 0, .int 0, .int 900, .int 0, .int 0])), (ou, .inl (co, 1, .inr (.inl of_)))] s.heap := hP
  have hD : va_D A [(x, .inr (15, [.ref sh, .ref tl, .ref tw, .int 0])), (sh, .inr (13, [.ref rg, .ref dk, .ref hd, .ref lg, .ref pl, .ref pr, .int 0, .int 0, .int 0, .int 0, .int 0, .int 0, .int 0, .int 0, .int 0, .int 0, .int 0])), (rg, .inr (11, [.ref mf, .ref mm, .ref mz, .ref ma, .ref sa, .int 0])), (mf, .inr (8, [.int 0, .int 0, .int 0])), (mm, .inr (8, [.int 0, .int 0, .int 0])), (mz, .inr (8, [.int 0, .int 0, .int 0])), (ma, .inl (cM, 3, .inr (.inr (.inr (.inr (va_up (va_up (va_up (fun _ => none) 0 (some mf)) 1 (some mm)) 2 (some mz))))))), (sa, .inl (cS, 9, .inr (.inr (.inr (.inr (va_up (va_up (va_up (va_up (va_up (va_up (va_up (va_up (va_up (fun _ => none) 0 (some s0)) 1 (some s1)) 2 (some s2)) 3 (some s3)) 4 (some s4)) 5 (some s5)) 6 (some s6)) 7 (some s7)) 8 (some s8))))))), (s0, .inr (12, [.int 8, .int 6, .ref mf, .int 1, .int 0, .int 900, .int 0, .int 0])), (s1, .inr (12, [.int 7, .int 5, .ref mf, .int 1, .int 0, .int 900, .int 0, .int 0])), (s2, .inr (12, [.int 3, .int 3, .ref mf, .int 1, .int 0, .int 900, .int 0, .int 0])), (s3, .inr (12, [.int 10, .int 8, .ref mm, .int 1, .int 0, .int 900, .int 0, .int 0])), (s4, .inr (12, [.int 9, .int 6, .ref mm, .int 1, .int 0, .int 900, .int 0, .int 0])), (s5, .inr (12, [.int 4, .int 3, .ref mm, .int 1, .int 0, .int 900, .int 0, .int 0])), (s6, .inr (12, [.int 5, .int 4, .ref mz, .int 1, .int 0, .int 900, .int 0, .int 0])), (s7, .inr (12, [.int 4, .int 3, .ref mf, .int 0, .int 0, .int 900, .int 0, .int 0])), (s8, .inr (12, [.int 6, .int 4, .ref mz, .int 0, .int 0, .int 900, .int 0, .int 0])), (ou, .inl (co, 1, .inr (.inl of_)))] := hD
  have hl := lv_entry ([.ref x, .int 8, .ref ou]) (n := 4) (Nat.le_of_ble_eq_true rfl)
  rw [lg_entry_eq]
  generalize (lg_sl ([.ref x, .int 8, .ref ou]) ++ List.replicate (4 - (lg_sl ([.ref x, .int 8, .ref ou])).length) Slot.unset).toArray = ls at hl ⊢
  have hl : lv_has ls 4 [(0, .ref x), (1, .int 8), (2, .ref ou)] := hl
  refine lv_aload_n hx hb dL_force_0 rfl (lv_at hl 2 rfl) ?_
  refine lv_iconst (v := 0) hx hb dL_force_1 (by decide) ?_
  refine lv_aload_n hx hb dL_force_2 rfl (lv_at hl 0 rfl) ?_
  refine lv_iload_n hx hb dL_force_3 rfl (lv_at hl 1 rfl) ?_
  have hPc := hP.sub (ws' := [(x, .inr (15, [.ref sh, .ref tl, .ref tw, .int 0])), (sh, .inr (13, [.ref rg, .ref dk, .ref hd, .ref lg, .ref pl, .ref pr, .int 0, .int 0, .int 0, .int 0, .int 0, .int 0, .int 0, .int 0, .int 0, .int 0, .int 0])), (rg, .inr (11, [.ref mf, .ref mm, .ref mz, .ref ma, .ref sa, .int 0])), (mf, .inr (8, [.int 0, .int 0, .int 0])), (mm, .inr (8, [.int 0, .int 0, .int 0])), (mz, .inr (8, [.int 0, .int 0, .int 0])), (ma, .inl (cM, 3, .inr (.inr (.inr (.inr (va_up (va_up (va_up (fun _ => none) 0 (some mf)) 1 (some mm)) 2 (some mz))))))), (sa, .inl (cS, 9, .inr (.inr (.inr (.inr (va_up (va_up (va_up (va_up (va_up (va_up (va_up (va_up (va_up (fun _ => none) 0 (some s0)) 1 (some s1)) 2 (some s2)) 3 (some s3)) 4 (some s4)) 5 (some s5)) 6 (some s6)) 7 (some s7)) 8 (some s8))))))), (s0, .inr (12, [.int 8, .int 6, .ref mf, .int 1, .int 0, .int 900, .int 0, .int 0])), (s1, .inr (12, [.int 7, .int 5, .ref mf, .int 1, .int 0, .int 900, .int 0, .int 0])), (s2, .inr (12, [.int 3, .int 3, .ref mf, .int 1, .int 0, .int 900, .int 0, .int 0])), (s3, .inr (12, [.int 10, .int 8, .ref mm, .int 1, .int 0, .int 900, .int 0, .int 0])), (s4, .inr (12, [.int 9, .int 6, .ref mm, .int 1, .int 0, .int 900, .int 0, .int 0])), (s5, .inr (12, [.int 4, .int 3, .ref mm, .int 1, .int 0, .int 900, .int 0, .int 0])), (s6, .inr (12, [.int 5, .int 4, .ref mz, .int 1, .int 0, .int 900, .int 0, .int 0])), (s7, .inr (12, [.int 4, .int 3, .ref mf, .int 0, .int 0, .int 900, .int 0, .int 0])), (s8, .inr (12, [.int 6, .int 4, .ref mz, .int 0, .int 0, .int 900, .int 0, .int 0]))]) [0, 1, 2, 3, 4, 5, 6, 7, 8, 9, 10, 11, 12, 13, 14, 15, 16] rfl
  have hDc := hD.sub (ws' := [(x, .inr (15, [.ref sh, .ref tl, .ref tw, .int 0])), (sh, .inr (13, [.ref rg, .ref dk, .ref hd, .ref lg, .ref pl, .ref pr, .int 0, .int 0, .int 0, .int 0, .int 0, .int 0, .int 0, .int 0, .int 0, .int 0, .int 0])), (rg, .inr (11, [.ref mf, .ref mm, .ref mz, .ref ma, .ref sa, .int 0])), (mf, .inr (8, [.int 0, .int 0, .int 0])), (mm, .inr (8, [.int 0, .int 0, .int 0])), (mz, .inr (8, [.int 0, .int 0, .int 0])), (ma, .inl (cM, 3, .inr (.inr (.inr (.inr (va_up (va_up (va_up (fun _ => none) 0 (some mf)) 1 (some mm)) 2 (some mz))))))), (sa, .inl (cS, 9, .inr (.inr (.inr (.inr (va_up (va_up (va_up (va_up (va_up (va_up (va_up (va_up (va_up (fun _ => none) 0 (some s0)) 1 (some s1)) 2 (some s2)) 3 (some s3)) 4 (some s4)) 5 (some s5)) 6 (some s6)) 7 (some s7)) 8 (some s8))))))), (s0, .inr (12, [.int 8, .int 6, .ref mf, .int 1, .int 0, .int 900, .int 0, .int 0])), (s1, .inr (12, [.int 7, .int 5, .ref mf, .int 1, .int 0, .int 900, .int 0, .int 0])), (s2, .inr (12, [.int 3, .int 3, .ref mf, .int 1, .int 0, .int 900, .int 0, .int 0])), (s3, .inr (12, [.int 10, .int 8, .ref mm, .int 1, .int 0, .int 900, .int 0, .int 0])), (s4, .inr (12, [.int 9, .int 6, .ref mm, .int 1, .int 0, .int 900, .int 0, .int 0])), (s5, .inr (12, [.int 4, .int 3, .ref mm, .int 1, .int 0, .int 900, .int 0, .int 0])), (s6, .inr (12, [.int 5, .int 4, .ref mz, .int 1, .int 0, .int 900, .int 0, .int 0])), (s7, .inr (12, [.int 4, .int 3, .ref mf, .int 0, .int 0, .int 900, .int 0, .int 0])), (s8, .inr (12, [.int 6, .int 4, .ref mz, .int 0, .int 0, .int 900, .int 0, .int 0]))]) [0, 1, 2, 3, 4, 5, 6, 7, 8, 9, 10, 11, 12, 13, 14, 15, 16] (by decide) rfl
  have hKc := hK.sub (tys' := [(cM, .object RX4), (cS, .object RX8)]) [0, 1] rfl
  have hFc := va_free (wc := [(x, .inr (15, [.ref sh, .ref tl, .ref tw, .int 0])), (sh, .inr (13, [.ref rg, .ref dk, .ref hd, .ref lg, .ref pl, .ref pr, .int 0, .int 0, .int 0, .int 0, .int 0, .int 0, .int 0, .int 0, .int 0, .int 0, .int 0])), (rg, .inr (11, [.ref mf, .ref mm, .ref mz, .ref ma, .ref sa, .int 0])), (mf, .inr (8, [.int 0, .int 0, .int 0])), (mm, .inr (8, [.int 0, .int 0, .int 0])), (mz, .inr (8, [.int 0, .int 0, .int 0])), (ma, .inl (cM, 3, .inr (.inr (.inr (.inr (va_up (va_up (va_up (fun _ => none) 0 (some mf)) 1 (some mm)) 2 (some mz))))))), (sa, .inl (cS, 9, .inr (.inr (.inr (.inr (va_up (va_up (va_up (va_up (va_up (va_up (va_up (va_up (va_up (fun _ => none) 0 (some s0)) 1 (some s1)) 2 (some s2)) 3 (some s3)) 4 (some s4)) 5 (some s5)) 6 (some s6)) 7 (some s7)) 8 (some s8))))))), (s0, .inr (12, [.int 8, .int 6, .ref mf, .int 1, .int 0, .int 900, .int 0, .int 0])), (s1, .inr (12, [.int 7, .int 5, .ref mf, .int 1, .int 0, .int 900, .int 0, .int 0])), (s2, .inr (12, [.int 3, .int 3, .ref mf, .int 1, .int 0, .int 900, .int 0, .int 0])), (s3, .inr (12, [.int 10, .int 8, .ref mm, .int 1, .int 0, .int 900, .int 0, .int 0])), (s4, .inr (12, [.int 9, .int 6, .ref mm, .int 1, .int 0, .int 900, .int 0, .int 0])), (s5, .inr (12, [.int 4, .int 3, .ref mm, .int 1, .int 0, .int 900, .int 0, .int 0])), (s6, .inr (12, [.int 5, .int 4, .ref mz, .int 1, .int 0, .int 900, .int 0, .int 0])), (s7, .inr (12, [.int 4, .int 3, .ref mf, .int 0, .int 0, .int 900, .int 0, .int 0])), (s8, .inr (12, [.int 6, .int 4, .ref mz, .int 0, .int 0, .int 900, .int 0, .int 0]))]) hD hS hA [0, 1, 2, 3, 4, 5, 6, 7, 8, 9, 10, 11, 12, 13, 14, 15, 16] rfl
  refine va_calli (va_runV (As := [.int 8]) (rest := [.int 0, .ref ou]) ⟨hx, hb, hml, hown, hts⟩ (k_x_force8 l dC dI z zK zV sh rg mf mm mz ma sa s0 s1 s2 s3 s4 s5 s6 s7 s8 dk hd lg pl pr cM cS x tl tw s.heap.size) (cwV 1 hts gL_force_X11_force rfl rfl rfl (by decide +kernel) ⟨Nat.le_of_ble_eq_true rfl, Nat.le_of_ble_eq_true rfl⟩) ⟨kP_blind, va_recv hKc hPc (ci := 15) (q0 := 0) rfl rfl, kP_go hPc hKc hDc hFc hM hS⟩ rfl rfl hl.1 rfl (lv_room (Nat.le_of_ble_eq_true rfl)) dL_force_4 ⟨Nat.le_of_ble_eq_true rfl, Nat.le_of_ble_eq_true rfl⟩) hS (fun q _ h => hFc q h) hFc (fun r1 u t H1 locs ht hvm hw hB hz1 hk1 hS => ?_)
  obtain ⟨hP, hD, hK⟩ := kJ (wr := [(ou, .inl (co, 1, .inr (.inl of_)))]) (w1 := []) (t1 := []) hP hD hK [0, 1, 2, 3, 4, 5, 6, 7, 8, 9, 10, 11, 12, 13, 14, 15, 16] [17] rfl rfl (by decide) (by decide) hk1 hFc ht hvm hB
  generalize H1 = H at hP hS ⊢
  have hP : va_P (dC, dI) vwCl [(ou, .inl (co, 1, .inr (.inl of_)))] H := hP
  have hD : va_D A [(ou, .inl (co, 1, .inr (.inl of_)))] := hD
  have hK : va_K (dC, dI) vwCl [(cM, .object RX4), (cS, .object RX8), (co, .long)] s := hK
  obtain rfl : 0 = r1 := hw
  refine lv_i2l (v := 0) hx hb dL_force_7 (by decide +kernel) ?_
  refine va_last hx hb hK hP hD hS 0 2 rfl rfl (pk_in 0 1 (by decide) rfl) dL_force_8 (fun H locs hP hD hS => ?_)
  have hP : va_P (dC, dI) vwCl [(ou, .inl (co, 1, .inr (.inl (vp_updL of_ 0 0))))] H := hP
  have hD : va_D A [(ou, .inl (co, 1, .inr (.inl (vp_updL of_ 0 0))))] := hD
  refine lv_goto (tgt := 15) hx hb dL_force_9 (by decide) ?_
  refine lv_iconst (v := 0) hx hb dL_force_15 (by decide) ?_
  exact W.iret (v := 0) hx hb hr (fun t ht hW => ⟨⟨0, (), rfl, rfl, kB_end (w9 := [(ou, .inl (co, 1, .inr (.inl (vp_updL of_ 0 0))))]) (t9 := []) hP hK hD [0] [] rfl (by decide) rfl rfl t ht hW⟩, hS.F ht⟩) hS.2.2 dL_force_16
abbrev wd_k_l_force_bad (z : Nat → Nat) (sh : Nat) (rg : Nat) (mf : Nat) (mm : Nat) (mz : Nat) (ma : Nat) (sa : Nat) (s0 : Nat) (s1 : Nat) (s2 : Nat) (s3 : Nat) (s4 : Nat) (s5 : Nat) (s6 : Nat) (s7 : Nat) (s8 : Nat) (dk : Nat) (hd : Nat) (lg : Nat) (pl : Nat) (pr : Nat) (cS : ClassId) (x : Nat) (tl : Nat) (tw : Nat) (p0 : Int32) (ou : Nat) (co : ClassId) (of_ : Nat → Int64) : va_W := [(x, .inr (15, [.ref sh, .ref tl, .ref tw, .int 0])), (sh, .inr (13, [.ref rg, .ref dk, .ref hd, .ref lg, .ref pl, .ref pr, .int 0, .int 0, .int 0, .int 0, .int 0, .int 0, .int 0, .int 0, .int 0, .int 0, .int 0])), (rg, .inr (11, [.ref mf, .ref mm, .ref mz, .ref ma, .ref sa, .int 0])), (sa, .inl (cS, 9, .inr (.inr (.inr (.inr (va_up (va_up (va_up (va_up (va_up (va_up (va_up (va_up (va_up (fun _ => none) 0 (some s0)) 1 (some s1)) 2 (some s2)) 3 (some s3)) 4 (some s4)) 5 (some s5)) 6 (some s6)) 7 (some s7)) 8 (some s8))))))), (ou, .inl (co, 1, .inr (.inl of_)))]
set_option maxHeartbeats 4000000 in
set_option maxRecDepth 100000 in
theorem k_l_force_bad (l : Launch) (dC : Nat → ClassId) (dI : Nat → Nat → Nat) (z zK zV : Nat → Nat) (sh : Nat) (rg : Nat) (mf : Nat) (mm : Nat) (mz : Nat) (ma : Nat) (sa : Nat) (s0 : Nat) (s1 : Nat) (s2 : Nat) (s3 : Nat) (s4 : Nat) (s5 : Nat) (s6 : Nat) (s7 : Nat) (s8 : Nat) (dk : Nat) (hd : Nat) (lg : Nat) (pl : Nat) (pr : Nat) (cS : ClassId) (x : Nat) (tl : Nat) (tw : Nat) (p0 : Int32) (ou : Nat) (co : ClassId) (of_ : Nat → Int64) (sz : Nat) (hst : l.stackTraces = false) (hb0 : p0 < 0 ∨ 9 ≤ p0) : Met l yL_force wsL_force ({ frames := 7, cells := 1, slots := 6, locals := 104 }) (kP dC dI z zK zV [.ref x, .int p0, .ref ou] sz (wd_k_l_force_bad z sh rg mf mm mz ma sa s0 s1 s2 s3 s4 s5 s6 s7 s8 dk hd lg pl pr cS x tl tw p0 ou co of_) [(cS, .object RX8), (co, .long)]) (va_Qi (fun (r : Int32) (_ : Unit) => 1 = r) (fun _ t => kB (dC, dI) (va_A (wd_k_l_force_bad z sh rg mf mm mz ma sa s0 s1 s2 s3 s4 s5 s6 s7 s8 dk hd lg pl pr cS x tl tw p0 ou co of_) sz) [] [] t) (va_A (wd_k_l_force_bad z sh rg mf mm mz ma sa s0 s1 s2 s3 s4 s5 s6 s7 s8 dk hd lg pl pr cS x tl tw p0 ou co of_) sz)) 1 6 (va_A (wd_k_l_force_bad z sh rg mf mm mz ma sa s0 s1 s2 s3 s4 s5 s6 s7 s8 dk hd lg pl pr cS x tl tw p0 ou co of_) sz) := by
  refine va_MetW (hh := [(0, 9, 12, 32)]) (cc := cL_force) (maxL := 4) (ret := (some .int)) (by decide) rfl ?_
  intro p e s m args below meth c s₁ B hml hv
  obtain ⟨rfl, hsz, hP, hK, hD0, hM⟩ := hv
  have hx := B.exec
  have hb := B.bytes
  have hr := B.returns
  have hts := atoms_spec (ws := wsL_force) B.pre
  have hown : s.vm.findClass RL = some m.cls := findClass_of_methodNamed B.named
  have hlocks := B.notSynchronized
  have htab := vx_table (x := yL_force) B (hts _ List.mem_cons_self)
  subst hsz
  have hD := hD0.self (sz := s.heap.size)
  generalize hAe : va_A (wd_k_l_force_bad z sh rg mf mm mz ma sa s0 s1 s2 s3 s4 s5 s6 s7 s8 dk hd lg pl pr cS x tl tw p0 ou co of_) s.heap.size = A at hD hM ⊢
  have hA : ∀ q : Nat, s.heap.size ≤ q → A q := fun q h => by rw [← hAe]; exact Or.inr h
  have hS : va_S A s.heap s.heap [] := va_S.rf
  have hP : va_P (dC, dI) vwCl [(x, .inr (15, [.ref sh, .ref tl, .ref tw, .int 0])), (sh, .inr (13, [.ref rg, .ref dk, .ref hd, .ref lg, .ref pl, .ref pr, .int 0, .int 0, .int 0, .int 0, .int 0, .int 0, .int 0, .int 0, .int 0, .int 0, .int 0])), (rg, .inr (11, [.ref mf, .ref mm, .ref mz, .ref ma, .ref sa, .int 0])), (sa, .inl (cS, 9, .inr (.inr (.inr (.inr (va_up (va_up (va_up (va_up (va_up (va_up (va_up (va_up (va_up (fun _ => none) 0 (some s0)) 1 (some s1)) 2 (some s2)) 3 (some s3)) 4 (some s4)) 5 (some s5)) 6 (some s6)) 7 (some s7)) 8 (some s8))))))), (ou, .inl (co, 1, .inr (.inl of_)))] s.heap := hP
  have hD : va_D A [(x, .inr (15, [.ref sh, .ref tl, .ref tw, .int 0])), (sh, .inr (13, [.ref rg, .ref dk, .ref hd, .ref lg, .ref pl, .ref pr, .int 0, .int 0, .int 0, .int 0, .int 0, .int 0, .int 0, .int 0, .int 0, .int 0, .int 0])), (rg, .inr (11, [.ref mf, .ref mm, .ref mz, .ref ma, .ref sa, .int 0])), (sa, .inl (cS, 9, .inr (.inr (.inr (.inr (va_up (va_up (va_up (va_up (va_up (va_up (va_up (va_up (va_up (fun _ => none) 0 (some s0)) 1 (some s1)) 2 (some s2)) 3 (some s3)) 4 (some s4)) 5 (some s5)) 6 (some s6)) 7 (some s7)) 8 (some s8))))))), (ou, .inl (co, 1, .inr (.inl of_)))] := hD
  have hl := lv_entry ([.ref x, .int p0, .ref ou]) (n := 4) (Nat.le_of_ble_eq_true rfl)
  rw [lg_entry_eq]
  generalize (lg_sl ([.ref x, .int p0, .ref ou]) ++ List.replicate (4 - (lg_sl ([.ref x, .int p0, .ref ou])).length) Slot.unset).toArray = ls at hl ⊢
  have hl : lv_has ls 4 [(0, .ref x), (1, .int p0), (2, .ref ou)] := hl
  refine lv_aload_n hx hb dL_force_0 rfl (lv_at hl 2 rfl) ?_
  refine lv_iconst (v := 0) hx hb dL_force_1 (by decide) ?_
  refine lv_aload_n hx hb dL_force_2 rfl (lv_at hl 0 rfl) ?_
  refine lv_iload_n hx hb dL_force_3 rfl (lv_at hl 1 rfl) ?_
  have hPc := hP.sub (ws' := [(x, .inr (15, [.ref sh, .ref tl, .ref tw, .int 0])), (sh, .inr (13, [.ref rg, .ref dk, .ref hd, .ref lg, .ref pl, .ref pr, .int 0, .int 0, .int 0, .int 0, .int 0, .int 0, .int 0, .int 0, .int 0, .int 0, .int 0])), (rg, .inr (11, [.ref mf, .ref mm, .ref mz, .ref ma, .ref sa, .int 0])), (sa, .inl (cS, 9, .inr (.inr (.inr (.inr (va_up (va_up (va_up (va_up (va_up (va_up (va_up (va_up (va_up (fun _ => none) 0 (some s0)) 1 (some s1)) 2 (some s2)) 3 (some s3)) 4 (some s4)) 5 (some s5)) 6 (some s6)) 7 (some s7)) 8 (some s8)))))))]) [0, 1, 2, 3] rfl
  have hDc := hD.sub (ws' := [(x, .inr (15, [.ref sh, .ref tl, .ref tw, .int 0])), (sh, .inr (13, [.ref rg, .ref dk, .ref hd, .ref lg, .ref pl, .ref pr, .int 0, .int 0, .int 0, .int 0, .int 0, .int 0, .int 0, .int 0, .int 0, .int 0, .int 0])), (rg, .inr (11, [.ref mf, .ref mm, .ref mz, .ref ma, .ref sa, .int 0])), (sa, .inl (cS, 9, .inr (.inr (.inr (.inr (va_up (va_up (va_up (va_up (va_up (va_up (va_up (va_up (va_up (fun _ => none) 0 (some s0)) 1 (some s1)) 2 (some s2)) 3 (some s3)) 4 (some s4)) 5 (some s5)) 6 (some s6)) 7 (some s7)) 8 (some s8)))))))]) [0, 1, 2, 3] (by decide) rfl
  have hKc := hK.sub (tys' := [(cS, .object RX8)]) [0] rfl
  have hFc := va_free (wc := [(x, .inr (15, [.ref sh, .ref tl, .ref tw, .int 0])), (sh, .inr (13, [.ref rg, .ref dk, .ref hd, .ref lg, .ref pl, .ref pr, .int 0, .int 0, .int 0, .int 0, .int 0, .int 0, .int 0, .int 0, .int 0, .int 0, .int 0])), (rg, .inr (11, [.ref mf, .ref mm, .ref mz, .ref ma, .ref sa, .int 0])), (sa, .inl (cS, 9, .inr (.inr (.inr (.inr (va_up (va_up (va_up (va_up (va_up (va_up (va_up (va_up (va_up (fun _ => none) 0 (some s0)) 1 (some s1)) 2 (some s2)) 3 (some s3)) 4 (some s4)) 5 (some s5)) 6 (some s6)) 7 (some s7)) 8 (some s8)))))))]) hD hS hA [0, 1, 2, 3] rfl
  refine vx_calli (vx_runV (As := [.int p0]) (rest := [.int 0, .ref ou]) ⟨hx, hb, hml, hown, hts⟩ (k_x_force_bad l dC dI z zK zV sh rg mf mm mz ma sa s0 s1 s2 s3 s4 s5 s6 s7 s8 dk hd lg pl pr cS x tl tw p0 s.heap.size hst (hb0)) (cwV 1 hts gL_force_X11_force rfl rfl rfl (by decide +kernel) ⟨Nat.le_of_ble_eq_true rfl, Nat.le_of_ble_eq_true rfl⟩) ⟨kP_blind, va_recv hKc hPc (ci := 15) (q0 := 0) rfl rfl, kP_go hPc hKc hDc hFc hM hS⟩ rfl rfl hl.1 rfl (lv_room (Nat.le_of_ble_eq_true rfl)) dL_force_4 ⟨Nat.le_of_ble_eq_true rfl, Nat.le_of_ble_eq_true rfl⟩) hS (fun q _ h => hFc q h) hFc (fun q _ h => hFc q h) (fun E ce q9 u t H1 locs ht hvm hpx hbx hz1 hk1 hS hcell hcv hcl => ?_) (fun r1 u t H1 locs ht hvm hw hB hz1 hk1 hS => ?_)
  · skip
    obtain rfl : "java/lang/IndexOutOfBoundsException" = E := hbx
    obtain ⟨hP, hD, hK⟩ := kJ (wr := [(ou, .inl (co, 1, .inr (.inl of_)))]) (w1 := []) (t1 := []) hP hD hK [0, 1, 2, 3] [4] rfl rfl (by decide) (by decide) hk1 hFc ht hvm (kB_nil t (va_K.moved hvm (hK.sub (tys' := []) [] rfl)))
    generalize H1 = H at hP hS hcell ⊢
    have hP : va_P (dC, dI) vwCl [(ou, .inl (co, 1, .inr (.inl of_)))] H := hP
    have hD : va_D A [(ou, .inl (co, 1, .inr (.inl of_)))] := hD
    have hK : va_K (dC, dI) vwCl [(cS, .object RX8), (co, .long)] s := hK
    refine vx_catch hown [] ⟨0, 9, 12, 32⟩ _ (htab.trans rfl) (fun z hz => absurd hz List.not_mem_nil) rfl (by decide) (hts (.classLink RL 32 "java/lang/IndexOutOfBoundsException") (by decide +kernel)) (va_Nw.use rfl (hM.2.2.2.2.2.2.2.2.2.1 _ (List.mem_of_getElem? (i := 1) rfl))) hcell hcv hcl ?_
    refine lv_astore_n (lv' := [(3, .ref q9), (0, .ref x), (1, .int p0), (2, .ref ou)]) hx hb dL_force_12 rfl hl (by decide) rfl (fun ls hl => ?_)
    refine lv_iconst (v := 1) hx hb dL_force_13 (by decide) ?_
    refine W.widen (k := 1) (n := 6) (Nat.le_of_ble_eq_true rfl) (Nat.le_of_ble_eq_true rfl) ?_
    exact W.iret (v := 1) hx hb hr (fun t ht hW => ⟨⟨1, (), rfl, rfl, kB_end (w9 := []) (t9 := []) hP hK hD [] [] rfl (by decide) rfl rfl t ht hW⟩, hS.F ht⟩) hS.2.2 dL_force_14
  · skip
    exact hw.elim
abbrev wd_k_l_braced0 (z : Nat → Nat) (sh : Nat) (rg : Nat) (mf : Nat) (mm : Nat) (mz : Nat) (ma : Nat) (sa : Nat) (dk : Nat) (hd : Nat) (lg : Nat) (pl : Nat) (pr : Nat) (cM : ClassId) (x : Nat) (tl : Nat) (tw : Nat) (ou : Nat) (co : ClassId) (of_ : Nat → Int64) : va_W := [(x, .inr (15, [.ref sh, .ref tl, .ref tw, .int 0])), (sh, .inr (13, [.ref rg, .ref dk, .ref hd, .ref lg, .ref pl, .ref pr, .int 0, .int 0, .int 0, .int 0, .int 0, .int 0, .int 0, .int 0, .int 0, .int 0, .int 0])), (rg, .inr (11, [.ref mf, .ref mm, .ref mz, .ref ma, .ref sa, .int 0])), (ma, .inl (cM, 3, .inr (.inr (.inr (.inr (va_up (va_up (va_up (fun _ => none) 0 (some mf)) 1 (some mm)) 2 (some mz))))))), (mf, .inr (8, [.int 0, .int 0, .int 0])), (ou, .inl (co, 1, .inr (.inl of_)))]
set_option maxHeartbeats 4000000 in
set_option maxRecDepth 100000 in
theorem k_l_braced0 (l : Launch) (dC : Nat → ClassId) (dI : Nat → Nat → Nat) (z zK zV : Nat → Nat) (sh : Nat) (rg : Nat) (mf : Nat) (mm : Nat) (mz : Nat) (ma : Nat) (sa : Nat) (dk : Nat) (hd : Nat) (lg : Nat) (pl : Nat) (pr : Nat) (cM : ClassId) (x : Nat) (tl : Nat) (tw : Nat) (ou : Nat) (co : ClassId) (of_ : Nat → Int64) (sz : Nat)  : Met l yL_braced wsL_braced ({ frames := 2, cells := 0, slots := 0, locals := 43 }) (kP dC dI z zK zV [.ref x, .int 0, .ref ou] sz (wd_k_l_braced0 z sh rg mf mm mz ma sa dk hd lg pl pr cM x tl tw ou co of_) [(cM, .object RX4), (co, .long)]) (va_Qi (fun (r : Int32) (_ : Unit) => 0 = r) (fun _ t => kB (dC, dI) (va_A (wd_k_l_braced0 z sh rg mf mm mz ma sa dk hd lg pl pr cM x tl tw ou co of_) sz) [(ou, .inl (co, 1, .inr (.inl (vp_updL of_ 0 0))))] [] t) (va_A (wd_k_l_braced0 z sh rg mf mm mz ma sa dk hd lg pl pr cM x tl tw ou co of_) sz)) 0 0 (va_A (wd_k_l_braced0 z sh rg mf mm mz ma sa dk hd lg pl pr cM x tl tw ou co of_) sz) := by
  refine va_MetW (hh := [(0, 9, 12, 32)]) (cc := cL_braced) (maxL := 4) (ret := (some .int)) (by decide) rfl ?_
  intro p e s m args below meth c s₁ B hml hv
  obtain ⟨rfl, hsz, hP, hK, hD0, hM⟩ := hv
  have hx := B.exec
  have hb := B.bytes
  have hr := B.returns
  have hts := atoms_spec (ws := wsL_braced) B.pre
  have hown : s.vm.findClass RL = some m.cls := findClass_of_methodNamed B.named
  have hlocks := B.notSynchronized
  have htab := vx_table (x := yL_braced) B (hts _ List.mem_cons_self)
  subst hsz
  have hD := hD0.self (sz := s.heap.size)
  generalize hAe : va_A (wd_k_l_braced0 z sh rg mf mm mz ma sa dk hd lg pl pr cM x tl tw ou co of_) s.heap.size = A at hD hM ⊢
  have hA : ∀ q : Nat, s.heap.size ≤ q → A q := fun q h => by rw [← hAe]; exact Or.inr h
  have hS : va_S A s.heap s.heap [] := va_S.rf
  have hP : va_P (dC, dI) vwCl [(x, .inr (15, [.ref sh, .ref tl, .ref tw, .int 0])), (sh, .inr (13, [.ref rg, .ref dk, .ref hd, .ref lg, .ref pl, .ref pr, .int 0, .int 0, .int 0, .int 0, .int 0, .int 0, .int 0, .int 0, .int 0, .int 0, .int 0])), (rg, .inr (11, [.ref mf, .ref mm, .ref mz, .ref ma, .ref sa, .int 0])), (ma, .inl (cM, 3, .inr (.inr (.inr (.inr (va_up (va_up (va_up (fun _ => none) 0 (some mf)) 1 (some mm)) 2 (some mz))))))), (mf, .inr (8, [.int 0, .int 0, .int 0])), (ou, .inl (co, 1, .inr (.inl of_)))] s.heap := hP
  have hD : va_D A [(x, .inr (15, [.ref sh, .ref tl, .ref tw, .int 0])), (sh, .inr (13, [.ref rg, .ref dk, .ref hd, .ref lg, .ref pl, .ref pr, .int 0, .int 0, .int 0, .int 0, .int 0, .int 0, .int 0, .int 0, .int 0, .int 0, .int 0])), (rg, .inr (11, [.ref mf, .ref mm, .ref mz, .ref ma, .ref sa, .int 0])), (ma, .inl (cM, 3, .inr (.inr (.inr (.inr (va_up (va_up (va_up (fun _ => none) 0 (some mf)) 1 (some mm)) 2 (some mz))))))), (mf, .inr (8, [.int 0, .int 0, .int 0])), (ou, .inl (co, 1, .inr (.inl of_)))] := hD
  have hl := lv_entry ([.ref x, .int 0, .ref ou]) (n := 4) (Nat.le_of_ble_eq_true rfl)
  rw [lg_entry_eq]
  generalize (lg_sl ([.ref x, .int 0, .ref ou]) ++ List.replicate (4 - (lg_sl ([.ref x, .int 0, .ref ou])).length) Slot.unset).toArray = ls at hl ⊢
  have hl : lv_has ls 4 [(0, .ref x), (1, .int 0), (2, .ref ou)] := hl
  refine lv_aload_n hx hb dL_braced_0 rfl (lv_at hl 2 rfl) ?_
  refine lv_iconst (v := 0) hx hb dL_braced_1 (by decide) ?_
  refine lv_aload_n hx hb dL_braced_2 rfl (lv_at hl 0 rfl) ?_
  refine lv_iload_n hx hb dL_braced_3 rfl (lv_at hl 1 rfl) ?_
  have hPc := hP.sub (ws' := [(x, .inr (15, [.ref sh, .ref tl, .ref tw, .int 0])), (sh, .inr (13, [.ref rg, .ref dk, .ref hd, .ref lg, .ref pl, .ref pr, .int 0, .int 0, .int 0, .int 0, .int 0, .int 0, .int 0, .int 0, .int 0, .int 0, .int 0])), (rg, .inr (11, [.ref mf, .ref mm, .ref mz, .ref ma, .ref sa, .int 0])), (ma, .inl (cM, 3, .inr (.inr (.inr (.inr (va_up (va_up (va_up (fun _ => none) 0 (some mf)) 1 (some mm)) 2 (some mz))))))), (mf, .inr (8, [.int 0, .int 0, .int 0]))]) [0, 1, 2, 3, 4] rfl
  have hDc := hD.sub (ws' := [(x, .inr (15, [.ref sh, .ref tl, .ref tw, .int 0])), (sh, .inr (13, [.ref rg, .ref dk, .ref hd, .ref lg, .ref pl, .ref pr, .int 0, .int 0, .int 0, .int 0, .int 0, .int 0, .int 0, .int 0, .int 0, .int 0, .int 0])), (rg, .inr (11, [.ref mf, .ref mm, .ref mz, .ref ma, .ref sa, .int 0])), (ma, .inl (cM, 3, .inr (.inr (.inr (.inr (va_up (va_up (va_up (fun _ => none) 0 (some mf)) 1 (some mm)) 2 (some mz))))))), (mf, .inr (8, [.int 0, .int 0, .int 0]))]) [0, 1, 2, 3, 4] (by decide) rfl
  have hKc := hK.sub (tys' := [(cM, .object RX4)]) [0] rfl
  have hFc := va_free (wc := [(x, .inr (15, [.ref sh, .ref tl, .ref tw, .int 0])), (sh, .inr (13, [.ref rg, .ref dk, .ref hd, .ref lg, .ref pl, .ref pr, .int 0, .int 0, .int 0, .int 0, .int 0, .int 0, .int 0, .int 0, .int 0, .int 0, .int 0])), (rg, .inr (11, [.ref mf, .ref mm, .ref mz, .ref ma, .ref sa, .int 0])), (ma, .inl (cM, 3, .inr (.inr (.inr (.inr (va_up (va_up (va_up (fun _ => none) 0 (some mf)) 1 (some mm)) 2 (some mz))))))), (mf, .inr (8, [.int 0, .int 0, .int 0]))]) hD hS hA [0, 1, 2, 3, 4] rfl
  refine va_calli (va_runV (As := [.int 0]) (rest := [.int 0, .ref ou]) ⟨hx, hb, hml, hown, hts⟩ (k_x_braced0 l dC dI z zK zV sh rg mf mm mz ma sa dk hd lg pl pr cM x tl tw s.heap.size) (cwV 1 hts gL_braced_X11_braced rfl rfl rfl (by decide +kernel) ⟨Nat.le_of_ble_eq_true rfl, Nat.le_of_ble_eq_true rfl⟩) ⟨kP_blind, va_recv hKc hPc (ci := 15) (q0 := 0) rfl rfl, kP_go hPc hKc hDc hFc hM hS⟩ rfl rfl hl.1 rfl (lv_room (Nat.le_of_ble_eq_true rfl)) dL_braced_4 ⟨Nat.le_of_ble_eq_true rfl, Nat.le_of_ble_eq_true rfl⟩) hS (fun q _ h => hFc q h) hFc (fun r1 u t H1 locs ht hvm hw hB hz1 hk1 hS => ?_)
  obtain ⟨hP, hD, hK⟩ := kJ (wr := [(ou, .inl (co, 1, .inr (.inl of_)))]) (w1 := []) (t1 := []) hP hD hK [0, 1, 2, 3, 4] [5] rfl rfl (by decide) (by decide) hk1 hFc ht hvm hB
  generalize H1 = H at hP hS ⊢
  have hP : va_P (dC, dI) vwCl [(ou, .inl (co, 1, .inr (.inl of_)))] H := hP
  have hD : va_D A [(ou, .inl (co, 1, .inr (.inl of_)))] := hD
  have hK : va_K (dC, dI) vwCl [(cM, .object RX4), (co, .long)] s := hK
  obtain rfl : 0 = r1 := hw
  refine lv_i2l (v := 0) hx hb dL_braced_7 (by decide +kernel) ?_
  refine va_last hx hb hK hP hD hS 0 1 rfl rfl (pk_in 0 1 (by decide) rfl) dL_braced_8 (fun H locs hP hD hS => ?_)
  have hP : va_P (dC, dI) vwCl [(ou, .inl (co, 1, .inr (.inl (vp_updL of_ 0 0))))] H := hP
  have hD : va_D A [(ou, .inl (co, 1, .inr (.inl (vp_updL of_ 0 0))))] := hD
  refine lv_goto (tgt := 15) hx hb dL_braced_9 (by decide) ?_
  refine lv_iconst (v := 0) hx hb dL_braced_15 (by decide) ?_
  exact W.iret (v := 0) hx hb hr (fun t ht hW => ⟨⟨0, (), rfl, rfl, kB_end (w9 := [(ou, .inl (co, 1, .inr (.inl (vp_updL of_ 0 0))))]) (t9 := []) hP hK hD [0] [] rfl (by decide) rfl rfl t ht hW⟩, hS.F ht⟩) hS.2.2 dL_braced_16
abbrev wd_k_l_braced1 (z : Nat → Nat) (sh : Nat) (rg : Nat) (mf : Nat) (mm : Nat) (mz : Nat) (ma : Nat) (sa : Nat) (dk : Nat) (hd : Nat) (lg : Nat) (pl : Nat) (pr : Nat) (cM : ClassId) (x : Nat) (tl : Nat) (tw : Nat) (ou : Nat) (co : ClassId) (of_ : Nat → Int64) : va_W := [(x, .inr (15, [.ref sh, .ref tl, .ref tw, .int 0])), (sh, .inr (13, [.ref rg, .ref dk, .ref hd, .ref lg, .ref pl, .ref pr, .int 0, .int 0, .int 0, .int 0, .int 0, .int 0, .int 0, .int 0, .int 0, .int 0, .int 0])), (rg, .inr (11, [.ref mf, .ref mm, .ref mz, .ref ma, .ref sa, .int 0])), (ma, .inl (cM, 3, .inr (.inr (.inr (.inr (va_up (va_up (va_up (fun _ => none) 0 (some mf)) 1 (some mm)) 2 (some mz))))))), (mm, .inr (8, [.int 0, .int 0, .int 0])), (ou, .inl (co, 1, .inr (.inl of_)))]
set_option maxHeartbeats 4000000 in
set_option maxRecDepth 100000 in
theorem k_l_braced1 (l : Launch) (dC : Nat → ClassId) (dI : Nat → Nat → Nat) (z zK zV : Nat → Nat) (sh : Nat) (rg : Nat) (mf : Nat) (mm : Nat) (mz : Nat) (ma : Nat) (sa : Nat) (dk : Nat) (hd : Nat) (lg : Nat) (pl : Nat) (pr : Nat) (cM : ClassId) (x : Nat) (tl : Nat) (tw : Nat) (ou : Nat) (co : ClassId) (of_ : Nat → Int64) (sz : Nat)  : Met l yL_braced wsL_braced ({ frames := 2, cells := 0, slots := 0, locals := 43 }) (kP dC dI z zK zV [.ref x, .int 1, .ref ou] sz (wd_k_l_braced1 z sh rg mf mm mz ma sa dk hd lg pl pr cM x tl tw ou co of_) [(cM, .object RX4), (co, .long)]) (va_Qi (fun (r : Int32) (_ : Unit) => 0 = r) (fun _ t => kB (dC, dI) (va_A (wd_k_l_braced1 z sh rg mf mm mz ma sa dk hd lg pl pr cM x tl tw ou co of_) sz) [(ou, .inl (co, 1, .inr (.inl (vp_updL of_ 0 0))))] [] t) (va_A (wd_k_l_braced1 z sh rg mf mm mz ma sa dk hd lg pl pr cM x tl tw ou co of_) sz)) 0 0 (va_A (wd_k_l_braced1 z sh rg mf mm mz ma sa dk hd lg pl pr cM x tl tw ou co of_) sz) := by
  refine va_MetW (hh := [(0, 9, 12, 32)]) (cc := cL_braced) (maxL := 4) (ret := (some .int)) (by decide) rfl ?_
  intro p e s m args below meth c s₁ B hml hv
  obtain ⟨rfl, hsz, hP, hK, hD0, hM⟩ := hv
  have hx := B.exec
  have hb := B.bytes
  have hr := B.returns
  have hts := atoms_spec (ws := wsL_braced) B.pre
  have hown : s.vm.findClass RL = some m.cls := findClass_of_methodNamed B.named
  have hlocks := B.notSynchronized
  have htab := vx_table (x := yL_braced) B (hts _ List.mem_cons_self)
  subst hsz
  have hD := hD0.self (sz := s.heap.size)
  generalize hAe : va_A (wd_k_l_braced1 z sh rg mf mm mz ma sa dk hd lg pl pr cM x tl tw ou co of_) s.heap.size = A at hD hM ⊢
  have hA : ∀ q : Nat, s.heap.size ≤ q → A q := fun q h => by rw [← hAe]; exact Or.inr h
  have hS : va_S A s.heap s.heap [] := va_S.rf
  have hP : va_P (dC, dI) vwCl [(x, .inr (15, [.ref sh, .ref tl, .ref tw, .int 0])), (sh, .inr (13, [.ref rg, .ref dk, .ref hd, .ref lg, .ref pl, .ref pr, .int 0, .int 0, .int 0, .int 0, .int 0, .int 0, .int 0, .int 0, .int 0, .int 0, .int 0])), (rg, .inr (11, [.ref mf, .ref mm, .ref mz, .ref ma, .ref sa, .int 0])), (ma, .inl (cM, 3, .inr (.inr (.inr (.inr (va_up (va_up (va_up (fun _ => none) 0 (some mf)) 1 (some mm)) 2 (some mz))))))), (mm, .inr (8, [.int 0, .int 0, .int 0])), (ou, .inl (co, 1, .inr (.inl of_)))] s.heap := hP
  have hD : va_D A [(x, .inr (15, [.ref sh, .ref tl, .ref tw, .int 0])), (sh, .inr (13, [.ref rg, .ref dk, .ref hd, .ref lg, .ref pl, .ref pr, .int 0, .int 0, .int 0, .int 0, .int 0, .int 0, .int 0, .int 0, .int 0, .int 0, .int 0])), (rg, .inr (11, [.ref mf, .ref mm, .ref mz, .ref ma, .ref sa, .int 0])), (ma, .inl (cM, 3, .inr (.inr (.inr (.inr (va_up (va_up (va_up (fun _ => none) 0 (some mf)) 1 (some mm)) 2 (some mz))))))), (mm, .inr (8, [.int 0, .int 0, .int 0])), (ou, .inl (co, 1, .inr (.inl of_)))] := hD
  have hl := lv_entry ([.ref x, .int 1, .ref ou]) (n := 4) (Nat.le_of_ble_eq_true rfl)
  rw [lg_entry_eq]
  generalize (lg_sl ([.ref x, .int 1, .ref ou]) ++ List.replicate (4 - (lg_sl ([.ref x, .int 1, .ref ou])).length) Slot.unset).toArray = ls at hl ⊢
  have hl : lv_has ls 4 [(0, .ref x), (1, .int 1), (2, .ref ou)] := hl
  refine lv_aload_n hx hb dL_braced_0 rfl (lv_at hl 2 rfl) ?_
  refine lv_iconst (v := 0) hx hb dL_braced_1 (by decide) ?_
  refine lv_aload_n hx hb dL_braced_2 rfl (lv_at hl 0 rfl) ?_
  refine lv_iload_n hx hb dL_braced_3 rfl (lv_at hl 1 rfl) ?_
  have hPc := hP.sub (ws' := [(x, .inr (15, [.ref sh, .ref tl, .ref tw, .int 0])), (sh, .inr (13, [.ref rg, .ref dk, .ref hd, .ref lg, .ref pl, .ref pr, .int 0, .int 0, .int 0, .int 0, .int 0, .int 0, .int 0, .int 0, .int 0, .int 0, .int 0])), (rg, .inr (11, [.ref mf, .ref mm, .ref mz, .ref ma, .ref sa, .int 0])), (ma, .inl (cM, 3, .inr (.inr (.inr (.inr (va_up (va_up (va_up (fun _ => none) 0 (some mf)) 1 (some mm)) 2 (some mz))))))), (mm, .inr (8, [.int 0, .int 0, .int 0]))]) [0, 1, 2, 3, 4] rfl
  have hDc := hD.sub (ws' := [(x, .inr (15, [.ref sh, .ref tl, .ref tw, .int 0])), (sh, .inr (13, [.ref rg, .ref dk, .ref hd, .ref lg, .ref pl, .ref pr, .int 0, .int 0, .int 0, .int 0, .int 0, .int 0, .int 0, .int 0, .int 0, .int 0, .int 0])), (rg, .inr (11, [.ref mf, .ref mm, .ref mz, .ref ma, .ref sa, .int 0])), (ma, .inl (cM, 3, .inr (.inr (.inr (.inr (va_up (va_up (va_up (fun _ => none) 0 (some mf)) 1 (some mm)) 2 (some mz))))))), (mm, .inr (8, [.int 0, .int 0, .int 0]))]) [0, 1, 2, 3, 4] (by decide) rfl
  have hKc := hK.sub (tys' := [(cM, .object RX4)]) [0] rfl
  have hFc := va_free (wc := [(x, .inr (15, [.ref sh, .ref tl, .ref tw, .int 0])), (sh, .inr (13, [.ref rg, .ref dk, .ref hd, .ref lg, .ref pl, .ref pr, .int 0, .int 0, .int 0, .int 0, .int 0, .int 0, .int 0, .int 0, .int 0, .int 0, .int 0])), (rg, .inr (11, [.ref mf, .ref mm, .ref mz, .ref ma, .ref sa, .int 0])), (ma, .inl (cM, 3, .inr (.inr (.inr (.inr (va_up (va_up (va_up (fun _ => none) 0 (some mf)) 1 (some mm)) 2 (some mz))))))), (mm, .inr (8, [.int 0, .int 0, .int 0]))]) hD hS hA [0, 1, 2, 3, 4] rfl
  refine va_calli (va_runV (As := [.int 1]) (rest := [.int 0, .ref ou]) ⟨hx, hb, hml, hown, hts⟩ (k_x_braced1 l dC dI z zK zV sh rg mf mm mz ma sa dk hd lg pl pr cM x tl tw s.heap.size) (cwV 1 hts gL_braced_X11_braced rfl rfl rfl (by decide +kernel) ⟨Nat.le_of_ble_eq_true rfl, Nat.le_of_ble_eq_true rfl⟩) ⟨kP_blind, va_recv hKc hPc (ci := 15) (q0 := 0) rfl rfl, kP_go hPc hKc hDc hFc hM hS⟩ rfl rfl hl.1 rfl (lv_room (Nat.le_of_ble_eq_true rfl)) dL_braced_4 ⟨Nat.le_of_ble_eq_true rfl, Nat.le_of_ble_eq_true rfl⟩) hS (fun q _ h => hFc q h) hFc (fun r1 u t H1 locs ht hvm hw hB hz1 hk1 hS => ?_)
  obtain ⟨hP, hD, hK⟩ := kJ (wr := [(ou, .inl (co, 1, .inr (.inl of_)))]) (w1 := []) (t1 := []) hP hD hK [0, 1, 2, 3, 4] [5] rfl rfl (by decide) (by decide) hk1 hFc ht hvm hB
  generalize H1 = H at hP hS ⊢
  have hP : va_P (dC, dI) vwCl [(ou, .inl (co, 1, .inr (.inl of_)))] H := hP
  have hD : va_D A [(ou, .inl (co, 1, .inr (.inl of_)))] := hD
  have hK : va_K (dC, dI) vwCl [(cM, .object RX4), (co, .long)] s := hK
  obtain rfl : 0 = r1 := hw
  refine lv_i2l (v := 0) hx hb dL_braced_7 (by decide +kernel) ?_
  refine va_last hx hb hK hP hD hS 0 1 rfl rfl (pk_in 0 1 (by decide) rfl) dL_braced_8 (fun H locs hP hD hS => ?_)
  have hP : va_P (dC, dI) vwCl [(ou, .inl (co, 1, .inr (.inl (vp_updL of_ 0 0))))] H := hP
  have hD : va_D A [(ou, .inl (co, 1, .inr (.inl (vp_updL of_ 0 0))))] := hD
  refine lv_goto (tgt := 15) hx hb dL_braced_9 (by decide) ?_
  refine lv_iconst (v := 0) hx hb dL_braced_15 (by decide) ?_
  exact W.iret (v := 0) hx hb hr (fun t ht hW => ⟨⟨0, (), rfl, rfl, kB_end (w9 := [(ou, .inl (co, 1, .inr (.inl (vp_updL of_ 0 0))))]) (t9 := []) hP hK hD [0] [] rfl (by decide) rfl rfl t ht hW⟩, hS.F ht⟩) hS.2.2 dL_braced_16
abbrev wd_k_l_braced2 (z : Nat → Nat) (sh : Nat) (rg : Nat) (mf : Nat) (mm : Nat) (mz : Nat) (ma : Nat) (sa : Nat) (dk : Nat) (hd : Nat) (lg : Nat) (pl : Nat) (pr : Nat) (cM : ClassId) (x : Nat) (tl : Nat) (tw : Nat) (ou : Nat) (co : ClassId) (of_ : Nat → Int64) : va_W := [(x, .inr (15, [.ref sh, .ref tl, .ref tw, .int 0])), (sh, .inr (13, [.ref rg, .ref dk, .ref hd, .ref lg, .ref pl, .ref pr, .int 0, .int 0, .int 0, .int 0, .int 0, .int 0, .int 0, .int 0, .int 0, .int 0, .int 0])), (rg, .inr (11, [.ref mf, .ref mm, .ref mz, .ref ma, .ref sa, .int 0])), (ma, .inl (cM, 3, .inr (.inr (.inr (.inr (va_up (va_up (va_up (fun _ => none) 0 (some mf)) 1 (some mm)) 2 (some mz))))))), (mz, .inr (8, [.int 0, .int 0, .int 0])), (ou, .inl (co, 1, .inr (.inl of_)))]
set_option maxHeartbeats 4000000 in
set_option maxRecDepth 100000 in
theorem k_l_braced2 (l : Launch) (dC : Nat → ClassId) (dI : Nat → Nat → Nat) (z zK zV : Nat → Nat) (sh : Nat) (rg : Nat) (mf : Nat) (mm : Nat) (mz : Nat) (ma : Nat) (sa : Nat) (dk : Nat) (hd : Nat) (lg : Nat) (pl : Nat) (pr : Nat) (cM : ClassId) (x : Nat) (tl : Nat) (tw : Nat) (ou : Nat) (co : ClassId) (of_ : Nat → Int64) (sz : Nat)  : Met l yL_braced wsL_braced ({ frames := 2, cells := 0, slots := 0, locals := 43 }) (kP dC dI z zK zV [.ref x, .int 2, .ref ou] sz (wd_k_l_braced2 z sh rg mf mm mz ma sa dk hd lg pl pr cM x tl tw ou co of_) [(cM, .object RX4), (co, .long)]) (va_Qi (fun (r : Int32) (_ : Unit) => 0 = r) (fun _ t => kB (dC, dI) (va_A (wd_k_l_braced2 z sh rg mf mm mz ma sa dk hd lg pl pr cM x tl tw ou co of_) sz) [(ou, .inl (co, 1, .inr (.inl (vp_updL of_ 0 0))))] [] t) (va_A (wd_k_l_braced2 z sh rg mf mm mz ma sa dk hd lg pl pr cM x tl tw ou co of_) sz)) 0 0 (va_A (wd_k_l_braced2 z sh rg mf mm mz ma sa dk hd lg pl pr cM x tl tw ou co of_) sz) := by
  refine va_MetW (hh := [(0, 9, 12, 32)]) (cc := cL_braced) (maxL := 4) (ret := (some .int)) (by decide) rfl ?_
  intro p e s m args below meth c s₁ B hml hv
  obtain ⟨rfl, hsz, hP, hK, hD0, hM⟩ := hv
  have hx := B.exec
  have hb := B.bytes
  have hr := B.returns
  have hts := atoms_spec (ws := wsL_braced) B.pre
  have hown : s.vm.findClass RL = some m.cls := findClass_of_methodNamed B.named
  have hlocks := B.notSynchronized
  have htab := vx_table (x := yL_braced) B (hts _ List.mem_cons_self)
  subst hsz
  have hD := hD0.self (sz := s.heap.size)
  generalize hAe : va_A (wd_k_l_braced2 z sh rg mf mm mz ma sa dk hd lg pl pr cM x tl tw ou co of_) s.heap.size = A at hD hM ⊢
  have hA : ∀ q : Nat, s.heap.size ≤ q → A q := fun q h => by rw [← hAe]; exact Or.inr h
  have hS : va_S A s.heap s.heap [] := va_S.rf
  have hP : va_P (dC, dI) vwCl [(x, .inr (15, [.ref sh, .ref tl, .ref tw, .int 0])), (sh, .inr (13, [.ref rg, .ref dk, .ref hd, .ref lg, .ref pl, .ref pr, .int 0, .int 0, .int 0, .int 0, .int 0, .int 0, .int 0, .int 0, .int 0, .int 0, .int 0])), (rg, .inr (11, [.ref mf, .ref mm, .ref mz, .ref ma, .ref sa, .int 0])), (ma, .inl (cM, 3, .inr (.inr (.inr (.inr (va_up (va_up (va_up (fun _ => none) 0 (some mf)) 1 (some mm)) 2 (some mz))))))), (mz, .inr (8, [.int 0, .int 0, .int 0])), (ou, .inl (co, 1, .inr (.inl of_)))] s.heap := hP
  have hD : va_D A [(x, .inr (15, [.ref sh, .ref tl, .ref tw, .int 0])), (sh, .inr (13, [.ref rg, .ref dk, .ref hd, .ref lg, .ref pl, .ref pr, .int 0, .int 0, .int 0, .int 0, .int 0, .int 0, .int 0, .int 0, .int 0, .int 0, .int 0])), (rg, .inr (11, [.ref mf, .ref mm, .ref mz, .ref ma, .ref sa, .int 0])), (ma, .inl (cM, 3, .inr (.inr (.inr (.inr (va_up (va_up (va_up (fun _ => none) 0 (some mf)) 1 (some mm)) 2 (some mz))))))), (mz, .inr (8, [.int 0, .int 0, .int 0])), (ou, .inl (co, 1, .inr (.inl of_)))] := hD
  have hl := lv_entry ([.ref x, .int 2, .ref ou]) (n := 4) (Nat.le_of_ble_eq_true rfl)
  rw [lg_entry_eq]
  generalize (lg_sl ([.ref x, .int 2, .ref ou]) ++ List.replicate (4 - (lg_sl ([.ref x, .int 2, .ref ou])).length) Slot.unset).toArray = ls at hl ⊢
  have hl : lv_has ls 4 [(0, .ref x), (1, .int 2), (2, .ref ou)] := hl
  refine lv_aload_n hx hb dL_braced_0 rfl (lv_at hl 2 rfl) ?_
  refine lv_iconst (v := 0) hx hb dL_braced_1 (by decide) ?_
  refine lv_aload_n hx hb dL_braced_2 rfl (lv_at hl 0 rfl) ?_
  refine lv_iload_n hx hb dL_braced_3 rfl (lv_at hl 1 rfl) ?_
  have hPc := hP.sub (ws' := [(x, .inr (15, [.ref sh, .ref tl, .ref tw, .int 0])), (sh, .inr (13, [.ref rg, .ref dk, .ref hd, .ref lg, .ref pl, .ref pr, .int 0, .int 0, .int 0, .int 0, .int 0, .int 0, .int 0, .int 0, .int 0, .int 0, .int 0])), (rg, .inr (11, [.ref mf, .ref mm, .ref mz, .ref ma, .ref sa, .int 0])), (ma, .inl (cM, 3, .inr (.inr (.inr (.inr (va_up (va_up (va_up (fun _ => none) 0 (some mf)) 1 (some mm)) 2 (some mz))))))), (mz, .inr (8, [.int 0, .int 0, .int 0]))]) [0, 1, 2, 3, 4] rfl
  have hDc := hD.sub (ws' := [(x, .inr (15, [.ref sh, .ref tl, .ref tw, .int 0])), (sh, .inr (13, [.ref rg, .ref dk, .ref hd, .ref lg, .ref pl, .ref pr, .int 0, .int 0, .int 0, .int 0, .int 0, .int 0, .int 0, .int 0, .int 0, .int 0, .int 0])), (rg, .inr (11, [.ref mf, .ref mm, .ref mz, .ref ma, .ref sa, .int 0])), (ma, .inl (cM, 3, .inr (.inr (.inr (.inr (va_up (va_up (va_up (fun _ => none) 0 (some mf)) 1 (some mm)) 2 (some mz))))))), (mz, .inr (8, [.int 0, .int 0, .int 0]))]) [0, 1, 2, 3, 4] (by decide) rfl
  have hKc := hK.sub (tys' := [(cM, .object RX4)]) [0] rfl
  have hFc := va_free (wc := [(x, .inr (15, [.ref sh, .ref tl, .ref tw, .int 0])), (sh, .inr (13, [.ref rg, .ref dk, .ref hd, .ref lg, .ref pl, .ref pr, .int 0, .int 0, .int 0, .int 0, .int 0, .int 0, .int 0, .int 0, .int 0, .int 0, .int 0])), (rg, .inr (11, [.ref mf, .ref mm, .ref mz, .ref ma, .ref sa, .int 0])), (ma, .inl (cM, 3, .inr (.inr (.inr (.inr (va_up (va_up (va_up (fun _ => none) 0 (some mf)) 1 (some mm)) 2 (some mz))))))), (mz, .inr (8, [.int 0, .int 0, .int 0]))]) hD hS hA [0, 1, 2, 3, 4] rfl
  refine va_calli (va_runV (As := [.int 2]) (rest := [.int 0, .ref ou]) ⟨hx, hb, hml, hown, hts⟩ (k_x_braced2 l dC dI z zK zV sh rg mf mm mz ma sa dk hd lg pl pr cM x tl tw s.heap.size) (cwV 1 hts gL_braced_X11_braced rfl rfl rfl (by decide +kernel) ⟨Nat.le_of_ble_eq_true rfl, Nat.le_of_ble_eq_true rfl⟩) ⟨kP_blind, va_recv hKc hPc (ci := 15) (q0 := 0) rfl rfl, kP_go hPc hKc hDc hFc hM hS⟩ rfl rfl hl.1 rfl (lv_room (Nat.le_of_ble_eq_true rfl)) dL_braced_4 ⟨Nat.le_of_ble_eq_true rfl, Nat.le_of_ble_eq_true rfl⟩) hS (fun q _ h => hFc q h) hFc (fun r1 u t H1 locs ht hvm hw hB hz1 hk1 hS => ?_)
  obtain ⟨hP, hD, hK⟩ := kJ (wr := [(ou, .inl (co, 1, .inr (.inl of_)))]) (w1 := []) (t1 := []) hP hD hK [0, 1, 2, 3, 4] [5] rfl rfl (by decide) (by decide) hk1 hFc ht hvm hB
  generalize H1 = H at hP hS ⊢
  have hP : va_P (dC, dI) vwCl [(ou, .inl (co, 1, .inr (.inl of_)))] H := hP
  have hD : va_D A [(ou, .inl (co, 1, .inr (.inl of_)))] := hD
  have hK : va_K (dC, dI) vwCl [(cM, .object RX4), (co, .long)] s := hK
  obtain rfl : 0 = r1 := hw
  refine lv_i2l (v := 0) hx hb dL_braced_7 (by decide +kernel) ?_
  refine va_last hx hb hK hP hD hS 0 1 rfl rfl (pk_in 0 1 (by decide) rfl) dL_braced_8 (fun H locs hP hD hS => ?_)
  have hP : va_P (dC, dI) vwCl [(ou, .inl (co, 1, .inr (.inl (vp_updL of_ 0 0))))] H := hP
  have hD : va_D A [(ou, .inl (co, 1, .inr (.inl (vp_updL of_ 0 0))))] := hD
  refine lv_goto (tgt := 15) hx hb dL_braced_9 (by decide) ?_
  refine lv_iconst (v := 0) hx hb dL_braced_15 (by decide) ?_
  exact W.iret (v := 0) hx hb hr (fun t ht hW => ⟨⟨0, (), rfl, rfl, kB_end (w9 := [(ou, .inl (co, 1, .inr (.inl (vp_updL of_ 0 0))))]) (t9 := []) hP hK hD [0] [] rfl (by decide) rfl rfl t ht hW⟩, hS.F ht⟩) hS.2.2 dL_braced_16
abbrev wd_k_l_braced_bad (z : Nat → Nat) (sh : Nat) (rg : Nat) (mf : Nat) (mm : Nat) (mz : Nat) (ma : Nat) (sa : Nat) (dk : Nat) (hd : Nat) (lg : Nat) (pl : Nat) (pr : Nat) (cM : ClassId) (x : Nat) (tl : Nat) (tw : Nat) (p0 : Int32) (ou : Nat) (co : ClassId) (of_ : Nat → Int64) : va_W := [(x, .inr (15, [.ref sh, .ref tl, .ref tw, .int 0])), (sh, .inr (13, [.ref rg, .ref dk, .ref hd, .ref lg, .ref pl, .ref pr, .int 0, .int 0, .int 0, .int 0, .int 0, .int 0, .int 0, .int 0, .int 0, .int 0, .int 0])), (rg, .inr (11, [.ref mf, .ref mm, .ref mz, .ref ma, .ref sa, .int 0])), (ma, .inl (cM, 3, .inr (.inr (.inr (.inr (va_up (va_up (va_up (fun _ => none) 0 (some mf)) 1 (some mm)) 2 (some mz))))))), (ou, .inl (co, 1, .inr (.inl of_)))]
set_option maxHeartbeats 4000000 in
set_option maxRecDepth 100000 in
theorem k_l_braced_bad (l : Launch) (dC : Nat → ClassId) (dI : Nat → Nat → Nat) (z zK zV : Nat → Nat) (sh : Nat) (rg : Nat) (mf : Nat) (mm : Nat) (mz : Nat) (ma : Nat) (sa : Nat) (dk : Nat) (hd : Nat) (lg : Nat) (pl : Nat) (pr : Nat) (cM : ClassId) (x : Nat) (tl : Nat) (tw : Nat) (p0 : Int32) (ou : Nat) (co : ClassId) (of_ : Nat → Int64) (sz : Nat) (hst : l.stackTraces = false) (hb0 : p0 < 0 ∨ 3 ≤ p0) : Met l yL_braced wsL_braced ({ frames := 7, cells := 1, slots := 6, locals := 104 }) (kP dC dI z zK zV [.ref x, .int p0, .ref ou] sz (wd_k_l_braced_bad z sh rg mf mm mz ma sa dk hd lg pl pr cM x tl tw p0 ou co of_) [(cM, .object RX4), (co, .long)]) (va_Qi (fun (r : Int32) (_ : Unit) => 1 = r) (fun _ t => kB (dC, dI) (va_A (wd_k_l_braced_bad z sh rg mf mm mz ma sa dk hd lg pl pr cM x tl tw p0 ou co of_) sz) [] [] t) (va_A (wd_k_l_braced_bad z sh rg mf mm mz ma sa dk hd lg pl pr cM x tl tw p0 ou co of_) sz)) 1 6 (va_A (wd_k_l_braced_bad z sh rg mf mm mz ma sa dk hd lg pl pr cM x tl tw p0 ou co of_) sz) := by
  refine va_MetW (hh := [(0, 9, 12, 32)]) (cc := cL_braced) (maxL := 4) (ret := (some .int)) (by decide) rfl ?_
  intro p e s m args below meth c s₁ B hml hv
  obtain ⟨rfl, hsz, hP, hK, hD0, hM⟩ := hv
  have hx := B.exec
  have hb := B.bytes
  have hr := B.returns
  have hts := atoms_spec (ws := wsL_braced) B.pre
  have hown : s.vm.findClass RL = some m.cls := findClass_of_methodNamed B.named
  have hlocks := B.notSynchronized
  have htab := vx_table (x := yL_braced) B (hts _ List.mem_cons_self)
  subst hsz
  have hD := hD0.self (sz := s.heap.size)
  generalize hAe : va_A (wd_k_l_braced_bad z sh rg mf mm mz ma sa dk hd lg pl pr cM x tl tw p0 ou co of_) s.heap.size = A at hD hM ⊢
  have hA : ∀ q : Nat, s.heap.size ≤ q → A q := fun q h => by rw [← hAe]; exact Or.inr h
  have hS : va_S A s.heap s.heap [] := va_S.rf
  have hP : va_P (dC, dI) vwCl [(x, .inr (15, [.ref sh, .ref tl, .ref tw, .int 0])), (sh, .inr (13, [.ref rg, .ref dk, .ref hd, .ref lg, .ref pl, .ref pr, .int 0, .int 0, .int 0, .int 0, .int 0, .int 0, .int 0, .int 0, .int 0, .int 0, .int 0])), (rg, .inr (11, [.ref mf, .ref mm, .ref mz, .ref ma, .ref sa, .int 0])), (ma, .inl (cM, 3, .inr (.inr (.inr (.inr (va_up (va_up (va_up (fun _ => none) 0 (some mf)) 1 (some mm)) 2 (some mz))))))), (ou, .inl (co, 1, .inr (.inl of_)))] s.heap := hP
  have hD : va_D A [(x, .inr (15, [.ref sh, .ref tl, .ref tw, .int 0])), (sh, .inr (13, [.ref rg, .ref dk, .ref hd, .ref lg, .ref pl, .ref pr, .int 0, .int 0, .int 0, .int 0, .int 0, .int 0, .int 0, .int 0, .int 0, .int 0, .int 0])), (rg, .inr (11, [.ref mf, .ref mm, .ref mz, .ref ma, .ref sa, .int 0])), (ma, .inl (cM, 3, .inr (.inr (.inr (.inr (va_up (va_up (va_up (fun _ => none) 0 (some mf)) 1 (some mm)) 2 (some mz))))))), (ou, .inl (co, 1, .inr (.inl of_)))] := hD
  have hl := lv_entry ([.ref x, .int p0, .ref ou]) (n := 4) (Nat.le_of_ble_eq_true rfl)
  rw [lg_entry_eq]
  generalize (lg_sl ([.ref x, .int p0, .ref ou]) ++ List.replicate (4 - (lg_sl ([.ref x, .int p0, .ref ou])).length) Slot.unset).toArray = ls at hl ⊢
  have hl : lv_has ls 4 [(0, .ref x), (1, .int p0), (2, .ref ou)] := hl
  refine lv_aload_n hx hb dL_braced_0 rfl (lv_at hl 2 rfl) ?_
  refine lv_iconst (v := 0) hx hb dL_braced_1 (by decide) ?_
  refine lv_aload_n hx hb dL_braced_2 rfl (lv_at hl 0 rfl) ?_
  refine lv_iload_n hx hb dL_braced_3 rfl (lv_at hl 1 rfl) ?_
  have hPc := hP.sub (ws' := [(x, .inr (15, [.ref sh, .ref tl, .ref tw, .int 0])), (sh, .inr (13, [.ref rg, .ref dk, .ref hd, .ref lg, .ref pl, .ref pr, .int 0, .int 0, .int 0, .int 0, .int 0, .int 0, .int 0, .int 0, .int 0, .int 0, .int 0])), (rg, .inr (11, [.ref mf, .ref mm, .ref mz, .ref ma, .ref sa, .int 0])), (ma, .inl (cM, 3, .inr (.inr (.inr (.inr (va_up (va_up (va_up (fun _ => none) 0 (some mf)) 1 (some mm)) 2 (some mz)))))))]) [0, 1, 2, 3] rfl
  have hDc := hD.sub (ws' := [(x, .inr (15, [.ref sh, .ref tl, .ref tw, .int 0])), (sh, .inr (13, [.ref rg, .ref dk, .ref hd, .ref lg, .ref pl, .ref pr, .int 0, .int 0, .int 0, .int 0, .int 0, .int 0, .int 0, .int 0, .int 0, .int 0, .int 0])), (rg, .inr (11, [.ref mf, .ref mm, .ref mz, .ref ma, .ref sa, .int 0])), (ma, .inl (cM, 3, .inr (.inr (.inr (.inr (va_up (va_up (va_up (fun _ => none) 0 (some mf)) 1 (some mm)) 2 (some mz)))))))]) [0, 1, 2, 3] (by decide) rfl
  have hKc := hK.sub (tys' := [(cM, .object RX4)]) [0] rfl
  have hFc := va_free (wc := [(x, .inr (15, [.ref sh, .ref tl, .ref tw, .int 0])), (sh, .inr (13, [.ref rg, .ref dk, .ref hd, .ref lg, .ref pl, .ref pr, .int 0, .int 0, .int 0, .int 0, .int 0, .int 0, .int 0, .int 0, .int 0, .int 0, .int 0])), (rg, .inr (11, [.ref mf, .ref mm, .ref mz, .ref ma, .ref sa, .int 0])), (ma, .inl (cM, 3, .inr (.inr (.inr (.inr (va_up (va_up (va_up (fun _ => none) 0 (some mf)) 1 (some mm)) 2 (some mz)))))))]) hD hS hA [0, 1, 2, 3] rfl
  refine vx_calli (vx_runV (As := [.int p0]) (rest := [.int 0, .ref ou]) ⟨hx, hb, hml, hown, hts⟩ (k_x_braced_bad l dC dI z zK zV sh rg mf mm mz ma sa dk hd lg pl pr cM x tl tw p0 s.heap.size hst (hb0)) (cwV 1 hts gL_braced_X11_braced rfl rfl rfl (by decide +kernel) ⟨Nat.le_of_ble_eq_true rfl, Nat.le_of_ble_eq_true rfl⟩) ⟨kP_blind, va_recv hKc hPc (ci := 15) (q0 := 0) rfl rfl, kP_go hPc hKc hDc hFc hM hS⟩ rfl rfl hl.1 rfl (lv_room (Nat.le_of_ble_eq_true rfl)) dL_braced_4 ⟨Nat.le_of_ble_eq_true rfl, Nat.le_of_ble_eq_true rfl⟩) hS (fun q _ h => hFc q h) hFc (fun q _ h => hFc q h) (fun E ce q9 u t H1 locs ht hvm hpx hbx hz1 hk1 hS hcell hcv hcl => ?_) (fun r1 u t H1 locs ht hvm hw hB hz1 hk1 hS => ?_)
  · skip
    obtain rfl : "java/lang/IndexOutOfBoundsException" = E := hbx
    obtain ⟨hP, hD, hK⟩ := kJ (wr := [(ou, .inl (co, 1, .inr (.inl of_)))]) (w1 := []) (t1 := []) hP hD hK [0, 1, 2, 3] [4] rfl rfl (by decide) (by decide) hk1 hFc ht hvm (kB_nil t (va_K.moved hvm (hK.sub (tys' := []) [] rfl)))
    generalize H1 = H at hP hS hcell ⊢
    have hP : va_P (dC, dI) vwCl [(ou, .inl (co, 1, .inr (.inl of_)))] H := hP
    have hD : va_D A [(ou, .inl (co, 1, .inr (.inl of_)))] := hD
    have hK : va_K (dC, dI) vwCl [(cM, .object RX4), (co, .long)] s := hK
    refine vx_catch hown [] ⟨0, 9, 12, 32⟩ _ (htab.trans rfl) (fun z hz => absurd hz List.not_mem_nil) rfl (by decide) (hts (.classLink RL 32 "java/lang/IndexOutOfBoundsException") (by decide +kernel)) (va_Nw.use rfl (hM.2.2.2.2.2.2.2.2.2.1 _ (List.mem_of_getElem? (i := 1) rfl))) hcell hcv hcl ?_
    refine lv_astore_n (lv' := [(3, .ref q9), (0, .ref x), (1, .int p0), (2, .ref ou)]) hx hb dL_braced_12 rfl hl (by decide) rfl (fun ls hl => ?_)
    refine lv_iconst (v := 1) hx hb dL_braced_13 (by decide) ?_
    refine W.widen (k := 1) (n := 6) (Nat.le_of_ble_eq_true rfl) (Nat.le_of_ble_eq_true rfl) ?_
    exact W.iret (v := 1) hx hb hr (fun t ht hW => ⟨⟨1, (), rfl, rfl, kB_end (w9 := []) (t9 := []) hP hK hD [] [] rfl (by decide) rfl rfl t ht hW⟩, hS.F ht⟩) hS.2.2 dL_braced_14
  · skip
    exact hw.elim
abbrev wd_k_l_isSprung0 (z : Nat → Nat) (sh : Nat) (rg : Nat) (mf : Nat) (mm : Nat) (mz : Nat) (ma : Nat) (sa : Nat) (dk : Nat) (hd : Nat) (lg : Nat) (pl : Nat) (pr : Nat) (cM : ClassId) (x : Nat) (tl : Nat) (tw : Nat) (ou : Nat) (co : ClassId) (of_ : Nat → Int64) : va_W := [(x, .inr (15, [.ref sh, .ref tl, .ref tw, .int 0])), (sh, .inr (13, [.ref rg, .ref dk, .ref hd, .ref lg, .ref pl, .ref pr, .int 0, .int 0, .int 0, .int 0, .int 0, .int 0, .int 0, .int 0, .int 0, .int 0, .int 0])), (rg, .inr (11, [.ref mf, .ref mm, .ref mz, .ref ma, .ref sa, .int 0])), (ma, .inl (cM, 3, .inr (.inr (.inr (.inr (va_up (va_up (va_up (fun _ => none) 0 (some mf)) 1 (some mm)) 2 (some mz))))))), (mf, .inr (8, [.int 0, .int 0, .int 0])), (ou, .inl (co, 1, .inr (.inl of_)))]
set_option maxHeartbeats 4000000 in
set_option maxRecDepth 100000 in
theorem k_l_isSprung0 (l : Launch) (dC : Nat → ClassId) (dI : Nat → Nat → Nat) (z zK zV : Nat → Nat) (sh : Nat) (rg : Nat) (mf : Nat) (mm : Nat) (mz : Nat) (ma : Nat) (sa : Nat) (dk : Nat) (hd : Nat) (lg : Nat) (pl : Nat) (pr : Nat) (cM : ClassId) (x : Nat) (tl : Nat) (tw : Nat) (ou : Nat) (co : ClassId) (of_ : Nat → Int64) (sz : Nat)  : Met l yL_isSprung wsL_isSprung ({ frames := 2, cells := 0, slots := 0, locals := 43 }) (kP dC dI z zK zV [.ref x, .int 0, .ref ou] sz (wd_k_l_isSprung0 z sh rg mf mm mz ma sa dk hd lg pl pr cM x tl tw ou co of_) [(cM, .object RX4), (co, .long)]) (va_Qi (fun (r : Int32) (_ : Unit) => 0 = r) (fun _ t => kB (dC, dI) (va_A (wd_k_l_isSprung0 z sh rg mf mm mz ma sa dk hd lg pl pr cM x tl tw ou co of_) sz) [(ou, .inl (co, 1, .inr (.inl (vp_updL of_ 0 0))))] [] t) (va_A (wd_k_l_isSprung0 z sh rg mf mm mz ma sa dk hd lg pl pr cM x tl tw ou co of_) sz)) 0 0 (va_A (wd_k_l_isSprung0 z sh rg mf mm mz ma sa dk hd lg pl pr cM x tl tw ou co of_) sz) := by
  refine va_MetW (hh := [(0, 16, 19, 32)]) (cc := cL_isSprung) (maxL := 4) (ret := (some .int)) (by decide) rfl ?_
  intro p e s m args below meth c s₁ B hml hv
  obtain ⟨rfl, hsz, hP, hK, hD0, hM⟩ := hv
  have hx := B.exec
  have hb := B.bytes
  have hr := B.returns
  have hts := atoms_spec (ws := wsL_isSprung) B.pre
  have hown : s.vm.findClass RL = some m.cls := findClass_of_methodNamed B.named
  have hlocks := B.notSynchronized
  have htab := vx_table (x := yL_isSprung) B (hts _ List.mem_cons_self)
  subst hsz
  have hD := hD0.self (sz := s.heap.size)
  generalize hAe : va_A (wd_k_l_isSprung0 z sh rg mf mm mz ma sa dk hd lg pl pr cM x tl tw ou co of_) s.heap.size = A at hD hM ⊢
  have hA : ∀ q : Nat, s.heap.size ≤ q → A q := fun q h => by rw [← hAe]; exact Or.inr h
  have hS : va_S A s.heap s.heap [] := va_S.rf
  have hP : va_P (dC, dI) vwCl [(x, .inr (15, [.ref sh, .ref tl, .ref tw, .int 0])), (sh, .inr (13, [.ref rg, .ref dk, .ref hd, .ref lg, .ref pl, .ref pr, .int 0, .int 0, .int 0, .int 0, .int 0, .int 0, .int 0, .int 0, .int 0, .int 0, .int 0])), (rg, .inr (11, [.ref mf, .ref mm, .ref mz, .ref ma, .ref sa, .int 0])), (ma, .inl (cM, 3, .inr (.inr (.inr (.inr (va_up (va_up (va_up (fun _ => none) 0 (some mf)) 1 (some mm)) 2 (some mz))))))), (mf, .inr (8, [.int 0, .int 0, .int 0])), (ou, .inl (co, 1, .inr (.inl of_)))] s.heap := hP
  have hD : va_D A [(x, .inr (15, [.ref sh, .ref tl, .ref tw, .int 0])), (sh, .inr (13, [.ref rg, .ref dk, .ref hd, .ref lg, .ref pl, .ref pr, .int 0, .int 0, .int 0, .int 0, .int 0, .int 0, .int 0, .int 0, .int 0, .int 0, .int 0])), (rg, .inr (11, [.ref mf, .ref mm, .ref mz, .ref ma, .ref sa, .int 0])), (ma, .inl (cM, 3, .inr (.inr (.inr (.inr (va_up (va_up (va_up (fun _ => none) 0 (some mf)) 1 (some mm)) 2 (some mz))))))), (mf, .inr (8, [.int 0, .int 0, .int 0])), (ou, .inl (co, 1, .inr (.inl of_)))] := hD
  have hl := lv_entry ([.ref x, .int 0, .ref ou]) (n := 4) (Nat.le_of_ble_eq_true rfl)
  rw [lg_entry_eq]
  generalize (lg_sl ([.ref x, .int 0, .ref ou]) ++ List.replicate (4 - (lg_sl ([.ref x, .int 0, .ref ou])).length) Slot.unset).toArray = ls at hl ⊢
  have hl : lv_has ls 4 [(0, .ref x), (1, .int 0), (2, .ref ou)] := hl
  refine lv_aload_n hx hb dL_isSprung_0 rfl (lv_at hl 2 rfl) ?_
  refine lv_iconst (v := 0) hx hb dL_isSprung_1 (by decide) ?_
  refine lv_aload_n hx hb dL_isSprung_2 rfl (lv_at hl 0 rfl) ?_
  refine lv_iload_n hx hb dL_isSprung_3 rfl (lv_at hl 1 rfl) ?_
  have hPc := hP.sub (ws' := [(x, .inr (15, [.ref sh, .ref tl, .ref tw, .int 0])), (sh, .inr (13, [.ref rg, .ref dk, .ref hd, .ref lg, .ref pl, .ref pr, .int 0, .int 0, .int 0, .int 0, .int 0, .int 0, .int 0, .int 0, .int 0, .int 0, .int 0])), (rg, .inr (11, [.ref mf, .ref mm, .ref mz, .ref ma, .ref sa, .int 0])), (ma, .inl (cM, 3, .inr (.inr (.inr (.inr (va_up (va_up (va_up (fun _ => none) 0 (some mf)) 1 (some mm)) 2 (some mz))))))), (mf, .inr (8, [.int 0, .int 0, .int 0]))]) [0, 1, 2, 3, 4] rfl
  have hDc := hD.sub (ws' := [(x, .inr (15, [.ref sh, .ref tl, .ref tw, .int 0])), (sh, .inr (13, [.ref rg, .ref dk, .ref hd, .ref lg, .ref pl, .ref pr, .int 0, .int 0, .int 0, .int 0, .int 0, .int 0, .int 0, .int 0, .int 0, .int 0, .int 0])), (rg, .inr (11, [.ref mf, .ref mm, .ref mz, .ref ma, .ref sa, .int 0])), (ma, .inl (cM, 3, .inr (.inr (.inr (.inr (va_up (va_up (va_up (fun _ => none) 0 (some mf)) 1 (some mm)) 2 (some mz))))))), (mf, .inr (8, [.int 0, .int 0, .int 0]))]) [0, 1, 2, 3, 4] (by decide) rfl
  have hKc := hK.sub (tys' := [(cM, .object RX4)]) [0] rfl
  have hFc := va_free (wc := [(x, .inr (15, [.ref sh, .ref tl, .ref tw, .int 0])), (sh, .inr (13, [.ref rg, .ref dk, .ref hd, .ref lg, .ref pl, .ref pr, .int 0, .int 0, .int 0, .int 0, .int 0, .int 0, .int 0, .int 0, .int 0, .int 0, .int 0])), (rg, .inr (11, [.ref mf, .ref mm, .ref mz, .ref ma, .ref sa, .int 0])), (ma, .inl (cM, 3, .inr (.inr (.inr (.inr (va_up (va_up (va_up (fun _ => none) 0 (some mf)) 1 (some mm)) 2 (some mz))))))), (mf, .inr (8, [.int 0, .int 0, .int 0]))]) hD hS hA [0, 1, 2, 3, 4] rfl
  refine va_calli (va_runV (As := [.int 0]) (rest := [.int 0, .ref ou]) ⟨hx, hb, hml, hown, hts⟩ (k_x_isSprung0 l dC dI z zK zV sh rg mf mm mz ma sa dk hd lg pl pr cM x tl tw s.heap.size) (cwV 1 hts gL_isSprung_X11_isSprung rfl rfl rfl (by decide +kernel) ⟨Nat.le_of_ble_eq_true rfl, Nat.le_of_ble_eq_true rfl⟩) ⟨kP_blind, va_recv hKc hPc (ci := 15) (q0 := 0) rfl rfl, kP_go hPc hKc hDc hFc hM hS⟩ rfl rfl hl.1 rfl (lv_room (Nat.le_of_ble_eq_true rfl)) dL_isSprung_4 ⟨Nat.le_of_ble_eq_true rfl, Nat.le_of_ble_eq_true rfl⟩) hS (fun q _ h => hFc q h) hFc (fun r1 u t H1 locs ht hvm hw hB hz1 hk1 hS => ?_)
  obtain ⟨hP, hD, hK⟩ := kJ (wr := [(ou, .inl (co, 1, .inr (.inl of_)))]) (w1 := []) (t1 := []) hP hD hK [0, 1, 2, 3, 4] [5] rfl rfl (by decide) (by decide) hk1 hFc ht hvm hB
  generalize H1 = H at hP hS ⊢
  have hP : va_P (dC, dI) vwCl [(ou, .inl (co, 1, .inr (.inl of_)))] H := hP
  have hD : va_D A [(ou, .inl (co, 1, .inr (.inl of_)))] := hD
  have hK : va_K (dC, dI) vwCl [(cM, .object RX4), (co, .long)] s := hK
  obtain rfl : 0 = r1 := hw
  refine lv_if_eq (tgt := 14) hx hb dL_isSprung_7 (by decide) (fun _ => ?_) (fun c_ => absurd (by decide +kernel) c_)
  refine lv_lconst (v := 0) hx hb dL_isSprung_14 (by decide) ?_
  refine va_last hx hb hK hP hD hS 0 1 rfl rfl (pk_in 0 1 (by decide) rfl) dL_isSprung_15 (fun H locs hP hD hS => ?_)
  have hP : va_P (dC, dI) vwCl [(ou, .inl (co, 1, .inr (.inl (vp_updL of_ 0 0))))] H := hP
  have hD : va_D A [(ou, .inl (co, 1, .inr (.inl (vp_updL of_ 0 0))))] := hD
  refine lv_goto (tgt := 22) hx hb dL_isSprung_16 (by decide) ?_
  refine lv_iconst (v := 0) hx hb dL_isSprung_22 (by decide) ?_
  exact W.iret (v := 0) hx hb hr (fun t ht hW => ⟨⟨0, (), rfl, rfl, kB_end (w9 := [(ou, .inl (co, 1, .inr (.inl (vp_updL of_ 0 0))))]) (t9 := []) hP hK hD [0] [] rfl (by decide) rfl rfl t ht hW⟩, hS.F ht⟩) hS.2.2 dL_isSprung_23
abbrev wd_k_l_isSprung1 (z : Nat → Nat) (sh : Nat) (rg : Nat) (mf : Nat) (mm : Nat) (mz : Nat) (ma : Nat) (sa : Nat) (dk : Nat) (hd : Nat) (lg : Nat) (pl : Nat) (pr : Nat) (cM : ClassId) (x : Nat) (tl : Nat) (tw : Nat) (ou : Nat) (co : ClassId) (of_ : Nat → Int64) : va_W := [(x, .inr (15, [.ref sh, .ref tl, .ref tw, .int 0])), (sh, .inr (13, [.ref rg, .ref dk, .ref hd, .ref lg, .ref pl, .ref pr, .int 0, .int 0, .int 0, .int 0, .int 0, .int 0, .int 0, .int 0, .int 0, .int 0, .int 0])), (rg, .inr (11, [.ref mf, .ref mm, .ref mz, .ref ma, .ref sa, .int 0])), (ma, .inl (cM, 3, .inr (.inr (.inr (.inr (va_up (va_up (va_up (fun _ => none) 0 (some mf)) 1 (some mm)) 2 (some mz))))))), (mm, .inr (8, [.int 0, .int 0, .int 0])), (ou, .inl (co, 1, .inr (.inl of_)))]
set_option maxHeartbeats 4000000 in
set_option maxRecDepth 100000 in
theorem k_l_isSprung1 (l : Launch) (dC : Nat → ClassId) (dI : Nat → Nat → Nat) (z zK zV : Nat → Nat) (sh : Nat) (rg : Nat) (mf : Nat) (mm : Nat) (mz : Nat) (ma : Nat) (sa : Nat) (dk : Nat) (hd : Nat) (lg : Nat) (pl : Nat) (pr : Nat) (cM : ClassId) (x : Nat) (tl : Nat) (tw : Nat) (ou : Nat) (co : ClassId) (of_ : Nat → Int64) (sz : Nat)  : Met l yL_isSprung wsL_isSprung ({ frames := 2, cells := 0, slots := 0, locals := 43 }) (kP dC dI z zK zV [.ref x, .int 1, .ref ou] sz (wd_k_l_isSprung1 z sh rg mf mm mz ma sa dk hd lg pl pr cM x tl tw ou co of_) [(cM, .object RX4), (co, .long)]) (va_Qi (fun (r : Int32) (_ : Unit) => 0 = r) (fun _ t => kB (dC, dI) (va_A (wd_k_l_isSprung1 z sh rg mf mm mz ma sa dk hd lg pl pr cM x tl tw ou co of_) sz) [(ou, .inl (co, 1, .inr (.inl (vp_updL of_ 0 0))))] [] t) (va_A (wd_k_l_isSprung1 z sh rg mf mm mz ma sa dk hd lg pl pr cM x tl tw ou co of_) sz)) 0 0 (va_A (wd_k_l_isSprung1 z sh rg mf mm mz ma sa dk hd lg pl pr cM x tl tw ou co of_) sz) := by
  refine va_MetW (hh := [(0, 16, 19, 32)]) (cc := cL_isSprung) (maxL := 4) (ret := (some .int)) (by decide) rfl ?_
  intro p e s m args below meth c s₁ B hml hv
  obtain ⟨rfl, hsz, hP, hK, hD0, hM⟩ := hv
  have hx := B.exec
  have hb := B.bytes
  have hr := B.returns
  have hts := atoms_spec (ws := wsL_isSprung) B.pre
  have hown : s.vm.findClass RL = some m.cls := findClass_of_methodNamed B.named
  have hlocks := B.notSynchronized
  have htab := vx_table (x := yL_isSprung) B (hts _ List.mem_cons_self)
  subst hsz
  have hD := hD0.self (sz := s.heap.size)
  generalize hAe : va_A (wd_k_l_isSprung1 z sh rg mf mm mz ma sa dk hd lg pl pr cM x tl tw ou co of_) s.heap.size = A at hD hM ⊢
  have hA : ∀ q : Nat, s.heap.size ≤ q → A q := fun q h => by rw [← hAe]; exact Or.inr h
  have hS : va_S A s.heap s.heap [] := va_S.rf
  have hP : va_P (dC, dI) vwCl [(x, .inr (15, [.ref sh, .ref tl, .ref tw, .int 0])), (sh, .inr (13, [.ref rg, .ref dk, .ref hd, .ref lg, .ref pl, .ref pr, .int 0, .int 0, .int 0, .int 0, .int 0, .int 0, .int 0, .int 0, .int 0, .int 0, .int 0])), (rg, .inr (11, [.ref mf, .ref mm, .ref mz, .ref ma, .ref sa, .int 0])), (ma, .inl (cM, 3, .inr (.inr (.inr (.inr (va_up (va_up (va_up (fun _ => none) 0 (some mf)) 1 (some mm)) 2 (some mz))))))), (mm, .inr (8, [.int 0, .int 0, .int 0])), (ou, .inl (co, 1, .inr (.inl of_)))] s.heap := hP
  have hD : va_D A [(x, .inr (15, [.ref sh, .ref tl, .ref tw, .int 0])), (sh, .inr (13, [.ref rg, .ref dk, .ref hd, .ref lg, .ref pl, .ref pr, .int 0, .int 0, .int 0, .int 0, .int 0, .int 0, .int 0, .int 0, .int 0, .int 0, .int 0])), (rg, .inr (11, [.ref mf, .ref mm, .ref mz, .ref ma, .ref sa, .int 0])), (ma, .inl (cM, 3, .inr (.inr (.inr (.inr (va_up (va_up (va_up (fun _ => none) 0 (some mf)) 1 (some mm)) 2 (some mz))))))), (mm, .inr (8, [.int 0, .int 0, .int 0])), (ou, .inl (co, 1, .inr (.inl of_)))] := hD
  have hl := lv_entry ([.ref x, .int 1, .ref ou]) (n := 4) (Nat.le_of_ble_eq_true rfl)
  rw [lg_entry_eq]
  generalize (lg_sl ([.ref x, .int 1, .ref ou]) ++ List.replicate (4 - (lg_sl ([.ref x, .int 1, .ref ou])).length) Slot.unset).toArray = ls at hl ⊢
  have hl : lv_has ls 4 [(0, .ref x), (1, .int 1), (2, .ref ou)] := hl
  refine lv_aload_n hx hb dL_isSprung_0 rfl (lv_at hl 2 rfl) ?_
  refine lv_iconst (v := 0) hx hb dL_isSprung_1 (by decide) ?_
  refine lv_aload_n hx hb dL_isSprung_2 rfl (lv_at hl 0 rfl) ?_
  refine lv_iload_n hx hb dL_isSprung_3 rfl (lv_at hl 1 rfl) ?_
  have hPc := hP.sub (ws' := [(x, .inr (15, [.ref sh, .ref tl, .ref tw, .int 0])), (sh, .inr (13, [.ref rg, .ref dk, .ref hd, .ref lg, .ref pl, .ref pr, .int 0, .int 0, .int 0, .int 0, .int 0, .int 0, .int 0, .int 0, .int 0, .int 0, .int 0])), (rg, .inr (11, [.ref mf, .ref mm, .ref mz, .ref ma, .ref sa, .int 0])), (ma, .inl (cM, 3, .inr (.inr (.inr (.inr (va_up (va_up (va_up (fun _ => none) 0 (some mf)) 1 (some mm)) 2 (some mz))))))), (mm, .inr (8, [.int 0, .int 0, .int 0]))]) [0, 1, 2, 3, 4] rfl
  have hDc := hD.sub (ws' := [(x, .inr (15, [.ref sh, .ref tl, .ref tw, .int 0])), (sh, .inr (13, [.ref rg, .ref dk, .ref hd, .ref lg, .ref pl, .ref pr, .int 0, .int 0, .int 0, .int 0, .int 0, .int 0, .int 0, .int 0, .int 0, .int 0, .int 0])), (rg, .inr (11, [.ref mf, .ref mm, .ref mz, .ref ma, .ref sa, .int 0])), (ma, .inl (cM, 3, .inr (.inr (.inr (.inr (va_up (va_up (va_up (fun _ => none) 0 (some mf)) 1 (some mm)) 2 (some mz))))))), (mm, .inr (8, [.int 0, .int 0, .int 0]))]) [0, 1, 2, 3, 4] (by decide) rfl
  have hKc := hK.sub (tys' := [(cM, .object RX4)]) [0] rfl
  have hFc := va_free (wc := [(x, .inr (15, [.ref sh, .ref tl, .ref tw, .int 0])), (sh, .inr (13, [.ref rg, .ref dk, .ref hd, .ref lg, .ref pl, .ref pr, .int 0, .int 0, .int 0, .int 0, .int 0, .int 0, .int 0, .int 0, .int 0, .int 0, .int 0])), (rg, .inr (11, [.ref mf, .ref mm, .ref mz, .ref ma, .ref sa, .int 0])), (ma, .inl (cM, 3, .inr (.inr (.inr (.inr (va_up (va_up (va_up (fun _ => none) 0 (some mf)) 1 (some mm)) 2 (some mz))))))), (mm, .inr (8, [.int 0, .int 0, .int 0]))]) hD hS hA [0, 1, 2, 3, 4] rfl
  refine va_calli (va_runV (As := [.int 1]) (rest := [.int 0, .ref ou]) ⟨hx, hb, hml, hown, hts⟩ (k_x_isSprung1 l dC dI z zK zV sh rg mf mm mz ma sa dk hd lg pl pr cM x tl tw s.heap.size) (cwV 1 hts gL_isSprung_X11_isSprung rfl rfl rfl (by decide +kernel) ⟨Nat.le_of_ble_eq_true rfl, Nat.le_of_ble_eq_true rfl⟩) ⟨kP_blind, va_recv hKc hPc (ci := 15) (q0 := 0) rfl rfl, kP_go hPc hKc hDc hFc hM hS⟩ rfl rfl hl.1 rfl (lv_room (Nat.le_of_ble_eq_true rfl)) dL_isSprung_4 ⟨Nat.le_of_ble_eq_true rfl, Nat.le_of_ble_eq_true rfl⟩) hS (fun q _ h => hFc q h) hFc (fun r1 u t H1 locs ht hvm hw hB hz1 hk1 hS => ?_)
  obtain ⟨hP, hD, hK⟩ := kJ (wr := [(ou, .inl (co, 1, .inr (.inl of_)))]) (w1 := []) (t1 := []) hP hD hK [0, 1, 2, 3, 4] [5] rfl rfl (by decide) (by decide) hk1 hFc ht hvm hB
  generalize H1 = H at hP hS ⊢
  have hP : va_P (dC, dI) vwCl [(ou, .inl (co, 1, .inr (.inl of_)))] H := hP
  have hD : va_D A [(ou, .inl (co, 1, .inr (.inl of_)))] := hD
  have hK : va_K (dC, dI) vwCl [(cM, .object RX4), (co, .long)] s := hK
  obtain rfl : 0 = r1 := hw
  refine lv_if_eq (tgt := 14) hx hb dL_isSprung_7 (by decide) (fun _ => ?_) (fun c_ => absurd (by decide +kernel) c_)
  refine lv_lconst (v := 0) hx hb dL_isSprung_14 (by decide) ?_
  refine va_last hx hb hK hP hD hS 0 1 rfl rfl (pk_in 0 1 (by decide) rfl) dL_isSprung_15 (fun H locs hP hD hS => ?_)
  have hP : va_P (dC, dI) vwCl [(ou, .inl (co, 1, .inr (.inl (vp_updL of_ 0 0))))] H := hP
  have hD : va_D A [(ou, .inl (co, 1, .inr (.inl (vp_updL of_ 0 0))))] := hD
  refine lv_goto (tgt := 22) hx hb dL_isSprung_16 (by decide) ?_
  refine lv_iconst (v := 0) hx hb dL_isSprung_22 (by decide) ?_
  exact W.iret (v := 0) hx hb hr (fun t ht hW => ⟨⟨0, (), rfl, rfl, kB_end (w9 := [(ou, .inl (co, 1, .inr (.inl (vp_updL of_ 0 0))))]) (t9 := []) hP hK hD [0] [] rfl (by decide) rfl rfl t ht hW⟩, hS.F ht⟩) hS.2.2 dL_isSprung_23
abbrev wd_k_l_isSprung2 (z : Nat → Nat) (sh : Nat) (rg : Nat) (mf : Nat) (mm : Nat) (mz : Nat) (ma : Nat) (sa : Nat) (dk : Nat) (hd : Nat) (lg : Nat) (pl : Nat) (pr : Nat) (cM : ClassId) (x : Nat) (tl : Nat) (tw : Nat) (ou : Nat) (co : ClassId) (of_ : Nat → Int64) : va_W := [(x, .inr (15, [.ref sh, .ref tl, .ref tw, .int 0])), (sh, .inr (13, [.ref rg, .ref dk, .ref hd, .ref lg, .ref pl, .ref pr, .int 0, .int 0, .int 0, .int 0, .int 0, .int 0, .int 0, .int 0, .int 0, .int 0, .int 0])), (rg, .inr (11, [.ref mf, .ref mm, .ref mz, .ref ma, .ref sa, .int 0])), (ma, .inl (cM, 3, .inr (.inr (.inr (.inr (va_up (va_up (va_up (fun _ => none) 0 (some mf)) 1 (some mm)) 2 (some mz))))))), (mz, .inr (8, [.int 0, .int 0, .int 0])), (ou, .inl (co, 1, .inr (.inl of_)))]
set_option maxHeartbeats 4000000 in
set_option maxRecDepth 100000 in
theorem k_l_isSprung2 (l : Launch) (dC : Nat → ClassId) (dI : Nat → Nat → Nat) (z zK zV : Nat → Nat) (sh : Nat) (rg : Nat) (mf : Nat) (mm : Nat) (mz : Nat) (ma : Nat) (sa : Nat) (dk : Nat) (hd : Nat) (lg : Nat) (pl : Nat) (pr : Nat) (cM : ClassId) (x : Nat) (tl : Nat) (tw : Nat) (ou : Nat) (co : ClassId) (of_ : Nat → Int64) (sz : Nat)  : Met l yL_isSprung wsL_isSprung ({ frames := 2, cells := 0, slots := 0, locals := 43 }) (kP dC dI z zK zV [.ref x, .int 2, .ref ou] sz (wd_k_l_isSprung2 z sh rg mf mm mz ma sa dk hd lg pl pr cM x tl tw ou co of_) [(cM, .object RX4), (co, .long)]) (va_Qi (fun (r : Int32) (_ : Unit) => 0 = r) (fun _ t => kB (dC, dI) (va_A (wd_k_l_isSprung2 z sh rg mf mm mz ma sa dk hd lg pl pr cM x tl tw ou co of_) sz) [(ou, .inl (co, 1, .inr (.inl (vp_updL of_ 0 0))))] [] t) (va_A (wd_k_l_isSprung2 z sh rg mf mm mz ma sa dk hd lg pl pr cM x tl tw ou co of_) sz)) 0 0 (va_A (wd_k_l_isSprung2 z sh rg mf mm mz ma sa dk hd lg pl pr cM x tl tw ou co of_) sz) := by
  refine va_MetW (hh := [(0, 16, 19, 32)]) (cc := cL_isSprung) (maxL := 4) (ret := (some .int)) (by decide) rfl ?_
  intro p e s m args below meth c s₁ B hml hv
  obtain ⟨rfl, hsz, hP, hK, hD0, hM⟩ := hv
  have hx := B.exec
  have hb := B.bytes
  have hr := B.returns
  have hts := atoms_spec (ws := wsL_isSprung) B.pre
  have hown : s.vm.findClass RL = some m.cls := findClass_of_methodNamed B.named
  have hlocks := B.notSynchronized
  have htab := vx_table (x := yL_isSprung) B (hts _ List.mem_cons_self)
  subst hsz
  have hD := hD0.self (sz := s.heap.size)
  generalize hAe : va_A (wd_k_l_isSprung2 z sh rg mf mm mz ma sa dk hd lg pl pr cM x tl tw ou co of_) s.heap.size = A at hD hM ⊢
  have hA : ∀ q : Nat, s.heap.size ≤ q → A q := fun q h => by rw [← hAe]; exact Or.inr h
  have hS : va_S A s.heap s.heap [] := va_S.rf
  have hP : va_P (dC, dI) vwCl [(x, .inr (15, [.ref sh, .ref tl, .ref tw, .int 0])), (sh, .inr (13, [.ref rg, .ref dk, .ref hd, .ref lg, .ref pl, .ref pr, .int 0, .int 0, .int 0, .int 0, .int 0, .int 0, .int 0, .int 0, .int 0, .int 0, .int 0])), (rg, .inr (11, [.ref mf, .ref mm, .ref mz, .ref ma, .ref sa, .int 0])), (ma, .inl (cM, 3, .inr (.inr (.inr (.inr (va_up (va_up (va_up (fun _ => none) 0 (some mf)) 1 (some mm)) 2 (some mz))))))), (mz, .inr (8, [.int 0, .int 0, .int 0])), (ou, .inl (co, 1, .inr (.inl of_)))] s.heap := hP
  have hD : va_D A [(x, .inr (15, [.ref sh, .ref tl, .ref tw, .int 0])), (sh, .inr (13, [.ref rg, .ref dk, .ref hd, .ref lg, .ref pl, .ref pr, .int 0, .int 0, .int 0, .int 0, .int 0, .int 0, .int 0, .int 0, .int 0, .int 0, .int 0])), (rg, .inr (11, [.ref mf, .ref mm, .ref mz, .ref ma, .ref sa, .int 0])), (ma, .inl (cM, 3, .inr (.inr (.inr (.inr (va_up (va_up (va_up (fun _ => none) 0 (some mf)) 1 (some mm)) 2 (some mz))))))), (mz, .inr (8, [.int 0, .int 0, .int 0])), (ou, .inl (co, 1, .inr (.inl of_)))] := hD
  have hl := lv_entry ([.ref x, .int 2, .ref ou]) (n := 4) (Nat.le_of_ble_eq_true rfl)
  rw [lg_entry_eq]
  generalize (lg_sl ([.ref x, .int 2, .ref ou]) ++ List.replicate (4 - (lg_sl ([.ref x, .int 2, .ref ou])).length) Slot.unset).toArray = ls at hl ⊢
  have hl : lv_has ls 4 [(0, .ref x), (1, .int 2), (2, .ref ou)] := hl
  refine lv_aload_n hx hb dL_isSprung_0 rfl (lv_at hl 2 rfl) ?_
  refine lv_iconst (v := 0) hx hb dL_isSprung_1 (by decide) ?_
  refine lv_aload_n hx hb dL_isSprung_2 rfl (lv_at hl 0 rfl) ?_
  refine lv_iload_n hx hb dL_isSprung_3 rfl (lv_at hl 1 rfl) ?_
  have hPc := hP.sub (ws' := [(x, .inr (15, [.ref sh, .ref tl, .ref tw, .int 0])), (sh, .inr (13, [.ref rg, .ref dk, .ref hd, .ref lg, .ref pl, .ref pr, .int 0, .int 0, .int 0, .int 0, .int 0, .int 0, .int 0, .int 0, .int 0, .int 0, .int 0])), (rg, .inr (11, [.ref mf, .ref mm, .ref mz, .ref ma, .ref sa, .int 0])), (ma, .inl (cM, 3, .inr (.inr (.inr (.inr (va_up (va_up (va_up (fun _ => none) 0 (some mf)) 1 (some mm)) 2 (some mz))))))), (mz, .inr (8, [.int 0, .int 0, .int 0]))]) [0, 1, 2, 3, 4] rfl
  have hDc := hD.sub (ws' := [(x, .inr (15, [.ref sh, .ref tl, .ref tw, .int 0])), (sh, .inr (13, [.ref rg, .ref dk, .ref hd, .ref lg, .ref pl, .ref pr, .int 0, .int 0, .int 0, .int 0, .int 0, .int 0, .int 0, .int 0, .int 0, .int 0, .int 0])), (rg, .inr (11, [.ref mf, .ref mm, .ref mz, .ref ma, .ref sa, .int 0])), (ma, .inl (cM, 3, .inr (.inr (.inr (.inr (va_up (va_up (va_up (fun _ => none) 0 (some mf)) 1 (some mm)) 2 (some mz))))))), (mz, .inr (8, [.int 0, .int 0, .int 0]))]) [0, 1, 2, 3, 4] (by decide) rfl
  have hKc := hK.sub (tys' := [(cM, .object RX4)]) [0] rfl
  have hFc := va_free (wc := [(x, .inr (15, [.ref sh, .ref tl, .ref tw, .int 0])), (sh, .inr (13, [.ref rg, .ref dk, .ref hd, .ref lg, .ref pl, .ref pr, .int 0, .int 0, .int 0, .int 0, .int 0, .int 0, .int 0, .int 0, .int 0, .int 0, .int 0])), (rg, .inr (11, [.ref mf, .ref mm, .ref mz, .ref ma, .ref sa, .int 0])), (ma, .inl (cM, 3, .inr (.inr (.inr (.inr (va_up (va_up (va_up (fun _ => none) 0 (some mf)) 1 (some mm)) 2 (some mz))))))), (mz, .inr (8, [.int 0, .int 0, .int 0]))]) hD hS hA [0, 1, 2, 3, 4] rfl
  refine va_calli (va_runV (As := [.int 2]) (rest := [.int 0, .ref ou]) ⟨hx, hb, hml, hown, hts⟩ (k_x_isSprung2 l dC dI z zK zV sh rg mf mm mz ma sa dk hd lg pl pr cM x tl tw s.heap.size) (cwV 1 hts gL_isSprung_X11_isSprung rfl rfl rfl (by decide +kernel) ⟨Nat.le_of_ble_eq_true rfl, Nat.le_of_ble_eq_true rfl⟩) ⟨kP_blind, va_recv hKc hPc (ci := 15) (q0 := 0) rfl rfl, kP_go hPc hKc hDc hFc hM hS⟩ rfl rfl hl.1 rfl (lv_room (Nat.le_of_ble_eq_true rfl)) dL_isSprung_4 ⟨Nat.le_of_ble_eq_true rfl, Nat.le_of_ble_eq_true rfl⟩) hS (fun q _ h => hFc q h) hFc (fun r1 u t H1 locs ht hvm hw hB hz1 hk1 hS => ?_)
  obtain ⟨hP, hD, hK⟩ := kJ (wr := [(ou, .inl (co, 1, .inr (.inl of_)))]) (w1 := []) (t1 := []) hP hD hK [0, 1, 2, 3, 4] [5] rfl rfl (by decide) (by decide) hk1 hFc ht hvm hB
  generalize H1 = H at hP hS ⊢
  have hP : va_P (dC, dI) vwCl [(ou, .inl (co, 1, .inr (.inl of_)))] H := hP
  have hD : va_D A [(ou, .inl (co, 1, .inr (.inl of_)))] := hD
  have hK : va_K (dC, dI) vwCl [(cM, .object RX4), (co, .long)] s := hK
  obtain rfl : 0 = r1 := hw
  refine lv_if_eq (tgt := 14) hx hb dL_isSprung_7 (by decide) (fun _ => ?_) (fun c_ => absurd (by decide +kernel) c_)
  refine lv_lconst (v := 0) hx hb dL_isSprung_14 (by decide) ?_
  refine va_last hx hb hK hP hD hS 0 1 rfl rfl (pk_in 0 1 (by decide) rfl) dL_isSprung_15 (fun H locs hP hD hS => ?_)
  have hP : va_P (dC, dI) vwCl [(ou, .inl (co, 1, .inr (.inl (vp_updL of_ 0 0))))] H := hP
  have hD : va_D A [(ou, .inl (co, 1, .inr (.inl (vp_updL of_ 0 0))))] := hD
  refine lv_goto (tgt := 22) hx hb dL_isSprung_16 (by decide) ?_
  refine lv_iconst (v := 0) hx hb dL_isSprung_22 (by decide) ?_
  exact W.iret (v := 0) hx hb hr (fun t ht hW => ⟨⟨0, (), rfl, rfl, kB_end (w9 := [(ou, .inl (co, 1, .inr (.inl (vp_updL of_ 0 0))))]) (t9 := []) hP hK hD [0] [] rfl (by decide) rfl rfl t ht hW⟩, hS.F ht⟩) hS.2.2 dL_isSprung_23
abbrev wd_k_l_isSprung_bad (z : Nat → Nat) (sh : Nat) (rg : Nat) (mf : Nat) (mm : Nat) (mz : Nat) (ma : Nat) (sa : Nat) (dk : Nat) (hd : Nat) (lg : Nat) (pl : Nat) (pr : Nat) (cM : ClassId) (x : Nat) (tl : Nat) (tw : Nat) (p0 : Int32) (ou : Nat) (co : ClassId) (of_ : Nat → Int64) : va_W := [(x, .inr (15, [.ref sh, .ref tl, .ref tw, .int 0])), (sh, .inr (13, [.ref rg, .ref dk, .ref hd, .ref lg, .ref pl, .ref pr, .int 0, .int 0, .int 0, .int 0, .int 0, .int 0, .int 0, .int 0, .int 0, .int 0, .int 0])), (rg, .inr (11, [.ref mf, .ref mm, .ref mz, .ref ma, .ref sa, .int 0])), (ma, .inl (cM, 3, .inr (.inr (.inr (.inr (va_up (va_up (va_up (fun _ => none) 0 (some mf)) 1 (some mm)) 2 (some mz))))))), (ou, .inl (co, 1, .inr (.inl of_)))]
set_option maxHeartbeats 4000000 in
set_option maxRecDepth 100000 in
theorem k_l_isSprung_bad (l : Launch) (dC : Nat → ClassId) (dI : Nat → Nat → Nat) (z zK zV : Nat → Nat) (sh : Nat) (rg : Nat) (mf : Nat) (mm : Nat) (mz : Nat) (ma : Nat) (sa : Nat) (dk : Nat) (hd : Nat) (lg : Nat) (pl : Nat) (pr : Nat) (cM : ClassId) (x : Nat) (tl : Nat) (tw : Nat) (p0 : Int32) (ou : Nat) (co : ClassId) (of_ : Nat → Int64) (sz : Nat) (hst : l.stackTraces = false) (hb0 : p0 < 0 ∨ 3 ≤ p0) : Met l yL_isSprung wsL_isSprung ({ frames := 7, cells := 1, slots := 6, locals := 104 }) (kP dC dI z zK zV [.ref x, .int p0, .ref ou] sz (wd_k_l_isSprung_bad z sh rg mf mm mz ma sa dk hd lg pl pr cM x tl tw p0 ou co of_) [(cM, .object RX4), (co, .long)]) (va_Qi (fun (r : Int32) (_ : Unit) => 1 = r) (fun _ t => kB (dC, dI) (va_A (wd_k_l_isSprung_bad z sh rg mf mm mz ma sa dk hd lg pl pr cM x tl tw p0 ou co of_) sz) [] [] t) (va_A (wd_k_l_isSprung_bad z sh rg mf mm mz ma sa dk hd lg pl pr cM x tl tw p0 ou co of_) sz)) 1 6 (va_A (wd_k_l_isSprung_bad z sh rg mf mm mz ma sa dk hd lg pl pr cM x tl tw p0 ou co of_) sz) := by
  refine va_MetW (hh := [(0, 16, 19, 32)]) (cc := cL_isSprung) (maxL := 4) (ret := (some .int)) (by decide) rfl ?_
  intro p e s m args below meth c s₁ B hml hv
  obtain ⟨rfl, hsz, hP, hK, hD0, hM⟩ := hv
  have hx := B.exec
  have hb := B.bytes
  have hr := B.returns
  have hts := atoms_spec (ws := wsL_isSprung) B.pre
  have hown : s.vm.findClass RL = some m.cls := findClass_of_methodNamed B.named
  have hlocks := B.notSynchronized
  have htab := vx_table (x := yL_isSprung) B (hts _ List.mem_cons_self)
  subst hsz
  have hD := hD0.self (sz := s.heap.size)
  generalize hAe : va_A (wd_k_l_isSprung_bad z sh rg mf mm mz ma sa dk hd lg pl pr cM x tl tw p0 ou co of_) s.heap.size = A at hD hM ⊢
  have hA : ∀ q : Nat, s.heap.size ≤ q → A q := fun q h => by rw [← hAe]; exact Or.inr h
  have hS : va_S A s.heap s.heap [] := va_S.rf
  have hP : va_P (dC, dI) vwCl [(x, .inr (15, [.ref sh, .ref tl, .ref tw, .int 0])), (sh, .inr (13, [.ref rg, .ref dk, .ref hd, .ref lg, .ref pl, .ref pr, .int 0, .int 0, .int 0, .int 0, .int 0, .int 0, .int 0, .int 0, .int 0, .int 0, .int 0])), (rg, .inr (11, [.ref mf, .ref mm, .ref mz, .ref ma, .ref sa, .int 0])), (ma, .inl (cM, 3, .inr (.inr (.inr (.inr (va_up (va_up (va_up (fun _ => none) 0 (some mf)) 1 (some mm)) 2 (some mz))))))), (ou, .inl (co, 1, .inr (.inl of_)))] s.heap := hP
  have hD : va_D A [(x, .inr (15, [.ref sh, .ref tl, .ref tw, .int 0])), (sh, .inr (13, [.ref rg, .ref dk, .ref hd, .ref lg, .ref pl, .ref pr, .int 0, .int 0, .int 0, .int 0, .int 0, .int 0, .int 0, .int 0, .int 0, .int 0, .int 0])), (rg, .inr (11, [.ref mf, .ref mm, .ref mz, .ref ma, .ref sa, .int 0])), (ma, .inl (cM, 3, .inr (.inr (.inr (.inr (va_up (va_up (va_up (fun _ => none) 0 (some mf)) 1 (some mm)) 2 (some mz))))))), (ou, .inl (co, 1, .inr (.inl of_)))] := hD
  have hl := lv_entry ([.ref x, .int p0, .ref ou]) (n := 4) (Nat.le_of_ble_eq_true rfl)
  rw [lg_entry_eq]
  generalize (lg_sl ([.ref x, .int p0, .ref ou]) ++ List.replicate (4 - (lg_sl ([.ref x, .int p0, .ref ou])).length) Slot.unset).toArray = ls at hl ⊢
  have hl : lv_has ls 4 [(0, .ref x), (1, .int p0), (2, .ref ou)] := hl
  refine lv_aload_n hx hb dL_isSprung_0 rfl (lv_at hl 2 rfl) ?_
  refine lv_iconst (v := 0) hx hb dL_isSprung_1 (by decide) ?_
  refine lv_aload_n hx hb dL_isSprung_2 rfl (lv_at hl 0 rfl) ?_
  refine lv_iload_n hx hb dL_isSprung_3 rfl (lv_at hl 1 rfl) ?_
  have hPc := hP.sub (ws' := [(x, .inr (15, [.ref sh, .ref tl, .ref tw, .int 0])), (sh, .inr (13, [.ref rg, .ref dk, .ref hd, .ref lg, .ref pl, .ref pr, .int 0, .int 0, .int 0, .int 0, .int 0, .int 0, .int 0, .int 0, .int 0, .int 0, .int 0])), (rg, .inr (11, [.ref mf, .ref mm, .ref mz, .ref ma, .ref sa, .int 0])), (ma, .inl (cM, 3, .inr (.inr (.inr (.inr (va_up (va_up (va_up (fun _ => none) 0 (some mf)) 1 (some mm)) 2 (some mz)))))))]) [0, 1, 2, 3] rfl
  have hDc := hD.sub (ws' := [(x, .inr (15, [.ref sh, .ref tl, .ref tw, .int 0])), (sh, .inr (13, [.ref rg, .ref dk, .ref hd, .ref lg, .ref pl, .ref pr, .int 0, .int 0, .int 0, .int 0, .int 0, .int 0, .int 0, .int 0, .int 0, .int 0, .int 0])), (rg, .inr (11, [.ref mf, .ref mm, .ref mz, .ref ma, .ref sa, .int 0])), (ma, .inl (cM, 3, .inr (.inr (.inr (.inr (va_up (va_up (va_up (fun _ => none) 0 (some mf)) 1 (some mm)) 2 (some mz)))))))]) [0, 1, 2, 3] (by decide) rfl
  have hKc := hK.sub (tys' := [(cM, .object RX4)]) [0] rfl
  have hFc := va_free (wc := [(x, .inr (15, [.ref sh, .ref tl, .ref tw, .int 0])), (sh, .inr (13, [.ref rg, .ref dk, .ref hd, .ref lg, .ref pl, .ref pr, .int 0, .int 0, .int 0, .int 0, .int 0, .int 0, .int 0, .int 0, .int 0, .int 0, .int 0])), (rg, .inr (11, [.ref mf, .ref mm, .ref mz, .ref ma, .ref sa, .int 0])), (ma, .inl (cM, 3, .inr (.inr (.inr (.inr (va_up (va_up (va_up (fun _ => none) 0 (some mf)) 1 (some mm)) 2 (some mz)))))))]) hD hS hA [0, 1, 2, 3] rfl
  refine vx_calli (vx_runV (As := [.int p0]) (rest := [.int 0, .ref ou]) ⟨hx, hb, hml, hown, hts⟩ (k_x_isSprung_bad l dC dI z zK zV sh rg mf mm mz ma sa dk hd lg pl pr cM x tl tw p0 s.heap.size hst (hb0)) (cwV 1 hts gL_isSprung_X11_isSprung rfl rfl rfl (by decide +kernel) ⟨Nat.le_of_ble_eq_true rfl, Nat.le_of_ble_eq_true rfl⟩) ⟨kP_blind, va_recv hKc hPc (ci := 15) (q0 := 0) rfl rfl, kP_go hPc hKc hDc hFc hM hS⟩ rfl rfl hl.1 rfl (lv_room (Nat.le_of_ble_eq_true rfl)) dL_isSprung_4 ⟨Nat.le_of_ble_eq_true rfl, Nat.le_of_ble_eq_true rfl⟩) hS (fun q _ h => hFc q h) hFc (fun q _ h => hFc q h) (fun E ce q9 u t H1 locs ht hvm hpx hbx hz1 hk1 hS hcell hcv hcl => ?_) (fun r1 u t H1 locs ht hvm hw hB hz1 hk1 hS => ?_)
  · skip
    obtain rfl : "java/lang/IndexOutOfBoundsException" = E := hbx
    obtain ⟨hP, hD, hK⟩ := kJ (wr := [(ou, .inl (co, 1, .inr (.inl of_)))]) (w1 := []) (t1 := []) hP hD hK [0, 1, 2, 3] [4] rfl rfl (by decide) (by decide) hk1 hFc ht hvm (kB_nil t (va_K.moved hvm (hK.sub (tys' := []) [] rfl)))
    generalize H1 = H at hP hS hcell ⊢
    have hP : va_P (dC, dI) vwCl [(ou, .inl (co, 1, .inr (.inl of_)))] H := hP
    have hD : va_D A [(ou, .inl (co, 1, .inr (.inl of_)))] := hD
    have hK : va_K (dC, dI) vwCl [(cM, .object RX4), (co, .long)] s := hK
    refine vx_catch hown [] ⟨0, 16, 19, 32⟩ _ (htab.trans rfl) (fun z hz => absurd hz List.not_mem_nil) rfl (by decide) (hts (.classLink RL 32 "java/lang/IndexOutOfBoundsException") (by decide +kernel)) (va_Nw.use rfl (hM.2.2.2.2.2.2.2.2.2.1 _ (List.mem_of_getElem? (i := 1) rfl))) hcell hcv hcl ?_
    refine lv_astore_n (lv' := [(3, .ref q9), (0, .ref x), (1, .int p0), (2, .ref ou)]) hx hb dL_isSprung_19 rfl hl (by decide) rfl (fun ls hl => ?_)
    refine lv_iconst (v := 1) hx hb dL_isSprung_20 (by decide) ?_
    refine W.widen (k := 1) (n := 6) (Nat.le_of_ble_eq_true rfl) (Nat.le_of_ble_eq_true rfl) ?_
    exact W.iret (v := 1) hx hb hr (fun t ht hW => ⟨⟨1, (), rfl, rfl, kB_end (w9 := []) (t9 := []) hP hK hD [] [] rfl (by decide) rfl rfl t ht hW⟩, hS.F ht⟩) hS.2.2 dL_isSprung_21
  · skip
    exact hw.elim
abbrev wd_k_l_meanStrength (z : Nat → Nat) (sh : Nat) (rg : Nat) (mf : Nat) (mm : Nat) (mz : Nat) (ma : Nat) (sa : Nat) (s0 : Nat) (s1 : Nat) (s2 : Nat) (s3 : Nat) (s4 : Nat) (s5 : Nat) (s6 : Nat) (s7 : Nat) (s8 : Nat) (dk : Nat) (hd : Nat) (lg : Nat) (pl : Nat) (pr : Nat) (cS : ClassId) (x : Nat) (tl : Nat) (tw : Nat) (od_ : Nat) (cd : ClassId) (dof : Nat → UInt64) : va_W := [(x, .inr (15, [.ref sh, .ref tl, .ref tw, .int 0])), (sh, .inr (13, [.ref rg, .ref dk, .ref hd, .ref lg, .ref pl, .ref pr, .int 0, .int 0, .int 0, .int 0, .int 0, .int 0, .int 0, .int 0, .int 0, .int 0, .int 0])), (rg, .inr (11, [.ref mf, .ref mm, .ref mz, .ref ma, .ref sa, .int 0])), (sa, .inl (cS, 9, .inr (.inr (.inr (.inr (va_up (va_up (va_up (va_up (va_up (va_up (va_up (va_up (va_up (fun _ => none) 0 (some s0)) 1 (some s1)) 2 (some s2)) 3 (some s3)) 4 (some s4)) 5 (some s5)) 6 (some s6)) 7 (some s7)) 8 (some s8))))))), (s0, .inr (12, [.int 8, .int 6, .ref mf, .int 1, .int 0, .int 900, .int 0, .int 0])), (s1, .inr (12, [.int 7, .int 5, .ref mf, .int 1, .int 0, .int 900, .int 0, .int 0])), (s2, .inr (12, [.int 3, .int 3, .ref mf, .int 1, .int 0, .int 900, .int 0, .int 0])), (s3, .inr (12, [.int 10, .int 8, .ref mm, .int 1, .int 0, .int 900, .int 0, .int 0])), (s4, .inr (12, [.int 9, .int 6, .ref mm, .int 1, .int 0, .int 900, .int 0, .int 0])), (s5, .inr (12, [.int 4, .int 3, .ref mm, .int 1, .int 0, .int 900, .int 0, .int 0])), (s6, .inr (12, [.int 5, .int 4, .ref mz, .int 1, .int 0, .int 900, .int 0, .int 0])), (s7, .inr (12, [.int 4, .int 3, .ref mf, .int 0, .int 0, .int 900, .int 0, .int 0])), (s8, .inr (12, [.int 6, .int 4, .ref mz, .int 0, .int 0, .int 900, .int 0, .int 0])), (od_, .inl (cd, 1, .inr (.inr (.inr (.inl dof)))))]
set_option maxHeartbeats 4000000 in
set_option maxRecDepth 100000 in
theorem k_l_meanStrength (l : Launch) (dC : Nat → ClassId) (dI : Nat → Nat → Nat) (z zK zV : Nat → Nat) (sh : Nat) (rg : Nat) (mf : Nat) (mm : Nat) (mz : Nat) (ma : Nat) (sa : Nat) (s0 : Nat) (s1 : Nat) (s2 : Nat) (s3 : Nat) (s4 : Nat) (s5 : Nat) (s6 : Nat) (s7 : Nat) (s8 : Nat) (dk : Nat) (hd : Nat) (lg : Nat) (pl : Nat) (pr : Nat) (cS : ClassId) (x : Nat) (tl : Nat) (tw : Nat) (od_ : Nat) (cd : ClassId) (dof : Nat → UInt64) (sz : Nat)  : Met l yL_meanStrength wsL_meanStrength ({ frames := 2, cells := 0, slots := 0, locals := 46 }) (kP dC dI z zK zV [.ref x, .ref od_] sz (wd_k_l_meanStrength z sh rg mf mm mz ma sa s0 s1 s2 s3 s4 s5 s6 s7 s8 dk hd lg pl pr cS x tl tw od_ cd dof) [(cS, .object RX8), (cd, .double)]) (va_Qi (fun (r : Int32) (_ : Unit) => 0 = r) (fun _ t => kB (dC, dI) (va_A (wd_k_l_meanStrength z sh rg mf mm mz ma sa s0 s1 s2 s3 s4 s5 s6 s7 s8 dk hd lg pl pr cS x tl tw od_ cd dof) sz) [(od_, .inl (cd, 1, .inr (.inr (.inr (.inl (vf_upd dof 0 4651127699538968576))))))] [] t) (va_A (wd_k_l_meanStrength z sh rg mf mm mz ma sa s0 s1 s2 s3 s4 s5 s6 s7 s8 dk hd lg pl pr cS x tl tw od_ cd dof) sz)) 0 0 (va_A (wd_k_l_meanStrength z sh rg mf mm mz ma sa s0 s1 s2 s3 s4 s5 s6 s7 s8 dk hd lg pl pr cS x tl tw od_ cd dof) sz) := by
  refine va_MetW (hh := [(0, 7, 10, 88)]) (cc := cL_meanStrength) (maxL := 3) (ret := (some .int)) (by decide) rfl ?_
  intro p e s m args below meth c s₁ B hml hv
  obtain ⟨rfl, hsz, hP, hK, hD0, hM⟩ := hv
  have hx := B.exec
  have hb := B.bytes
  have hr := B.returns
  have hts := atoms_spec (ws := wsL_meanStrength) B.pre
  have hown : s.vm.findClass RL = some m.cls := findClass_of_methodNamed B.named
  have hlocks := B.notSynchronized
  have htab := vx_table (x := yL_meanStrength) B (hts _ List.mem_cons_self)
  subst hsz
  have hD := hD0.self (sz := s.heap.size)
  generalize hAe : va_A (wd_k_l_meanStrength z sh rg mf mm mz ma sa s0 s1 s2 s3 s4 s5 s6 s7 s8 dk hd lg pl pr cS x tl tw od_ cd dof) s.heap.size = A at hD hM ⊢
  have hA : ∀ q : Nat, s.heap.size ≤ q → A q := fun q h => by rw [← hAe]; exact Or.inr h
  have hS : va_S A s.heap s.heap [] := va_S.rf
  have hP : va_P (dC, dI) vwCl [(x, .inr (15, [.ref sh, .ref tl, .ref tw, .int 0])), (sh, .inr (13, [.ref rg, .ref dk, .ref hd, .ref lg, .ref pl, .ref pr, .int 0, .int 0, .int 0, .int 0, .int 0, .int 0, .int 0, .int 0, .int 0, .int 0, .int 0])), (rg, .inr (11, [.ref mf, .ref mm, .ref mz, .ref ma, .ref sa, .int 0])), (sa, .inl (cS, 9, .inr (.inr (.inr (.inr (va_up (va_up (va_up (va_up (va_up (va_up (va_up (va_up (va_up (fun _ => none) 0 (some s0)) 1 (some s1)) 2 (some s2)) 3 (some s3)) 4 (some s4)) 5 (some s5)) 6 (some s6)) 7 (some s7)) 8 (some s8))))))), (s0, .inr (12, [.int 8, .int 6, .ref mf, .int 1, .int 0, .int 900, .int 0, .int 0])), (s1, .inr (12, [.int 7, .int 5, .ref mf, .int 1, .int 0, .int 900, .int 0, .int 0])), (s2, .inr (12, [.int 3, .int 3, .ref mf, .int 1, .int 0, .int 900, .int 0, .int 0])), (s3, .inr (12, [.int 10, .int 8, .ref mm, .int 1, .int 0, .int 900, .int 0, .int 0])), (s4, .inr (12, [.int 9, .int 6, .ref mm, .int 1, .int 0, .int 900, .int 0, .int 0])), (s5, .inr (12, [.int 4, .int 3, .ref mm, .int 1, .int 0, .int 900, .int 0, .int 0])), (s6, .inr (12, [.int 5, .int 4, .ref mz, .int 1, .int 0, .int 900, .int 0, .int 0])), (s7, .inr (12, [.int 4, .int 3, .ref mf, .int 0, .int 0, .int 900, .int 0, .int 0])), (s8, .inr (12, [.int 6, .int 4, .ref mz, .int 0, .int 0, .int 900, .int 0, .int 0])), (od_, .inl (cd, 1, .inr (.inr (.inr (.inl dof)))))] s.heap := hP
  have hD : va_D A [(x, .inr (15, [.ref sh, .ref tl, .ref tw, .int 0])), (sh, .inr (13, [.ref rg, .ref dk, .ref hd, .ref lg, .ref pl, .ref pr, .int 0, .int 0, .int 0, .int 0, .int 0, .int 0, .int 0, .int 0, .int 0, .int 0, .int 0])), (rg, .inr (11, [.ref mf, .ref mm, .ref mz, .ref ma, .ref sa, .int 0])), (sa, .inl (cS, 9, .inr (.inr (.inr (.inr (va_up (va_up (va_up (va_up (va_up (va_up (va_up (va_up (va_up (fun _ => none) 0 (some s0)) 1 (some s1)) 2 (some s2)) 3 (some s3)) 4 (some s4)) 5 (some s5)) 6 (some s6)) 7 (some s7)) 8 (some s8))))))), (s0, .inr (12, [.int 8, .int 6, .ref mf, .int 1, .int 0, .int 900, .int 0, .int 0])), (s1, .inr (12, [.int 7, .int 5, .ref mf, .int 1, .int 0, .int 900, .int 0, .int 0])), (s2, .inr (12, [.int 3, .int 3, .ref mf, .int 1, .int 0, .int 900, .int 0, .int 0])), (s3, .inr (12, [.int 10, .int 8, .ref mm, .int 1, .int 0, .int 900, .int 0, .int 0])), (s4, .inr (12, [.int 9, .int 6, .ref mm, .int 1, .int 0, .int 900, .int 0, .int 0])), (s5, .inr (12, [.int 4, .int 3, .ref mm, .int 1, .int 0, .int 900, .int 0, .int 0])), (s6, .inr (12, [.int 5, .int 4, .ref mz, .int 1, .int 0, .int 900, .int 0, .int 0])), (s7, .inr (12, [.int 4, .int 3, .ref mf, .int 0, .int 0, .int 900, .int 0, .int 0])), (s8, .inr (12, [.int 6, .int 4, .ref mz, .int 0, .int 0, .int 900, .int 0, .int 0])), (od_, .inl (cd, 1, .inr (.inr (.inr (.inl dof)))))] := hD
  have hl := lv_entry ([.ref x, .ref od_]) (n := 3) (Nat.le_of_ble_eq_true rfl)
  rw [lg_entry_eq]
  generalize (lg_sl ([.ref x, .ref od_]) ++ List.replicate (3 - (lg_sl ([.ref x, .ref od_])).length) Slot.unset).toArray = ls at hl ⊢
  have hl : lv_has ls 3 [(0, .ref x), (1, .ref od_)] := hl
  refine lv_aload_n hx hb dL_meanStrength_0 rfl (lv_at hl 1 rfl) ?_
  refine lv_iconst (v := 0) hx hb dL_meanStrength_1 (by decide) ?_
  refine lv_aload_n hx hb dL_meanStrength_2 rfl (lv_at hl 0 rfl) ?_
  have hPc := hP.sub (ws' := [(x, .inr (15, [.ref sh, .ref tl, .ref tw, .int 0])), (sh, .inr (13, [.ref rg, .ref dk, .ref hd, .ref lg, .ref pl, .ref pr, .int 0, .int 0, .int 0, .int 0, .int 0, .int 0, .int 0, .int 0, .int 0, .int 0, .int 0])), (rg, .inr (11, [.ref mf, .ref mm, .ref mz, .ref ma, .ref sa, .int 0])), (sa, .inl (cS, 9, .inr (.inr (.inr (.inr (va_up (va_up (va_up (va_up (va_up (va_up (va_up (va_up (va_up (fun _ => none) 0 (some s0)) 1 (some s1)) 2 (some s2)) 3 (some s3)) 4 (some s4)) 5 (some s5)) 6 (some s6)) 7 (some s7)) 8 (some s8))))))), (s0, .inr (12, [.int 8, .int 6, .ref mf, .int 1, .int 0, .int 900, .int 0, .int 0])), (s1, .inr (12, [.int 7, .int 5, .ref mf, .int 1, .int 0, .int 900, .int 0, .int 0])), (s2, .inr (12, [.int 3, .int 3, .ref mf, .int 1, .int 0, .int 900, .int 0, .int 0])), (s3, .inr (12, [.int 10, .int 8, .ref mm, .int 1, .int 0, .int 900, .int 0, .int 0])), (s4, .inr (12, [.int 9, .int 6, .ref mm, .int 1, .int 0, .int 900, .int 0, .int 0])), (s5, .inr (12, [.int 4, .int 3, .ref mm, .int 1, .int 0, .int 900, .int 0, .int 0])), (s6, .inr (12, [.int 5, .int 4, .ref mz, .int 1, .int 0, .int 900, .int 0, .int 0])), (s7, .inr (12, [.int 4, .int 3, .ref mf, .int 0, .int 0, .int 900, .int 0, .int 0])), (s8, .inr (12, [.int 6, .int 4, .ref mz, .int 0, .int 0, .int 900, .int 0, .int 0]))]) [0, 1, 2, 3, 4, 5, 6, 7, 8, 9, 10, 11, 12] rfl
  have hDc := hD.sub (ws' := [(x, .inr (15, [.ref sh, .ref tl, .ref tw, .int 0])), (sh, .inr (13, [.ref rg, .ref dk, .ref hd, .ref lg, .ref pl, .ref pr, .int 0, .int 0, .int 0, .int 0, .int 0, .int 0, .int 0, .int 0, .int 0, .int 0, .int 0])), (rg, .inr (11, [.ref mf, .ref mm, .ref mz, .ref ma, .ref sa, .int 0])), (sa, .inl (cS, 9, .inr (.inr (.inr (.inr (va_up (va_up (va_up (va_up (va_up (va_up (va_up (va_up (va_up (fun _ => none) 0 (some s0)) 1 (some s1)) 2 (some s2)) 3 (some s3)) 4 (some s4)) 5 (some s5)) 6 (some s6)) 7 (some s7)) 8 (some s8))))))), (s0, .inr (12, [.int 8, .int 6, .ref mf, .int 1, .int 0, .int 900, .int 0, .int 0])), (s1, .inr (12, [.int 7, .int 5, .ref mf, .int 1, .int 0, .int 900, .int 0, .int 0])), (s2, .inr (12, [.int 3, .int 3, .ref mf, .int 1, .int 0, .int 900, .int 0, .int 0])), (s3, .inr (12, [.int 10, .int 8, .ref mm, .int 1, .int 0, .int 900, .int 0, .int 0])), (s4, .inr (12, [.int 9, .int 6, .ref mm, .int 1, .int 0, .int 900, .int 0, .int 0])), (s5, .inr (12, [.int 4, .int 3, .ref mm, .int 1, .int 0, .int 900, .int 0, .int 0])), (s6, .inr (12, [.int 5, .int 4, .ref mz, .int 1, .int 0, .int 900, .int 0, .int 0])), (s7, .inr (12, [.int 4, .int 3, .ref mf, .int 0, .int 0, .int 900, .int 0, .int 0])), (s8, .inr (12, [.int 6, .int 4, .ref mz, .int 0, .int 0, .int 900, .int 0, .int 0]))]) [0, 1, 2, 3, 4, 5, 6, 7, 8, 9, 10, 11, 12] (by decide) rfl
  have hKc := hK.sub (tys' := [(cS, .object RX8)]) [0] rfl
  have hFc := va_free (wc := [(x, .inr (15, [.ref sh, .ref tl, .ref tw, .int 0])), (sh, .inr (13, [.ref rg, .ref dk, .ref hd, .ref lg, .ref pl, .ref pr, .int 0, .int 0, .int 0, .int 0, .int 0, .int 0, .int 0, .int 0, .int 0, .int 0, .int 0])), (rg, .inr (11, [.ref mf, .ref mm, .ref mz, .ref ma, .ref sa, .int 0])), (sa, .inl (cS, 9, .inr (.inr (.inr (.inr (va_up (va_up (va_up (va_up (va_up (va_up (va_up (va_up (va_up (fun _ => none) 0 (some s0)) 1 (some s1)) 2 (some s2)) 3 (some s3)) 4 (some s4)) 5 (some s5)) 6 (some s6)) 7 (some s7)) 8 (some s8))))))), (s0, .inr (12, [.int 8, .int 6, .ref mf, .int 1, .int 0, .int 900, .int 0, .int 0])), (s1, .inr (12, [.int 7, .int 5, .ref mf, .int 1, .int 0, .int 900, .int 0, .int 0])), (s2, .inr (12, [.int 3, .int 3, .ref mf, .int 1, .int 0, .int 900, .int 0, .int 0])), (s3, .inr (12, [.int 10, .int 8, .ref mm, .int 1, .int 0, .int 900, .int 0, .int 0])), (s4, .inr (12, [.int 9, .int 6, .ref mm, .int 1, .int 0, .int 900, .int 0, .int 0])), (s5, .inr (12, [.int 4, .int 3, .ref mm, .int 1, .int 0, .int 900, .int 0, .int 0])), (s6, .inr (12, [.int 5, .int 4, .ref mz, .int 1, .int 0, .int 900, .int 0, .int 0])), (s7, .inr (12, [.int 4, .int 3, .ref mf, .int 0, .int 0, .int 900, .int 0, .int 0])), (s8, .inr (12, [.int 6, .int 4, .ref mz, .int 0, .int 0, .int 900, .int 0, .int 0]))]) hD hS hA [0, 1, 2, 3, 4, 5, 6, 7, 8, 9, 10, 11, 12] rfl
  refine va_calld (va_runV (As := []) (rest := [.int 0, .ref od_]) ⟨hx, hb, hml, hown, hts⟩ (k_x_meanStrength l dC dI z zK zV sh rg mf mm mz ma sa s0 s1 s2 s3 s4 s5 s6 s7 s8 dk hd lg pl pr cS x tl tw s.heap.size) (cwV 0 hts gL_meanStrength_X11_meanStrength rfl rfl rfl (by decide +kernel) ⟨Nat.le_of_ble_eq_true rfl, Nat.le_of_ble_eq_true rfl⟩) ⟨kP_blind, va_recv hKc hPc (ci := 15) (q0 := 0) rfl rfl, kP_go hPc hKc hDc hFc hM hS⟩ rfl rfl hl.1 rfl (lv_room (Nat.le_of_ble_eq_true rfl)) dL_meanStrength_3 ⟨Nat.le_of_ble_eq_true rfl, Nat.le_of_ble_eq_true rfl⟩) hS (fun q _ h => hFc q h) hFc (fun r1 u t H1 locs ht hvm hw hB hz1 hk1 hS => ?_)
  obtain ⟨hP, hD, hK⟩ := kJ (wr := [(od_, .inl (cd, 1, .inr (.inr (.inr (.inl dof)))))]) (w1 := []) (t1 := []) hP hD hK [0, 1, 2, 3, 4, 5, 6, 7, 8, 9, 10, 11, 12] [13] rfl rfl (by decide) (by decide) hk1 hFc ht hvm hB
  generalize H1 = H at hP hS ⊢
  have hP : va_P (dC, dI) vwCl [(od_, .inl (cd, 1, .inr (.inr (.inr (.inl dof)))))] H := hP
  have hD : va_D A [(od_, .inl (cd, 1, .inr (.inr (.inr (.inl dof)))))] := hD
  have hK : va_K (dC, dI) vwCl [(cS, .object RX8), (cd, .double)] s := hK
  obtain rfl : 4651127699538968576 = r1 := hw
  refine va_dast hx hb hK hP hD hS 0 1 rfl rfl (pk_in 0 1 (by decide) rfl) dL_meanStrength_6 (fun H locs hP hD hS => ?_)
  have hP : va_P (dC, dI) vwCl [(od_, .inl (cd, 1, .inr (.inr (.inr (.inl (vf_upd dof 0 4651127699538968576))))))] H := hP
  have hD : va_D A [(od_, .inl (cd, 1, .inr (.inr (.inr (.inl (vf_upd dof 0 4651127699538968576))))))] := hD
  refine lv_goto (tgt := 13) hx hb dL_meanStrength_7 (by decide) ?_
  refine lv_iconst (v := 0) hx hb dL_meanStrength_13 (by decide) ?_
  exact W.iret (v := 0) hx hb hr (fun t ht hW => ⟨⟨0, (), rfl, rfl, kB_end (w9 := [(od_, .inl (cd, 1, .inr (.inr (.inr (.inl (vf_upd dof 0 4651127699538968576))))))]) (t9 := []) hP hK hD [0] [] rfl (by decide) rfl rfl t ht hW⟩, hS.F ht⟩) hS.2.2 dL_meanStrength_14
